/-! the desk's own methods where they return, to their end -/
section CP3
variable {l : Launch} {g : pw_G} {X : pw_X} {Y : pw_Y} {Post : pw_P} {v : Nat → Nat}
theorem c_P_power {a e n t : Nat} (ha : a < 6) (he : e < 6) (hn : n < 6) (ht : t < 6) (h0 : v n ≠ 0) (hdk : dk_ X v) (hp : ∀ X' Y', dk_ X' (va_up v t (v a ^ v e % v n)) → fr_ X Y X' Y' → Post none X' Y') : pw_Met l g mP_power [.ref (ad_ g 0), .int (nI a), .int (nI e), .int (nI n), .int (nI t)] X Y Post := by
  obtain ⟨da, hda, hva⟩ := hdk a ha
  obtain ⟨de, hde, hve⟩ := hdk e he
  obtain ⟨dn, hdn, hvn⟩ := hdk n hn
  refine pw_ofW (by decide +kernel) rfl (Nat.le_of_ble_eq_true rfl) rfl (fun sz => ?_)
  refine px_iload_n (q := 1) dI_P_power_0 rfl rfl ?_
  refine px_iload_n (q := 2) dI_P_power_1 rfl rfl ?_
  refine px_iload_n (q := 3) dI_P_power_2 rfl rfl ?_
  refine px_callS3 (q := 6) (ν := mP_checkRegisters) dI_P_power_3 wl_P_72 ws_P_checkRegisters wb_P_checkRegisters wi_P ⟨rfl, rfl⟩ (by decide +kernel) ⟨(Nat.le_of_ble_eq_true rfl), (Nat.le_of_ble_eq_true rfl)⟩ (Nat.le_of_ble_eq_true rfl) rfl (c_P_checks ha he hn ?_)
  refine px_iload (q := 8) dI_P_power_6 rfl rfl ?_
  refine px_callS1 (q := 11) (ν := mP_checkRegister) dI_P_power_8 wl_P_48 ws_P_checkRegister wb_P_checkRegister wi_P ⟨rfl, rfl⟩ (by decide +kernel) ⟨(Nat.le_of_ble_eq_true rfl), (Nat.le_of_ble_eq_true rfl)⟩ (Nat.le_of_ble_eq_true rfl) rfl (c_P_check ht ?_)
  refine px_aload_n (q := 12) dI_P_power_11 rfl rfl ?_
  refine px_getP (q := 15) (j := 0) dI_P_power_12 wf_P_11 rfl (by decide) rfl rfl ?_
  refine px_iload_n (q := 16) dI_P_power_15 rfl rfl ?_
  refine px_aald (q := 17) dI_P_power_16 (by omega) rfl ?_
  refine px_callS1 (q := 20) (ν := mU_isZero) dI_P_power_17 wl_P_103 ws_U_isZero wb_U_isZero wi_U ⟨rfl, rfl⟩ (by decide +kernel) ⟨(Nat.le_of_ble_eq_true rfl), (Nat.le_of_ble_eq_true rfl)⟩ (Nat.le_of_ble_eq_true rfl) rfl (c_U_isZero (ln_J_r n hn) hdn (fun z => absurd (hvn.symm.trans z) h0) (fun z => ?_))
  refine px_if_eqN (q := 23) (tgt := 33) dI_P_power_20 (by omega) (by decide) rfl (fun b20 => ?_) (fun b20 => ?_)
  · refine px_aload_n (q := 34) dI_P_power_33 rfl rfl ?_
    refine px_getP (q := 37) (j := 5) dI_P_power_34 wf_P_30 rfl (by decide) rfl rfl ?_
    refine px_aload_n (q := 38) dI_P_power_37 rfl rfl ?_
    refine px_getP (q := 41) (j := 0) dI_P_power_38 wf_P_11 rfl (by decide) rfl rfl ?_
    refine px_iload_n (q := 42) dI_P_power_41 rfl rfl ?_
    refine px_aald (q := 43) dI_P_power_42 (by omega) rfl ?_
    refine px_callV1 (q := 46) (ν := mV_setDivisor) dI_P_power_43 (by decide) rfl rfl wl_P_109 wm_V_setDivisor wv_V_setDivisor wb_V_setDivisor wi_V ⟨rfl, rfl⟩ (by decide +kernel) ⟨(Nat.le_of_ble_eq_true rfl), (Nat.le_of_ble_eq_true rfl)⟩ (Nat.le_of_ble_eq_true rfl) rfl (c_V_setDivisor (ln_J_r n hn) (by omega) hdn z (fun f fy s h e2 hdv => ?_))
    rw [hvn] at hdv
    refine px_aload_n (q := 47) dI_P_power_46 rfl rfl ?_
    refine px_aload_n (q := 48) dI_P_power_47 rfl rfl ?_
    refine px_getP (q := 51) (j := 0) dI_P_power_48 wf_P_11 rfl (by decide) rfl rfl ?_
    refine px_iload_n (q := 52) dI_P_power_51 rfl rfl ?_
    refine px_aald (q := 53) dI_P_power_52 (by omega) rfl ?_
    refine px_aload_n (q := 54) dI_P_power_53 rfl rfl ?_
    refine px_getP (q := 57) (j := 0) dI_P_power_54 wf_P_11 rfl (by decide) rfl rfl ?_
    refine px_iload_n (q := 58) dI_P_power_57 rfl rfl ?_
    refine px_aald (q := 59) dI_P_power_58 (by omega) rfl ?_
    refine px_callV2 (q := 62) (ν := mP_raiseToRemainder) dI_P_power_59 (by decide) rfl rfl wl_P_124 wm_P_raiseToRemainder wv_P_raiseToRemainder wb_P_raiseToRemainder wi_P ⟨rfl, rfl⟩ (by decide +kernel) ⟨(Nat.le_of_ble_eq_true rfl), (Nat.le_of_ble_eq_true rfl)⟩ (Nat.le_of_ble_eq_true rfl) rfl (c_P_raise (da := da) (db := de) (ln_J_r a ha) (ln_J_r e he) ⟨by omega, by omega, by omega, by omega⟩ ⟨by omega, by omega, by omega, by omega⟩ hdv (by rw [xr_n (by omega)]; exact hda) (by rw [xr_n (by omega)]; exact hde) (fun X' d hag hd hv => ?_))
    rw [hva, hve] at hv
    have hdk2 : dk_ X' v := fun r hr => by
      rw [hag (2 + r) (by omega) (by omega) (by omega) (by omega), xr_n (by omega)]
      exact hdk r hr
    have h27 : X' 27 = X 27 := by rw [hag 27 (by decide) (by decide) (by decide) (by decide), xr_n (by decide)]
    refine px_aload_n (q := 63) dI_P_power_62 rfl rfl ?_
    refine px_getP (q := 66) (j := 1) dI_P_power_63 wf_P_14 rfl (by decide) rfl rfl ?_
    refine px_aload_n (q := 67) dI_P_power_66 rfl rfl ?_
    refine px_getP (q := 70) (j := 0) dI_P_power_67 wf_P_11 rfl (by decide) rfl rfl ?_
    refine px_iload (q := 72) dI_P_power_70 rfl rfl ?_
    refine px_aald (q := 73) dI_P_power_72 (by omega) rfl ?_
    refine px_callS2 (q := 76) (ν := mU_copy) dI_P_power_73 wl_P_82 ws_U_copy wb_U_copy wi_U ⟨rfl, rfl⟩ (by decide +kernel) ⟨(Nat.le_of_ble_eq_true rfl), (Nat.le_of_ble_eq_true rfl)⟩ (Nat.le_of_ble_eq_true rfl) rfl (c_U_copy (a := 8) (n := 4) rfl (ln_J_r t ht) (by decide) (fun f2 hf2 => ?_))
    refine px_vret dI_P_power_76 rfl ?_
    refine hp _ _ (dk_s (d := d) (rw_congr hd hf2 (fun _ _ => rfl)) hv hdk2) (fr_x (by omega) ⟨h27, fun k hk => yr_n (by omega)⟩)
  · exact absurd rfl b20
theorem c_P_gcd {a b t : Nat} (ha : a < 6) (hb : b < 6) (ht : t < 6) (hdk : dk_ X v) (hp : ∀ X' Y', dk_ X' (va_up v t (Nat.gcd (v a) (v b))) → fr_ X Y X' Y' → Post none X' Y') : pw_Met l g mP_gcd [.ref (ad_ g 0), .int (nI a), .int (nI b), .int (nI t)] X Y Post := by
  obtain ⟨da, hda, hva⟩ := hdk a ha
  obtain ⟨db, hdb, hvb⟩ := hdk b hb
  refine pw_ofW (by decide +kernel) rfl (Nat.le_of_ble_eq_true rfl) rfl (fun sz => ?_)
  refine px_iload_n (q := 1) dI_P_gcd_0 rfl rfl ?_
  refine px_iload_n (q := 2) dI_P_gcd_1 rfl rfl ?_
  refine px_iload_n (q := 3) dI_P_gcd_2 rfl rfl ?_
  refine px_callS3 (q := 6) (ν := mP_checkRegisters) dI_P_gcd_3 wl_P_72 ws_P_checkRegisters wb_P_checkRegisters wi_P ⟨rfl, rfl⟩ (by decide +kernel) ⟨(Nat.le_of_ble_eq_true rfl), (Nat.le_of_ble_eq_true rfl)⟩ (Nat.le_of_ble_eq_true rfl) rfl (c_P_checks ha hb ht ?_)
  refine px_aload_n (q := 7) dI_P_gcd_6 rfl rfl ?_
  refine px_getP (q := 10) (j := 0) dI_P_gcd_7 wf_P_11 rfl (by decide) rfl rfl ?_
  refine px_iload_n (q := 11) dI_P_gcd_10 rfl rfl ?_
  refine px_aald (q := 12) dI_P_gcd_11 (by omega) rfl ?_
  refine px_aload_n (q := 13) dI_P_gcd_12 rfl rfl ?_
  refine px_getP (q := 16) (j := 2) dI_P_gcd_13 wf_P_18 rfl (by decide) rfl rfl ?_
  refine px_callS2 (q := 19) (ν := mU_copy) dI_P_gcd_16 wl_P_82 ws_U_copy wb_U_copy wi_U ⟨rfl, rfl⟩ (by decide +kernel) ⟨(Nat.le_of_ble_eq_true rfl), (Nat.le_of_ble_eq_true rfl)⟩ (Nat.le_of_ble_eq_true rfl) rfl (c_U_copy (b := 9) (n := 4) (ln_J_r a ha) rfl (by decide) (fun f1 hf1 => ?_))
  refine px_aload_n (q := 20) dI_P_gcd_19 rfl rfl ?_
  refine px_getP (q := 23) (j := 0) dI_P_gcd_20 wf_P_11 rfl (by decide) rfl rfl ?_
  refine px_iload_n (q := 24) dI_P_gcd_23 rfl rfl ?_
  refine px_aald (q := 25) dI_P_gcd_24 (by omega) rfl ?_
  refine px_aload_n (q := 26) dI_P_gcd_25 rfl rfl ?_
  refine px_getP (q := 29) (j := 3) dI_P_gcd_26 wf_P_21 rfl (by decide) rfl rfl ?_
  refine px_callS2 (q := 32) (ν := mU_copy) dI_P_gcd_29 wl_P_82 ws_U_copy wb_U_copy wi_U ⟨rfl, rfl⟩ (by decide +kernel) ⟨(Nat.le_of_ble_eq_true rfl), (Nat.le_of_ble_eq_true rfl)⟩ (Nat.le_of_ble_eq_true rfl) rfl (c_U_copy (b := 10) (n := 4) (ln_J_r b hb) rfl (by decide) (fun f2 hf2 => ?_))
  rw [xr_n (by omega)] at hf2
  refine px_sipush (q := 35) (v := nI 258) dI_P_gcd_32 (by decide +kernel) rfl ?_
  refine px_istore (q := 37) dI_P_gcd_35 (by decide) rfl rfl ?_
  refine px_iconst (q := 38) (v := nI 0) dI_P_gcd_37 (by decide +kernel) rfl ?_
  refine px_istore (q := 40) dI_P_gcd_38 (by decide) rfl rfl ?_
  have fin : ∀ (X' : pw_X) (Y' : pw_Y) (ls : List (Nat × Value)) (dl : Nat → Nat), lk_ ls 0 = some (.ref (ad_ g 0)) → lk_ ls 3 = some (.int (nI t)) → dk_ X' v → fr_ X Y X' Y' → rw_ (X' 9) 4 dl → vl_ dl 4 = Nat.gcd (v a) (v b) → pw_W l g mP_gcd sz (pw_qM g sz Post 0 0) 107 ls [] X' Y' := by
    intro X' Y' ls dl hl0 hl3 hdk' hfr hdl hv
    refine px_aload_n (q := 108) dI_P_gcd_107 hl0 rfl ?_
    refine px_getP (q := 111) (j := 2) dI_P_gcd_108 wf_P_18 rfl (by decide) rfl rfl ?_
    refine px_aload_n (q := 112) dI_P_gcd_111 hl0 rfl ?_
    refine px_getP (q := 115) (j := 0) dI_P_gcd_112 wf_P_11 rfl (by decide) rfl rfl ?_
    refine px_iload_n (q := 116) dI_P_gcd_115 hl3 rfl ?_
    refine px_aald (q := 117) dI_P_gcd_116 (by omega) rfl ?_
    refine px_callS2 (q := 120) (ν := mU_copy) dI_P_gcd_117 wl_P_82 ws_U_copy wb_U_copy wi_U ⟨rfl, rfl⟩ (by decide +kernel) ⟨(Nat.le_of_ble_eq_true rfl), (Nat.le_of_ble_eq_true rfl)⟩ (Nat.le_of_ble_eq_true rfl) rfl (c_U_copy (a := 9) (n := 4) rfl (ln_J_r t ht) (by decide) (fun f4 hf4 => ?_))
    refine px_vret dI_P_gcd_120 rfl ?_
    exact hp _ _ (dk_s (d := dl) (rw_congr hdl hf4 (fun _ _ => rfl)) hv hdk') (fr_x (by omega) hfr)
  have key : ∀ (s i : Nat) (X' : pw_X) (Y' : pw_Y) (dl dr : Nat → Nat), i + s = 258 → dk_ X' v → fr_ X Y X' Y' → rw_ (X' 9) 4 dl → rw_ (X' 10) 4 dr → Nat.gcd (vl_ dl 4) (vl_ dr 4) = Nat.gcd (v a) (v b) → gs_ (vl_ dl 4) (vl_ dr 4) s → pw_W l g mP_gcd sz (pw_qM g sz Post 0 0) 40 [(0, .ref (ad_ g 0)), (1, .int (nI a)), (2, .int (nI b)), (3, .int (nI t)), (4, .int (nI 258)), (5, .int (nI i))] [] X' Y' := by
    intro s
    induction s with
    | zero =>
      intro i X' Y' dl dr hi hdk' hfr hdl hdr hg hgs
      refine px_iload (q := 42) dI_P_gcd_40 rfl rfl ?_
      refine px_iload (q := 44) dI_P_gcd_42 rfl rfl ?_
      refine px_icmp_geN (q := 47) (tgt := 107) dI_P_gcd_44 (by omega) (by omega) (by decide) rfl (fun b44 => ?_) (fun b44 => ?_)
      · refine fin X' Y' _ dl rfl rfl hdk' hfr hdl ?_
        rw [gs_0 hgs, Nat.gcd_zero_right] at hg
        exact hg
      · omega
    | succ s ih =>
      intro i X' Y' dl dr hi hdk' hfr hdl hdr hg hgs
      refine px_iload (q := 42) dI_P_gcd_40 rfl rfl ?_
      refine px_iload (q := 44) dI_P_gcd_42 rfl rfl ?_
      refine px_icmp_geN (q := 47) (tgt := 107) dI_P_gcd_44 (by omega) (by omega) (by decide) rfl (fun b44 => ?_) (fun b44 => ?_)
      · omega
      · refine px_aload_n (q := 48) dI_P_gcd_47 rfl rfl ?_
        refine px_getP (q := 51) (j := 3) dI_P_gcd_48 wf_P_21 rfl (by decide) rfl rfl ?_
        refine px_callS1 (q := 54) (ν := mU_isZero) dI_P_gcd_51 wl_P_103 ws_U_isZero wb_U_isZero wi_U ⟨rfl, rfl⟩ (by decide +kernel) ⟨(Nat.le_of_ble_eq_true rfl), (Nat.le_of_ble_eq_true rfl)⟩ (Nat.le_of_ble_eq_true rfl) rfl (c_U_isZero (a := 10) (n := 4) rfl hdr (fun z => ?_) (fun z => ?_))
        · refine px_if_neN (q := 57) (tgt := 107) dI_P_gcd_54 (by omega) (by decide) rfl (fun b54 => ?_) (fun b54 => ?_)
          · refine fin X' Y' _ dl rfl rfl hdk' hfr hdl ?_
            rw [z, Nat.gcd_zero_right] at hg
            exact hg
          · exact absurd b54 (by decide)
        · refine px_if_neN (q := 57) (tgt := 107) dI_P_gcd_54 (by omega) (by decide) rfl (fun b54 => ?_) (fun b54 => ?_)
          · exact absurd rfl b54
          · refine px_aload_n (q := 58) dI_P_gcd_57 rfl rfl ?_
            refine px_getP (q := 61) (j := 5) dI_P_gcd_58 wf_P_30 rfl (by decide) rfl rfl ?_
            refine px_aload_n (q := 62) dI_P_gcd_61 rfl rfl ?_
            refine px_getP (q := 65) (j := 3) dI_P_gcd_62 wf_P_21 rfl (by decide) rfl rfl ?_
            refine px_callV1 (q := 68) (ν := mV_setDivisor) dI_P_gcd_65 (by decide) rfl rfl wl_P_109 wm_V_setDivisor wv_V_setDivisor wb_V_setDivisor wi_V ⟨rfl, rfl⟩ (by decide +kernel) ⟨(Nat.le_of_ble_eq_true rfl), (Nat.le_of_ble_eq_true rfl)⟩ (Nat.le_of_ble_eq_true rfl) rfl (c_V_setDivisor (a := 10) rfl (by decide) hdr z (fun f fy s2 h2 e2 hdv => ?_))
            refine px_aload_n (q := 69) dI_P_gcd_68 rfl rfl ?_
            refine px_getP (q := 72) (j := 5) dI_P_gcd_69 wf_P_30 rfl (by decide) rfl rfl ?_
            refine px_aload_n (q := 73) dI_P_gcd_72 rfl rfl ?_
            refine px_getP (q := 76) (j := 2) dI_P_gcd_73 wf_P_18 rfl (by decide) rfl rfl ?_
            refine px_callV1 (q := 79) (ν := mV_run) dI_P_gcd_76 (by decide) rfl rfl wl_P_113 wm_V_run wv_V_run wb_V_run wi_V ⟨rfl, rfl⟩ (by decide +kernel) ⟨(Nat.le_of_ble_eq_true rfl), (Nat.le_of_ble_eq_true rfl)⟩ (Nat.le_of_ble_eq_true rfl) rfl (c_V_run (a := 9) (n := 4) (d := dl) rfl (by decide) (by decide) (by decide) hdv (by rw [xr_n (by decide)]; exact hdl) (fun fq fr dq dre hfq hfr2 hvq hvr => ?_))
            refine px_aload_n (q := 80) dI_P_gcd_79 rfl rfl ?_
            refine px_getP (q := 83) (j := 3) dI_P_gcd_80 wf_P_21 rfl (by decide) rfl rfl ?_
            refine px_aload_n (q := 84) dI_P_gcd_83 rfl rfl ?_
            refine px_getP (q := 87) (j := 2) dI_P_gcd_84 wf_P_18 rfl (by decide) rfl rfl ?_
            refine px_callS2 (q := 90) (ν := mU_copy) dI_P_gcd_87 wl_P_82 ws_U_copy wb_U_copy wi_U ⟨rfl, rfl⟩ (by decide +kernel) ⟨(Nat.le_of_ble_eq_true rfl), (Nat.le_of_ble_eq_true rfl)⟩ (Nat.le_of_ble_eq_true rfl) rfl (c_U_copy (a := 10) (b := 9) (n := 4) rfl rfl (by decide) (fun f5 hf5 => ?_))
            rw [xr_n (by decide), xr_n (by decide), xr_n (by decide)] at hf5
            have hR : vl_ dl 4 % vl_ dr 4 < 4294967296 ^ s2 := Nat.lt_trans (Nat.mod_lt _ (Nat.pos_of_ne_zero z)) (dv_lt hdv)
            refine px_aload_n (q := 91) dI_P_gcd_90 rfl rfl ?_
            refine px_getP (q := 94) (j := 5) dI_P_gcd_91 wf_P_30 rfl (by decide) rfl rfl ?_
            refine px_aload_n (q := 95) dI_P_gcd_94 rfl rfl ?_
            refine px_getP (q := 98) (j := 3) dI_P_gcd_95 wf_P_21 rfl (by decide) rfl rfl ?_
            refine px_callV1 (q := 101) (ν := mV_copyRemainder) dI_P_gcd_98 (by decide) rfl rfl wl_P_119 wm_V_copyRemainder wv_V_copyRemainder wb_V_copyRemainder wi_V ⟨rfl, rfl⟩ (by decide +kernel) ⟨(Nat.le_of_ble_eq_true rfl), (Nat.le_of_ble_eq_true rfl)⟩ (Nat.le_of_ble_eq_true rfl) rfl (c_V_copyRemainder (b := 10) (r := dre) rfl (by decide) hdv.1 hdv.2.2.2.1 hdv.2.1 hdv.2.2.2.2.1 (by rw [xr_n (by decide), xr_s]; exact hfr2) hvr hR (fun f6 d6 hd6 hv6 => ?_))
            refine px_iinc (q := 104) dI_P_gcd_101 rfl (ic_1 _) (by decide) rfl rfl ?_
            refine px_goto (tgt := 40) dI_P_gcd_104 (by decide) ?_
            refine ih (i + 1) _ _ dr d6 (by omega) (dk_x (by decide) (dk_x (by decide) (dk_x (by decide) (dk_x (by decide) (dk_x (by decide) hdk'))))) (fr_y (by decide) (fr_x (by decide) (fr_x (by decide) (fr_x (by decide) (fr_x (by decide) (fr_x (by decide) hfr)))))) (by rw [xr_n (by decide), xr_s]; exact rw_congr hdr hf5 (fun _ _ => rfl)) (by rw [xr_s]; exact hd6) ?_ ?_
            · rw [hv6, Nat.gcd_comm, ← Nat.gcd_rec, Nat.gcd_comm]; exact hg
            · rw [hv6]; exact gs_s hgs z
  refine key 258 0 _ _ da db rfl (dk_x (by decide) (dk_x (by decide) hdk)) (fr_x (by decide) (fr_x (by decide) fr_0)) (by rw [xr_n (by decide), xr_s]; exact rw_congr hda hf1 (fun _ _ => rfl)) (by rw [xr_s]; exact rw_congr hdb hf2 (fun _ _ => rfl)) (by rw [hva, hvb]) (gs_i (rw_lt hdb) (by decide))
theorem c_P_compare {a b : Nat} (ha : a < 6) (hb : b < 6) (hdk : dk_ X v) (h1 : v a < v b → Post (some (.int (-1))) X Y) (h2 : v a = v b → Post (some (.int (nI 0))) X Y) (h3 : v b < v a → Post (some (.int (nI 1))) X Y) : pw_Met l g mP_compare [.ref (ad_ g 0), .int (nI a), .int (nI b)] X Y Post := by
  obtain ⟨da, hda, hva⟩ := hdk a ha
  obtain ⟨db, hdb, hvb⟩ := hdk b hb
  refine pw_ofW (by decide +kernel) rfl (Nat.le_of_ble_eq_true rfl) rfl (fun sz => ?_)
  refine px_iload_n (q := 1) dI_P_compare_0 rfl rfl ?_
  refine px_callS1 (q := 4) (ν := mP_checkRegister) dI_P_compare_1 wl_P_48 ws_P_checkRegister wb_P_checkRegister wi_P ⟨rfl, rfl⟩ (by decide +kernel) ⟨(Nat.le_of_ble_eq_true rfl), (Nat.le_of_ble_eq_true rfl)⟩ (Nat.le_of_ble_eq_true rfl) rfl (c_P_check ha ?_)
  refine px_iload_n (q := 5) dI_P_compare_4 rfl rfl ?_
  refine px_callS1 (q := 8) (ν := mP_checkRegister) dI_P_compare_5 wl_P_48 ws_P_checkRegister wb_P_checkRegister wi_P ⟨rfl, rfl⟩ (by decide +kernel) ⟨(Nat.le_of_ble_eq_true rfl), (Nat.le_of_ble_eq_true rfl)⟩ (Nat.le_of_ble_eq_true rfl) rfl (c_P_check hb ?_)
  refine px_aload_n (q := 9) dI_P_compare_8 rfl rfl ?_
  refine px_getP (q := 12) (j := 0) dI_P_compare_9 wf_P_11 rfl (by decide) rfl rfl ?_
  refine px_iload_n (q := 13) dI_P_compare_12 rfl rfl ?_
  refine px_aald (q := 14) dI_P_compare_13 (by omega) rfl ?_
  refine px_aload_n (q := 15) dI_P_compare_14 rfl rfl ?_
  refine px_getP (q := 18) (j := 0) dI_P_compare_15 wf_P_11 rfl (by decide) rfl rfl ?_
  refine px_iload_n (q := 19) dI_P_compare_18 rfl rfl ?_
  refine px_aald (q := 20) dI_P_compare_19 (by omega) rfl ?_
  refine px_callS2 (q := 23) (ν := mU_comparison) dI_P_compare_20 wl_P_127 ws_U_comparison wb_U_comparison wi_U ⟨rfl, rfl⟩ (by decide +kernel) ⟨(Nat.le_of_ble_eq_true rfl), (Nat.le_of_ble_eq_true rfl)⟩ (Nat.le_of_ble_eq_true rfl) rfl (c_U_comparison (ln_J_r a ha) (ln_J_r b hb) hda hdb (fun z => ?_) (fun z => ?_) (fun z => ?_))
  · refine px_iret dI_P_compare_23 rfl ?_
    exact h1 (by rw [← hva, ← hvb]; exact z)
  · refine px_iret dI_P_compare_23 rfl ?_
    exact h2 (by rw [← hva, ← hvb]; exact z)
  · refine px_iret dI_P_compare_23 rfl ?_
    exact h3 (by rw [← hva, ← hvb]; exact z)
theorem c_P_bits {a : Nat} (ha : a < 6) (hdk : dk_ X v) (hp : ∀ T, T ≤ 128 → bl_ (v a) T → Post (some (.int (nI T))) X Y) : pw_Met l g mP_bits [.ref (ad_ g 0), .int (nI a)] X Y Post := by
  obtain ⟨da, hda, hva⟩ := hdk a ha
  refine pw_ofW (by decide +kernel) rfl (Nat.le_of_ble_eq_true rfl) rfl (fun sz => ?_)
  refine px_iload_n (q := 1) dI_P_bits_0 rfl rfl ?_
  refine px_callS1 (q := 4) (ν := mP_checkRegister) dI_P_bits_1 wl_P_48 ws_P_checkRegister wb_P_checkRegister wi_P ⟨rfl, rfl⟩ (by decide +kernel) ⟨(Nat.le_of_ble_eq_true rfl), (Nat.le_of_ble_eq_true rfl)⟩ (Nat.le_of_ble_eq_true rfl) rfl (c_P_check ha ?_)
  refine px_aload_n (q := 5) dI_P_bits_4 rfl rfl ?_
  refine px_getP (q := 8) (j := 0) dI_P_bits_5 wf_P_11 rfl (by decide) rfl rfl ?_
  refine px_iload_n (q := 9) dI_P_bits_8 rfl rfl ?_
  refine px_aald (q := 10) dI_P_bits_9 (by omega) rfl ?_
  refine px_callS1 (q := 13) (ν := mU_bitLength) dI_P_bits_10 wl_P_131 ws_U_bitLength wb_U_bitLength wi_U ⟨rfl, rfl⟩ (by decide +kernel) ⟨(Nat.le_of_ble_eq_true rfl), (Nat.le_of_ble_eq_true rfl)⟩ (Nat.le_of_ble_eq_true rfl) rfl (c_U_bitLength (ln_J_r a ha) hda (fun T hT h1 h2 => ?_))
  refine px_iret dI_P_bits_13 rfl ?_
  rw [hva] at h1 h2
  exact hp T hT ⟨h1, h2⟩
theorem c_P_word {a k : Nat} (ha : a < 6) (hk : k < 4) (hdk : dk_ X v) (hp : Post (some (.long (lN (v a / 4294967296 ^ k % 4294967296)))) X Y) : pw_Met l g mP_word [.ref (ad_ g 0), .int (nI a), .int (nI k)] X Y Post := by
  obtain ⟨da, hda, hva⟩ := hdk a ha
  have h1 := (hda k hk).1
  rw [← hva, vl_dg hk (fun j hj => (hda j hj).2)] at hp
  refine pw_ofW (by decide +kernel) rfl (Nat.le_of_ble_eq_true rfl) rfl (fun sz => ?_)
  refine px_iload_n (q := 1) dI_P_word_0 rfl rfl ?_
  refine px_callS1 (q := 4) (ν := mP_checkRegister) dI_P_word_1 wl_P_48 ws_P_checkRegister wb_P_checkRegister wi_P ⟨rfl, rfl⟩ (by decide +kernel) ⟨(Nat.le_of_ble_eq_true rfl), (Nat.le_of_ble_eq_true rfl)⟩ (Nat.le_of_ble_eq_true rfl) rfl (c_P_check ha ?_)
  refine px_iload_n (q := 5) dI_P_word_4 rfl rfl ?_
  refine px_if_ltN (q := 8) (tgt := 13) dI_P_word_5 (by omega) (by decide) rfl (fun b5 => ?_) (fun b5 => ?_)
  · exact b5.elim
  · refine px_iload_n (q := 9) dI_P_word_8 rfl rfl ?_
    refine px_iconst (q := 10) (v := nI 4) dI_P_word_9 (by decide +kernel) rfl ?_
    refine px_icmp_ltN (q := 13) (tgt := 23) dI_P_word_10 (by omega) (by omega) (by decide) rfl (fun b10 => ?_) (fun b10 => ?_)
    · refine px_aload_n (q := 24) dI_P_word_23 rfl rfl ?_
      refine px_getP (q := 27) (j := 0) dI_P_word_24 wf_P_11 rfl (by decide) rfl rfl ?_
      refine px_iload_n (q := 28) dI_P_word_27 rfl rfl ?_
      refine px_aald (q := 29) dI_P_word_28 (by omega) rfl ?_
      refine px_iload_n (q := 30) dI_P_word_29 rfl rfl ?_
      refine px_lald (q := 31) dI_P_word_30 (ln_J_r a ha) (by omega) (by omega) h1 rfl ?_
      refine px_lret dI_P_word_31 rfl ?_
      exact hp
    · omega
theorem c_P_perfect {a : Nat} (hE : xE_ g) (ha : a < 6) (hdk : dk_ X v) (hp : ∀ X' e, e < 128 → le_ (v a) e → dk_ X' v → fr_ X Y X' Y → Post (some (.int (nI e))) X' Y) : pw_Met l g mP_perfect [.ref (ad_ g 0), .int (nI a)] X Y Post := by
  obtain ⟨da, hda, hva⟩ := hdk a ha
  refine pw_ofW (by decide +kernel) rfl (Nat.le_of_ble_eq_true rfl) rfl (fun sz => ?_)
  refine px_iload_n (q := 1) dI_P_perfect_0 rfl rfl ?_
  refine px_callS1 (q := 4) (ν := mP_checkRegister) dI_P_perfect_1 wl_P_48 ws_P_checkRegister wb_P_checkRegister wi_P ⟨rfl, rfl⟩ (by decide +kernel) ⟨(Nat.le_of_ble_eq_true rfl), (Nat.le_of_ble_eq_true rfl)⟩ (Nat.le_of_ble_eq_true rfl) rfl (c_P_check ha ?_)
  refine px_aload_n (q := 5) dI_P_perfect_4 rfl rfl ?_
  refine px_getP (q := 8) (j := 6) dI_P_perfect_5 wf_P_37 rfl (by decide) rfl rfl ?_
  refine px_aload_n (q := 9) dI_P_perfect_8 rfl rfl ?_
  refine px_getP (q := 12) (j := 0) dI_P_perfect_9 wf_P_11 rfl (by decide) rfl rfl ?_
  refine px_iload_n (q := 13) dI_P_perfect_12 rfl rfl ?_
  refine px_aald (q := 14) dI_P_perfect_13 (by omega) rfl ?_
  refine px_callV1 (q := 17) (ν := mO_leastExponent) dI_P_perfect_14 (by decide) rfl rfl wl_P_139 wm_O_leastExponent wv_O_leastExponent wb_O_leastExponent wi_O ⟨rfl, rfl⟩ (by decide +kernel) ⟨(Nat.le_of_ble_eq_true rfl), (Nat.le_of_ble_eq_true rfl)⟩ (Nat.le_of_ble_eq_true rfl) rfl (c_O_leastExponent hE (ln_J_r a ha) (by omega) (by omega) (by omega) hda (fun f fw fr e he hle => ?_))
  refine px_iret dI_P_perfect_17 rfl ?_
  rw [hva] at hle
  exact hp _ e he hle (dk_x (by decide) (dk_x (by decide) (dk_x (by decide) hdk))) (fr_x (by decide) (fr_x (by decide) (fr_x (by decide) fr_0)))
theorem c_P_order {a m k : Nat} (ha : a < 6) (h2 : 2 ≤ m) (hm : m ≤ 1000) (hod : od_ (v a % m) m k) (hk : k ≠ 0) (hdk : dk_ X v) (hp : Post (some (.int (nI k))) X Y) : pw_Met l g mP_order [.ref (ad_ g 0), .int (nI a), .int (nI m)] X Y Post := by
  obtain ⟨da, hda, hva⟩ := hdk a ha
  refine pw_ofW (by decide +kernel) rfl (Nat.le_of_ble_eq_true rfl) rfl (fun sz => ?_)
  refine px_iload_n (q := 1) dI_P_order_0 rfl rfl ?_
  refine px_callS1 (q := 4) (ν := mP_checkRegister) dI_P_order_1 wl_P_48 ws_P_checkRegister wb_P_checkRegister wi_P ⟨rfl, rfl⟩ (by decide +kernel) ⟨(Nat.le_of_ble_eq_true rfl), (Nat.le_of_ble_eq_true rfl)⟩ (Nat.le_of_ble_eq_true rfl) rfl (c_P_check ha ?_)
  refine px_iload_n (q := 5) dI_P_order_4 rfl rfl ?_
  refine px_iconst (q := 6) (v := nI 2) dI_P_order_5 (by decide +kernel) rfl ?_
  refine px_icmp_ltN (q := 9) (tgt := 16) dI_P_order_6 (by omega) (by omega) (by decide) rfl (fun b6 => ?_) (fun b6 => ?_)
  · omega
  · refine px_iload_n (q := 10) dI_P_order_9 rfl rfl ?_
    refine px_sipush (q := 13) (v := nI 1000) dI_P_order_10 (by decide +kernel) rfl ?_
    refine px_icmp_leN (q := 16) (tgt := 26) dI_P_order_13 (by omega) (by omega) (by decide) rfl (fun b13 => ?_) (fun b13 => ?_)
    · refine px_aload_n (q := 27) dI_P_order_26 rfl rfl ?_
      refine px_getP (q := 30) (j := 0) dI_P_order_27 wf_P_11 rfl (by decide) rfl rfl ?_
      refine px_iload_n (q := 31) dI_P_order_30 rfl rfl ?_
      refine px_aald (q := 32) dI_P_order_31 (by omega) rfl ?_
      refine px_iload_n (q := 33) dI_P_order_32 rfl rfl ?_
      refine px_callS2 (q := 36) (ν := mU_remainderBy) dI_P_order_33 wl_P_144 ws_U_remainderBy wb_U_remainderBy wi_U ⟨rfl, rfl⟩ (by decide +kernel) ⟨(Nat.le_of_ble_eq_true rfl), (Nat.le_of_ble_eq_true rfl)⟩ (Nat.le_of_ble_eq_true rfl) rfl (c_U_remainderBy (ln_J_r a ha) hda h2 hm ?_)
      rw [hva]
      refine px_iload_n (q := 37) dI_P_order_36 rfl rfl ?_
      refine px_callS2 (q := 40) (ν := mS_orderOrZero) dI_P_order_37 wl_P_148 ws_S_orderOrZero wb_S_orderOrZero wi_S ⟨rfl, rfl⟩ (by decide +kernel) ⟨(Nat.le_of_ble_eq_true rfl), (Nat.le_of_ble_eq_true rfl)⟩ (Nat.le_of_ble_eq_true rfl) rfl (c_S_orderOrZero h2 hm (Nat.mod_lt _ (by omega)) (fun k' hk' hod' => ?_))
      rw [od_uniq hod' hod]
      have hkm : k < m := by rw [← od_uniq hod' hod]; exact hk'
      refine px_istore_n (q := 41) dI_P_order_40 rfl (by decide) rfl rfl ?_
      refine px_iload_n (q := 42) dI_P_order_41 rfl rfl ?_
      refine px_if_neN (q := 45) (tgt := 55) dI_P_order_42 (by omega) (by decide) rfl (fun b42 => ?_) (fun b42 => ?_)
      · refine px_iload_n (q := 56) dI_P_order_55 rfl rfl ?_
        refine px_iret dI_P_order_56 rfl ?_
        exact hp
      · exact absurd b42 hk
    · omega
theorem c_P_modulus {a : Nat} (ha : a < 6) (h2 : 2 ≤ v a) (hv : v a ≤ 511) (hdk : dk_ X v) (hp : ∀ T m k, bl_ (v a) T → 2 ≤ m → m < 1000 → od_ (v a % m) m k → T * T < k → (∀ m', 2 ≤ m' → m' < m → ∀ k', od_ (v a % m') m' k' → k' ≤ T * T) → Post (some (.int (nI m))) X Y) (h0 : ∀ T, bl_ (v a) T → (∀ m', 2 ≤ m' → m' < 1000 → ∃ k', od_ (v a % m') m' k' ∧ k' ≤ T * T) → Post (some (.int (nI 0))) X Y) : pw_Met l g mP_modulus [.ref (ad_ g 0), .int (nI a)] X Y Post := by
  obtain ⟨da, hda, hva⟩ := hdk a ha
  refine pw_ofW (by decide +kernel) rfl (Nat.le_of_ble_eq_true rfl) rfl (fun sz => ?_)
  refine px_iload_n (q := 1) dI_P_modulus_0 rfl rfl ?_
  refine px_callS1 (q := 4) (ν := mP_checkRegister) dI_P_modulus_1 wl_P_48 ws_P_checkRegister wb_P_checkRegister wi_P ⟨rfl, rfl⟩ (by decide +kernel) ⟨(Nat.le_of_ble_eq_true rfl), (Nat.le_of_ble_eq_true rfl)⟩ (Nat.le_of_ble_eq_true rfl) rfl (c_P_check ha ?_)
  refine px_aload_n (q := 5) dI_P_modulus_4 rfl rfl ?_
  refine px_getP (q := 8) (j := 0) dI_P_modulus_5 wf_P_11 rfl (by decide) rfl rfl ?_
  refine px_iload_n (q := 9) dI_P_modulus_8 rfl rfl ?_
  refine px_aald (q := 10) dI_P_modulus_9 (by omega) rfl ?_
  refine px_sipush (q := 13) (v := nI 511) dI_P_modulus_10 (by decide +kernel) rfl ?_
  refine px_callS2 (q := 16) (ν := mU_valueUpTo) dI_P_modulus_13 wl_P_156 ws_U_valueUpTo wb_U_valueUpTo wi_U ⟨rfl, rfl⟩ (by decide +kernel) ⟨(Nat.le_of_ble_eq_true rfl), (Nat.le_of_ble_eq_true rfl)⟩ (Nat.le_of_ble_eq_true rfl) rfl (c_U_valueUpTo (ln_J_r a ha) hda (by decide) ?_)
  rw [hva, if_pos hv]
  refine px_istore_n (q := 17) dI_P_modulus_16 rfl (by decide) rfl rfl ?_
  refine px_iload_n (q := 18) dI_P_modulus_17 rfl rfl ?_
  refine px_iconst (q := 19) (v := nI 2) dI_P_modulus_18 (by decide +kernel) rfl ?_
  refine px_icmp_ltN (q := 22) (tgt := 29) dI_P_modulus_19 (by omega) (by omega) (by decide) rfl (fun b19 => ?_) (fun b19 => ?_)
  · omega
  · refine px_iload_n (q := 23) dI_P_modulus_22 rfl rfl ?_
    refine px_sipush (q := 26) (v := nI 511) dI_P_modulus_23 (by decide +kernel) rfl ?_
    refine px_icmp_leN (q := 29) (tgt := 39) dI_P_modulus_26 (by omega) (by omega) (by decide) rfl (fun b26 => ?_) (fun b26 => ?_)
    · refine px_aload_n (q := 40) dI_P_modulus_39 rfl rfl ?_
      refine px_getP (q := 43) (j := 0) dI_P_modulus_40 wf_P_11 rfl (by decide) rfl rfl ?_
      refine px_iload_n (q := 44) dI_P_modulus_43 rfl rfl ?_
      refine px_aald (q := 45) dI_P_modulus_44 (by omega) rfl ?_
      refine px_callS1 (q := 48) (ν := mU_bitLength) dI_P_modulus_45 wl_P_131 ws_U_bitLength wb_U_bitLength wi_U ⟨rfl, rfl⟩ (by decide +kernel) ⟨(Nat.le_of_ble_eq_true rfl), (Nat.le_of_ble_eq_true rfl)⟩ (Nat.le_of_ble_eq_true rfl) rfl (c_U_bitLength (ln_J_r a ha) hda (fun T hT q1 q2 => ?_))
      rw [hva] at q1 q2
      have hT9 : T ≤ 9 := by
        refine Nat.le_of_not_lt (fun q => ?_)
        have h3 := q2 (by omega)
        have h4 : 2 ^ 9 ≤ 2 ^ (T - 1) := Nat.pow_le_pow_right (by decide) (by omega)
        omega
      have hTT : T * T ≤ 9 * 9 := Nat.mul_le_mul hT9 hT9
      refine px_istore_n (q := 49) dI_P_modulus_48 rfl (by decide) rfl rfl ?_
      refine px_iload_n (q := 50) dI_P_modulus_49 rfl rfl ?_
      refine px_iload_n (q := 51) dI_P_modulus_50 rfl rfl ?_
      refine px_iload_n (q := 52) dI_P_modulus_51 rfl rfl ?_
      refine px_imulN (q := 53) dI_P_modulus_52 rfl ?_
      refine px_callS2 (q := 56) (ν := mS_leastModulus) dI_P_modulus_53 wl_P_164 ws_S_leastModulus wb_S_leastModulus wi_S ⟨rfl, rfl⟩ (by decide +kernel) ⟨(Nat.le_of_ble_eq_true rfl), (Nat.le_of_ble_eq_true rfl)⟩ (Nat.le_of_ble_eq_true rfl) rfl (c_S_leastModulus (by omega) (by omega) (fun m k a1 a2 a3 a4 a5 => ?_) (fun a1 => ?_))
      · refine px_iret dI_P_modulus_56 rfl ?_
        exact hp T m k ⟨q1, q2⟩ a1 a2 a3 a4 a5
      · refine px_iret dI_P_modulus_56 rfl ?_
        exact h0 T ⟨q1, q2⟩ a1
    · omega
theorem c_P_congruent {a m c : Nat} (ha : a < 6) (hm1 : 1 ≤ m) (hm : m ≤ 64) (hc : c ≤ 4095) (h2 : 2 ≤ v a) (hv : v a ≤ 4095) (hdk : dk_ X v) (h1 : ∀ Y', cg_ (v a) m c → fr_ X Y X Y' → Post (some (.int (nI 1))) X Y') (h0 : ∀ Y', ¬ cg_ (v a) m c → fr_ X Y X Y' → Post (some (.int (nI 0))) X Y') : pw_Met l g mP_congruent [.ref (ad_ g 0), .int (nI a), .int (nI m), .int (nI c)] X Y Post := by
  obtain ⟨da, hda, hva⟩ := hdk a ha
  refine pw_ofW (by decide +kernel) rfl (Nat.le_of_ble_eq_true rfl) rfl (fun sz => ?_)
  refine px_iload_n (q := 1) dI_P_congruent_0 rfl rfl ?_
  refine px_callS1 (q := 4) (ν := mP_checkRegister) dI_P_congruent_1 wl_P_48 ws_P_checkRegister wb_P_checkRegister wi_P ⟨rfl, rfl⟩ (by decide +kernel) ⟨(Nat.le_of_ble_eq_true rfl), (Nat.le_of_ble_eq_true rfl)⟩ (Nat.le_of_ble_eq_true rfl) rfl (c_P_check ha ?_)
  refine px_iload_n (q := 5) dI_P_congruent_4 rfl rfl ?_
  refine px_iconst (q := 6) (v := nI 1) dI_P_congruent_5 (by decide +kernel) rfl ?_
  refine px_icmp_ltN (q := 9) (tgt := 15) dI_P_congruent_6 (by omega) (by omega) (by decide) rfl (fun b6 => ?_) (fun b6 => ?_)
  · omega
  · refine px_iload_n (q := 10) dI_P_congruent_9 rfl rfl ?_
    refine px_bipush (q := 12) (v := nI 64) dI_P_congruent_10 (by decide +kernel) rfl ?_
    refine px_icmp_leN (q := 15) (tgt := 25) dI_P_congruent_12 (by omega) (by omega) (by decide) rfl (fun b12 => ?_) (fun b12 => ?_)
    · refine px_iload_n (q := 26) dI_P_congruent_25 rfl rfl ?_
      refine px_if_ltN (q := 29) (tgt := 36) dI_P_congruent_26 (by omega) (by decide) rfl (fun b26 => ?_) (fun b26 => ?_)
      · exact b26.elim
      · refine px_iload_n (q := 30) dI_P_congruent_29 rfl rfl ?_
        refine px_sipush (q := 33) (v := nI 4095) dI_P_congruent_30 (by decide +kernel) rfl ?_
        refine px_icmp_leN (q := 36) (tgt := 46) dI_P_congruent_33 (by omega) (by omega) (by decide) rfl (fun b33 => ?_) (fun b33 => ?_)
        · refine px_aload_n (q := 47) dI_P_congruent_46 rfl rfl ?_
          refine px_getP (q := 50) (j := 0) dI_P_congruent_47 wf_P_11 rfl (by decide) rfl rfl ?_
          refine px_iload_n (q := 51) dI_P_congruent_50 rfl rfl ?_
          refine px_aald (q := 52) dI_P_congruent_51 (by omega) rfl ?_
          refine px_sipush (q := 55) (v := nI 4095) dI_P_congruent_52 (by decide +kernel) rfl ?_
          refine px_callS2 (q := 58) (ν := mU_valueUpTo) dI_P_congruent_55 wl_P_156 ws_U_valueUpTo wb_U_valueUpTo wi_U ⟨rfl, rfl⟩ (by decide +kernel) ⟨(Nat.le_of_ble_eq_true rfl), (Nat.le_of_ble_eq_true rfl)⟩ (Nat.le_of_ble_eq_true rfl) rfl (c_U_valueUpTo (ln_J_r a ha) hda (by decide) ?_)
          rw [hva, if_pos hv]
          refine px_istore (q := 60) dI_P_congruent_58 (by decide) rfl rfl ?_
          refine px_iload (q := 62) dI_P_congruent_60 rfl rfl ?_
          refine px_iconst (q := 63) (v := nI 2) dI_P_congruent_62 (by decide +kernel) rfl ?_
          refine px_icmp_ltN (q := 66) (tgt := 74) dI_P_congruent_63 (by omega) (by omega) (by decide) rfl (fun b63 => ?_) (fun b63 => ?_)
          · omega
          · refine px_iload (q := 68) dI_P_congruent_66 rfl rfl ?_
            refine px_sipush (q := 71) (v := nI 4095) dI_P_congruent_68 (by decide +kernel) rfl ?_
            refine px_icmp_leN (q := 74) (tgt := 84) dI_P_congruent_71 (by omega) (by omega) (by decide) rfl (fun b71 => ?_) (fun b71 => ?_)
            · refine px_aload_n (q := 85) dI_P_congruent_84 rfl rfl ?_
              refine px_getP (q := 88) (j := 7) dI_P_congruent_85 wf_P_44 rfl (by decide) rfl rfl ?_
              refine px_iload (q := 90) dI_P_congruent_88 rfl rfl ?_
              refine px_iload_n (q := 91) dI_P_congruent_90 rfl rfl ?_
              refine px_iload_n (q := 92) dI_P_congruent_91 rfl rfl ?_
              refine px_callV3 (q := 95) (ν := mY_isCongruent) dI_P_congruent_92 (by decide) rfl rfl wl_P_173 wm_Y_isCongruent wv_Y_isCongruent wb_Y_isCongruent wi_Y ⟨rfl, rfl⟩ (by decide +kernel) ⟨(Nat.le_of_ble_eq_true rfl), (Nat.le_of_ble_eq_true rfl)⟩ (Nat.le_of_ble_eq_true rfl) rfl (c_Y_isCongruent h2 hv hm1 hm hc (fun f h z => ?_) (fun f h z => ?_))
              · refine px_zret dI_P_congruent_95 rfl (by decide +kernel) ?_
                exact h1 _ z (fr_y (by decide) (fr_y (by decide) fr_0))
              · refine px_zret dI_P_congruent_95 rfl (by decide +kernel) ?_
                exact h0 _ z (fr_y (by decide) (fr_y (by decide) fr_0))
            · omega
        · omega
    · omega
theorem c_P_prime {a : Nat} (ha : a < 6) (hv : v a ≤ 511) (hdk : dk_ X v) (h1 : 2 ≤ v a → (∀ d, 2 ≤ d → d * d ≤ v a → v a % d ≠ 0) → Post (some (.int (nI 1))) X Y) (h0 : (v a < 2 ∨ ∃ d, 2 ≤ d ∧ d * d ≤ v a ∧ v a % d = 0) → Post (some (.int (nI 0))) X Y) : pw_Met l g mP_prime [.ref (ad_ g 0), .int (nI a)] X Y Post := by
  obtain ⟨da, hda, hva⟩ := hdk a ha
  refine pw_ofW (by decide +kernel) rfl (Nat.le_of_ble_eq_true rfl) rfl (fun sz => ?_)
  refine px_iload_n (q := 1) dI_P_prime_0 rfl rfl ?_
  refine px_callS1 (q := 4) (ν := mP_checkRegister) dI_P_prime_1 wl_P_48 ws_P_checkRegister wb_P_checkRegister wi_P ⟨rfl, rfl⟩ (by decide +kernel) ⟨(Nat.le_of_ble_eq_true rfl), (Nat.le_of_ble_eq_true rfl)⟩ (Nat.le_of_ble_eq_true rfl) rfl (c_P_check ha ?_)
  refine px_aload_n (q := 5) dI_P_prime_4 rfl rfl ?_
  refine px_getP (q := 8) (j := 0) dI_P_prime_5 wf_P_11 rfl (by decide) rfl rfl ?_
  refine px_iload_n (q := 9) dI_P_prime_8 rfl rfl ?_
  refine px_aald (q := 10) dI_P_prime_9 (by omega) rfl ?_
  refine px_sipush (q := 13) (v := nI 511) dI_P_prime_10 (by decide +kernel) rfl ?_
  refine px_callS2 (q := 16) (ν := mU_valueUpTo) dI_P_prime_13 wl_P_156 ws_U_valueUpTo wb_U_valueUpTo wi_U ⟨rfl, rfl⟩ (by decide +kernel) ⟨(Nat.le_of_ble_eq_true rfl), (Nat.le_of_ble_eq_true rfl)⟩ (Nat.le_of_ble_eq_true rfl) rfl (c_U_valueUpTo (ln_J_r a ha) hda (by decide) ?_)
  rw [hva, if_pos hv]
  refine px_istore_n (q := 17) dI_P_prime_16 rfl (by decide) rfl rfl ?_
  refine px_iload_n (q := 18) dI_P_prime_17 rfl rfl ?_
  refine px_sipush (q := 21) (v := nI 511) dI_P_prime_18 (by decide +kernel) rfl ?_
  refine px_icmp_leN (q := 24) (tgt := 34) dI_P_prime_21 (by omega) (by omega) (by decide) rfl (fun b21 => ?_) (fun b21 => ?_)
  · refine px_iload_n (q := 35) dI_P_prime_34 rfl rfl ?_
    refine px_callS1 (q := 38) (ν := mS_isPrime) dI_P_prime_35 wl_P_179 ws_S_isPrime wb_S_isPrime wi_S ⟨rfl, rfl⟩ (by decide +kernel) ⟨(Nat.le_of_ble_eq_true rfl), (Nat.le_of_ble_eq_true rfl)⟩ (Nat.le_of_ble_eq_true rfl) rfl (c_S_isPrime (by omega) (fun z1 z2 => ?_) (fun z => ?_))
    · refine px_zret dI_P_prime_38 rfl (by decide +kernel) ?_
      exact h1 z1 z2
    · refine px_zret dI_P_prime_38 rfl (by decide +kernel) ?_
      exact h0 z
  · omega
end CP3
