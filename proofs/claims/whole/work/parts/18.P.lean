/-! the desk's own methods where they return, further -/
section CP2
variable {l : Launch} {g : pw_G} {X : pw_X} {Y : pw_Y} {Post : pw_P} {v : Nat → Nat}
theorem dv_lt {s h D : Nat} {e : Nat → Nat} (hd : dv_ X Y s h D e) : D < 4294967296 ^ s := by
  obtain ⟨-, -, -, -, -, -, he, heD, -⟩ := hd
  have h1 := rw_lt he
  rw [heD] at h1
  exact Nat.lt_of_le_of_lt (Nat.le_mul_of_pos_right _ (Nat.pow_pos (by decide))) h1
theorem dv_x {s h D k : Nat} {e : Nat → Nat} {f : Nat → Int64} (hk : k ≠ 13) (hd : dv_ X Y s h D e) : dv_ (xr_ X k f) Y s h D e := by
  obtain ⟨h1, h2, h3, h4, h5, h6, h7, h8⟩ := hd
  exact ⟨h1, h2, h3, h4, h5, h6, by rw [xr_n (Ne.symm hk)]; exact h7, h8⟩
theorem c_P_divide {a b q r : Nat} (ha : a < 6) (hb : b < 6) (hq : q < 6) (hr : r < 6) (hqr : q ≠ r) (h0 : v b ≠ 0) (hdk : dk_ X v) (hp : ∀ X' Y', dk_ X' (va_up (va_up v q (v a / v b)) r (v a % v b)) → fr_ X Y X' Y' → Post none X' Y') : pw_Met l g mP_divide [.ref (ad_ g 0), .int (nI a), .int (nI b), .int (nI q), .int (nI r)] X Y Post := by
  obtain ⟨da, hda, hva⟩ := hdk a ha
  obtain ⟨db, hdb, hvb⟩ := hdk b hb
  have hla := dk_lt hdk ha
  refine pw_ofW (by decide +kernel) rfl (Nat.le_of_ble_eq_true rfl) rfl (fun sz => ?_)
  refine px_iload_n (q := 1) dI_P_divide_0 rfl rfl ?_
  refine px_iload_n (q := 2) dI_P_divide_1 rfl rfl ?_
  refine px_iload_n (q := 3) dI_P_divide_2 rfl rfl ?_
  refine px_callS3 (q := 6) (ν := mP_checkRegisters) dI_P_divide_3 wl_P_72 ws_P_checkRegisters wb_P_checkRegisters wi_P ⟨rfl, rfl⟩ (by decide +kernel) ⟨(Nat.le_of_ble_eq_true rfl), (Nat.le_of_ble_eq_true rfl)⟩ (Nat.le_of_ble_eq_true rfl) rfl (c_P_checks ha hb hq ?_)
  refine px_iload (q := 8) dI_P_divide_6 rfl rfl ?_
  refine px_callS1 (q := 11) (ν := mP_checkRegister) dI_P_divide_8 wl_P_48 ws_P_checkRegister wb_P_checkRegister wi_P ⟨rfl, rfl⟩ (by decide +kernel) ⟨(Nat.le_of_ble_eq_true rfl), (Nat.le_of_ble_eq_true rfl)⟩ (Nat.le_of_ble_eq_true rfl) rfl (c_P_check hr ?_)
  refine px_iload_n (q := 12) dI_P_divide_11 rfl rfl ?_
  refine px_iload (q := 14) dI_P_divide_12 rfl rfl ?_
  refine px_icmp_neN (q := 17) (tgt := 27) dI_P_divide_14 (by omega) (by omega) (by decide) rfl (fun b14 => ?_) (fun b14 => ?_)
  · refine px_aload_n (q := 28) dI_P_divide_27 rfl rfl ?_
    refine px_getP (q := 31) (j := 0) dI_P_divide_28 wf_P_11 rfl (by decide) rfl rfl ?_
    refine px_iload_n (q := 32) dI_P_divide_31 rfl rfl ?_
    refine px_aald (q := 33) dI_P_divide_32 (by omega) rfl ?_
    refine px_callS1 (q := 36) (ν := mU_isZero) dI_P_divide_33 wl_P_103 ws_U_isZero wb_U_isZero wi_U ⟨rfl, rfl⟩ (by decide +kernel) ⟨(Nat.le_of_ble_eq_true rfl), (Nat.le_of_ble_eq_true rfl)⟩ (Nat.le_of_ble_eq_true rfl) rfl (c_U_isZero (ln_J_r b hb) hdb (fun z => absurd (hvb.symm.trans z) h0) (fun z => ?_))
    refine px_if_eqN (q := 39) (tgt := 49) dI_P_divide_36 (by omega) (by decide) rfl (fun b36 => ?_) (fun b36 => ?_)
    · refine px_aload_n (q := 50) dI_P_divide_49 rfl rfl ?_
      refine px_getP (q := 53) (j := 5) dI_P_divide_50 wf_P_30 rfl (by decide) rfl rfl ?_
      refine px_aload_n (q := 54) dI_P_divide_53 rfl rfl ?_
      refine px_getP (q := 57) (j := 0) dI_P_divide_54 wf_P_11 rfl (by decide) rfl rfl ?_
      refine px_iload_n (q := 58) dI_P_divide_57 rfl rfl ?_
      refine px_aald (q := 59) dI_P_divide_58 (by omega) rfl ?_
      refine px_callV1 (q := 62) (ν := mV_setDivisor) dI_P_divide_59 (by decide) rfl rfl wl_P_109 wm_V_setDivisor wv_V_setDivisor wb_V_setDivisor wi_V ⟨rfl, rfl⟩ (by decide +kernel) ⟨(Nat.le_of_ble_eq_true rfl), (Nat.le_of_ble_eq_true rfl)⟩ (Nat.le_of_ble_eq_true rfl) rfl (c_V_setDivisor (ln_J_r b hb) (by omega) hdb z (fun f fy s h e hdv => ?_))
      rw [hvb] at hdv
      refine px_aload_n (q := 63) dI_P_divide_62 rfl rfl ?_
      refine px_getP (q := 66) (j := 5) dI_P_divide_63 wf_P_30 rfl (by decide) rfl rfl ?_
      refine px_aload_n (q := 67) dI_P_divide_66 rfl rfl ?_
      refine px_getP (q := 70) (j := 0) dI_P_divide_67 wf_P_11 rfl (by decide) rfl rfl ?_
      refine px_iload_n (q := 71) dI_P_divide_70 rfl rfl ?_
      refine px_aald (q := 72) dI_P_divide_71 (by omega) rfl ?_
      refine px_callV1 (q := 75) (ν := mV_run) dI_P_divide_72 (by decide) rfl rfl wl_P_113 wm_V_run wv_V_run wb_V_run wi_V ⟨rfl, rfl⟩ (by decide +kernel) ⟨(Nat.le_of_ble_eq_true rfl), (Nat.le_of_ble_eq_true rfl)⟩ (Nat.le_of_ble_eq_true rfl) rfl (c_V_run (d := da) (ln_J_r a ha) (by decide) (by omega) (by omega) hdv (by rw [xr_n (by omega)]; exact hda) (fun fq fr dq dr hfq hfr hvq hvr => ?_))
      rw [hva] at hvq hvr
      refine px_aload_n (q := 76) dI_P_divide_75 rfl rfl ?_
      refine px_getP (q := 79) (j := 5) dI_P_divide_76 wf_P_30 rfl (by decide) rfl rfl ?_
      refine px_aload_n (q := 80) dI_P_divide_79 rfl rfl ?_
      refine px_getP (q := 83) (j := 0) dI_P_divide_80 wf_P_11 rfl (by decide) rfl rfl ?_
      refine px_iload_n (q := 84) dI_P_divide_83 rfl rfl ?_
      refine px_aald (q := 85) dI_P_divide_84 (by omega) rfl ?_
      refine px_callV1 (q := 88) (ν := mV_copyQuotient) dI_P_divide_85 (by decide) rfl rfl wl_P_116 wm_V_copyQuotient wv_V_copyQuotient wb_V_copyQuotient wi_V ⟨rfl, rfl⟩ (by decide +kernel) ⟨(Nat.le_of_ble_eq_true rfl), (Nat.le_of_ble_eq_true rfl)⟩ (Nat.le_of_ble_eq_true rfl) rfl (c_V_copyQuotient (ln_J_r q hq) (fun f2 hf2 => ?_))
      rw [xr_n (by decide), xr_s] at hf2
      have hR : v a % v b < 4294967296 ^ s := Nat.lt_trans (Nat.mod_lt _ (Nat.pos_of_ne_zero h0)) (dv_lt hdv)
      refine px_aload_n (q := 89) dI_P_divide_88 rfl rfl ?_
      refine px_getP (q := 92) (j := 5) dI_P_divide_89 wf_P_30 rfl (by decide) rfl rfl ?_
      refine px_aload_n (q := 93) dI_P_divide_92 rfl rfl ?_
      refine px_getP (q := 96) (j := 0) dI_P_divide_93 wf_P_11 rfl (by decide) rfl rfl ?_
      refine px_iload (q := 98) dI_P_divide_96 rfl rfl ?_
      refine px_aald (q := 99) dI_P_divide_98 (by omega) rfl ?_
      refine px_callV1 (q := 102) (ν := mV_copyRemainder) dI_P_divide_99 (by decide) rfl rfl wl_P_119 wm_V_copyRemainder wv_V_copyRemainder wb_V_copyRemainder wi_V ⟨rfl, rfl⟩ (by decide +kernel) ⟨(Nat.le_of_ble_eq_true rfl), (Nat.le_of_ble_eq_true rfl)⟩ (Nat.le_of_ble_eq_true rfl) rfl (c_V_copyRemainder (r := dr) (ln_J_r r hr) (by omega) hdv.1 hdv.2.2.2.1 hdv.2.1 hdv.2.2.2.2.1 (by rw [xr_n (by omega), xr_s]; exact hfr) hvr hR (fun f3 d3 hd3 hv3 => ?_))
      refine px_vret dI_P_divide_102 rfl ?_
      have hql : vl_ dq 8 < 4294967296 ^ 4 := by
        rw [hvq]
        exact Nat.lt_of_le_of_lt (Nat.div_le_self _ _) hla
      have hq4 : vl_ dq 4 = v a / v b := by rw [← hvq]; exact (vl_cut (by decide) hql).1.symm
      refine hp _ _ (dk_s hd3 hv3 (dk_s (d := dq) (rw_congr (rw_mono hfq (by decide)) hf2 (fun _ _ => rfl)) hq4 (dk_x (by decide) (dk_x (by decide) (dk_x (by decide) hdk))))) (fr_y (by decide) (fr_x (by omega) (fr_x (by omega) (fr_x (by decide) (fr_x (by decide) (fr_x (by decide) fr_0))))))
    · exact absurd rfl b36
  · exact absurd b14 hqr
theorem c_P_multiplyResult {a s h D : Nat} {e dr df : Nat → Nat} (ha : ln_J a = some 4) (ha11 : a ≠ 11) (hdv : dv_ X Y s h D e) (hr : rw_ (X 8) 4 dr) (hf : rw_ (X a) 4 df) (hp : ∀ X' d, ag_ X X' → rw_ (X' 8) 4 d → vl_ d 4 = vl_ dr 4 * vl_ df 4 % D → Post none X' Y) : pw_Met l g mP_multiplyResult [.ref (ad_ g 0), .ref (ad_ g a)] X Y Post := by
  refine pw_ofW (by decide +kernel) rfl (Nat.le_of_ble_eq_true rfl) rfl (fun sz => ?_)
  refine px_aload_n (q := 1) dI_P_multiplyResult_0 rfl rfl ?_
  refine px_getP (q := 4) (j := 1) dI_P_multiplyResult_1 wf_P_14 rfl (by decide) rfl rfl ?_
  refine px_aload_n (q := 5) dI_P_multiplyResult_4 rfl rfl ?_
  refine px_aload_n (q := 6) dI_P_multiplyResult_5 rfl rfl ?_
  refine px_getP (q := 9) (j := 4) dI_P_multiplyResult_6 wf_P_24 rfl (by decide) rfl rfl ?_
  refine px_callS3 (q := 12) (ν := mU_product) dI_P_multiplyResult_9 wl_P_91 ws_U_product wb_U_product wi_U ⟨rfl, rfl⟩ (by decide +kernel) ⟨(Nat.le_of_ble_eq_true rfl), (Nat.le_of_ble_eq_true rfl)⟩ (Nat.le_of_ble_eq_true rfl) rfl (c_U_product (x := 8) (o := 11) rfl ha rfl (by decide) ha11 hr hf (fun fw dw hfw hvw => ?_))
  have hdv1 := dv_x (k := 11) (f := fw) (by decide) hdv
  refine px_aload_n (q := 13) dI_P_multiplyResult_12 rfl rfl ?_
  refine px_getP (q := 16) (j := 5) dI_P_multiplyResult_13 wf_P_30 rfl (by decide) rfl rfl ?_
  refine px_aload_n (q := 17) dI_P_multiplyResult_16 rfl rfl ?_
  refine px_getP (q := 20) (j := 4) dI_P_multiplyResult_17 wf_P_24 rfl (by decide) rfl rfl ?_
  refine px_callV1 (q := 23) (ν := mV_run) dI_P_multiplyResult_20 (by decide) rfl rfl wl_P_113 wm_V_run wv_V_run wb_V_run wi_V ⟨rfl, rfl⟩ (by decide +kernel) ⟨(Nat.le_of_ble_eq_true rfl), (Nat.le_of_ble_eq_true rfl)⟩ (Nat.le_of_ble_eq_true rfl) rfl (c_V_run (a := 11) (n := 8) (d := dw) rfl (by decide) (by decide) (by decide) hdv1 (by rw [xr_s]; exact hfw) (fun fq fr dq dre hfq hfr hvq hvr => ?_))
  rw [hvw] at hvr
  have hD0 : 0 < D := hdv.2.2.2.2.2.1
  have hR : vl_ dr 4 * vl_ df 4 % D < 4294967296 ^ s := Nat.lt_trans (Nat.mod_lt _ hD0) (dv_lt hdv)
  refine px_aload_n (q := 24) dI_P_multiplyResult_23 rfl rfl ?_
  refine px_getP (q := 27) (j := 5) dI_P_multiplyResult_24 wf_P_30 rfl (by decide) rfl rfl ?_
  refine px_aload_n (q := 28) dI_P_multiplyResult_27 rfl rfl ?_
  refine px_getP (q := 31) (j := 1) dI_P_multiplyResult_28 wf_P_14 rfl (by decide) rfl rfl ?_
  refine px_callV1 (q := 34) (ν := mV_copyRemainder) dI_P_multiplyResult_31 (by decide) rfl rfl wl_P_119 wm_V_copyRemainder wv_V_copyRemainder wb_V_copyRemainder wi_V ⟨rfl, rfl⟩ (by decide +kernel) ⟨(Nat.le_of_ble_eq_true rfl), (Nat.le_of_ble_eq_true rfl)⟩ (Nat.le_of_ble_eq_true rfl) rfl (c_V_copyRemainder (b := 8) (r := dre) rfl (by decide) hdv.1 hdv.2.2.2.1 hdv.2.1 hdv.2.2.2.2.1 (by rw [xr_s]; exact hfr) hvr hR (fun f3 d3 hd3 hv3 => ?_))
  refine px_vret dI_P_multiplyResult_34 rfl ?_
  refine hp _ d3 (fun k h1 h2 h3 h4 => ?_) (by rw [xr_s]; exact hd3) hv3
  rw [xr_n h1, xr_n h3, xr_n h4, xr_n h2]
theorem ag_t {X X1 X2 : pw_X} (h : ag_ X X1) (h2 : ag_ X1 X2) : ag_ X X2 := fun k a b c d => (h2 k a b c d).trans (h k a b c d)
theorem dv_a {X' : pw_X} {s h D : Nat} {e : Nat → Nat} (ha : ag_ X X') (hd : dv_ X Y s h D e) : dv_ X' Y s h D e := by
  obtain ⟨h1, h2, h3, h4, h5, h6, h7, h8⟩ := hd
  exact ⟨h1, h2, h3, h4, h5, h6, by rw [ha 13 (by decide) (by decide) (by decide) (by decide)]; exact h7, h8⟩
theorem pwm_ {a b D : Nat} : a % D * (b % D) % D = a * b % D := by rw [← Nat.mul_mod]
theorem c_P_raise {a b s h D : Nat} {e da db : Nat → Nat} (ha : ln_J a = some 4) (hb : ln_J b = some 4) (haa : a ≠ 8 ∧ a ≠ 11 ∧ a ≠ 14 ∧ a ≠ 15) (hbb : b ≠ 8 ∧ b ≠ 11 ∧ b ≠ 14 ∧ b ≠ 15) (hdv : dv_ X Y s h D e) (hda : rw_ (X a) 4 da) (hdb : rw_ (X b) 4 db) (hp : ∀ X' d, ag_ X X' → rw_ (X' 8) 4 d → vl_ d 4 = vl_ da 4 ^ vl_ db 4 % D → Post none X' Y) : pw_Met l g mP_raiseToRemainder [.ref (ad_ g 0), .ref (ad_ g a), .ref (ad_ g b)] X Y Post := by
  have hD0 : 0 < D := hdv.2.2.2.2.2.1
  refine pw_ofW (by decide +kernel) rfl (Nat.le_of_ble_eq_true rfl) rfl (fun sz => ?_)
  refine px_aload_n (q := 1) dI_P_raiseToRemainder_0 rfl rfl ?_
  refine px_getP (q := 4) (j := 1) dI_P_raiseToRemainder_1 wf_P_14 rfl (by decide) rfl rfl ?_
  refine px_lconst (q := 5) (v := lN 1) dI_P_raiseToRemainder_4 rfl rfl ?_
  refine px_callS2 (q := 8) (ν := mU_assign) dI_P_raiseToRemainder_5 wl_P_59 ws_U_assign wb_U_assign wi_U ⟨rfl, rfl⟩ (by decide +kernel) ⟨(Nat.le_of_ble_eq_true rfl), (Nat.le_of_ble_eq_true rfl)⟩ (Nat.le_of_ble_eq_true rfl) rfl (c_U_assign (a := 8) (k := 1) rfl (by decide) (fun f1 d1 hd1 hv1 => ?_))
  have hdv1 := dv_x (k := 8) (f := f1) (by decide) hdv
  refine px_aload_n (q := 9) dI_P_raiseToRemainder_8 rfl rfl ?_
  refine px_getP (q := 12) (j := 5) dI_P_raiseToRemainder_9 wf_P_30 rfl (by decide) rfl rfl ?_
  refine px_aload_n (q := 13) dI_P_raiseToRemainder_12 rfl rfl ?_
  refine px_getP (q := 16) (j := 1) dI_P_raiseToRemainder_13 wf_P_14 rfl (by decide) rfl rfl ?_
  refine px_callV1 (q := 19) (ν := mV_run) dI_P_raiseToRemainder_16 (by decide) rfl rfl wl_P_113 wm_V_run wv_V_run wb_V_run wi_V ⟨rfl, rfl⟩ (by decide +kernel) ⟨(Nat.le_of_ble_eq_true rfl), (Nat.le_of_ble_eq_true rfl)⟩ (Nat.le_of_ble_eq_true rfl) rfl (c_V_run (a := 8) (n := 4) (d := d1) rfl (by decide) (by decide) (by decide) hdv1 (by rw [xr_s]; exact hd1) (fun fq fr dq dre hfq hfr hvq hvr => ?_))
  rw [hv1] at hvr
  have hR : 1 % D < 4294967296 ^ s := Nat.lt_trans (Nat.mod_lt _ hD0) (dv_lt hdv)
  refine px_aload_n (q := 20) dI_P_raiseToRemainder_19 rfl rfl ?_
  refine px_getP (q := 23) (j := 5) dI_P_raiseToRemainder_20 wf_P_30 rfl (by decide) rfl rfl ?_
  refine px_aload_n (q := 24) dI_P_raiseToRemainder_23 rfl rfl ?_
  refine px_getP (q := 27) (j := 1) dI_P_raiseToRemainder_24 wf_P_14 rfl (by decide) rfl rfl ?_
  refine px_callV1 (q := 30) (ν := mV_copyRemainder) dI_P_raiseToRemainder_27 (by decide) rfl rfl wl_P_119 wm_V_copyRemainder wv_V_copyRemainder wb_V_copyRemainder wi_V ⟨rfl, rfl⟩ (by decide +kernel) ⟨(Nat.le_of_ble_eq_true rfl), (Nat.le_of_ble_eq_true rfl)⟩ (Nat.le_of_ble_eq_true rfl) rfl (c_V_copyRemainder (b := 8) (r := dre) rfl (by decide) hdv.1 hdv.2.2.2.1 hdv.2.1 hdv.2.2.2.2.1 (by rw [xr_s]; exact hfr) hvr hR (fun f3 d3 hd3 hv3 => ?_))
  have hag : ag_ X (xr_ (xr_ (xr_ (xr_ X 8 f1) 15 fq) 14 fr) 8 f3) := fun k h1 h2 h3 h4 => by rw [xr_n h1, xr_n h3, xr_n h4, xr_n h1]
  have h8 : (xr_ (xr_ (xr_ (xr_ X 8 f1) 15 fq) 14 fr) 8 f3) 8 = f3 := xr_s
  generalize xr_ (xr_ (xr_ (xr_ X 8 f1) 15 fq) 14 fr) 8 f3 = X1 at hag h8
  refine px_aload_n (q := 31) dI_P_raiseToRemainder_30 rfl rfl ?_
  refine px_callS1 (q := 34) (ν := mU_bitLength) dI_P_raiseToRemainder_31 wl_P_131 ws_U_bitLength wb_U_bitLength wi_U ⟨rfl, rfl⟩ (by decide +kernel) ⟨(Nat.le_of_ble_eq_true rfl), (Nat.le_of_ble_eq_true rfl)⟩ (Nat.le_of_ble_eq_true rfl) rfl (c_U_bitLength (d := db) hb (by rw [hag b hbb.1 hbb.2.1 hbb.2.2.1 hbb.2.2.2]; exact hdb) (fun T hT hT1 hT2 => ?_))
  have key : ∀ (K : Nat) (X2 : pw_X) (d : Nat → Nat), K ≤ 128 → ag_ X X2 → rw_ (X2 8) 4 d → vl_ d 4 = vl_ da 4 ^ (vl_ db 4 / 2 ^ K) % D → pw_W l g mP_raiseToRemainder sz (pw_qM g sz Post 0 0) 37 [(0, .ref (ad_ g 0)), (1, .ref (ad_ g a)), (2, .ref (ad_ g b)), (3, .int (mI K))] [] X2 Y := by
    intro K
    induction K with
    | zero =>
      intro X2 d hK hag2 hd hv
      rw [Nat.pow_zero, Nat.div_one] at hv
      refine px_iload_n (q := 38) dI_P_raiseToRemainder_37 rfl rfl ?_
      refine px_if_ltM (q := 41) (tgt := 68) dI_P_raiseToRemainder_38 (by omega) (by decide) rfl (fun b38 => ?_) (fun b38 => ?_)
      · refine px_vret dI_P_raiseToRemainder_68 rfl ?_
        exact hp X2 d hag2 hd hv
      · omega
    | succ K ih =>
      intro X2 d hK hag2 hd hv
      have hdvK : vl_ db 4 / 2 ^ K = vl_ db 4 / 2 ^ (K + 1) + vl_ db 4 / 2 ^ (K + 1) + vl_ db 4 / 2 ^ K % 2 := by
        rw [Nat.pow_succ, ← Nat.div_div_eq_div_mul]; omega
      rw [mI_s]
      refine px_iload_n (q := 38) dI_P_raiseToRemainder_37 rfl rfl ?_
      refine px_if_ltN (q := 41) (tgt := 68) dI_P_raiseToRemainder_38 (by omega) (by decide) rfl (fun b38 => ?_) (fun b38 => ?_)
      · exact b38.elim
      · refine px_aload_n (q := 42) dI_P_raiseToRemainder_41 rfl rfl ?_
        refine px_aload_n (q := 43) dI_P_raiseToRemainder_42 rfl rfl ?_
        refine px_getP (q := 46) (j := 1) dI_P_raiseToRemainder_43 wf_P_14 rfl (by decide) rfl rfl ?_
        refine px_callV1 (q := 49) (ν := mP_multiplyResult) dI_P_raiseToRemainder_46 (by decide) rfl rfl wl_P_185 wm_P_multiplyResult wv_P_multiplyResult wb_P_multiplyResult wi_P ⟨rfl, rfl⟩ (by decide +kernel) ⟨(Nat.le_of_ble_eq_true rfl), (Nat.le_of_ble_eq_true rfl)⟩ (Nat.le_of_ble_eq_true rfl) rfl (c_P_multiplyResult (a := 8) rfl (by decide) (dv_a hag2 hdv) hd hd (fun X3 d3 hag3 hd3 hv3 => ?_))
        have hag23 := ag_t hag2 hag3
        have hv4 : vl_ d3 4 = vl_ da 4 ^ (vl_ db 4 / 2 ^ (K + 1) + vl_ db 4 / 2 ^ (K + 1)) % D := by
          rw [hv3, hv, pwm_, ← Nat.pow_add]
        refine px_aload_n (q := 50) dI_P_raiseToRemainder_49 rfl rfl ?_
        refine px_iload_n (q := 51) dI_P_raiseToRemainder_50 rfl rfl ?_
        refine px_callS2 (q := 54) (ν := mU_hasBit) dI_P_raiseToRemainder_51 wl_P_188 ws_U_hasBit wb_U_hasBit wi_U ⟨rfl, rfl⟩ (by decide +kernel) ⟨(Nat.le_of_ble_eq_true rfl), (Nat.le_of_ble_eq_true rfl)⟩ (Nat.le_of_ble_eq_true rfl) rfl (c_U_hasBit (d := db) hb (by rw [hag23 b hbb.1 hbb.2.1 hbb.2.2.1 hbb.2.2.2]; exact hdb) (by omega) (fun z => ?_) (fun z => ?_))
        · refine px_if_eqN (q := 57) (tgt := 62) dI_P_raiseToRemainder_54 (by omega) (by decide) rfl (fun b54 => ?_) (fun b54 => ?_)
          · exact absurd b54 (by decide)
          · refine px_aload_n (q := 58) dI_P_raiseToRemainder_57 rfl rfl ?_
            refine px_aload_n (q := 59) dI_P_raiseToRemainder_58 rfl rfl ?_
            refine px_callV1 (q := 62) (ν := mP_multiplyResult) dI_P_raiseToRemainder_59 (by decide) rfl rfl wl_P_185 wm_P_multiplyResult wv_P_multiplyResult wb_P_multiplyResult wi_P ⟨rfl, rfl⟩ (by decide +kernel) ⟨(Nat.le_of_ble_eq_true rfl), (Nat.le_of_ble_eq_true rfl)⟩ (Nat.le_of_ble_eq_true rfl) rfl (c_P_multiplyResult (df := da) ha haa.2.1 (dv_a hag23 hdv) hd3 (by rw [hag23 a haa.1 haa.2.1 haa.2.2.1 haa.2.2.2]; exact hda) (fun X5 d5 hag5 hd5 hv5 => ?_))
            refine px_iinc (q := 65) dI_P_raiseToRemainder_62 rfl (ic_m _) (by decide) rfl rfl ?_
            refine px_goto (tgt := 37) dI_P_raiseToRemainder_65 (by decide) ?_
            refine ih X5 d5 (by omega) (ag_t hag23 hag5) hd5 ?_
            rw [hv5, hv4, hdvK, z, Nat.mod_mul_mod, ← Nat.pow_succ]
        · refine px_if_eqN (q := 57) (tgt := 62) dI_P_raiseToRemainder_54 (by omega) (by decide) rfl (fun b54 => ?_) (fun b54 => ?_)
          · refine px_iinc (q := 65) dI_P_raiseToRemainder_62 rfl (ic_m _) (by decide) rfl rfl ?_
            refine px_goto (tgt := 37) dI_P_raiseToRemainder_65 (by decide) ?_
            refine ih X3 d3 (by omega) hag23 hd3 ?_
            rw [z, Nat.add_zero] at hdvK
            rw [hv4, hdvK]
          · exact absurd rfl b54
  have hd8 : rw_ (X1 8) 4 d3 := by rw [h8]; exact hd3
  by_cases hT0 : T = 0
  · subst hT0
    refine px_iconst (q := 35) (v := nI 1) dI_P_raiseToRemainder_34 (by decide +kernel) rfl ?_
    refine px_isub (q := 36) dI_P_raiseToRemainder_35 rfl ?_
    refine px_istore_n (q := 37) dI_P_raiseToRemainder_36 rfl (by decide) rfl rfl ?_
    have hz : vl_ db 4 = 0 := by
      rw [Nat.pow_zero] at hT1; omega
    have hst := key 0 X1 d3 (by omega) hag hd8 (by rw [hz, hv3, Nat.zero_div, Nat.pow_zero])
    exact hst
  · refine px_iconst (q := 35) (v := nI 1) dI_P_raiseToRemainder_34 (by decide +kernel) rfl ?_
    refine px_isubN (q := 36) dI_P_raiseToRemainder_35 (by omega) rfl ?_
    refine px_istore_n (q := 37) dI_P_raiseToRemainder_36 rfl (by decide) rfl rfl ?_
    have hst := key T X1 d3 (by omega) hag hd8 (by rw [Nat.div_eq_of_lt hT1, hv3, Nat.pow_zero])
    rw [mI_p (by omega)] at hst
    exact hst
end CP2
