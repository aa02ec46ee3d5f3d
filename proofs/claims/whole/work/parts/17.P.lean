/-! the desk's own methods where they return -/
section CP
variable {l : Launch} {g : pw_G} {X : pw_X} {Y : pw_Y} {Post : pw_P} {v : Nat → Nat}
theorem c_P_check {a : Nat} (ha : a < 6) (hp : Post none X Y) : pw_Met l g mP_checkRegister [.int (nI a)] X Y Post := by
  refine pw_ofW (by decide +kernel) rfl (Nat.le_of_ble_eq_true rfl) rfl (fun sz => ?_)
  refine px_iload_n (q := 1) dI_P_checkRegister_0 rfl rfl ?_
  refine px_if_ltN (q := 4) (tgt := 10) dI_P_checkRegister_1 (by omega) (by decide) rfl (fun b1 => ?_) (fun b1 => ?_)
  · exact b1.elim
  · refine px_iload_n (q := 5) dI_P_checkRegister_4 rfl rfl ?_
    refine px_bipush (q := 7) (v := nI 6) dI_P_checkRegister_5 (by decide +kernel) rfl ?_
    refine px_icmp_ltN (q := 10) (tgt := 20) dI_P_checkRegister_7 (by omega) (by omega) (by decide) rfl (fun b7 => ?_) (fun b7 => ?_)
    · refine px_vret dI_P_checkRegister_20 rfl ?_
      exact hp
    · omega
theorem c_P_checks {a b c : Nat} (ha : a < 6) (hb : b < 6) (hc : c < 6) (hp : Post none X Y) : pw_Met l g mP_checkRegisters [.int (nI a), .int (nI b), .int (nI c)] X Y Post := by
  refine pw_ofW (by decide +kernel) rfl (Nat.le_of_ble_eq_true rfl) rfl (fun sz => ?_)
  refine px_iload_n (q := 1) dI_P_checkRegisters_0 rfl rfl ?_
  refine px_callS1 (q := 4) (ν := mP_checkRegister) dI_P_checkRegisters_1 wl_P_48 ws_P_checkRegister wb_P_checkRegister wi_P ⟨rfl, rfl⟩ (by decide +kernel) ⟨(Nat.le_of_ble_eq_true rfl), (Nat.le_of_ble_eq_true rfl)⟩ (Nat.le_of_ble_eq_true rfl) rfl (c_P_check ha ?_)
  refine px_iload_n (q := 5) dI_P_checkRegisters_4 rfl rfl ?_
  refine px_callS1 (q := 8) (ν := mP_checkRegister) dI_P_checkRegisters_5 wl_P_48 ws_P_checkRegister wb_P_checkRegister wi_P ⟨rfl, rfl⟩ (by decide +kernel) ⟨(Nat.le_of_ble_eq_true rfl), (Nat.le_of_ble_eq_true rfl)⟩ (Nat.le_of_ble_eq_true rfl) rfl (c_P_check hb ?_)
  refine px_iload_n (q := 9) dI_P_checkRegisters_8 rfl rfl ?_
  refine px_callS1 (q := 12) (ν := mP_checkRegister) dI_P_checkRegisters_9 wl_P_48 ws_P_checkRegister wb_P_checkRegister wi_P ⟨rfl, rfl⟩ (by decide +kernel) ⟨(Nat.le_of_ble_eq_true rfl), (Nat.le_of_ble_eq_true rfl)⟩ (Nat.le_of_ble_eq_true rfl) rfl (c_P_check hc ?_)
  refine px_vret dI_P_checkRegisters_12 rfl ?_
  exact hp
theorem c_P_put {t k : Nat} (ht : t < 6) (hk : k < 9223372036854775808) (hdk : dk_ X v) (hp : ∀ X', dk_ X' (va_up v t k) → fr_ X Y X' Y → Post none X' Y) : pw_Met l g mP_put [.ref (ad_ g 0), .int (nI t), .long (lN k)] X Y Post := by
  refine pw_ofW (by decide +kernel) rfl (Nat.le_of_ble_eq_true rfl) rfl (fun sz => ?_)
  refine px_iload_n (q := 1) dI_P_put_0 rfl rfl ?_
  refine px_callS1 (q := 4) (ν := mP_checkRegister) dI_P_put_1 wl_P_48 ws_P_checkRegister wb_P_checkRegister wi_P ⟨rfl, rfl⟩ (by decide +kernel) ⟨(Nat.le_of_ble_eq_true rfl), (Nat.le_of_ble_eq_true rfl)⟩ (Nat.le_of_ble_eq_true rfl) rfl (c_P_check ht ?_)
  refine px_lload_n (q := 5) dI_P_put_4 rfl rfl ?_
  refine px_lconst (q := 6) (v := lN 0) dI_P_put_5 rfl rfl ?_
  refine px_lcmp (q := 7) dI_P_put_6 rfl ?_
  refine px_if_geC (q := 10) (tgt := 20) dI_P_put_7 (by omega) (by omega) (by decide) rfl (fun b7 => ?_) (fun b7 => ?_)
  · refine px_aload_n (q := 21) dI_P_put_20 rfl rfl ?_
    refine px_getP (q := 24) (j := 0) dI_P_put_21 wf_P_11 rfl (by decide) rfl rfl ?_
    refine px_iload_n (q := 25) dI_P_put_24 rfl rfl ?_
    refine px_aald (q := 26) dI_P_put_25 (by omega) rfl ?_
    refine px_lload_n (q := 27) dI_P_put_26 rfl rfl ?_
    refine px_callS2 (q := 30) (ν := mU_assign) dI_P_put_27 wl_P_59 ws_U_assign wb_U_assign wi_U ⟨rfl, rfl⟩ (by decide +kernel) ⟨(Nat.le_of_ble_eq_true rfl), (Nat.le_of_ble_eq_true rfl)⟩ (Nat.le_of_ble_eq_true rfl) rfl (c_U_assign (ln_J_r t ht) hk (fun f d hd hv => ?_))
    refine px_vret dI_P_put_30 rfl ?_
    exact hp _ (dk_s hd hv hdk) (fr_x (by omega) fr_0)
  · omega
theorem c_P_append {t u : Nat} (ht : t < 6) (hu : u < 4294967296) (hv : v t < 4294967296 ^ 3) (hdk : dk_ X v) (hp : ∀ X', dk_ X' (va_up v t (v t * 4294967296 + u)) → fr_ X Y X' Y → Post none X' Y) : pw_Met l g mP_append [.ref (ad_ g 0), .int (nI t), .int (nI u)] X Y Post := by
  obtain ⟨d, hd, hdv⟩ := hdk t ht
  have hc := vl_cut (d := d) (n := 4) (m := 3) (by decide) (by rw [hdv]; exact hv)
  have h3 := hd 3 (by decide)
  rw [hc.2 3 (by decide) (by decide)] at h3
  refine pw_ofW (by decide +kernel) rfl (Nat.le_of_ble_eq_true rfl) rfl (fun sz => ?_)
  refine px_iload_n (q := 1) dI_P_append_0 rfl rfl ?_
  refine px_callS1 (q := 4) (ν := mP_checkRegister) dI_P_append_1 wl_P_48 ws_P_checkRegister wb_P_checkRegister wi_P ⟨rfl, rfl⟩ (by decide +kernel) ⟨(Nat.le_of_ble_eq_true rfl), (Nat.le_of_ble_eq_true rfl)⟩ (Nat.le_of_ble_eq_true rfl) rfl (c_P_check ht ?_)
  refine px_aload_n (q := 5) dI_P_append_4 rfl rfl ?_
  refine px_getP (q := 8) (j := 0) dI_P_append_5 wf_P_11 rfl (by decide) rfl rfl ?_
  refine px_iload_n (q := 9) dI_P_append_8 rfl rfl ?_
  refine px_aald (q := 10) dI_P_append_9 (by omega) rfl ?_
  refine px_astore_n (q := 11) dI_P_append_10 rfl (by decide) rfl rfl ?_
  refine px_aload_n (q := 12) dI_P_append_11 rfl rfl ?_
  refine px_iconst (q := 13) (v := nI 3) dI_P_append_12 (by decide +kernel) rfl ?_
  refine px_lald (q := 14) dI_P_append_13 (ln_J_r t ht) (by omega) (by omega) h3.1 rfl ?_
  refine px_lconst (q := 15) (v := lN 0) dI_P_append_14 rfl rfl ?_
  refine px_lcmp (q := 16) dI_P_append_15 rfl ?_
  refine px_if_eqC (q := 19) (tgt := 29) dI_P_append_16 (by omega) (by omega) (by decide) rfl (fun b16 => ?_) (fun b16 => ?_)
  · refine px_iconst (q := 30) (v := nI 3) dI_P_append_29 (by decide +kernel) rfl ?_
    refine px_istore (q := 32) dI_P_append_30 (by decide) rfl rfl ?_
    have key : ∀ (i : Nat) (f : Nat → Int64), i ≤ 3 → (∀ j, j ≤ i → f j = X (2 + t) j) → (∀ j, i < j → j ≤ 3 → f j = X (2 + t) (j - 1)) → pw_W l g mP_append sz (pw_qM g sz Post 0 0) 32 [(0, .ref (ad_ g 0)), (1, .int (nI t)), (2, .int (nI u)), (3, .ref (ad_ g (2 + t))), (4, .int (nI i))] [] (xr_ X (2 + t) f) Y := by
      intro i
      induction i with
      | zero =>
        intro f hi h1 h2
        refine px_iload (q := 34) dI_P_append_32 rfl rfl ?_
        refine px_if_leN (q := 37) (tgt := 53) dI_P_append_34 (by omega) (by decide) rfl (fun b34 => ?_) (fun b34 => ?_)
        · refine px_aload_n (q := 54) dI_P_append_53 rfl rfl ?_
          refine px_iconst (q := 55) (v := nI 0) dI_P_append_54 (by decide +kernel) rfl ?_
          refine px_iload_n (q := 56) dI_P_append_55 rfl rfl ?_
          refine px_i2l (q := 57) dI_P_append_56 rfl rfl ?_
          refine px_ldc2 (q := 60) (v2 := lN 4294967295) dI_P_append_57 wk_P_70 (by decide +kernel) rfl ?_
          refine px_land (q := 61) dI_P_append_60 rfl ?_
          refine px_tl (il_ hu) ?_
          refine px_last (q := 62) dI_P_append_61 (ln_J_r t ht) (by omega) (by omega) rfl ?_
          refine px_vret dI_P_append_62 rfl ?_
          rw [xr_s, xr_xr]
          refine hp _ (dk_s (d := fun j => if j = 0 then u else d (j - 1)) (fun j hj => ?_) ?_ hdk) (fr_x (by omega) fr_0)
          · by_cases e : j = 0
            · subst e; rw [pk_uLs]; exact ⟨rfl, hu⟩
            · rw [pk_uLn e, h2 j (by omega) (by omega)]
              simp only [if_neg e]
              exact hd (j - 1) (by omega)
          · rw [← hdv, hc.1]
            show 0 + u * 4294967296 ^ 0 + d 0 * 4294967296 ^ 1 + d 1 * 4294967296 ^ 2 + d 2 * 4294967296 ^ 3 = (0 + d 0 * 4294967296 ^ 0 + d 1 * 4294967296 ^ 1 + d 2 * 4294967296 ^ 2) * 4294967296 + u
            omega
        · omega
      | succ i ih =>
        intro f hi h1 h2
        refine px_iload (q := 34) dI_P_append_32 rfl rfl ?_
        refine px_if_leN (q := 37) (tgt := 53) dI_P_append_34 (by omega) (by decide) rfl (fun b34 => ?_) (fun b34 => ?_)
        · omega
        · refine px_aload_n (q := 38) dI_P_append_37 rfl rfl ?_
          refine px_iload (q := 40) dI_P_append_38 rfl rfl ?_
          refine px_aload_n (q := 41) dI_P_append_40 rfl rfl ?_
          refine px_iload (q := 43) dI_P_append_41 rfl rfl ?_
          refine px_iconst (q := 44) (v := nI 1) dI_P_append_43 (by decide +kernel) rfl ?_
          refine px_isubN (q := 45) dI_P_append_44 (by omega) rfl ?_
          refine px_lald (q := 46) dI_P_append_45 (ln_J_r t ht) (by omega) (by omega) (xs_ rfl) rfl ?_
          refine px_last (q := 47) dI_P_append_46 (ln_J_r t ht) (by omega) (by omega) rfl ?_
          refine px_iinc (q := 50) dI_P_append_47 rfl (ic_d (by omega)) (by decide) rfl rfl ?_
          refine px_goto (tgt := 32) dI_P_append_50 (by decide) ?_
          rw [xr_s, xr_xr]
          refine ih _ (by omega) (fun j h4 => ?_) (fun j h4 h5 => ?_)
          · rw [pk_uLn (by omega)]; exact h1 j (by omega)
          · by_cases e : j = i + 1
            · subst e; rw [pk_uLs]; exact h1 i (by omega)
            · rw [pk_uLn e]; exact h2 j (by omega) h5
    exact px_XY xr_id.symm rfl (key 3 (X (2 + t)) (by omega) (fun _ _ => rfl) (fun j h4 h5 => absurd h4 (by omega)))
  · exact absurd rfl b16
theorem c_P_add {a b t : Nat} (ha : a < 6) (hb : b < 6) (ht : t < 6) (hs : v a + v b < 4294967296 ^ 4) (hdk : dk_ X v) (hp : ∀ X', dk_ X' (va_up v t (v a + v b)) → fr_ X Y X' Y → Post none X' Y) : pw_Met l g mP_add [.ref (ad_ g 0), .int (nI a), .int (nI b), .int (nI t)] X Y Post := by
  obtain ⟨da, hda, hva⟩ := hdk a ha
  obtain ⟨db, hdb, hvb⟩ := hdk b hb
  refine pw_ofW (by decide +kernel) rfl (Nat.le_of_ble_eq_true rfl) rfl (fun sz => ?_)
  refine px_iload_n (q := 1) dI_P_add_0 rfl rfl ?_
  refine px_iload_n (q := 2) dI_P_add_1 rfl rfl ?_
  refine px_iload_n (q := 3) dI_P_add_2 rfl rfl ?_
  refine px_callS3 (q := 6) (ν := mP_checkRegisters) dI_P_add_3 wl_P_72 ws_P_checkRegisters wb_P_checkRegisters wi_P ⟨rfl, rfl⟩ (by decide +kernel) ⟨(Nat.le_of_ble_eq_true rfl), (Nat.le_of_ble_eq_true rfl)⟩ (Nat.le_of_ble_eq_true rfl) rfl (c_P_checks ha hb ht ?_)
  refine px_aload_n (q := 7) dI_P_add_6 rfl rfl ?_
  refine px_getP (q := 10) (j := 0) dI_P_add_7 wf_P_11 rfl (by decide) rfl rfl ?_
  refine px_iload_n (q := 11) dI_P_add_10 rfl rfl ?_
  refine px_aald (q := 12) dI_P_add_11 (by omega) rfl ?_
  refine px_aload_n (q := 13) dI_P_add_12 rfl rfl ?_
  refine px_getP (q := 16) (j := 0) dI_P_add_13 wf_P_11 rfl (by decide) rfl rfl ?_
  refine px_iload_n (q := 17) dI_P_add_16 rfl rfl ?_
  refine px_aald (q := 18) dI_P_add_17 (by omega) rfl ?_
  refine px_aload_n (q := 19) dI_P_add_18 rfl rfl ?_
  refine px_getP (q := 22) (j := 1) dI_P_add_19 wf_P_14 rfl (by decide) rfl rfl ?_
  refine px_callS3 (q := 25) (ν := mU_sum) dI_P_add_22 wl_P_76 ws_U_sum wb_U_sum wi_U ⟨rfl, rfl⟩ (by decide +kernel) ⟨(Nat.le_of_ble_eq_true rfl), (Nat.le_of_ble_eq_true rfl)⟩ (Nat.le_of_ble_eq_true rfl) rfl (c_U_sum (o := 8) (ln_J_r a ha) (ln_J_r b hb) rfl (by omega) (by omega) hda hdb (fun f d c hd hc hv => ?_))
  rw [hva, hvb] at hv
  obtain ⟨hc0, hvs⟩ := c0_ hv hs
  clear hv hs
  subst hc0
  refine px_lconst (q := 26) (v := lN 0) dI_P_add_25 rfl rfl ?_
  refine px_lcmp (q := 27) dI_P_add_26 rfl ?_
  refine px_if_eqC (q := 30) (tgt := 40) dI_P_add_27 (by omega) (by omega) (by decide) rfl (fun b27 => ?_) (fun b27 => ?_)
  · refine px_aload_n (q := 41) dI_P_add_40 rfl rfl ?_
    refine px_getP (q := 44) (j := 1) dI_P_add_41 wf_P_14 rfl (by decide) rfl rfl ?_
    refine px_aload_n (q := 45) dI_P_add_44 rfl rfl ?_
    refine px_getP (q := 48) (j := 0) dI_P_add_45 wf_P_11 rfl (by decide) rfl rfl ?_
    refine px_iload_n (q := 49) dI_P_add_48 rfl rfl ?_
    refine px_aald (q := 50) dI_P_add_49 (by omega) rfl ?_
    refine px_callS2 (q := 53) (ν := mU_copy) dI_P_add_50 wl_P_82 ws_U_copy wb_U_copy wi_U ⟨rfl, rfl⟩ (by decide +kernel) ⟨(Nat.le_of_ble_eq_true rfl), (Nat.le_of_ble_eq_true rfl)⟩ (Nat.le_of_ble_eq_true rfl) rfl (c_U_copy (a := 8) (n := 4) rfl (ln_J_r t ht) (by decide) (fun f2 hf2 => ?_))
    refine px_vret dI_P_add_53 rfl ?_
    rw [xr_s] at hf2
    exact hp _ (dk_s (d := d) (rw_congr hd hf2 (fun _ _ => rfl)) hvs (dk_x (by decide) hdk)) (fr_x (by omega) (fr_x (by decide) fr_0))
  · exact absurd rfl b27
theorem c_P_subtract {a b t : Nat} (ha : a < 6) (hb : b < 6) (ht : t < 6) (hs : v b ≤ v a) (hdk : dk_ X v) (hp : ∀ X', dk_ X' (va_up v t (v a - v b)) → fr_ X Y X' Y → Post none X' Y) : pw_Met l g mP_subtract [.ref (ad_ g 0), .int (nI a), .int (nI b), .int (nI t)] X Y Post := by
  obtain ⟨da, hda, hva⟩ := hdk a ha
  obtain ⟨db, hdb, hvb⟩ := hdk b hb
  have hla := dk_lt hdk ha
  refine pw_ofW (by decide +kernel) rfl (Nat.le_of_ble_eq_true rfl) rfl (fun sz => ?_)
  refine px_iload_n (q := 1) dI_P_subtract_0 rfl rfl ?_
  refine px_iload_n (q := 2) dI_P_subtract_1 rfl rfl ?_
  refine px_iload_n (q := 3) dI_P_subtract_2 rfl rfl ?_
  refine px_callS3 (q := 6) (ν := mP_checkRegisters) dI_P_subtract_3 wl_P_72 ws_P_checkRegisters wb_P_checkRegisters wi_P ⟨rfl, rfl⟩ (by decide +kernel) ⟨(Nat.le_of_ble_eq_true rfl), (Nat.le_of_ble_eq_true rfl)⟩ (Nat.le_of_ble_eq_true rfl) rfl (c_P_checks ha hb ht ?_)
  refine px_aload_n (q := 7) dI_P_subtract_6 rfl rfl ?_
  refine px_getP (q := 10) (j := 0) dI_P_subtract_7 wf_P_11 rfl (by decide) rfl rfl ?_
  refine px_iload_n (q := 11) dI_P_subtract_10 rfl rfl ?_
  refine px_aald (q := 12) dI_P_subtract_11 (by omega) rfl ?_
  refine px_aload_n (q := 13) dI_P_subtract_12 rfl rfl ?_
  refine px_getP (q := 16) (j := 0) dI_P_subtract_13 wf_P_11 rfl (by decide) rfl rfl ?_
  refine px_iload_n (q := 17) dI_P_subtract_16 rfl rfl ?_
  refine px_aald (q := 18) dI_P_subtract_17 (by omega) rfl ?_
  refine px_aload_n (q := 19) dI_P_subtract_18 rfl rfl ?_
  refine px_getP (q := 22) (j := 1) dI_P_subtract_19 wf_P_14 rfl (by decide) rfl rfl ?_
  refine px_callS3 (q := 25) (ν := mU_difference) dI_P_subtract_22 wl_P_86 ws_U_difference wb_U_difference wi_U ⟨rfl, rfl⟩ (by decide +kernel) ⟨(Nat.le_of_ble_eq_true rfl), (Nat.le_of_ble_eq_true rfl)⟩ (Nat.le_of_ble_eq_true rfl) rfl (c_U_difference (o := 8) (ln_J_r a ha) (ln_J_r b hb) rfl (by omega) (by omega) hda hdb (fun f d c hd hc hv => ?_))
  rw [hva, hvb] at hv
  obtain ⟨hc0, hvs⟩ := c0s_ hv hs (rw_lt hd)
  clear hv hla
  subst hc0
  refine px_lconst (q := 26) (v := lN 0) dI_P_subtract_25 rfl rfl ?_
  refine px_lcmp (q := 27) dI_P_subtract_26 rfl ?_
  refine px_if_eqC (q := 30) (tgt := 40) dI_P_subtract_27 (by omega) (by omega) (by decide) rfl (fun b27 => ?_) (fun b27 => ?_)
  · refine px_aload_n (q := 41) dI_P_subtract_40 rfl rfl ?_
    refine px_getP (q := 44) (j := 1) dI_P_subtract_41 wf_P_14 rfl (by decide) rfl rfl ?_
    refine px_aload_n (q := 45) dI_P_subtract_44 rfl rfl ?_
    refine px_getP (q := 48) (j := 0) dI_P_subtract_45 wf_P_11 rfl (by decide) rfl rfl ?_
    refine px_iload_n (q := 49) dI_P_subtract_48 rfl rfl ?_
    refine px_aald (q := 50) dI_P_subtract_49 (by omega) rfl ?_
    refine px_callS2 (q := 53) (ν := mU_copy) dI_P_subtract_50 wl_P_82 ws_U_copy wb_U_copy wi_U ⟨rfl, rfl⟩ (by decide +kernel) ⟨(Nat.le_of_ble_eq_true rfl), (Nat.le_of_ble_eq_true rfl)⟩ (Nat.le_of_ble_eq_true rfl) rfl (c_U_copy (a := 8) (n := 4) rfl (ln_J_r t ht) (by decide) (fun f2 hf2 => ?_))
    refine px_vret dI_P_subtract_53 rfl ?_
    rw [xr_s] at hf2
    exact hp _ (dk_s (d := d) (rw_congr hd hf2 (fun _ _ => rfl)) hvs (dk_x (by decide) hdk)) (fr_x (by omega) (fr_x (by decide) fr_0))
  · exact absurd rfl b27
theorem c_P_multiply {a b t : Nat} (ha : a < 6) (hb : b < 6) (ht : t < 6) (hs : v a * v b < 4294967296 ^ 4) (hdk : dk_ X v) (hp : ∀ X', dk_ X' (va_up v t (v a * v b)) → fr_ X Y X' Y → Post none X' Y) : pw_Met l g mP_multiply [.ref (ad_ g 0), .int (nI a), .int (nI b), .int (nI t)] X Y Post := by
  obtain ⟨da, hda, hva⟩ := hdk a ha
  obtain ⟨db, hdb, hvb⟩ := hdk b hb
  refine pw_ofW (by decide +kernel) rfl (Nat.le_of_ble_eq_true rfl) rfl (fun sz => ?_)
  refine px_iload_n (q := 1) dI_P_multiply_0 rfl rfl ?_
  refine px_iload_n (q := 2) dI_P_multiply_1 rfl rfl ?_
  refine px_iload_n (q := 3) dI_P_multiply_2 rfl rfl ?_
  refine px_callS3 (q := 6) (ν := mP_checkRegisters) dI_P_multiply_3 wl_P_72 ws_P_checkRegisters wb_P_checkRegisters wi_P ⟨rfl, rfl⟩ (by decide +kernel) ⟨(Nat.le_of_ble_eq_true rfl), (Nat.le_of_ble_eq_true rfl)⟩ (Nat.le_of_ble_eq_true rfl) rfl (c_P_checks ha hb ht ?_)
  refine px_aload_n (q := 7) dI_P_multiply_6 rfl rfl ?_
  refine px_getP (q := 10) (j := 0) dI_P_multiply_7 wf_P_11 rfl (by decide) rfl rfl ?_
  refine px_iload_n (q := 11) dI_P_multiply_10 rfl rfl ?_
  refine px_aald (q := 12) dI_P_multiply_11 (by omega) rfl ?_
  refine px_aload_n (q := 13) dI_P_multiply_12 rfl rfl ?_
  refine px_getP (q := 16) (j := 0) dI_P_multiply_13 wf_P_11 rfl (by decide) rfl rfl ?_
  refine px_iload_n (q := 17) dI_P_multiply_16 rfl rfl ?_
  refine px_aald (q := 18) dI_P_multiply_17 (by omega) rfl ?_
  refine px_aload_n (q := 19) dI_P_multiply_18 rfl rfl ?_
  refine px_getP (q := 22) (j := 4) dI_P_multiply_19 wf_P_24 rfl (by decide) rfl rfl ?_
  refine px_callS3 (q := 25) (ν := mU_product) dI_P_multiply_22 wl_P_91 ws_U_product wb_U_product wi_U ⟨rfl, rfl⟩ (by decide +kernel) ⟨(Nat.le_of_ble_eq_true rfl), (Nat.le_of_ble_eq_true rfl)⟩ (Nat.le_of_ble_eq_true rfl) rfl (c_U_product (o := 11) (ln_J_r a ha) (ln_J_r b hb) rfl (by omega) (by omega) hda hdb (fun f d hd hv => ?_))
  rw [hva, hvb] at hv
  refine px_aload_n (q := 26) dI_P_multiply_25 rfl rfl ?_
  refine px_getP (q := 29) (j := 4) dI_P_multiply_26 wf_P_24 rfl (by decide) rfl rfl ?_
  refine px_callS1 (q := 32) (ν := mU_length) dI_P_multiply_29 wl_P_95 ws_U_length wb_U_length wi_U ⟨rfl, rfl⟩ (by decide +kernel) ⟨(Nat.le_of_ble_eq_true rfl), (Nat.le_of_ble_eq_true rfl)⟩ (Nat.le_of_ble_eq_true rfl) rfl (c_U_length (a := 11) (n := 8) rfl (by rw [xr_s]; exact hd) (fun L hL hLv hLd hz => ?_))
  refine px_iconst (q := 33) (v := nI 4) dI_P_multiply_32 (by decide +kernel) rfl ?_
  refine px_icmp_leN (q := 36) (tgt := 46) dI_P_multiply_33 (by omega) (by omega) (by decide) rfl (fun b33 => ?_) (fun b33 => ?_)
  · refine px_aload_n (q := 47) dI_P_multiply_46 rfl rfl ?_
    refine px_getP (q := 50) (j := 4) dI_P_multiply_47 wf_P_24 rfl (by decide) rfl rfl ?_
    refine px_aload_n (q := 51) dI_P_multiply_50 rfl rfl ?_
    refine px_getP (q := 54) (j := 0) dI_P_multiply_51 wf_P_11 rfl (by decide) rfl rfl ?_
    refine px_iload_n (q := 55) dI_P_multiply_54 rfl rfl ?_
    refine px_aald (q := 56) dI_P_multiply_55 (by omega) rfl ?_
    refine px_callS2 (q := 59) (ν := mU_copy) dI_P_multiply_56 wl_P_82 ws_U_copy wb_U_copy wi_U ⟨rfl, rfl⟩ (by decide +kernel) ⟨(Nat.le_of_ble_eq_true rfl), (Nat.le_of_ble_eq_true rfl)⟩ (Nat.le_of_ble_eq_true rfl) rfl (c_U_copy (a := 11) (n := 8) rfl (ln_J_r t ht) (by decide) (fun f2 hf2 => ?_))
    refine px_vret dI_P_multiply_59 rfl ?_
    rw [xr_s] at hf2
    refine hp _ (dk_s (d := d) (rw_congr (rw_mono hd (by decide)) hf2 (fun _ _ => rfl)) ?_ (dk_x (by decide) hdk)) (fr_x (by omega) (fr_x (by decide) fr_0))
    rw [← (vl_cut (d := d) (n := 8) (m := 4) (by decide) (by rw [hv]; exact hs)).1, hv]
  · exfalso
    have h2 := vl_ge (n := L) (L := L - 1) (by omega) (hLd (by omega))
    have h3 : 4294967296 ^ 4 ≤ 4294967296 ^ (L - 1) := Nat.pow_le_pow_right (by decide) (by omega)
    rw [← hLv, hv] at h2
    exact absurd hs (Nat.not_lt.mpr (Nat.le_trans h3 h2))
end CP
