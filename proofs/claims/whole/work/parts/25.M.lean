/-! the reference's calls add .. gcd where the registers are good -/
section CM5
variable {l : Launch} {g : pw_G} {X : pw_X} {Y : pw_Y} {Post : pw_P} {v : Nat → Nat}
theorem p129 : 2 ^ 129 = 2 * 2 ^ 128 := by decide
theorem c_M_add {a b t : Nat} (ha : a < 6) (hb : b < 6) (ht : t < 6) (hm : mz_ Y v) (h2 : 2 ^ 128 ≤ v a + v b → ∀ Y', mz_ Y' v → mf_ Y Y' → Y' 23 3 = nI 2 → Post none X Y') (h0 : v a + v b < 2 ^ 128 → ∀ Y', mz_ Y' (va_up v t (v a + v b)) → mf_ Y Y' → Y' 23 3 = nI 0 → Post none X Y') : pw_Met l g mM_add [.ref (ad_ g 23), .int (nI a), .int (nI b), .int (nI t)] X Y Post := by
  refine pw_ofW (by decide +kernel) rfl (Nat.le_of_ble_eq_true rfl) rfl (fun sz => ?_)
  have k35 : ∀ f0 : Nat → Int32, f0 3 = nI 0 → pw_W l g mM_add sz (pw_qM g sz Post 0 0) 35 [(0, .ref (ad_ g 23)), (1, .int (nI a)), (2, .int (nI b)), (3, .int (nI t))] [] X (yr_ Y 23 f0) := by
    intro f0 hf0
    obtain ⟨hrg, W, hwk⟩ := mz_c (f := f0) hm
    have hm1 : mz_ (yr_ Y 23 f0) v := ⟨hrg, W, hwk⟩
    generalize hY1 : yr_ Y 23 f0 = Y1 at hrg hwk hm1
    have hmf1 : mf_ Y Y1 := by rw [← hY1]; exact mf_y (by decide) mf_0
    have hcode : Y1 23 3 = nI 0 := by rw [← hY1, yr_s]; exact hf0
    refine px_aload_n (q := 36) dI_M_add_35 rfl rfl ?_
    refine px_iconst (q := 37) (v := nI 0) dI_M_add_36 (by decide +kernel) rfl ?_
    refine px_iload_n (q := 38) dI_M_add_37 rfl rfl ?_
    refine px_callV2 (q := 41) (ν := mM_load) dI_M_add_38 (by decide) rfl rfl wl_M_31 wm_M_load wv_M_load wb_M_load wi_M ⟨rfl, rfl⟩ (by decide +kernel) ⟨(Nat.le_of_ble_eq_true rfl), (Nat.le_of_ble_eq_true rfl)⟩ (Nat.le_of_ble_eq_true rfl) rfl (c_M_load (w := 0) (by decide) ha hwk hrg (fun f1 hf1 => ?_))
    refine px_aload_n (q := 42) dI_M_add_41 rfl rfl ?_
    refine px_iconst (q := 43) (v := nI 1) dI_M_add_42 (by decide +kernel) rfl ?_
    refine px_iload_n (q := 44) dI_M_add_43 rfl rfl ?_
    refine px_callV2 (q := 47) (ν := mM_load) dI_M_add_44 (by decide) rfl rfl wl_M_31 wm_M_load wv_M_load wb_M_load wi_M ⟨rfl, rfl⟩ (by decide +kernel) ⟨(Nat.le_of_ble_eq_true rfl), (Nat.le_of_ble_eq_true rfl)⟩ (Nat.le_of_ble_eq_true rfl) rfl (c_M_load (w := 1) (by decide) hb (by rw [yr_s]; exact hf1) (by rw [yr_n (by decide)]; exact hrg) (fun f2 hf2 => ?_))
    rw [yr_yr]
    have e0 : va_up (va_up W 0 (v a)) 1 (v b) 0 = v a := by rw [va_up_ne _ _ (by decide), va_up_self]
    have e1 : va_up (va_up W 0 (v a)) 1 (v b) 1 = v b := va_up_self _ _ _
    have hva := (hrg a ha).1
    have hvb := (hrg b hb).1
    generalize hW2 : va_up (va_up W 0 (v a)) 1 (v b) = W2 at hf2 e0 e1
    refine px_aload_n (q := 48) dI_M_add_47 rfl rfl ?_
    refine px_iconst (q := 49) (v := nI 0) dI_M_add_48 (by decide +kernel) rfl ?_
    refine px_iconst (q := 50) (v := nI 1) dI_M_add_49 (by decide +kernel) rfl ?_
    refine px_callV2 (q := 53) (ν := mM_plus) dI_M_add_50 (by decide) rfl rfl wl_M_35 wm_M_plus wv_M_plus wb_M_plus wi_M ⟨rfl, rfl⟩ (by decide +kernel) ⟨(Nat.le_of_ble_eq_true rfl), (Nat.le_of_ble_eq_true rfl)⟩ (Nat.le_of_ble_eq_true rfl) rfl (c_M_plus (w := 0) (x := 1) (by decide) (by decide) (by decide) (by rw [yr_s]; exact hf2) (fun hlt f3 hf3 => ?_) (fun hge => ?_))
    · rw [yr_yr]
      rw [e0, e1] at hf3
      have u0 : va_up W2 0 (v a + v b) 0 = v a + v b := va_up_self _ _ _
      refine px_istore (q := 55) dI_M_add_53 (by decide) rfl rfl ?_
      refine px_aload_n (q := 56) dI_M_add_55 rfl rfl ?_
      refine px_iload (q := 58) dI_M_add_56 rfl rfl ?_
      refine px_if_eqN (q := 61) (tgt := 69) dI_M_add_58 (by omega) (by decide) rfl (fun b58 => ?_) (fun b58 => ?_)
      · exact absurd b58 (by decide)
      · refine px_aload_n (q := 62) dI_M_add_61 rfl rfl ?_
        refine px_iconst (q := 63) (v := nI 0) dI_M_add_62 (by decide +kernel) rfl ?_
        refine px_callV1 (q := 66) (ν := mM_isLong) dI_M_add_63 (by decide) rfl rfl wl_M_39 wm_M_isLong wv_M_isLong wb_M_isLong wi_M ⟨rfl, rfl⟩ (by decide +kernel) ⟨(Nat.le_of_ble_eq_true rfl), (Nat.le_of_ble_eq_true rfl)⟩ (Nat.le_of_ble_eq_true rfl) rfl (c_M_isLong (w := 0) (by decide) (by rw [yr_s]; exact hf3) (fun z => ?_) (fun z => ?_))
        · rw [u0] at z
          refine px_if_eqN (q := 69) (tgt := 73) dI_M_add_66 (by omega) (by decide) rfl (fun b66 => ?_) (fun b66 => ?_)
          · exact absurd b66 (by decide)
          · refine px_iconst (q := 70) (v := nI 1) dI_M_add_69 (by decide +kernel) rfl ?_
            refine px_goto (tgt := 74) dI_M_add_70 (by decide) ?_
            refine px_iconst (q := 75) (v := nI 2) dI_M_add_74 (by decide +kernel) rfl ?_
            refine px_callV2 (q := 78) (ν := mM_refused) dI_M_add_75 (by decide) rfl rfl wl_M_27 wm_M_refused wv_M_refused wb_M_refused wi_M ⟨rfl, rfl⟩ (by decide +kernel) ⟨(Nat.le_of_ble_eq_true rfl), (Nat.le_of_ble_eq_true rfl)⟩ (Nat.le_of_ble_eq_true rfl) rfl (c_M_refused (by decide) (fun f4 hf4 => ?_))
            refine px_if_neN (q := 81) (tgt := 87) dI_M_add_78 (by omega) (by decide) rfl (fun b78 => ?_) (fun b78 => ?_)
            · refine px_vret dI_M_add_87 rfl ?_
              exact h2 z _ (mz_c (mz_w hm1 hf3)) (mf_y (by decide) (mf_y (by decide) hmf1)) (by rw [yr_s, hf4]; rfl)
            · exact absurd b78 (by decide)
        · rw [u0] at z
          refine px_if_eqN (q := 69) (tgt := 73) dI_M_add_66 (by omega) (by decide) rfl (fun b66 => ?_) (fun b66 => ?_)
          · refine px_iconst (q := 74) (v := nI 0) dI_M_add_73 (by decide +kernel) rfl ?_
            refine px_iconst (q := 75) (v := nI 2) dI_M_add_74 (by decide +kernel) rfl ?_
            refine px_callV2 (q := 78) (ν := mM_refused) dI_M_add_75 (by decide) rfl rfl wl_M_27 wm_M_refused wv_M_refused wb_M_refused wi_M ⟨rfl, rfl⟩ (by decide +kernel) ⟨(Nat.le_of_ble_eq_true rfl), (Nat.le_of_ble_eq_true rfl)⟩ (Nat.le_of_ble_eq_true rfl) rfl (c_M_refused (by decide) (fun f4 hf4 => ?_))
            refine px_if_neN (q := 81) (tgt := 87) dI_M_add_78 (by omega) (by decide) rfl (fun b78 => ?_) (fun b78 => ?_)
            · exact absurd rfl b78
            · refine px_aload_n (q := 82) dI_M_add_81 rfl rfl ?_
              refine px_iload_n (q := 83) dI_M_add_82 rfl rfl ?_
              refine px_iconst (q := 84) (v := nI 0) dI_M_add_83 (by decide +kernel) rfl ?_
              refine px_callV2 (q := 87) (ν := mM_store) dI_M_add_84 (by decide) rfl rfl wl_M_42 wm_M_store wv_M_store wb_M_store wi_M ⟨rfl, rfl⟩ (by decide +kernel) ⟨(Nat.le_of_ble_eq_true rfl), (Nat.le_of_ble_eq_true rfl)⟩ (Nat.le_of_ble_eq_true rfl) rfl (c_M_store (w := 0) (v := v) ht (by decide) (by rw [yr_n (by decide), yr_s]; exact hf3) (by rw [yr_n (by decide), yr_n (by decide)]; exact hrg) (by rw [u0]; exact z) (fun f5 hf5 => ?_))
              refine px_vret dI_M_add_87 rfl ?_
              rw [u0] at hf5
              exact h0 z _ (mz_r (mz_c (mz_w hm1 hf3)) hf5) (mf_y (by decide) (mf_y (by decide) (mf_y (by decide) hmf1))) (by rw [yr_n (by decide), yr_s, hf4]; rfl)
          · exact absurd rfl b66
    · exfalso
      rw [e0, e1, p129] at hge
      generalize 2 ^ 128 = Q at *
      omega
  refine px_aload_n (q := 1) dI_M_add_0 rfl rfl ?_
  refine px_iload_n (q := 2) dI_M_add_1 rfl rfl ?_
  refine px_callS1 (q := 5) (ν := mM_none) dI_M_add_2 wl_M_23 ws_M_none wb_M_none wi_M ⟨rfl, rfl⟩ (by decide +kernel) ⟨(Nat.le_of_ble_eq_true rfl), (Nat.le_of_ble_eq_true rfl)⟩ (Nat.le_of_ble_eq_true rfl) rfl (c_M_noneG ha ?_)
  refine px_if_neN (q := 8) (tgt := 22) dI_M_add_5 (by omega) (by decide) rfl (fun b5 => ?_) (fun b5 => ?_)
  · exact absurd rfl b5
  · refine px_iload_n (q := 9) dI_M_add_8 rfl rfl ?_
    refine px_callS1 (q := 12) (ν := mM_none) dI_M_add_9 wl_M_23 ws_M_none wb_M_none wi_M ⟨rfl, rfl⟩ (by decide +kernel) ⟨(Nat.le_of_ble_eq_true rfl), (Nat.le_of_ble_eq_true rfl)⟩ (Nat.le_of_ble_eq_true rfl) rfl (c_M_noneG hb ?_)
    refine px_if_neN (q := 15) (tgt := 22) dI_M_add_12 (by omega) (by decide) rfl (fun b12 => ?_) (fun b12 => ?_)
    · exact absurd rfl b12
    · refine px_iload_n (q := 16) dI_M_add_15 rfl rfl ?_
      refine px_callS1 (q := 19) (ν := mM_none) dI_M_add_16 wl_M_23 ws_M_none wb_M_none wi_M ⟨rfl, rfl⟩ (by decide +kernel) ⟨(Nat.le_of_ble_eq_true rfl), (Nat.le_of_ble_eq_true rfl)⟩ (Nat.le_of_ble_eq_true rfl) rfl (c_M_noneG ht ?_)
      refine px_if_eqN (q := 22) (tgt := 26) dI_M_add_19 (by omega) (by decide) rfl (fun b19 => ?_) (fun b19 => ?_)
      · refine px_iconst (q := 27) (v := nI 0) dI_M_add_26 (by decide +kernel) rfl ?_
        refine px_iconst (q := 28) (v := nI 1) dI_M_add_27 (by decide +kernel) rfl ?_
        refine px_callV2 (q := 31) (ν := mM_refused) dI_M_add_28 (by decide) rfl rfl wl_M_27 wm_M_refused wv_M_refused wb_M_refused wi_M ⟨rfl, rfl⟩ (by decide +kernel) ⟨(Nat.le_of_ble_eq_true rfl), (Nat.le_of_ble_eq_true rfl)⟩ (Nat.le_of_ble_eq_true rfl) rfl (c_M_refused (by decide) (fun f0 hf0 => ?_))
        refine px_if_eqN (q := 34) (tgt := 35) dI_M_add_31 (by omega) (by decide) rfl (fun b31 => ?_) (fun b31 => ?_)
        · exact k35 f0 hf0
        · exact absurd rfl b31
      · exact absurd rfl b19
theorem c_M_subtract {a b t : Nat} (ha : a < 6) (hb : b < 6) (ht : t < 6) (hm : mz_ Y v) (h2 : v a < v b → ∀ Y', mz_ Y' v → mf_ Y Y' → Y' 23 3 = nI 2 → Post none X Y') (h0 : v b ≤ v a → ∀ Y', mz_ Y' (va_up v t (v a - v b)) → mf_ Y Y' → Y' 23 3 = nI 0 → Post none X Y') : pw_Met l g mM_subtract [.ref (ad_ g 23), .int (nI a), .int (nI b), .int (nI t)] X Y Post := by
  refine pw_ofW (by decide +kernel) rfl (Nat.le_of_ble_eq_true rfl) rfl (fun sz => ?_)
  have k35 : ∀ f0 : Nat → Int32, f0 3 = nI 0 → pw_W l g mM_subtract sz (pw_qM g sz Post 0 0) 35 [(0, .ref (ad_ g 23)), (1, .int (nI a)), (2, .int (nI b)), (3, .int (nI t))] [] X (yr_ Y 23 f0) := by
    intro f0 hf0
    obtain ⟨hrg, W, hwk⟩ := mz_c (f := f0) hm
    have hm1 : mz_ (yr_ Y 23 f0) v := ⟨hrg, W, hwk⟩
    generalize hY1 : yr_ Y 23 f0 = Y1 at hrg hwk hm1
    have hmf1 : mf_ Y Y1 := by rw [← hY1]; exact mf_y (by decide) mf_0
    have hcode : Y1 23 3 = nI 0 := by rw [← hY1, yr_s]; exact hf0
    refine px_aload_n (q := 36) dI_M_subtract_35 rfl rfl ?_
    refine px_iconst (q := 37) (v := nI 0) dI_M_subtract_36 (by decide +kernel) rfl ?_
    refine px_iload_n (q := 38) dI_M_subtract_37 rfl rfl ?_
    refine px_callV2 (q := 41) (ν := mM_load) dI_M_subtract_38 (by decide) rfl rfl wl_M_31 wm_M_load wv_M_load wb_M_load wi_M ⟨rfl, rfl⟩ (by decide +kernel) ⟨(Nat.le_of_ble_eq_true rfl), (Nat.le_of_ble_eq_true rfl)⟩ (Nat.le_of_ble_eq_true rfl) rfl (c_M_load (w := 0) (by decide) ha hwk hrg (fun f1 hf1 => ?_))
    refine px_aload_n (q := 42) dI_M_subtract_41 rfl rfl ?_
    refine px_iconst (q := 43) (v := nI 1) dI_M_subtract_42 (by decide +kernel) rfl ?_
    refine px_iload_n (q := 44) dI_M_subtract_43 rfl rfl ?_
    refine px_callV2 (q := 47) (ν := mM_load) dI_M_subtract_44 (by decide) rfl rfl wl_M_31 wm_M_load wv_M_load wb_M_load wi_M ⟨rfl, rfl⟩ (by decide +kernel) ⟨(Nat.le_of_ble_eq_true rfl), (Nat.le_of_ble_eq_true rfl)⟩ (Nat.le_of_ble_eq_true rfl) rfl (c_M_load (w := 1) (by decide) hb (by rw [yr_s]; exact hf1) (by rw [yr_n (by decide)]; exact hrg) (fun f2 hf2 => ?_))
    rw [yr_yr]
    have e0 : va_up (va_up W 0 (v a)) 1 (v b) 0 = v a := by rw [va_up_ne _ _ (by decide), va_up_self]
    have e1 : va_up (va_up W 0 (v a)) 1 (v b) 1 = v b := va_up_self _ _ _
    have hva := (hrg a ha).1
    have hvb := (hrg b hb).1
    generalize hW2 : va_up (va_up W 0 (v a)) 1 (v b) = W2 at hf2 e0 e1
    have ok : v b ≤ v a → pw_W l g mM_subtract sz (pw_qM g sz Post 0 0) 61 [(0, .ref (ad_ g 23)), (1, .int (nI a)), (2, .int (nI b)), (3, .int (nI t))] [.ref (ad_ g 23)] X (yr_ Y1 25 f2) := by
      intro hle
      refine px_iconst (q := 62) (v := nI 0) dI_M_subtract_61 (by decide +kernel) rfl ?_
      refine px_iconst (q := 63) (v := nI 2) dI_M_subtract_62 (by decide +kernel) rfl ?_
      refine px_callV2 (q := 66) (ν := mM_refused) dI_M_subtract_63 (by decide) rfl rfl wl_M_27 wm_M_refused wv_M_refused wb_M_refused wi_M ⟨rfl, rfl⟩ (by decide +kernel) ⟨(Nat.le_of_ble_eq_true rfl), (Nat.le_of_ble_eq_true rfl)⟩ (Nat.le_of_ble_eq_true rfl) rfl (c_M_refused (by decide) (fun f4 hf4 => ?_))
      refine px_if_eqN (q := 69) (tgt := 70) dI_M_subtract_66 (by omega) (by decide) rfl (fun b66 => ?_) (fun b66 => ?_)
      · refine px_aload_n (q := 71) dI_M_subtract_70 rfl rfl ?_
        refine px_iconst (q := 72) (v := nI 0) dI_M_subtract_71 (by decide +kernel) rfl ?_
        refine px_iconst (q := 73) (v := nI 1) dI_M_subtract_72 (by decide +kernel) rfl ?_
        refine px_callV2 (q := 76) (ν := mM_minus) dI_M_subtract_73 (by decide) rfl rfl wl_M_49 wm_M_minus wv_M_minus wb_M_minus wi_M ⟨rfl, rfl⟩ (by decide +kernel) ⟨(Nat.le_of_ble_eq_true rfl), (Nat.le_of_ble_eq_true rfl)⟩ (Nat.le_of_ble_eq_true rfl) rfl (c_M_minus (w := 0) (x := 1) (by decide) (by decide) (by decide) (by rw [yr_n (by decide), yr_s]; exact hf2) (by rw [e0, e1]; exact hle) (fun f3 hf3 => ?_))
        rw [e0, e1] at hf3
        have u0 : va_up W2 0 (v a - v b) 0 = v a - v b := va_up_self _ _ _
        refine px_aload_n (q := 77) dI_M_subtract_76 rfl rfl ?_
        refine px_iload_n (q := 78) dI_M_subtract_77 rfl rfl ?_
        refine px_iconst (q := 79) (v := nI 0) dI_M_subtract_78 (by decide +kernel) rfl ?_
        refine px_callV2 (q := 82) (ν := mM_store) dI_M_subtract_79 (by decide) rfl rfl wl_M_42 wm_M_store wv_M_store wb_M_store wi_M ⟨rfl, rfl⟩ (by decide +kernel) ⟨(Nat.le_of_ble_eq_true rfl), (Nat.le_of_ble_eq_true rfl)⟩ (Nat.le_of_ble_eq_true rfl) rfl (c_M_store (w := 0) (v := v) ht (by decide) (by rw [yr_s]; exact hf3) (by rw [yr_n (by decide), yr_n (by decide), yr_n (by decide)]; exact hrg) (by rw [u0]; exact Nat.lt_of_le_of_lt (Nat.sub_le _ _) hva) (fun f5 hf5 => ?_))
        refine px_vret dI_M_subtract_82 rfl ?_
        rw [u0] at hf5
        exact h0 hle _ (mz_r (mz_w (mz_c (mz_w hm1 hf2)) hf3) hf5) (mf_y (by decide) (mf_y (by decide) (mf_y (by decide) (mf_y (by decide) hmf1)))) (by rw [yr_n (by decide), yr_n (by decide), yr_s, hf4]; rfl)
      · exact absurd rfl b66
    refine px_aload_n (q := 48) dI_M_subtract_47 rfl rfl ?_
    refine px_aload_n (q := 49) dI_M_subtract_48 rfl rfl ?_
    refine px_iconst (q := 50) (v := nI 0) dI_M_subtract_49 (by decide +kernel) rfl ?_
    refine px_iconst (q := 51) (v := nI 1) dI_M_subtract_50 (by decide +kernel) rfl ?_
    refine px_callV2 (q := 54) (ν := mM_against) dI_M_subtract_51 (by decide) rfl rfl wl_M_45 wm_M_against wv_M_against wb_M_against wi_M ⟨rfl, rfl⟩ (by decide +kernel) ⟨(Nat.le_of_ble_eq_true rfl), (Nat.le_of_ble_eq_true rfl)⟩ (Nat.le_of_ble_eq_true rfl) rfl (c_M_against (x := 0) (y := 1) (by decide) (by decide) (by rw [yr_s]; exact hf2) (fun z => ?_) (fun z => ?_) (fun z => ?_))
    · rw [e0, e1] at z
      refine px_if_ge (q := 57) (tgt := 61) dI_M_subtract_54 (by decide) rfl (fun b54 => ?_) (fun b54 => ?_)
      · exact absurd b54 (by decide)
      · refine px_iconst (q := 58) (v := nI 1) dI_M_subtract_57 (by decide +kernel) rfl ?_
        refine px_goto (tgt := 62) dI_M_subtract_58 (by decide) ?_
        refine px_iconst (q := 63) (v := nI 2) dI_M_subtract_62 (by decide +kernel) rfl ?_
        refine px_callV2 (q := 66) (ν := mM_refused) dI_M_subtract_63 (by decide) rfl rfl wl_M_27 wm_M_refused wv_M_refused wb_M_refused wi_M ⟨rfl, rfl⟩ (by decide +kernel) ⟨(Nat.le_of_ble_eq_true rfl), (Nat.le_of_ble_eq_true rfl)⟩ (Nat.le_of_ble_eq_true rfl) rfl (c_M_refused (by decide) (fun f4 hf4 => ?_))
        refine px_if_eqN (q := 69) (tgt := 70) dI_M_subtract_66 (by omega) (by decide) rfl (fun b66 => ?_) (fun b66 => ?_)
        · exact absurd b66 (by decide)
        · refine px_vret dI_M_subtract_69 rfl ?_
          exact h2 z _ (mz_c (mz_w hm1 hf2)) (mf_y (by decide) (mf_y (by decide) hmf1)) (by rw [yr_s, hf4]; rfl)
    · rw [e0, e1] at z
      refine px_if_geN (q := 57) (tgt := 61) dI_M_subtract_54 (by omega) (by decide) rfl (fun b54 => ?_) (fun b54 => ?_)
      · exact ok (Nat.le_of_eq z.symm)
      · exact b54.elim
    · rw [e0, e1] at z
      refine px_if_geN (q := 57) (tgt := 61) dI_M_subtract_54 (by omega) (by decide) rfl (fun b54 => ?_) (fun b54 => ?_)
      · exact ok (Nat.le_of_lt z)
      · exact b54.elim
  refine px_aload_n (q := 1) dI_M_subtract_0 rfl rfl ?_
  refine px_iload_n (q := 2) dI_M_subtract_1 rfl rfl ?_
  refine px_callS1 (q := 5) (ν := mM_none) dI_M_subtract_2 wl_M_23 ws_M_none wb_M_none wi_M ⟨rfl, rfl⟩ (by decide +kernel) ⟨(Nat.le_of_ble_eq_true rfl), (Nat.le_of_ble_eq_true rfl)⟩ (Nat.le_of_ble_eq_true rfl) rfl (c_M_noneG ha ?_)
  refine px_if_neN (q := 8) (tgt := 22) dI_M_subtract_5 (by omega) (by decide) rfl (fun b5 => ?_) (fun b5 => ?_)
  · exact absurd rfl b5
  · refine px_iload_n (q := 9) dI_M_subtract_8 rfl rfl ?_
    refine px_callS1 (q := 12) (ν := mM_none) dI_M_subtract_9 wl_M_23 ws_M_none wb_M_none wi_M ⟨rfl, rfl⟩ (by decide +kernel) ⟨(Nat.le_of_ble_eq_true rfl), (Nat.le_of_ble_eq_true rfl)⟩ (Nat.le_of_ble_eq_true rfl) rfl (c_M_noneG hb ?_)
    refine px_if_neN (q := 15) (tgt := 22) dI_M_subtract_12 (by omega) (by decide) rfl (fun b12 => ?_) (fun b12 => ?_)
    · exact absurd rfl b12
    · refine px_iload_n (q := 16) dI_M_subtract_15 rfl rfl ?_
      refine px_callS1 (q := 19) (ν := mM_none) dI_M_subtract_16 wl_M_23 ws_M_none wb_M_none wi_M ⟨rfl, rfl⟩ (by decide +kernel) ⟨(Nat.le_of_ble_eq_true rfl), (Nat.le_of_ble_eq_true rfl)⟩ (Nat.le_of_ble_eq_true rfl) rfl (c_M_noneG ht ?_)
      refine px_if_eqN (q := 22) (tgt := 26) dI_M_subtract_19 (by omega) (by decide) rfl (fun b19 => ?_) (fun b19 => ?_)
      · refine px_iconst (q := 27) (v := nI 0) dI_M_subtract_26 (by decide +kernel) rfl ?_
        refine px_iconst (q := 28) (v := nI 1) dI_M_subtract_27 (by decide +kernel) rfl ?_
        refine px_callV2 (q := 31) (ν := mM_refused) dI_M_subtract_28 (by decide) rfl rfl wl_M_27 wm_M_refused wv_M_refused wb_M_refused wi_M ⟨rfl, rfl⟩ (by decide +kernel) ⟨(Nat.le_of_ble_eq_true rfl), (Nat.le_of_ble_eq_true rfl)⟩ (Nat.le_of_ble_eq_true rfl) rfl (c_M_refused (by decide) (fun f0 hf0 => ?_))
        refine px_if_eqN (q := 34) (tgt := 35) dI_M_subtract_31 (by omega) (by decide) rfl (fun b31 => ?_) (fun b31 => ?_)
        · exact k35 f0 hf0
        · exact absurd rfl b31
      · exact absurd rfl b19
theorem c_M_multiply {a b t : Nat} (ha : a < 6) (hb : b < 6) (ht : t < 6) (hm : mz_ Y v) (h2 : 2 ^ 128 ≤ v a * v b → ∀ Y', mz_ Y' v → mf_ Y Y' → Y' 23 3 = nI 2 → Post none X Y') (h0 : v a * v b < 2 ^ 128 → ∀ Y', mz_ Y' (va_up v t (v a * v b)) → mf_ Y Y' → Y' 23 3 = nI 0 → Post none X Y') : pw_Met l g mM_multiply [.ref (ad_ g 23), .int (nI a), .int (nI b), .int (nI t)] X Y Post := by
  refine pw_ofW (by decide +kernel) rfl (Nat.le_of_ble_eq_true rfl) rfl (fun sz => ?_)
  have k35 : ∀ f0 : Nat → Int32, f0 3 = nI 0 → pw_W l g mM_multiply sz (pw_qM g sz Post 0 0) 35 [(0, .ref (ad_ g 23)), (1, .int (nI a)), (2, .int (nI b)), (3, .int (nI t))] [] X (yr_ Y 23 f0) := by
    intro f0 hf0
    obtain ⟨hrg, W, hwk⟩ := mz_c (f := f0) hm
    have hm1 : mz_ (yr_ Y 23 f0) v := ⟨hrg, W, hwk⟩
    generalize hY1 : yr_ Y 23 f0 = Y1 at hrg hwk hm1
    have hmf1 : mf_ Y Y1 := by rw [← hY1]; exact mf_y (by decide) mf_0
    have hcode : Y1 23 3 = nI 0 := by rw [← hY1, yr_s]; exact hf0
    refine px_aload_n (q := 36) dI_M_multiply_35 rfl rfl ?_
    refine px_iconst (q := 37) (v := nI 0) dI_M_multiply_36 (by decide +kernel) rfl ?_
    refine px_iload_n (q := 38) dI_M_multiply_37 rfl rfl ?_
    refine px_callV2 (q := 41) (ν := mM_load) dI_M_multiply_38 (by decide) rfl rfl wl_M_31 wm_M_load wv_M_load wb_M_load wi_M ⟨rfl, rfl⟩ (by decide +kernel) ⟨(Nat.le_of_ble_eq_true rfl), (Nat.le_of_ble_eq_true rfl)⟩ (Nat.le_of_ble_eq_true rfl) rfl (c_M_load (w := 0) (by decide) ha hwk hrg (fun f1 hf1 => ?_))
    refine px_aload_n (q := 42) dI_M_multiply_41 rfl rfl ?_
    refine px_iconst (q := 43) (v := nI 1) dI_M_multiply_42 (by decide +kernel) rfl ?_
    refine px_iload_n (q := 44) dI_M_multiply_43 rfl rfl ?_
    refine px_callV2 (q := 47) (ν := mM_load) dI_M_multiply_44 (by decide) rfl rfl wl_M_31 wm_M_load wv_M_load wb_M_load wi_M ⟨rfl, rfl⟩ (by decide +kernel) ⟨(Nat.le_of_ble_eq_true rfl), (Nat.le_of_ble_eq_true rfl)⟩ (Nat.le_of_ble_eq_true rfl) rfl (c_M_load (w := 1) (by decide) hb (by rw [yr_s]; exact hf1) (by rw [yr_n (by decide)]; exact hrg) (fun f2 hf2 => ?_))
    rw [yr_yr]
    have e0 : va_up (va_up W 0 (v a)) 1 (v b) 0 = v a := by rw [va_up_ne _ _ (by decide), va_up_self]
    have e1 : va_up (va_up W 0 (v a)) 1 (v b) 1 = v b := va_up_self _ _ _
    have hva := (hrg a ha).1
    have hvb := (hrg b hb).1
    generalize hW2 : va_up (va_up W 0 (v a)) 1 (v b) = W2 at hf2 e0 e1
    refine px_aload_n (q := 48) dI_M_multiply_47 rfl rfl ?_
    refine px_iconst (q := 49) (v := nI 2) dI_M_multiply_48 (by decide +kernel) rfl ?_
    refine px_callV1 (q := 52) (ν := mM_clear) dI_M_multiply_49 (by decide) rfl rfl wl_M_52 wm_M_clear wv_M_clear wb_M_clear wi_M ⟨rfl, rfl⟩ (by decide +kernel) ⟨(Nat.le_of_ble_eq_true rfl), (Nat.le_of_ble_eq_true rfl)⟩ (Nat.le_of_ble_eq_true rfl) rfl (c_M_clear (w := 2) (by decide) (by rw [yr_s]; exact hf2) (fun f3 hf3 => ?_))
    rw [yr_yr]
    refine px_iconst (q := 53) (v := nI 1) dI_M_multiply_52 (by decide +kernel) rfl ?_
    refine px_istore (q := 55) dI_M_multiply_53 (by decide) rfl rfl ?_
    refine px_bipush (q := 57) (v := nI 127) dI_M_multiply_55 (by decide +kernel) rfl ?_
    refine px_istore (q := 59) dI_M_multiply_57 (by decide) rfl rfl ?_
    have big : ∀ (f : Nat → Int32) (W' : Nat → Nat) (ls : List (Nat × Value)), lk_ ls 0 = some (.ref (ad_ g 23)) → lk_ ls 4 = some (.int (nI 0)) → wk_ f W' → 2 ^ 128 ≤ v a * v b → pw_W l g mM_multiply sz (pw_qM g sz Post 0 0) 131 ls [] X (yr_ Y1 25 f) := by
      intro f W' ls hl0 hl4 hf hge
      refine px_aload_n (q := 132) dI_M_multiply_131 hl0 rfl ?_
      refine px_iload (q := 134) dI_M_multiply_132 hl4 rfl ?_
      refine px_if_neN (q := 137) (tgt := 141) dI_M_multiply_134 (by omega) (by decide) rfl (fun b134 => ?_) (fun b134 => ?_)
      · exact absurd rfl b134
      · refine px_iconst (q := 138) (v := nI 1) dI_M_multiply_137 (by decide +kernel) rfl ?_
        refine px_goto (tgt := 142) dI_M_multiply_138 (by decide) ?_
        refine px_iconst (q := 143) (v := nI 2) dI_M_multiply_142 (by decide +kernel) rfl ?_
        refine px_callV2 (q := 146) (ν := mM_refused) dI_M_multiply_143 (by decide) rfl rfl wl_M_27 wm_M_refused wv_M_refused wb_M_refused wi_M ⟨rfl, rfl⟩ (by decide +kernel) ⟨(Nat.le_of_ble_eq_true rfl), (Nat.le_of_ble_eq_true rfl)⟩ (Nat.le_of_ble_eq_true rfl) rfl (c_M_refused (by decide) (fun f4 hf4 => ?_))
        refine px_if_neN (q := 149) (tgt := 155) dI_M_multiply_146 (by omega) (by decide) rfl (fun b146 => ?_) (fun b146 => ?_)
        · refine px_vret dI_M_multiply_155 rfl ?_
          exact h2 hge _ (mz_c (mz_w hm1 hf)) (mf_y (by decide) (mf_y (by decide) hmf1)) (by rw [yr_s, hf4]; rfl)
        · exact absurd b146 (by decide)
    have key : ∀ (K : Nat) (f : Nat → Int32) (W' : Nat → Nat), K ≤ 128 → wk_ f W' → W' 0 = v a → W' 1 = v b → W' 2 = v a * (v b / 2 ^ K) → W' 2 < 2 ^ 128 → pw_W l g mM_multiply sz (pw_qM g sz Post 0 0) 59 [(0, .ref (ad_ g 23)), (1, .int (nI a)), (2, .int (nI b)), (3, .int (nI t)), (4, .int (nI 1)), (5, .int (mI K))] [] X (yr_ Y1 25 f) := by
      intro K
      induction K with
      | zero =>
        intro f W' hK hf q0 q1 q2 qlt
        rw [Nat.pow_zero, Nat.div_one] at q2
        refine px_iload (q := 61) dI_M_multiply_59 rfl rfl ?_
        refine px_if_ltM (q := 64) (tgt := 131) dI_M_multiply_61 (by omega) (by decide) rfl (fun b61 => ?_) (fun b61 => ?_)
        · refine px_aload_n (q := 132) dI_M_multiply_131 rfl rfl ?_
          refine px_iload (q := 134) dI_M_multiply_132 rfl rfl ?_
          refine px_if_neN (q := 137) (tgt := 141) dI_M_multiply_134 (by omega) (by decide) rfl (fun b134 => ?_) (fun b134 => ?_)
          · refine px_iconst (q := 142) (v := nI 0) dI_M_multiply_141 (by decide +kernel) rfl ?_
            refine px_iconst (q := 143) (v := nI 2) dI_M_multiply_142 (by decide +kernel) rfl ?_
            refine px_callV2 (q := 146) (ν := mM_refused) dI_M_multiply_143 (by decide) rfl rfl wl_M_27 wm_M_refused wv_M_refused wb_M_refused wi_M ⟨rfl, rfl⟩ (by decide +kernel) ⟨(Nat.le_of_ble_eq_true rfl), (Nat.le_of_ble_eq_true rfl)⟩ (Nat.le_of_ble_eq_true rfl) rfl (c_M_refused (by decide) (fun f4 hf4 => ?_))
            refine px_if_neN (q := 149) (tgt := 155) dI_M_multiply_146 (by omega) (by decide) rfl (fun b146 => ?_) (fun b146 => ?_)
            · exact absurd rfl b146
            · refine px_aload_n (q := 150) dI_M_multiply_149 rfl rfl ?_
              refine px_iload_n (q := 151) dI_M_multiply_150 rfl rfl ?_
              refine px_iconst (q := 152) (v := nI 2) dI_M_multiply_151 (by decide +kernel) rfl ?_
              refine px_callV2 (q := 155) (ν := mM_store) dI_M_multiply_152 (by decide) rfl rfl wl_M_42 wm_M_store wv_M_store wb_M_store wi_M ⟨rfl, rfl⟩ (by decide +kernel) ⟨(Nat.le_of_ble_eq_true rfl), (Nat.le_of_ble_eq_true rfl)⟩ (Nat.le_of_ble_eq_true rfl) rfl (c_M_store (w := 2) (v := v) ht (by decide) (by rw [yr_n (by decide), yr_s]; exact hf) (by rw [yr_n (by decide), yr_n (by decide)]; exact hrg) qlt (fun f5 hf5 => ?_))
              refine px_vret dI_M_multiply_155 rfl ?_
              rw [q2] at hf5 qlt
              exact h0 qlt _ (mz_r (mz_c (mz_w hm1 hf)) hf5) (mf_y (by decide) (mf_y (by decide) (mf_y (by decide) hmf1))) (by rw [yr_n (by decide), yr_s, hf4]; rfl)
          · exact absurd b134 (by decide)
        · omega
      | succ K ih =>
        intro f W' hK hf q0 q1 q2 qlt
        have hbit := (hf 1 (by decide)).2 K (by omega)
        rw [q1] at hbit
        have hb2 : v b / 2 ^ K % 2 < 2 := Nat.mod_lt _ (by decide)
        have hpre : v b / 2 ^ K = 2 * (v b / 2 ^ (K + 1)) + v b / 2 ^ K % 2 := hi_eq (B := 0)
        have hmono : v a * (v b / 2 ^ K) ≤ v a * v b := Nat.mul_le_mul_left _ (Nat.div_le_self _ _)
        have e22 : 2 * W' 2 = v a * (2 * (v b / 2 ^ (K + 1))) := by rw [q2, Nat.mul_left_comm]
        rw [mI_s]
        refine px_iload (q := 61) dI_M_multiply_59 rfl rfl ?_
        refine px_if_ltN (q := 64) (tgt := 131) dI_M_multiply_61 (by omega) (by decide) rfl (fun b61 => ?_) (fun b61 => ?_)
        · exact b61.elim
        · refine px_iload (q := 66) dI_M_multiply_64 rfl rfl ?_
          refine px_if_eqN (q := 69) (tgt := 131) dI_M_multiply_66 (by omega) (by decide) rfl (fun b66 => ?_) (fun b66 => ?_)
          · exact absurd b66 (by decide)
          · refine px_aload_n (q := 70) dI_M_multiply_69 rfl rfl ?_
            refine px_iconst (q := 71) (v := nI 2) dI_M_multiply_70 (by decide +kernel) rfl ?_
            refine px_iconst (q := 72) (v := nI 0) dI_M_multiply_71 (by decide +kernel) rfl ?_
            refine px_callV2 (q := 75) (ν := mM_twice) dI_M_multiply_72 (by decide) rfl rfl wl_M_56 wm_M_twice wv_M_twice wb_M_twice wi_M ⟨rfl, rfl⟩ (by decide +kernel) ⟨(Nat.le_of_ble_eq_true rfl), (Nat.le_of_ble_eq_true rfl)⟩ (Nat.le_of_ble_eq_true rfl) rfl (c_M_twice (w := 2) (by decide) (by decide) (by rw [yr_s]; exact hf) (fun hlt4 f4 hf4 => ?_) (fun hge4 => absurd qlt (Nat.not_lt.mpr hge4)))
            rw [yr_yr]
            rw [Nat.add_zero, e22] at hf4
            have nxt : ∀ (f6 : Nat → Int32) (W6 : Nat → Nat), wk_ f6 W6 → W6 0 = v a → W6 1 = v b → W6 2 = v a * (v b / 2 ^ K) → pw_W l g mM_multiply sz (pw_qM g sz Post 0 0) 105 [(0, .ref (ad_ g 23)), (1, .int (nI a)), (2, .int (nI b)), (3, .int (nI t)), (4, .int (nI 1)), (5, .int (nI K))] [] X (yr_ Y1 25 f6) := by
              intro f6 W6 hf6 r0 r1 r2
              refine px_iload (q := 107) dI_M_multiply_105 rfl rfl ?_
              refine px_if_eqN (q := 110) (tgt := 122) dI_M_multiply_107 (by omega) (by decide) rfl (fun b107 => ?_) (fun b107 => ?_)
              · exact absurd b107 (by decide)
              · refine px_aload_n (q := 111) dI_M_multiply_110 rfl rfl ?_
                refine px_iconst (q := 112) (v := nI 2) dI_M_multiply_111 (by decide +kernel) rfl ?_
                refine px_callV1 (q := 115) (ν := mM_isLong) dI_M_multiply_112 (by decide) rfl rfl wl_M_39 wm_M_isLong wv_M_isLong wb_M_isLong wi_M ⟨rfl, rfl⟩ (by decide +kernel) ⟨(Nat.le_of_ble_eq_true rfl), (Nat.le_of_ble_eq_true rfl)⟩ (Nat.le_of_ble_eq_true rfl) rfl (c_M_isLong (w := 2) (by decide) (by rw [yr_s]; exact hf6) (fun z => ?_) (fun z => ?_))
                · refine px_if_neN (q := 118) (tgt := 122) dI_M_multiply_115 (by omega) (by decide) rfl (fun b115 => ?_) (fun b115 => ?_)
                  · refine px_iconst (q := 123) (v := nI 0) dI_M_multiply_122 (by decide +kernel) rfl ?_
                    refine px_istore (q := 125) dI_M_multiply_123 (by decide) rfl rfl ?_
                    refine px_iinc (q := 128) dI_M_multiply_125 rfl (ic_m _) (by decide) rfl rfl ?_
                    refine px_goto (tgt := 59) dI_M_multiply_128 (by decide) ?_
                    rw [r2] at z
                    have hge := Nat.le_trans z hmono
                    by_cases hK0 : K = 0
                    · subst hK0
                      refine px_iload (q := 61) dI_M_multiply_59 rfl rfl ?_
                      refine px_if_ltM (q := 64) (tgt := 131) dI_M_multiply_61 (by omega) (by decide) rfl (fun b61 => ?_) (fun b61 => ?_)
                      · exact big f6 W6 _ rfl rfl hf6 hge
                      · omega
                    · rw [mI_p (by omega)]
                      refine px_iload (q := 61) dI_M_multiply_59 rfl rfl ?_
                      refine px_if_ltN (q := 64) (tgt := 131) dI_M_multiply_61 (by omega) (by decide) rfl (fun b61 => ?_) (fun b61 => ?_)
                      · exact b61.elim
                      · refine px_iload (q := 66) dI_M_multiply_64 rfl rfl ?_
                        refine px_if_eqN (q := 69) (tgt := 131) dI_M_multiply_66 (by omega) (by decide) rfl (fun b66 => ?_) (fun b66 => ?_)
                        · exact big f6 W6 _ rfl rfl hf6 hge
                        · exact absurd rfl b66
                  · exact absurd b115 (by decide)
                · refine px_if_neN (q := 118) (tgt := 122) dI_M_multiply_115 (by omega) (by decide) rfl (fun b115 => ?_) (fun b115 => ?_)
                  · exact absurd rfl b115
                  · refine px_iconst (q := 119) (v := nI 1) dI_M_multiply_118 (by decide +kernel) rfl ?_
                    refine px_goto (tgt := 123) dI_M_multiply_119 (by decide) ?_
                    refine px_istore (q := 125) dI_M_multiply_123 (by decide) rfl rfl ?_
                    refine px_iinc (q := 128) dI_M_multiply_125 rfl (ic_m _) (by decide) rfl rfl ?_
                    refine px_goto (tgt := 59) dI_M_multiply_128 (by decide) ?_
                    exact ih f6 W6 (by omega) hf6 r0 r1 r2 z
            refine px_istore (q := 77) dI_M_multiply_75 (by decide) rfl rfl ?_
            refine px_iload (q := 79) dI_M_multiply_77 rfl rfl ?_
            refine px_if_eqN (q := 82) (tgt := 105) dI_M_multiply_79 (by omega) (by decide) rfl (fun b79 => ?_) (fun b79 => ?_)
            · exact absurd b79 (by decide)
            · have hbit4 := (hf4 1 (by decide)).2 K (by omega)
              rw [va_up_ne _ _ (by decide), q1] at hbit4
              refine px_aload_n (q := 83) dI_M_multiply_82 rfl rfl ?_
              refine px_getM (q := 86) (j := 1) dI_M_multiply_83 wf_M_13 rfl (by decide) rfl rfl ?_
              refine px_sipush (q := 89) (v := nI 129) dI_M_multiply_86 (by decide +kernel) rfl ?_
              refine px_iload (q := 91) dI_M_multiply_89 rfl rfl ?_
              refine px_iaddN (q := 92) dI_M_multiply_91 rfl ?_
              refine px_iald (q := 93) dI_M_multiply_92 rfl (by omega) (by omega) (ys_ hbit4) rfl ?_
              refine px_iconst (q := 94) (v := nI 1) dI_M_multiply_93 (by decide +kernel) rfl ?_
              refine px_icmp_neN (q := 97) (tgt := 105) dI_M_multiply_94 (by omega) (by omega) (by decide) rfl (fun b94 => ?_) (fun b94 => ?_)
              · refine nxt f4 _ hf4 ?_ ?_ ?_
                · rw [va_up_ne _ _ (by decide)]; exact q0
                · rw [va_up_ne _ _ (by decide)]; exact q1
                · rw [va_up_self]
                  congr 1
                  omega
              · have hp0 : va_up W' 2 (v a * (2 * (v b / 2 ^ (K + 1)))) 0 = v a := by rw [va_up_ne _ _ (by decide)]; exact q0
                have hp2 : va_up W' 2 (v a * (2 * (v b / 2 ^ (K + 1)))) 2 = v a * (2 * (v b / 2 ^ (K + 1))) := va_up_self _ _ _
                have hs : v a * (2 * (v b / 2 ^ (K + 1))) + v a = v a * (v b / 2 ^ K) := by
                  rw [hpre, b94, Nat.mul_add, Nat.mul_one]
                refine px_aload_n (q := 98) dI_M_multiply_97 rfl rfl ?_
                refine px_iconst (q := 99) (v := nI 2) dI_M_multiply_98 (by decide +kernel) rfl ?_
                refine px_iconst (q := 100) (v := nI 0) dI_M_multiply_99 (by decide +kernel) rfl ?_
                refine px_callV2 (q := 103) (ν := mM_plus) dI_M_multiply_100 (by decide) rfl rfl wl_M_35 wm_M_plus wv_M_plus wb_M_plus wi_M ⟨rfl, rfl⟩ (by decide +kernel) ⟨(Nat.le_of_ble_eq_true rfl), (Nat.le_of_ble_eq_true rfl)⟩ (Nat.le_of_ble_eq_true rfl) rfl (c_M_plus (w := 2) (x := 0) (by decide) (by decide) (by decide) (by rw [yr_s]; exact hf4) (fun hlt5 f5 hf5 => ?_) (fun hge5 f5 hf5 => ?_))
                · rw [yr_yr]
                  rw [hp0, hp2, hs] at hf5
                  refine px_istore (q := 105) dI_M_multiply_103 (by decide) rfl rfl ?_
                  refine nxt f5 _ hf5 ?_ ?_ ?_
                  · rw [va_up_ne _ _ (by decide)]; exact hp0
                  · rw [va_up_ne _ _ (by decide), va_up_ne _ _ (by decide)]; exact q1
                  · rw [va_up_self]
                · rw [yr_yr]
                  rw [hp0, hp2, hs] at hge5
                  have hge : 2 ^ 128 ≤ v a * v b := Nat.le_trans (by rw [p129] at hge5; generalize 2 ^ 128 = Q at hge5 ⊢; omega) hmono
                  refine px_istore (q := 105) dI_M_multiply_103 (by decide) rfl rfl ?_
                  refine px_iload (q := 107) dI_M_multiply_105 rfl rfl ?_
                  refine px_if_eqN (q := 110) (tgt := 122) dI_M_multiply_107 (by omega) (by decide) rfl (fun b107 => ?_) (fun b107 => ?_)
                  · refine px_iconst (q := 123) (v := nI 0) dI_M_multiply_122 (by decide +kernel) rfl ?_
                    refine px_istore (q := 125) dI_M_multiply_123 (by decide) rfl rfl ?_
                    refine px_iinc (q := 128) dI_M_multiply_125 rfl (ic_m _) (by decide) rfl rfl ?_
                    refine px_goto (tgt := 59) dI_M_multiply_128 (by decide) ?_
                    by_cases hK0 : K = 0
                    · subst hK0
                      refine px_iload (q := 61) dI_M_multiply_59 rfl rfl ?_
                      refine px_if_ltM (q := 64) (tgt := 131) dI_M_multiply_61 (by omega) (by decide) rfl (fun b61 => ?_) (fun b61 => ?_)
                      · exact big f5 _ _ rfl rfl hf5 hge
                      · omega
                    · rw [mI_p (by omega)]
                      refine px_iload (q := 61) dI_M_multiply_59 rfl rfl ?_
                      refine px_if_ltN (q := 64) (tgt := 131) dI_M_multiply_61 (by omega) (by decide) rfl (fun b61 => ?_) (fun b61 => ?_)
                      · exact b61.elim
                      · refine px_iload (q := 66) dI_M_multiply_64 rfl rfl ?_
                        refine px_if_eqN (q := 69) (tgt := 131) dI_M_multiply_66 (by omega) (by decide) rfl (fun b66 => ?_) (fun b66 => ?_)
                        · exact big f5 _ _ rfl rfl hf5 hge
                        · exact absurd rfl b66
                  · exact absurd rfl b107
    refine key 128 f3 _ (by omega) hf3 ?_ ?_ ?_ ?_
    · rw [va_up_ne _ _ (by decide)]; exact e0
    · rw [va_up_ne _ _ (by decide)]; exact e1
    · rw [va_up_self, Nat.div_eq_of_lt hvb, Nat.mul_zero]
    · rw [va_up_self]; exact p2_ 128
  refine px_aload_n (q := 1) dI_M_multiply_0 rfl rfl ?_
  refine px_iload_n (q := 2) dI_M_multiply_1 rfl rfl ?_
  refine px_callS1 (q := 5) (ν := mM_none) dI_M_multiply_2 wl_M_23 ws_M_none wb_M_none wi_M ⟨rfl, rfl⟩ (by decide +kernel) ⟨(Nat.le_of_ble_eq_true rfl), (Nat.le_of_ble_eq_true rfl)⟩ (Nat.le_of_ble_eq_true rfl) rfl (c_M_noneG ha ?_)
  refine px_if_neN (q := 8) (tgt := 22) dI_M_multiply_5 (by omega) (by decide) rfl (fun b5 => ?_) (fun b5 => ?_)
  · exact absurd rfl b5
  · refine px_iload_n (q := 9) dI_M_multiply_8 rfl rfl ?_
    refine px_callS1 (q := 12) (ν := mM_none) dI_M_multiply_9 wl_M_23 ws_M_none wb_M_none wi_M ⟨rfl, rfl⟩ (by decide +kernel) ⟨(Nat.le_of_ble_eq_true rfl), (Nat.le_of_ble_eq_true rfl)⟩ (Nat.le_of_ble_eq_true rfl) rfl (c_M_noneG hb ?_)
    refine px_if_neN (q := 15) (tgt := 22) dI_M_multiply_12 (by omega) (by decide) rfl (fun b12 => ?_) (fun b12 => ?_)
    · exact absurd rfl b12
    · refine px_iload_n (q := 16) dI_M_multiply_15 rfl rfl ?_
      refine px_callS1 (q := 19) (ν := mM_none) dI_M_multiply_16 wl_M_23 ws_M_none wb_M_none wi_M ⟨rfl, rfl⟩ (by decide +kernel) ⟨(Nat.le_of_ble_eq_true rfl), (Nat.le_of_ble_eq_true rfl)⟩ (Nat.le_of_ble_eq_true rfl) rfl (c_M_noneG ht ?_)
      refine px_if_eqN (q := 22) (tgt := 26) dI_M_multiply_19 (by omega) (by decide) rfl (fun b19 => ?_) (fun b19 => ?_)
      · refine px_iconst (q := 27) (v := nI 0) dI_M_multiply_26 (by decide +kernel) rfl ?_
        refine px_iconst (q := 28) (v := nI 1) dI_M_multiply_27 (by decide +kernel) rfl ?_
        refine px_callV2 (q := 31) (ν := mM_refused) dI_M_multiply_28 (by decide) rfl rfl wl_M_27 wm_M_refused wv_M_refused wb_M_refused wi_M ⟨rfl, rfl⟩ (by decide +kernel) ⟨(Nat.le_of_ble_eq_true rfl), (Nat.le_of_ble_eq_true rfl)⟩ (Nat.le_of_ble_eq_true rfl) rfl (c_M_refused (by decide) (fun f0 hf0 => ?_))
        refine px_if_eqN (q := 34) (tgt := 35) dI_M_multiply_31 (by omega) (by decide) rfl (fun b31 => ?_) (fun b31 => ?_)
        · exact k35 f0 hf0
        · exact absurd rfl b31
      · exact absurd rfl b19
theorem c_M_gcd {a b t : Nat} (ha : a < 6) (hb : b < 6) (ht : t < 6) (hm : mz_ Y v) (h0 : ∀ Y', mz_ Y' (va_up v t (Nat.gcd (v a) (v b))) → mf_ Y Y' → Y' 23 3 = nI 0 → Post none X Y') : pw_Met l g mM_gcd [.ref (ad_ g 23), .int (nI a), .int (nI b), .int (nI t)] X Y Post := by
  refine pw_ofW (by decide +kernel) rfl (Nat.le_of_ble_eq_true rfl) rfl (fun sz => ?_)
  have k35 : ∀ f0 : Nat → Int32, f0 3 = nI 0 → pw_W l g mM_gcd sz (pw_qM g sz Post 0 0) 35 [(0, .ref (ad_ g 23)), (1, .int (nI a)), (2, .int (nI b)), (3, .int (nI t))] [] X (yr_ Y 23 f0) := by
    intro f0 hf0
    obtain ⟨hrg, W, hwk⟩ := mz_c (f := f0) hm
    have hm1 : mz_ (yr_ Y 23 f0) v := ⟨hrg, W, hwk⟩
    generalize hY1 : yr_ Y 23 f0 = Y1 at hrg hwk hm1
    have hmf1 : mf_ Y Y1 := by rw [← hY1]; exact mf_y (by decide) mf_0
    have hcode : Y1 23 3 = nI 0 := by rw [← hY1, yr_s]; exact hf0
    refine px_aload_n (q := 36) dI_M_gcd_35 rfl rfl ?_
    refine px_iconst (q := 37) (v := nI 0) dI_M_gcd_36 (by decide +kernel) rfl ?_
    refine px_iload_n (q := 38) dI_M_gcd_37 rfl rfl ?_
    refine px_callV2 (q := 41) (ν := mM_load) dI_M_gcd_38 (by decide) rfl rfl wl_M_31 wm_M_load wv_M_load wb_M_load wi_M ⟨rfl, rfl⟩ (by decide +kernel) ⟨(Nat.le_of_ble_eq_true rfl), (Nat.le_of_ble_eq_true rfl)⟩ (Nat.le_of_ble_eq_true rfl) rfl (c_M_load (w := 0) (by decide) ha hwk hrg (fun f1 hf1 => ?_))
    refine px_aload_n (q := 42) dI_M_gcd_41 rfl rfl ?_
    refine px_iconst (q := 43) (v := nI 1) dI_M_gcd_42 (by decide +kernel) rfl ?_
    refine px_iload_n (q := 44) dI_M_gcd_43 rfl rfl ?_
    refine px_callV2 (q := 47) (ν := mM_load) dI_M_gcd_44 (by decide) rfl rfl wl_M_31 wm_M_load wv_M_load wb_M_load wi_M ⟨rfl, rfl⟩ (by decide +kernel) ⟨(Nat.le_of_ble_eq_true rfl), (Nat.le_of_ble_eq_true rfl)⟩ (Nat.le_of_ble_eq_true rfl) rfl (c_M_load (w := 1) (by decide) hb (by rw [yr_s]; exact hf1) (by rw [yr_n (by decide)]; exact hrg) (fun f2 hf2 => ?_))
    rw [yr_yr]
    have e0 : va_up (va_up W 0 (v a)) 1 (v b) 0 = v a := by rw [va_up_ne _ _ (by decide), va_up_self]
    have e1 : va_up (va_up W 0 (v a)) 1 (v b) 1 = v b := va_up_self _ _ _
    have hva := (hrg a ha).1
    have hvb := (hrg b hb).1
    generalize hW2 : va_up (va_up W 0 (v a)) 1 (v b) = W2 at hf2 e0 e1
    refine px_iconst (q := 48) (v := nI 0) dI_M_gcd_47 (by decide +kernel) rfl ?_
    refine px_istore (q := 50) dI_M_gcd_48 (by decide) rfl rfl ?_
    have fin : ∀ (f : Nat → Int32) (W' : Nat → Nat) (ls : List (Nat × Value)), lk_ ls 0 = some (.ref (ad_ g 23)) → lk_ ls 3 = some (.int (nI t)) → wk_ f W' → W' 0 < 2 ^ 128 → W' 0 = Nat.gcd (v a) (v b) → pw_W l g mM_gcd sz (pw_qM g sz Post 0 0) 90 ls [] X (yr_ Y1 25 f) := by
      intro f W' ls hl0 hl3 hf hlt hv
      refine px_aload_n (q := 91) dI_M_gcd_90 hl0 rfl ?_
      refine px_iload_n (q := 92) dI_M_gcd_91 hl3 rfl ?_
      refine px_iconst (q := 93) (v := nI 0) dI_M_gcd_92 (by decide +kernel) rfl ?_
      refine px_callV2 (q := 96) (ν := mM_store) dI_M_gcd_93 (by decide) rfl rfl wl_M_42 wm_M_store wv_M_store wb_M_store wi_M ⟨rfl, rfl⟩ (by decide +kernel) ⟨(Nat.le_of_ble_eq_true rfl), (Nat.le_of_ble_eq_true rfl)⟩ (Nat.le_of_ble_eq_true rfl) rfl (c_M_store (w := 0) (v := v) ht (by decide) (by rw [yr_s]; exact hf) (by rw [yr_n (by decide)]; exact hrg) hlt (fun f5 hf5 => ?_))
      refine px_vret dI_M_gcd_96 rfl ?_
      rw [hv] at hf5
      exact h0 _ (mz_r (mz_w hm1 hf) hf5) (mf_y (by decide) (mf_y (by decide) hmf1)) (by rw [yr_n (by decide), yr_n (by decide)]; exact hcode)
    have key : ∀ (s i : Nat) (f : Nat → Int32) (W' : Nat → Nat), i + s = 1000 → wk_ f W' → W' 0 < 2 ^ 128 → W' 1 < 2 ^ 128 → Nat.gcd (W' 0) (W' 1) = Nat.gcd (v a) (v b) → gs_ (W' 0) (W' 1) s → pw_W l g mM_gcd sz (pw_qM g sz Post 0 0) 50 [(0, .ref (ad_ g 23)), (1, .int (nI a)), (2, .int (nI b)), (3, .int (nI t)), (4, .int (nI i))] [] X (yr_ Y1 25 f) := by
      intro s
      induction s with
      | zero =>
        intro i f W' hi hf q0 q1 hg hgs
        refine px_iload (q := 52) dI_M_gcd_50 rfl rfl ?_
        refine px_sipush (q := 55) (v := nI 1000) dI_M_gcd_52 (by decide +kernel) rfl ?_
        refine px_icmp_geN (q := 58) (tgt := 90) dI_M_gcd_55 (by omega) (by omega) (by decide) rfl (fun b55 => ?_) (fun b55 => ?_)
        · refine fin f W' _ rfl rfl hf q0 ?_
          rw [gs_0 hgs, Nat.gcd_zero_right] at hg
          exact hg
        · omega
      | succ s ih =>
        intro i f W' hi hf q0 q1 hg hgs
        refine px_iload (q := 52) dI_M_gcd_50 rfl rfl ?_
        refine px_sipush (q := 55) (v := nI 1000) dI_M_gcd_52 (by decide +kernel) rfl ?_
        refine px_icmp_geN (q := 58) (tgt := 90) dI_M_gcd_55 (by omega) (by omega) (by decide) rfl (fun b55 => ?_) (fun b55 => ?_)
        · omega
        · refine px_aload_n (q := 59) dI_M_gcd_58 rfl rfl ?_
          refine px_iconst (q := 60) (v := nI 1) dI_M_gcd_59 (by decide +kernel) rfl ?_
          refine px_callV1 (q := 63) (ν := mM_isZero) dI_M_gcd_60 (by decide) rfl rfl wl_M_59 wm_M_isZero wv_M_isZero wb_M_isZero wi_M ⟨rfl, rfl⟩ (by decide +kernel) ⟨(Nat.le_of_ble_eq_true rfl), (Nat.le_of_ble_eq_true rfl)⟩ (Nat.le_of_ble_eq_true rfl) rfl (c_M_isZero (w := 1) (by decide) (by rw [yr_s]; exact hf) (fun z => ?_) (fun z => ?_))
          · refine px_if_neN (q := 66) (tgt := 90) dI_M_gcd_63 (by omega) (by decide) rfl (fun b63 => ?_) (fun b63 => ?_)
            · refine fin f W' _ rfl rfl hf q0 ?_
              rw [z, Nat.gcd_zero_right] at hg
              exact hg
            · exact absurd b63 (by decide)
          · refine px_if_neN (q := 66) (tgt := 90) dI_M_gcd_63 (by omega) (by decide) rfl (fun b63 => ?_) (fun b63 => ?_)
            · exact absurd rfl b63
            · have hz0 : 0 < W' 1 := Nat.pos_of_ne_zero z
              refine px_aload_n (q := 67) dI_M_gcd_66 rfl rfl ?_
              refine px_iconst (q := 68) (v := nI 0) dI_M_gcd_67 (by decide +kernel) rfl ?_
              refine px_iconst (q := 69) (v := nI 1) dI_M_gcd_68 (by decide +kernel) rfl ?_
              refine px_callV2 (q := 72) (ν := mM_split) dI_M_gcd_69 (by decide) rfl rfl wl_M_62 wm_M_split wv_M_split wb_M_split wi_M ⟨rfl, rfl⟩ (by decide +kernel) ⟨(Nat.le_of_ble_eq_true rfl), (Nat.le_of_ble_eq_true rfl)⟩ (Nat.le_of_ble_eq_true rfl) rfl (c_M_split (x := 0) (y := 1) (by decide) (by decide) (by decide) (by decide) (by decide) (by decide) (by rw [yr_s]; exact hf) hz0 q1 (fun f3 W3 hf3 r3 r4 ro => ?_))
              rw [yr_yr]
              refine px_aload_n (q := 73) dI_M_gcd_72 rfl rfl ?_
              refine px_iconst (q := 74) (v := nI 0) dI_M_gcd_73 (by decide +kernel) rfl ?_
              refine px_iconst (q := 75) (v := nI 1) dI_M_gcd_74 (by decide +kernel) rfl ?_
              refine px_callV2 (q := 78) (ν := mM_copy) dI_M_gcd_75 (by decide) rfl rfl wl_M_69 wm_M_copy wv_M_copy wb_M_copy wi_M ⟨rfl, rfl⟩ (by decide +kernel) ⟨(Nat.le_of_ble_eq_true rfl), (Nat.le_of_ble_eq_true rfl)⟩ (Nat.le_of_ble_eq_true rfl) rfl (c_M_copy (w := 0) (x := 1) (by decide) (by decide) (by decide) (by rw [yr_s]; exact hf3) (fun f4 hf4 => ?_))
              rw [yr_yr]
              refine px_aload_n (q := 79) dI_M_gcd_78 rfl rfl ?_
              refine px_iconst (q := 80) (v := nI 1) dI_M_gcd_79 (by decide +kernel) rfl ?_
              refine px_iconst (q := 81) (v := nI 4) dI_M_gcd_80 (by decide +kernel) rfl ?_
              refine px_callV2 (q := 84) (ν := mM_copy) dI_M_gcd_81 (by decide) rfl rfl wl_M_69 wm_M_copy wv_M_copy wb_M_copy wi_M ⟨rfl, rfl⟩ (by decide +kernel) ⟨(Nat.le_of_ble_eq_true rfl), (Nat.le_of_ble_eq_true rfl)⟩ (Nat.le_of_ble_eq_true rfl) rfl (c_M_copy (w := 1) (x := 4) (by decide) (by decide) (by decide) (by rw [yr_s]; exact hf4) (fun f5 hf5 => ?_))
              rw [yr_yr]
              refine px_iinc (q := 87) dI_M_gcd_84 rfl (ic_1 _) (by decide) rfl rfl ?_
              refine px_goto (tgt := 50) dI_M_gcd_87 (by decide) ?_
              have t4 : va_up W3 0 (W3 1) 4 = W' 0 % W' 1 := by rw [va_up_ne _ _ (by decide)]; exact r4
              rw [t4] at hf5
              have t0 : va_up (va_up W3 0 (W3 1)) 1 (W' 0 % W' 1) 0 = W' 1 := by rw [va_up_ne _ _ (by decide), va_up_self]; exact ro 1 (by decide) (by decide)
              have t1 : va_up (va_up W3 0 (W3 1)) 1 (W' 0 % W' 1) 1 = W' 0 % W' 1 := va_up_self _ _ _
              refine ih (i + 1) f5 _ (by omega) hf5 (by rw [t0]; exact q1) (by rw [t1]; exact Nat.lt_trans (Nat.mod_lt _ hz0) q1) ?_ ?_
              · rw [t0, t1, Nat.gcd_comm, ← Nat.gcd_rec, Nat.gcd_comm]; exact hg
              · rw [t0, t1]; exact gs_s hgs z
    refine key 1000 0 f2 W2 rfl hf2 (by rw [e0]; exact hva) (by rw [e1]; exact hvb) (by rw [e0, e1]) ?_
    rw [e1]
    exact gs_i (Nat.lt_of_lt_of_le hvb (by decide)) (by decide)
  refine px_aload_n (q := 1) dI_M_gcd_0 rfl rfl ?_
  refine px_iload_n (q := 2) dI_M_gcd_1 rfl rfl ?_
  refine px_callS1 (q := 5) (ν := mM_none) dI_M_gcd_2 wl_M_23 ws_M_none wb_M_none wi_M ⟨rfl, rfl⟩ (by decide +kernel) ⟨(Nat.le_of_ble_eq_true rfl), (Nat.le_of_ble_eq_true rfl)⟩ (Nat.le_of_ble_eq_true rfl) rfl (c_M_noneG ha ?_)
  refine px_if_neN (q := 8) (tgt := 22) dI_M_gcd_5 (by omega) (by decide) rfl (fun b5 => ?_) (fun b5 => ?_)
  · exact absurd rfl b5
  · refine px_iload_n (q := 9) dI_M_gcd_8 rfl rfl ?_
    refine px_callS1 (q := 12) (ν := mM_none) dI_M_gcd_9 wl_M_23 ws_M_none wb_M_none wi_M ⟨rfl, rfl⟩ (by decide +kernel) ⟨(Nat.le_of_ble_eq_true rfl), (Nat.le_of_ble_eq_true rfl)⟩ (Nat.le_of_ble_eq_true rfl) rfl (c_M_noneG hb ?_)
    refine px_if_neN (q := 15) (tgt := 22) dI_M_gcd_12 (by omega) (by decide) rfl (fun b12 => ?_) (fun b12 => ?_)
    · exact absurd rfl b12
    · refine px_iload_n (q := 16) dI_M_gcd_15 rfl rfl ?_
      refine px_callS1 (q := 19) (ν := mM_none) dI_M_gcd_16 wl_M_23 ws_M_none wb_M_none wi_M ⟨rfl, rfl⟩ (by decide +kernel) ⟨(Nat.le_of_ble_eq_true rfl), (Nat.le_of_ble_eq_true rfl)⟩ (Nat.le_of_ble_eq_true rfl) rfl (c_M_noneG ht ?_)
      refine px_if_eqN (q := 22) (tgt := 26) dI_M_gcd_19 (by omega) (by decide) rfl (fun b19 => ?_) (fun b19 => ?_)
      · refine px_iconst (q := 27) (v := nI 0) dI_M_gcd_26 (by decide +kernel) rfl ?_
        refine px_iconst (q := 28) (v := nI 1) dI_M_gcd_27 (by decide +kernel) rfl ?_
        refine px_callV2 (q := 31) (ν := mM_refused) dI_M_gcd_28 (by decide) rfl rfl wl_M_27 wm_M_refused wv_M_refused wb_M_refused wi_M ⟨rfl, rfl⟩ (by decide +kernel) ⟨(Nat.le_of_ble_eq_true rfl), (Nat.le_of_ble_eq_true rfl)⟩ (Nat.le_of_ble_eq_true rfl) rfl (c_M_refused (by decide) (fun f0 hf0 => ?_))
        refine px_if_eqN (q := 34) (tgt := 35) dI_M_gcd_31 (by omega) (by decide) rfl (fun b31 => ?_) (fun b31 => ?_)
        · exact k35 f0 hf0
        · exact absurd rfl b31
      · exact absurd rfl b19
end CM5
