/-! the reference's calls: compare, bits, word, order, prime -/
section CM6
variable {l : Launch} {g : pw_G} {X : pw_X} {Y : pw_Y} {Post : pw_P} {v : Nat → Nat}
theorem c_M_compare_bad {a b : Int32} (hbad : bd_ a ∨ bd_ b) (hm : mz_ Y v) (hp : ∀ Y', mz_ Y' v → mf_ Y Y' → Y' 23 3 = nI 1 → Post (some (.int (nI 0))) X Y') : pw_Met l g mM_compare [.ref (ad_ g 23), .int a, .int b] X Y Post := by
  refine pw_ofW (by decide +kernel) rfl (Nat.le_of_ble_eq_true rfl) rfl (fun sz => ?_)
  have fin : pw_W l g mM_compare sz (pw_qM g sz Post 0 0) 15 [(0, .ref (ad_ g 23)), (1, .int a), (2, .int b)] [.ref (ad_ g 23)] X Y := by
    refine px_iconst (q := 16) (v := nI 1) dI_M_compare_15 (by decide +kernel) rfl ?_
    refine px_goto (tgt := 20) dI_M_compare_16 (by decide) ?_
    refine px_iconst (q := 21) (v := nI 1) dI_M_compare_20 (by decide +kernel) rfl ?_
    refine px_callV2 (q := 24) (ν := mM_refused) dI_M_compare_21 (by decide) rfl rfl wl_M_27 wm_M_refused wv_M_refused wb_M_refused wi_M ⟨rfl, rfl⟩ (by decide +kernel) ⟨(Nat.le_of_ble_eq_true rfl), (Nat.le_of_ble_eq_true rfl)⟩ (Nat.le_of_ble_eq_true rfl) rfl (c_M_refused (by decide) (fun f hf => ?_))
    refine px_if_eqN (q := 27) (tgt := 29) dI_M_compare_24 (by omega) (by decide) rfl (fun b24 => ?_) (fun b24 => ?_)
    · exact absurd b24 (by decide)
    · refine px_iconst (q := 28) (v := nI 0) dI_M_compare_27 (by decide +kernel) rfl ?_
      refine px_iret dI_M_compare_28 rfl ?_
      exact hp _ (mz_c hm) (mf_y (by decide) mf_0) (by rw [yr_s, hf]; rfl)
  by_cases ha : bd_ a
  · refine px_aload_n (q := 1) dI_M_compare_0 rfl rfl ?_
    refine px_iload_n (q := 2) dI_M_compare_1 rfl rfl ?_
    refine px_callS1 (q := 5) (ν := mM_none) dI_M_compare_2 wl_M_23 ws_M_none wb_M_none wi_M ⟨rfl, rfl⟩ (by decide +kernel) ⟨(Nat.le_of_ble_eq_true rfl), (Nat.le_of_ble_eq_true rfl)⟩ (Nat.le_of_ble_eq_true rfl) rfl (c_M_noneB ha ?_)
    refine px_if_neN (q := 8) (tgt := 15) dI_M_compare_5 (by omega) (by decide) rfl (fun b5 => ?_) (fun b5 => ?_)
    · exact fin
    · exact absurd b5 (by decide)
  · obtain ⟨ka, hka, rfl⟩ := Decidable.not_not.mp ha
    have hb : bd_ b := hbad.elim (fun q => absurd q ha) id
    refine px_aload_n (q := 1) dI_M_compare_0 rfl rfl ?_
    refine px_iload_n (q := 2) dI_M_compare_1 rfl rfl ?_
    refine px_callS1 (q := 5) (ν := mM_none) dI_M_compare_2 wl_M_23 ws_M_none wb_M_none wi_M ⟨rfl, rfl⟩ (by decide +kernel) ⟨(Nat.le_of_ble_eq_true rfl), (Nat.le_of_ble_eq_true rfl)⟩ (Nat.le_of_ble_eq_true rfl) rfl (c_M_noneG hka ?_)
    refine px_if_neN (q := 8) (tgt := 15) dI_M_compare_5 (by omega) (by decide) rfl (fun b5 => ?_) (fun b5 => ?_)
    · exact absurd rfl b5
    · refine px_iload_n (q := 9) dI_M_compare_8 rfl rfl ?_
      refine px_callS1 (q := 12) (ν := mM_none) dI_M_compare_9 wl_M_23 ws_M_none wb_M_none wi_M ⟨rfl, rfl⟩ (by decide +kernel) ⟨(Nat.le_of_ble_eq_true rfl), (Nat.le_of_ble_eq_true rfl)⟩ (Nat.le_of_ble_eq_true rfl) rfl (c_M_noneB hb ?_)
      refine px_if_eqN (q := 15) (tgt := 19) dI_M_compare_12 (by omega) (by decide) rfl (fun b12 => ?_) (fun b12 => ?_)
      · exact absurd b12 (by decide)
      · exact fin
theorem c_M_compare {a b : Nat} (ha : a < 6) (hb : b < 6) (hm : mz_ Y v) (h1 : v a < v b → ∀ Y', mz_ Y' v → mf_ Y Y' → Y' 23 3 = nI 0 → Post (some (.int (-1))) X Y') (h2 : v a = v b → ∀ Y', mz_ Y' v → mf_ Y Y' → Y' 23 3 = nI 0 → Post (some (.int (nI 0))) X Y') (h3 : v b < v a → ∀ Y', mz_ Y' v → mf_ Y Y' → Y' 23 3 = nI 0 → Post (some (.int (nI 1))) X Y') : pw_Met l g mM_compare [.ref (ad_ g 23), .int (nI a), .int (nI b)] X Y Post := by
  refine pw_ofW (by decide +kernel) rfl (Nat.le_of_ble_eq_true rfl) rfl (fun sz => ?_)
  refine px_aload_n (q := 1) dI_M_compare_0 rfl rfl ?_
  refine px_iload_n (q := 2) dI_M_compare_1 rfl rfl ?_
  refine px_callS1 (q := 5) (ν := mM_none) dI_M_compare_2 wl_M_23 ws_M_none wb_M_none wi_M ⟨rfl, rfl⟩ (by decide +kernel) ⟨(Nat.le_of_ble_eq_true rfl), (Nat.le_of_ble_eq_true rfl)⟩ (Nat.le_of_ble_eq_true rfl) rfl (c_M_noneG ha ?_)
  refine px_if_neN (q := 8) (tgt := 15) dI_M_compare_5 (by omega) (by decide) rfl (fun b5 => ?_) (fun b5 => ?_)
  · exact absurd rfl b5
  · refine px_iload_n (q := 9) dI_M_compare_8 rfl rfl ?_
    refine px_callS1 (q := 12) (ν := mM_none) dI_M_compare_9 wl_M_23 ws_M_none wb_M_none wi_M ⟨rfl, rfl⟩ (by decide +kernel) ⟨(Nat.le_of_ble_eq_true rfl), (Nat.le_of_ble_eq_true rfl)⟩ (Nat.le_of_ble_eq_true rfl) rfl (c_M_noneG hb ?_)
    refine px_if_eqN (q := 15) (tgt := 19) dI_M_compare_12 (by omega) (by decide) rfl (fun b12 => ?_) (fun b12 => ?_)
    · refine px_iconst (q := 20) (v := nI 0) dI_M_compare_19 (by decide +kernel) rfl ?_
      refine px_iconst (q := 21) (v := nI 1) dI_M_compare_20 (by decide +kernel) rfl ?_
      refine px_callV2 (q := 24) (ν := mM_refused) dI_M_compare_21 (by decide) rfl rfl wl_M_27 wm_M_refused wv_M_refused wb_M_refused wi_M ⟨rfl, rfl⟩ (by decide +kernel) ⟨(Nat.le_of_ble_eq_true rfl), (Nat.le_of_ble_eq_true rfl)⟩ (Nat.le_of_ble_eq_true rfl) rfl (c_M_refused (by decide) (fun f0 hf0 => ?_))
      refine px_if_eqN (q := 27) (tgt := 29) dI_M_compare_24 (by omega) (by decide) rfl (fun b24 => ?_) (fun b24 => ?_)
      · obtain ⟨hrg, W, hwk⟩ := mz_c (f := f0) hm
        refine px_aload_n (q := 30) dI_M_compare_29 rfl rfl ?_
        refine px_iconst (q := 31) (v := nI 0) dI_M_compare_30 (by decide +kernel) rfl ?_
        refine px_iload_n (q := 32) dI_M_compare_31 rfl rfl ?_
        refine px_callV2 (q := 35) (ν := mM_load) dI_M_compare_32 (by decide) rfl rfl wl_M_31 wm_M_load wv_M_load wb_M_load wi_M ⟨rfl, rfl⟩ (by decide +kernel) ⟨(Nat.le_of_ble_eq_true rfl), (Nat.le_of_ble_eq_true rfl)⟩ (Nat.le_of_ble_eq_true rfl) rfl (c_M_load (w := 0) (by decide) ha hwk hrg (fun f1 hf1 => ?_))
        refine px_aload_n (q := 36) dI_M_compare_35 rfl rfl ?_
        refine px_iconst (q := 37) (v := nI 1) dI_M_compare_36 (by decide +kernel) rfl ?_
        refine px_iload_n (q := 38) dI_M_compare_37 rfl rfl ?_
        refine px_callV2 (q := 41) (ν := mM_load) dI_M_compare_38 (by decide) rfl rfl wl_M_31 wm_M_load wv_M_load wb_M_load wi_M ⟨rfl, rfl⟩ (by decide +kernel) ⟨(Nat.le_of_ble_eq_true rfl), (Nat.le_of_ble_eq_true rfl)⟩ (Nat.le_of_ble_eq_true rfl) rfl (c_M_load (w := 1) (by decide) hb (by rw [yr_s]; exact hf1) (by rw [yr_n (by decide)]; exact hrg) (fun f2 hf2 => ?_))
        rw [yr_yr]
        have e0 : va_up (va_up W 0 (v a)) 1 (v b) 0 = v a := by rw [va_up_ne _ _ (by decide), va_up_self]
        have e1 : va_up (va_up W 0 (v a)) 1 (v b) 1 = v b := va_up_self _ _ _
        have hmz : mz_ (yr_ (yr_ Y 23 f0) 25 f2) v := mz_w (mz_c hm) hf2
        have hmf : mf_ Y (yr_ (yr_ Y 23 f0) 25 f2) := mf_y (by decide) (mf_y (by decide) mf_0)
        have hcd : yr_ (yr_ Y 23 f0) 25 f2 23 3 = nI 0 := by rw [yr_n (by decide), yr_s, hf0]; rfl
        refine px_aload_n (q := 42) dI_M_compare_41 rfl rfl ?_
        refine px_iconst (q := 43) (v := nI 0) dI_M_compare_42 (by decide +kernel) rfl ?_
        refine px_iconst (q := 44) (v := nI 1) dI_M_compare_43 (by decide +kernel) rfl ?_
        refine px_callV2 (q := 47) (ν := mM_against) dI_M_compare_44 (by decide) rfl rfl wl_M_45 wm_M_against wv_M_against wb_M_against wi_M ⟨rfl, rfl⟩ (by decide +kernel) ⟨(Nat.le_of_ble_eq_true rfl), (Nat.le_of_ble_eq_true rfl)⟩ (Nat.le_of_ble_eq_true rfl) rfl (c_M_against (x := 0) (y := 1) (by decide) (by decide) (by rw [yr_s]; exact hf2) (fun z => ?_) (fun z => ?_) (fun z => ?_))
        · refine px_iret dI_M_compare_47 rfl ?_
          rw [e0, e1] at z
          exact h1 z _ hmz hmf hcd
        · refine px_iret dI_M_compare_47 rfl ?_
          rw [e0, e1] at z
          exact h2 z _ hmz hmf hcd
        · refine px_iret dI_M_compare_47 rfl ?_
          rw [e0, e1] at z
          exact h3 z _ hmz hmf hcd
      · exact absurd rfl b24
    · exact absurd rfl b12
theorem c_M_bitsOf {a : Nat} (ha : a < 6) (hg : rg_ (Y 24) v) (hp : ∀ T, T ≤ 128 → bl_ (v a) T → Post (some (.int (nI T))) X Y) : pw_Met l g mM_bitsOf [.ref (ad_ g 23), .int (nI a)] X Y Post := by
  have hv := hg a ha
  refine pw_ofW (by decide +kernel) rfl (Nat.le_of_ble_eq_true rfl) rfl (fun sz => ?_)
  refine px_sipush (q := 3) (v := nI 128) dI_M_bitsOf_0 (by decide +kernel) rfl ?_
  refine px_istore_n (q := 4) dI_M_bitsOf_3 rfl (by decide) rfl rfl ?_
  have key : ∀ K, K ≤ 128 → v a < 2 ^ K → pw_W l g mM_bitsOf sz (pw_qM g sz Post 0 0) 4 [(0, .ref (ad_ g 23)), (1, .int (nI a)), (2, .int (nI K))] [] X Y := by
    intro K
    induction K with
    | zero =>
      intro hK hlt
      refine px_iload_n (q := 5) dI_M_bitsOf_4 rfl rfl ?_
      refine px_if_leN (q := 8) (tgt := 31) dI_M_bitsOf_5 (by omega) (by decide) rfl (fun b5 => ?_) (fun b5 => ?_)
      · refine px_iload_n (q := 32) dI_M_bitsOf_31 rfl rfl ?_
        refine px_iret dI_M_bitsOf_32 rfl ?_
        exact hp 0 (by omega) ⟨hlt, fun q => absurd q (by omega)⟩
      · omega
    | succ K ih =>
      intro hK hlt
      have hb := hv.2 K (by omega)
      refine px_iload_n (q := 5) dI_M_bitsOf_4 rfl rfl ?_
      refine px_if_leN (q := 8) (tgt := 31) dI_M_bitsOf_5 (by omega) (by decide) rfl (fun b5 => ?_) (fun b5 => ?_)
      · omega
      · refine px_aload_n (q := 9) dI_M_bitsOf_8 rfl rfl ?_
        refine px_getM (q := 12) (j := 0) dI_M_bitsOf_9 wf_M_7 rfl (by decide) rfl rfl ?_
        refine px_sipush (q := 15) (v := nI 128) dI_M_bitsOf_12 (by decide +kernel) rfl ?_
        refine px_iload_n (q := 16) dI_M_bitsOf_15 rfl rfl ?_
        refine px_imulN (q := 17) dI_M_bitsOf_16 rfl ?_
        refine px_iload_n (q := 18) dI_M_bitsOf_17 rfl rfl ?_
        refine px_iaddN (q := 19) dI_M_bitsOf_18 rfl ?_
        refine px_iconst (q := 20) (v := nI 1) dI_M_bitsOf_19 (by decide +kernel) rfl ?_
        refine px_isubN (q := 21) dI_M_bitsOf_20 (by omega) rfl ?_
        refine px_iald (q := 22) dI_M_bitsOf_21 rfl (by omega) (by omega) hb rfl ?_
        refine px_if_neN (q := 25) (tgt := 31) dI_M_bitsOf_22 (by omega) (by decide) rfl (fun b22 => ?_) (fun b22 => ?_)
        · refine px_iload_n (q := 32) dI_M_bitsOf_31 rfl rfl ?_
          refine px_iret dI_M_bitsOf_32 rfl ?_
          refine hp (K + 1) hK ⟨hlt, fun _ => ge_s_ ?_⟩
          rcases ms_ (v a) K with q | q
          · exact absurd q b22
          · exact q
        · refine px_iinc (q := 28) dI_M_bitsOf_25 rfl (ic_d (by omega)) (by decide) rfl rfl ?_
          refine px_goto (tgt := 4) dI_M_bitsOf_28 (by decide) ?_
          exact ih (by omega) (lt_s_ hlt b22)
  exact key 128 (by omega) hv.1
theorem c_M_bits_bad {a : Int32} (hbad : bd_ a) (hm : mz_ Y v) (hp : ∀ Y', mz_ Y' v → mf_ Y Y' → Y' 23 3 = nI 1 → Post (some (.int (nI 0))) X Y') : pw_Met l g mM_bits [.ref (ad_ g 23), .int a] X Y Post := by
  refine pw_ofW (by decide +kernel) rfl (Nat.le_of_ble_eq_true rfl) rfl (fun sz => ?_)
  refine px_aload_n (q := 1) dI_M_bits_0 rfl rfl ?_
  refine px_iload_n (q := 2) dI_M_bits_1 rfl rfl ?_
  refine px_callS1 (q := 5) (ν := mM_none) dI_M_bits_2 wl_M_23 ws_M_none wb_M_none wi_M ⟨rfl, rfl⟩ (by decide +kernel) ⟨(Nat.le_of_ble_eq_true rfl), (Nat.le_of_ble_eq_true rfl)⟩ (Nat.le_of_ble_eq_true rfl) rfl (c_M_noneB hbad ?_)
  refine px_iconst (q := 6) (v := nI 1) dI_M_bits_5 (by decide +kernel) rfl ?_
  refine px_callV2 (q := 9) (ν := mM_refused) dI_M_bits_6 (by decide) rfl rfl wl_M_27 wm_M_refused wv_M_refused wb_M_refused wi_M ⟨rfl, rfl⟩ (by decide +kernel) ⟨(Nat.le_of_ble_eq_true rfl), (Nat.le_of_ble_eq_true rfl)⟩ (Nat.le_of_ble_eq_true rfl) rfl (c_M_refused (by decide) (fun f hf => ?_))
  refine px_if_eqN (q := 12) (tgt := 16) dI_M_bits_9 (by omega) (by decide) rfl (fun b9 => ?_) (fun b9 => ?_)
  · exact absurd b9 (by decide)
  · refine px_iconst (q := 13) (v := nI 0) dI_M_bits_12 (by decide +kernel) rfl ?_
    refine px_goto (tgt := 21) dI_M_bits_13 (by decide) ?_
    refine px_iret dI_M_bits_21 rfl ?_
    exact hp _ (mz_c hm) (mf_y (by decide) mf_0) (by rw [yr_s, hf]; rfl)
theorem c_M_bits {a : Nat} (ha : a < 6) (hm : mz_ Y v) (hp : ∀ Y' T, T ≤ 128 → bl_ (v a) T → mz_ Y' v → mf_ Y Y' → Y' 23 3 = nI 0 → Post (some (.int (nI T))) X Y') : pw_Met l g mM_bits [.ref (ad_ g 23), .int (nI a)] X Y Post := by
  refine pw_ofW (by decide +kernel) rfl (Nat.le_of_ble_eq_true rfl) rfl (fun sz => ?_)
  refine px_aload_n (q := 1) dI_M_bits_0 rfl rfl ?_
  refine px_iload_n (q := 2) dI_M_bits_1 rfl rfl ?_
  refine px_callS1 (q := 5) (ν := mM_none) dI_M_bits_2 wl_M_23 ws_M_none wb_M_none wi_M ⟨rfl, rfl⟩ (by decide +kernel) ⟨(Nat.le_of_ble_eq_true rfl), (Nat.le_of_ble_eq_true rfl)⟩ (Nat.le_of_ble_eq_true rfl) rfl (c_M_noneG ha ?_)
  refine px_iconst (q := 6) (v := nI 1) dI_M_bits_5 (by decide +kernel) rfl ?_
  refine px_callV2 (q := 9) (ν := mM_refused) dI_M_bits_6 (by decide) rfl rfl wl_M_27 wm_M_refused wv_M_refused wb_M_refused wi_M ⟨rfl, rfl⟩ (by decide +kernel) ⟨(Nat.le_of_ble_eq_true rfl), (Nat.le_of_ble_eq_true rfl)⟩ (Nat.le_of_ble_eq_true rfl) rfl (c_M_refused (by decide) (fun f hf => ?_))
  refine px_if_eqN (q := 12) (tgt := 16) dI_M_bits_9 (by omega) (by decide) rfl (fun b9 => ?_) (fun b9 => ?_)
  · refine px_aload_n (q := 17) dI_M_bits_16 rfl rfl ?_
    refine px_iload_n (q := 18) dI_M_bits_17 rfl rfl ?_
    refine px_callV1 (q := 21) (ν := mM_bitsOf) dI_M_bits_18 (by decide) rfl rfl wl_M_75 wm_M_bitsOf wv_M_bitsOf wb_M_bitsOf wi_M ⟨rfl, rfl⟩ (by decide +kernel) ⟨(Nat.le_of_ble_eq_true rfl), (Nat.le_of_ble_eq_true rfl)⟩ (Nat.le_of_ble_eq_true rfl) rfl (c_M_bitsOf ha (mz_c hm).1 (fun T hT hbl => ?_))
    refine px_iret dI_M_bits_21 rfl ?_
    exact hp _ T hT hbl (mz_c hm) (mf_y (by decide) mf_0) (by rw [yr_s, hf]; rfl)
  · exact absurd rfl b9
theorem c_M_word_bad {a k : Int32} (hbad : bd_ a ∨ ¬ ∃ j, j < 4 ∧ k = nI j) (hm : mz_ Y v) (hp : ∀ Y', mz_ Y' v → mf_ Y Y' → Y' 23 3 = nI 1 → Post (some (.long (lN 0))) X Y') : pw_Met l g mM_word [.ref (ad_ g 23), .int a, .int k] X Y Post := by
  refine pw_ofW (by decide +kernel) rfl (Nat.le_of_ble_eq_true rfl) rfl (fun sz => ?_)
  have fin : pw_W l g mM_word sz (pw_qM g sz Post 0 0) 17 [(0, .ref (ad_ g 23)), (1, .int a), (2, .int k)] [.ref (ad_ g 23)] X Y := by
    refine px_iconst (q := 18) (v := nI 1) dI_M_word_17 (by decide +kernel) rfl ?_
    refine px_goto (tgt := 22) dI_M_word_18 (by decide) ?_
    refine px_iconst (q := 23) (v := nI 1) dI_M_word_22 (by decide +kernel) rfl ?_
    refine px_callV2 (q := 26) (ν := mM_refused) dI_M_word_23 (by decide) rfl rfl wl_M_27 wm_M_refused wv_M_refused wb_M_refused wi_M ⟨rfl, rfl⟩ (by decide +kernel) ⟨(Nat.le_of_ble_eq_true rfl), (Nat.le_of_ble_eq_true rfl)⟩ (Nat.le_of_ble_eq_true rfl) rfl (c_M_refused (by decide) (fun f hf => ?_))
    refine px_if_eqN (q := 29) (tgt := 31) dI_M_word_26 (by omega) (by decide) rfl (fun b26 => ?_) (fun b26 => ?_)
    · exact absurd b26 (by decide)
    · refine px_lconst (q := 30) (v := lN 0) dI_M_word_29 rfl rfl ?_
      refine px_lret dI_M_word_30 rfl ?_
      exact hp _ (mz_c hm) (mf_y (by decide) mf_0) (by rw [yr_s, hf]; rfl)
  by_cases ha : bd_ a
  · refine px_aload_n (q := 1) dI_M_word_0 rfl rfl ?_
    refine px_iload_n (q := 2) dI_M_word_1 rfl rfl ?_
    refine px_callS1 (q := 5) (ν := mM_none) dI_M_word_2 wl_M_23 ws_M_none wb_M_none wi_M ⟨rfl, rfl⟩ (by decide +kernel) ⟨(Nat.le_of_ble_eq_true rfl), (Nat.le_of_ble_eq_true rfl)⟩ (Nat.le_of_ble_eq_true rfl) rfl (c_M_noneB ha ?_)
    refine px_if_neN (q := 8) (tgt := 17) dI_M_word_5 (by omega) (by decide) rfl (fun b5 => ?_) (fun b5 => ?_)
    · exact fin
    · exact absurd b5 (by decide)
  · obtain ⟨ka, hka, rfl⟩ := Decidable.not_not.mp ha
    have hk : ¬ ∃ j, j < 4 ∧ k = nI j := hbad.elim (fun q => absurd q ha) id
    refine px_aload_n (q := 1) dI_M_word_0 rfl rfl ?_
    refine px_iload_n (q := 2) dI_M_word_1 rfl rfl ?_
    refine px_callS1 (q := 5) (ν := mM_none) dI_M_word_2 wl_M_23 ws_M_none wb_M_none wi_M ⟨rfl, rfl⟩ (by decide +kernel) ⟨(Nat.le_of_ble_eq_true rfl), (Nat.le_of_ble_eq_true rfl)⟩ (Nat.le_of_ble_eq_true rfl) rfl (c_M_noneG hka ?_)
    refine px_if_neN (q := 8) (tgt := 17) dI_M_word_5 (by omega) (by decide) rfl (fun b5 => ?_) (fun b5 => ?_)
    · exact absurd rfl b5
    · refine px_iload_n (q := 9) dI_M_word_8 rfl rfl ?_
      refine px_if_lt (q := 12) (tgt := 17) dI_M_word_9 (by decide) rfl (fun b9 => ?_) (fun b9 => ?_)
      · exact fin
      · refine px_iload_n (q := 13) dI_M_word_12 rfl rfl ?_
        refine px_iconst (q := 14) (v := nI 3) dI_M_word_13 (by decide +kernel) rfl ?_
        refine px_icmp_le (q := 17) (tgt := 21) dI_M_word_14 (by decide) rfl (fun b14 => ?_) (fun b14 => ?_)
        · exfalso
          obtain ⟨j, hj, e⟩ := nI_of2 (M := nI 3) (n := 3) (by decide) b9 b14
          exact hk ⟨j, by omega, e⟩
        · exact fin
theorem wd_step {V k j : Nat} (hj : j < 32) : 2 * (V / 2 ^ (32 * k + (j + 1)) % 2 ^ (32 - (j + 1))) + V / 2 ^ (32 * k + j) % 2 = V / 2 ^ (32 * k + j) % 2 ^ (32 - j) := by
  have e1 : V / 2 ^ (32 * k + (j + 1)) = V / 2 ^ (32 * k + j) / 2 := by rw [← Nat.add_assoc, Nat.pow_succ, Nat.div_div_eq_div_mul]
  have e2 : 2 ^ (32 - j) = 2 * 2 ^ (32 - (j + 1)) := by rw [← Nat.pow_succ']; congr 1; omega
  rw [e1, e2, Nat.mod_mul]
  omega
theorem c_M_word {a k : Nat} (ha : a < 6) (hk : k < 4) (hm : mz_ Y v) (hp : ∀ Y', mz_ Y' v → mf_ Y Y' → Y' 23 3 = nI 0 → Post (some (.long (lN (v a / 4294967296 ^ k % 4294967296)))) X Y') : pw_Met l g mM_word [.ref (ad_ g 23), .int (nI a), .int (nI k)] X Y Post := by
  refine pw_ofW (by decide +kernel) rfl (Nat.le_of_ble_eq_true rfl) rfl (fun sz => ?_)
  have fin : ∀ f0 : Nat → Int32, f0 3 = nI 0 → pw_W l g mM_word sz (pw_qM g sz Post 0 0) 31 [(0, .ref (ad_ g 23)), (1, .int (nI a)), (2, .int (nI k))] [] X (yr_ Y 23 f0) := by
    intro f0 hf0
    have hm1 := mz_c (f := f0) hm
    have hv := hm1.1 a ha
    refine px_lconst (q := 32) (v := lN 0) dI_M_word_31 rfl rfl ?_
    refine px_lstore_n (q := 33) dI_M_word_32 rfl (by decide) rfl rfl ?_
    refine px_bipush (q := 35) (v := nI 31) dI_M_word_33 (by decide +kernel) rfl ?_
    refine px_istore (q := 37) dI_M_word_35 (by decide) rfl rfl ?_
    have key : ∀ J, J ≤ 32 → pw_W l g mM_word sz (pw_qM g sz Post 0 0) 37 [(0, .ref (ad_ g 23)), (1, .int (nI a)), (2, .int (nI k)), (3, .long (lN (v a / 2 ^ (32 * k + J) % 2 ^ (32 - J)))), (5, .int (mI J))] [] X (yr_ Y 23 f0) := by
      intro J
      induction J with
      | zero =>
        intro hJ
        refine px_iload (q := 39) dI_M_word_37 rfl rfl ?_
        refine px_if_ltM (q := 42) (tgt := 74) dI_M_word_39 (by omega) (by decide) rfl (fun b39 => ?_) (fun b39 => ?_)
        · refine px_lload_n (q := 75) dI_M_word_74 rfl rfl ?_
          refine px_lret dI_M_word_75 rfl ?_
          have e : v a / 4294967296 ^ k % 4294967296 = v a / 2 ^ (32 * k + 0) % 2 ^ (32 - 0) := by
            rw [B_pow, Nat.mul_comm k 32]; rfl
          rw [← e]
          exact hp _ hm1 (mf_y (by decide) mf_0) (by rw [yr_s]; exact hf0)
        · omega
      | succ J ih =>
        intro hJ
        have hb := hv.2 (32 * k + J) (by omega)
        have hb2 : v a / 2 ^ (32 * k + J) % 2 < 2 := Nat.mod_lt _ (by decide)
        rw [mI_s]
        refine px_iload (q := 39) dI_M_word_37 rfl rfl ?_
        refine px_if_ltN (q := 42) (tgt := 74) dI_M_word_39 (by omega) (by decide) rfl (fun b39 => ?_) (fun b39 => ?_)
        · exact b39.elim
        · refine px_ldc2 (q := 45) (v2 := lN 2) dI_M_word_42 wk_M_78 (by decide +kernel) rfl ?_
          refine px_lload_n (q := 46) dI_M_word_45 rfl rfl ?_
          refine px_lmulN (q := 47) dI_M_word_46 rfl ?_
          refine px_aload_n (q := 48) dI_M_word_47 rfl rfl ?_
          refine px_getM (q := 51) (j := 0) dI_M_word_48 wf_M_7 rfl (by decide) rfl rfl ?_
          refine px_sipush (q := 54) (v := nI 128) dI_M_word_51 (by decide +kernel) rfl ?_
          refine px_iload_n (q := 55) dI_M_word_54 rfl rfl ?_
          refine px_imulN (q := 56) dI_M_word_55 rfl ?_
          refine px_bipush (q := 58) (v := nI 32) dI_M_word_56 (by decide +kernel) rfl ?_
          refine px_iload_n (q := 59) dI_M_word_58 rfl rfl ?_
          refine px_imulN (q := 60) dI_M_word_59 rfl ?_
          refine px_iaddN (q := 61) dI_M_word_60 rfl ?_
          refine px_iload (q := 63) dI_M_word_61 rfl rfl ?_
          refine px_iaddN (q := 64) dI_M_word_63 rfl ?_
          refine px_iald (q := 65) dI_M_word_64 rfl (by omega) (by omega) (by rw [Nat.add_assoc]; exact hb : yr_ Y 23 f0 24 (128 * a + 32 * k + J) = nI (v a / 2 ^ (32 * k + J) % 2)) rfl ?_
          refine px_i2lN (q := 66) dI_M_word_65 (by omega) rfl ?_
          refine px_laddN (q := 67) dI_M_word_66 rfl ?_
          refine px_lstore_n (q := 68) dI_M_word_67 rfl (by decide) rfl rfl ?_
          refine px_iinc (q := 71) dI_M_word_68 rfl (ic_m _) (by decide) rfl rfl ?_
          refine px_goto (tgt := 37) dI_M_word_71 (by decide) ?_
          rw [wd_step (by omega)]
          exact ih (by omega)
    have hst := key 32 (by omega)
    rw [Nat.sub_self, Nat.pow_zero, Nat.mod_one] at hst
    exact hst
  refine px_aload_n (q := 1) dI_M_word_0 rfl rfl ?_
  refine px_iload_n (q := 2) dI_M_word_1 rfl rfl ?_
  refine px_callS1 (q := 5) (ν := mM_none) dI_M_word_2 wl_M_23 ws_M_none wb_M_none wi_M ⟨rfl, rfl⟩ (by decide +kernel) ⟨(Nat.le_of_ble_eq_true rfl), (Nat.le_of_ble_eq_true rfl)⟩ (Nat.le_of_ble_eq_true rfl) rfl (c_M_noneG ha ?_)
  refine px_if_neN (q := 8) (tgt := 17) dI_M_word_5 (by omega) (by decide) rfl (fun b5 => ?_) (fun b5 => ?_)
  · exact absurd rfl b5
  · refine px_iload_n (q := 9) dI_M_word_8 rfl rfl ?_
    refine px_if_ltN (q := 12) (tgt := 17) dI_M_word_9 (by omega) (by decide) rfl (fun b9 => ?_) (fun b9 => ?_)
    · exact b9.elim
    · refine px_iload_n (q := 13) dI_M_word_12 rfl rfl ?_
      refine px_iconst (q := 14) (v := nI 3) dI_M_word_13 (by decide +kernel) rfl ?_
      refine px_icmp_leN (q := 17) (tgt := 21) dI_M_word_14 (by omega) (by omega) (by decide) rfl (fun b14 => ?_) (fun b14 => ?_)
      · refine px_iconst (q := 22) (v := nI 0) dI_M_word_21 (by decide +kernel) rfl ?_
        refine px_iconst (q := 23) (v := nI 1) dI_M_word_22 (by decide +kernel) rfl ?_
        refine px_callV2 (q := 26) (ν := mM_refused) dI_M_word_23 (by decide) rfl rfl wl_M_27 wm_M_refused wv_M_refused wb_M_refused wi_M ⟨rfl, rfl⟩ (by decide +kernel) ⟨(Nat.le_of_ble_eq_true rfl), (Nat.le_of_ble_eq_true rfl)⟩ (Nat.le_of_ble_eq_true rfl) rfl (c_M_refused (by decide) (fun f hf => ?_))
        refine px_if_eqN (q := 29) (tgt := 31) dI_M_word_26 (by omega) (by decide) rfl (fun b26 => ?_) (fun b26 => ?_)
        · exact fin f hf
        · exact absurd rfl b26
      · omega
theorem c_M_small {a m : Nat} (ha : a < 6) (h2 : 2 ≤ m) (hm : m ≤ 1000) (hg : rg_ (Y 24) v) (hp : Post (some (.int (nI (v a % m)))) X Y) : pw_Met l g mM_small [.ref (ad_ g 23), .int (nI a), .int (nI m)] X Y Post := by
  have hv := hg a ha
  refine pw_ofW (by decide +kernel) rfl (Nat.le_of_ble_eq_true rfl) rfl (fun sz => ?_)
  refine px_iconst (q := 1) (v := nI 0) dI_M_small_0 (by decide +kernel) rfl ?_
  refine px_istore_n (q := 2) dI_M_small_1 rfl (by decide) rfl rfl ?_
  refine px_bipush (q := 4) (v := nI 127) dI_M_small_2 (by decide +kernel) rfl ?_
  refine px_istore (q := 6) dI_M_small_4 (by decide) rfl rfl ?_
  have key : ∀ K r, K ≤ 128 → r = v a / 2 ^ K % m → pw_W l g mM_small sz (pw_qM g sz Post 0 0) 6 [(0, .ref (ad_ g 23)), (1, .int (nI a)), (2, .int (nI m)), (3, .int (nI r)), (4, .int (mI K))] [] X Y := by
    intro K
    induction K with
    | zero =>
      intro r hK hr
      rw [Nat.pow_zero, Nat.div_one] at hr
      refine px_iload (q := 8) dI_M_small_6 rfl rfl ?_
      refine px_if_ltM (q := 11) (tgt := 37) dI_M_small_8 (by omega) (by decide) rfl (fun b8 => ?_) (fun b8 => ?_)
      · refine px_iload_n (q := 38) dI_M_small_37 rfl rfl ?_
        refine px_iret dI_M_small_38 rfl ?_
        rw [hr]; exact hp
      · omega
    | succ K ih =>
      intro r hK hr
      have hb := hv.2 K (by omega)
      have hb2 : v a / 2 ^ K % 2 < 2 := Nat.mod_lt _ (by decide)
      have hpre : v a / 2 ^ K = 2 * (v a / 2 ^ (K + 1)) + v a / 2 ^ K % 2 := hi_eq (B := 0)
      have hrm : r < m := by rw [hr]; exact Nat.mod_lt _ (by omega)
      rw [mI_s]
      refine px_iload (q := 8) dI_M_small_6 rfl rfl ?_
      refine px_if_ltN (q := 11) (tgt := 37) dI_M_small_8 (by omega) (by decide) rfl (fun b8 => ?_) (fun b8 => ?_)
      · exact b8.elim
      · refine px_iconst (q := 12) (v := nI 2) dI_M_small_11 (by decide +kernel) rfl ?_
        refine px_iload_n (q := 13) dI_M_small_12 rfl rfl ?_
        refine px_imulN (q := 14) dI_M_small_13 rfl ?_
        refine px_aload_n (q := 15) dI_M_small_14 rfl rfl ?_
        refine px_getM (q := 18) (j := 0) dI_M_small_15 wf_M_7 rfl (by decide) rfl rfl ?_
        refine px_sipush (q := 21) (v := nI 128) dI_M_small_18 (by decide +kernel) rfl ?_
        refine px_iload_n (q := 22) dI_M_small_21 rfl rfl ?_
        refine px_imulN (q := 23) dI_M_small_22 rfl ?_
        refine px_iload (q := 25) dI_M_small_23 rfl rfl ?_
        refine px_iaddN (q := 26) dI_M_small_25 rfl ?_
        refine px_iald (q := 27) dI_M_small_26 rfl (by omega) (by omega) hb rfl ?_
        refine px_iaddN (q := 28) dI_M_small_27 rfl ?_
        refine px_iload_n (q := 29) dI_M_small_28 rfl rfl ?_
        refine px_iremN (q := 30) dI_M_small_29 (by omega) (by omega) (by omega) rfl ?_
        refine px_istore_n (q := 31) dI_M_small_30 rfl (by decide) rfl rfl ?_
        refine px_iinc (q := 34) dI_M_small_31 rfl (ic_m _) (by decide) rfl rfl ?_
        refine px_goto (tgt := 6) dI_M_small_34 (by decide) ?_
        refine ih _ (by omega) ?_
        rw [hr]
        conv => rhs; rw [hpre]
        rw [Nat.add_mod, Nat.mul_mod, Nat.mod_mod, ← Nat.mul_mod, ← Nat.add_mod]
  refine key 128 0 (by omega) ?_
  rw [Nat.div_eq_of_lt hv.1, Nat.zero_mod]
theorem c_M_value {a k : Nat} (ha : a < 6) (hk : k ≤ 4096) (hg : rg_ (Y 24) v) (hp : Post (some (.int (nI (if v a ≤ k then v a else k)))) X Y) : pw_Met l g mM_value [.ref (ad_ g 23), .int (nI a), .int (nI k)] X Y Post := by
  have hv := hg a ha
  refine pw_ofW (by decide +kernel) rfl (Nat.le_of_ble_eq_true rfl) rfl (fun sz => ?_)
  refine px_iconst (q := 1) (v := nI 0) dI_M_value_0 (by decide +kernel) rfl ?_
  refine px_istore_n (q := 2) dI_M_value_1 rfl (by decide) rfl rfl ?_
  refine px_bipush (q := 4) (v := nI 127) dI_M_value_2 (by decide +kernel) rfl ?_
  refine px_istore (q := 6) dI_M_value_4 (by decide) rfl rfl ?_
  have key : ∀ K r, K ≤ 128 → r ≤ 2 * k + 1 → (r = v a / 2 ^ K ∨ (k < r ∧ k < v a / 2 ^ K)) → pw_W l g mM_value sz (pw_qM g sz Post 0 0) 6 [(0, .ref (ad_ g 23)), (1, .int (nI a)), (2, .int (nI k)), (3, .int (nI r)), (4, .int (mI K))] [] X Y := by
    intro K
    induction K with
    | zero =>
      intro r hK hrb hr
      rw [Nat.pow_zero, Nat.div_one] at hr
      refine px_iload (q := 8) dI_M_value_6 rfl rfl ?_
      refine px_if_ltM (q := 11) (tgt := 44) dI_M_value_8 (by omega) (by decide) rfl (fun b8 => ?_) (fun b8 => ?_)
      · refine px_iload_n (q := 45) dI_M_value_44 rfl rfl ?_
        refine px_iload_n (q := 46) dI_M_value_45 rfl rfl ?_
        refine px_icmp_leN (q := 49) (tgt := 53) dI_M_value_46 (by omega) (by omega) (by decide) rfl (fun b46 => ?_) (fun b46 => ?_)
        · refine px_iload_n (q := 54) dI_M_value_53 rfl rfl ?_
          refine px_iret dI_M_value_54 rfl ?_
          have e : r = v a := hr.elim id (fun q => absurd q.1 (by omega))
          rw [if_pos (by omega), ← e] at hp
          exact hp
        · refine px_iload_n (q := 50) dI_M_value_49 rfl rfl ?_
          refine px_goto (tgt := 54) dI_M_value_50 (by decide) ?_
          refine px_iret dI_M_value_54 rfl ?_
          rw [if_neg (by rcases hr with q | q <;> omega)] at hp
          exact hp
      · omega
    | succ K ih =>
      intro r hK hrb hr
      have hb := hv.2 K (by omega)
      have hb2 : v a / 2 ^ K % 2 < 2 := Nat.mod_lt _ (by decide)
      have hpre : v a / 2 ^ K = 2 * (v a / 2 ^ (K + 1)) + v a / 2 ^ K % 2 := hi_eq (B := 0)
      generalize v a / 2 ^ K % 2 = bt at hb hb2 hpre
      generalize v a / 2 ^ (K + 1) = pr at hr hpre
      rw [mI_s]
      refine px_iload (q := 8) dI_M_value_6 rfl rfl ?_
      refine px_if_ltN (q := 11) (tgt := 44) dI_M_value_8 (by omega) (by decide) rfl (fun b8 => ?_) (fun b8 => ?_)
      · exact b8.elim
      · refine px_iload_n (q := 12) dI_M_value_11 rfl rfl ?_
        refine px_iload_n (q := 13) dI_M_value_12 rfl rfl ?_
        refine px_icmp_leN (q := 16) (tgt := 20) dI_M_value_13 (by omega) (by omega) (by decide) rfl (fun b13 => ?_) (fun b13 => ?_)
        · refine px_iconst (q := 21) (v := nI 2) dI_M_value_20 (by decide +kernel) rfl ?_
          refine px_iload_n (q := 22) dI_M_value_21 rfl rfl ?_
          refine px_imulN (q := 23) dI_M_value_22 rfl ?_
          refine px_aload_n (q := 24) dI_M_value_23 rfl rfl ?_
          refine px_getM (q := 27) (j := 0) dI_M_value_24 wf_M_7 rfl (by decide) rfl rfl ?_
          refine px_sipush (q := 30) (v := nI 128) dI_M_value_27 (by decide +kernel) rfl ?_
          refine px_iload_n (q := 31) dI_M_value_30 rfl rfl ?_
          refine px_imulN (q := 32) dI_M_value_31 rfl ?_
          refine px_iload (q := 34) dI_M_value_32 rfl rfl ?_
          refine px_iaddN (q := 35) dI_M_value_34 rfl ?_
          refine px_iald (q := 36) dI_M_value_35 rfl (by omega) (by omega) hb rfl ?_
          refine px_iaddN (q := 37) dI_M_value_36 rfl ?_
          refine px_istore_n (q := 38) dI_M_value_37 rfl (by decide) rfl rfl ?_
          refine px_iinc (q := 41) dI_M_value_38 rfl (ic_m _) (by decide) rfl rfl ?_
          refine px_goto (tgt := 6) dI_M_value_41 (by decide) ?_
          refine ih _ (by omega) (by omega) (Or.inl ?_)
          rcases hr with q | q
          · rw [hpre, q]
          · omega
        · refine px_iload_n (q := 17) dI_M_value_16 rfl rfl ?_
          refine px_goto (tgt := 37) dI_M_value_17 (by decide) ?_
          refine px_istore_n (q := 38) dI_M_value_37 rfl (by decide) rfl rfl ?_
          refine px_iinc (q := 41) dI_M_value_38 rfl (ic_m _) (by decide) rfl rfl ?_
          refine px_goto (tgt := 6) dI_M_value_41 (by decide) ?_
          refine ih r (by omega) hrb (Or.inr ⟨b13, ?_⟩)
          rcases hr with q | q <;> omega
  refine key 128 0 (by omega) (by omega) (Or.inl ?_)
  rw [Nat.div_eq_of_lt hv.1]
theorem c_M_apart {x m : Nat} (hx : x < 2 ^ 30) (hm : m < 2 ^ 30) (h1 : (∀ d, 2 ≤ d → d ≤ m → x % d ≠ 0 ∨ m % d ≠ 0) → Post (some (.int (nI 1))) X Y) (h0 : (∃ d, 2 ≤ d ∧ d ≤ m ∧ x % d = 0 ∧ m % d = 0) → Post (some (.int (nI 0))) X Y) : pw_Met l g mM_apart [.int (nI x), .int (nI m)] X Y Post := by
  refine pw_ofW (by decide +kernel) rfl (Nat.le_of_ble_eq_true rfl) rfl (fun sz => ?_)
  refine px_iconst (q := 1) (v := nI 1) dI_M_apart_0 (by decide +kernel) rfl ?_
  refine px_istore_n (q := 2) dI_M_apart_1 rfl (by decide) rfl rfl ?_
  refine px_iconst (q := 3) (v := nI 2) dI_M_apart_2 (by decide +kernel) rfl ?_
  refine px_istore_n (q := 4) dI_M_apart_3 rfl (by decide) rfl rfl ?_
  have bad : ∀ d, 2 ≤ d → d ≤ m + 1 → (∃ d, 2 ≤ d ∧ d ≤ m ∧ x % d = 0 ∧ m % d = 0) → pw_W l g mM_apart sz (pw_qM g sz Post 0 0) 4 [(0, .int (nI x)), (1, .int (nI m)), (2, .int (nI 0)), (3, .int (nI d))] [] X Y := by
    intro d hd hdm hex
    refine px_iload_n (q := 5) dI_M_apart_4 rfl rfl ?_
    refine px_iload_n (q := 6) dI_M_apart_5 rfl rfl ?_
    refine px_icmp_gtN (q := 9) (tgt := 37) dI_M_apart_6 (by omega) (by omega) (by decide) rfl (fun b6 => ?_) (fun b6 => ?_)
    · refine px_iload_n (q := 38) dI_M_apart_37 rfl rfl ?_
      refine px_zret dI_M_apart_38 rfl (by decide +kernel) ?_
      exact h0 hex
    · refine px_iload_n (q := 10) dI_M_apart_9 rfl rfl ?_
      refine px_if_eqN (q := 13) (tgt := 37) dI_M_apart_10 (by omega) (by decide) rfl (fun b10 => ?_) (fun b10 => ?_)
      · refine px_iload_n (q := 38) dI_M_apart_37 rfl rfl ?_
        refine px_zret dI_M_apart_38 rfl (by decide +kernel) ?_
        exact h0 hex
      · exact absurd rfl b10
  have key : ∀ c d, d + c = m + 1 → 2 ≤ d → (∀ j, 2 ≤ j → j < d → x % j ≠ 0 ∨ m % j ≠ 0) → pw_W l g mM_apart sz (pw_qM g sz Post 0 0) 4 [(0, .int (nI x)), (1, .int (nI m)), (2, .int (nI 1)), (3, .int (nI d))] [] X Y := by
    intro c
    induction c with
    | zero =>
      intro d hd h2 hj
      refine px_iload_n (q := 5) dI_M_apart_4 rfl rfl ?_
      refine px_iload_n (q := 6) dI_M_apart_5 rfl rfl ?_
      refine px_icmp_gtN (q := 9) (tgt := 37) dI_M_apart_6 (by omega) (by omega) (by decide) rfl (fun b6 => ?_) (fun b6 => ?_)
      · refine px_iload_n (q := 38) dI_M_apart_37 rfl rfl ?_
        refine px_zret dI_M_apart_38 rfl (by decide +kernel) ?_
        exact h1 (fun j a b => hj j a (by omega))
      · omega
    | succ c ih =>
      intro d hd h2 hj
      have hr1 : x % d < d := Nat.mod_lt _ (by omega)
      have hr2 : m % d < d := Nat.mod_lt _ (by omega)
      have nx : (x % d ≠ 0 ∨ m % d ≠ 0) → pw_W l g mM_apart sz (pw_qM g sz Post 0 0) 4 [(0, .int (nI x)), (1, .int (nI m)), (2, .int (nI 1)), (3, .int (nI (d + 1)))] [] X Y := fun q => ih (d + 1) (by omega) (by omega) (fun j a b => by
        by_cases e : j = d
        · rw [e]; exact q
        · exact hj j a (by omega))
      refine px_iload_n (q := 5) dI_M_apart_4 rfl rfl ?_
      refine px_iload_n (q := 6) dI_M_apart_5 rfl rfl ?_
      refine px_icmp_gtN (q := 9) (tgt := 37) dI_M_apart_6 (by omega) (by omega) (by decide) rfl (fun b6 => ?_) (fun b6 => ?_)
      · omega
      · refine px_iload_n (q := 10) dI_M_apart_9 rfl rfl ?_
        refine px_if_eqN (q := 13) (tgt := 37) dI_M_apart_10 (by omega) (by decide) rfl (fun b10 => ?_) (fun b10 => ?_)
        · exact absurd b10 (by decide)
        · refine px_iload_n (q := 14) dI_M_apart_13 rfl rfl ?_
          refine px_iload_n (q := 15) dI_M_apart_14 rfl rfl ?_
          refine px_iremN (q := 16) dI_M_apart_15 (by omega) (by omega) (by omega) rfl ?_
          refine px_if_neN (q := 19) (tgt := 25) dI_M_apart_16 (by omega) (by decide) rfl (fun b16 => ?_) (fun b16 => ?_)
          · refine px_iconst (q := 26) (v := nI 1) dI_M_apart_25 (by decide +kernel) rfl ?_
            refine px_goto (tgt := 30) dI_M_apart_26 (by decide) ?_
            refine px_istore_n (q := 31) dI_M_apart_30 rfl (by decide) rfl rfl ?_
            refine px_iinc (q := 34) dI_M_apart_31 rfl (ic_1 _) (by decide) rfl rfl ?_
            refine px_goto (tgt := 4) dI_M_apart_34 (by decide) ?_
            exact nx (Or.inl b16)
          · refine px_iload_n (q := 20) dI_M_apart_19 rfl rfl ?_
            refine px_iload_n (q := 21) dI_M_apart_20 rfl rfl ?_
            refine px_iremN (q := 22) dI_M_apart_21 (by omega) (by omega) (by omega) rfl ?_
            refine px_if_eqN (q := 25) (tgt := 29) dI_M_apart_22 (by omega) (by decide) rfl (fun b22 => ?_) (fun b22 => ?_)
            · refine px_iconst (q := 30) (v := nI 0) dI_M_apart_29 (by decide +kernel) rfl ?_
              refine px_istore_n (q := 31) dI_M_apart_30 rfl (by decide) rfl rfl ?_
              refine px_iinc (q := 34) dI_M_apart_31 rfl (ic_1 _) (by decide) rfl rfl ?_
              refine px_goto (tgt := 4) dI_M_apart_34 (by decide) ?_
              exact bad (d + 1) (by omega) (by omega) ⟨d, h2, by omega, b16, b22⟩
            · refine px_iconst (q := 26) (v := nI 1) dI_M_apart_25 (by decide +kernel) rfl ?_
              refine px_goto (tgt := 30) dI_M_apart_26 (by decide) ?_
              refine px_istore_n (q := 31) dI_M_apart_30 rfl (by decide) rfl rfl ?_
              refine px_iinc (q := 34) dI_M_apart_31 rfl (ic_1 _) (by decide) rfl rfl ?_
              refine px_goto (tgt := 4) dI_M_apart_34 (by decide) ?_
              exact nx (Or.inr b22)
  by_cases hm1 : 1 ≤ m
  · exact key (m - 1) 2 (by omega) (by omega) (fun j a b => absurd a (by omega))
  · refine px_iload_n (q := 5) dI_M_apart_4 rfl rfl ?_
    refine px_iload_n (q := 6) dI_M_apart_5 rfl rfl ?_
    refine px_icmp_gtN (q := 9) (tgt := 37) dI_M_apart_6 (by omega) (by omega) (by decide) rfl (fun b6 => ?_) (fun b6 => ?_)
    · refine px_iload_n (q := 38) dI_M_apart_37 rfl rfl ?_
      refine px_zret dI_M_apart_38 rfl (by decide +kernel) ?_
      exact h1 (fun j a b => absurd a (by omega))
    · omega
theorem c_M_orderOf {x m : Nat} (h2 : 2 ≤ m) (hm : m ≤ 40000) (hx : x < m) (hp : ∀ k, 1 ≤ k → k ≤ m → (k < m → x ^ k % m = 1) → (∀ j, 1 ≤ j → j < k → x ^ j % m ≠ 1) → Post (some (.int (nI k))) X Y) : pw_Met l g mM_orderOf [.int (nI x), .int (nI m)] X Y Post := by
  refine pw_ofW (by decide +kernel) rfl (Nat.le_of_ble_eq_true rfl) rfl (fun sz => ?_)
  have hxm : x % m < m := Nat.mod_lt _ (by omega)
  refine px_iload_n (q := 1) dI_M_orderOf_0 rfl rfl ?_
  refine px_iload_n (q := 2) dI_M_orderOf_1 rfl rfl ?_
  refine px_iremN (q := 3) dI_M_orderOf_2 (by omega) (by omega) (by omega) rfl ?_
  refine px_istore_n (q := 4) dI_M_orderOf_3 rfl (by decide) rfl rfl ?_
  refine px_iconst (q := 5) (v := nI 1) dI_M_orderOf_4 (by decide +kernel) rfl ?_
  refine px_istore_n (q := 6) dI_M_orderOf_5 rfl (by decide) rfl rfl ?_
  have key : ∀ (c k y : Nat), k + c = m → 1 ≤ k → y = x ^ k % m → (∀ j, 1 ≤ j → j < k → x ^ j % m ≠ 1) → pw_W l g mM_orderOf sz (pw_qM g sz Post 0 0) 6 [(0, .int (nI x)), (1, .int (nI m)), (2, .int (nI y)), (3, .int (nI k))] [] X Y := by
    intro c
    induction c with
    | zero =>
      intro k y hk h1 hy hj
      refine px_iload_n (q := 7) dI_M_orderOf_6 rfl rfl ?_
      refine px_iload_n (q := 8) dI_M_orderOf_7 rfl rfl ?_
      refine px_icmp_geN (q := 11) (tgt := 28) dI_M_orderOf_8 (by omega) (by omega) (by decide) rfl (fun b8 => ?_) (fun b8 => ?_)
      · refine px_iload_n (q := 29) dI_M_orderOf_28 rfl rfl ?_
        refine px_iret dI_M_orderOf_29 rfl ?_
        exact hp k h1 (by omega) (fun q => absurd q (by omega)) hj
      · omega
    | succ c ih =>
      intro k y hk h1 hy hj
      have hym : y < m := by rw [hy]; exact Nat.mod_lt _ (by omega)
      refine px_iload_n (q := 7) dI_M_orderOf_6 rfl rfl ?_
      refine px_iload_n (q := 8) dI_M_orderOf_7 rfl rfl ?_
      refine px_icmp_geN (q := 11) (tgt := 28) dI_M_orderOf_8 (by omega) (by omega) (by decide) rfl (fun b8 => ?_) (fun b8 => ?_)
      · omega
      · refine px_iload_n (q := 12) dI_M_orderOf_11 rfl rfl ?_
        refine px_iconst (q := 13) (v := nI 1) dI_M_orderOf_12 (by decide +kernel) rfl ?_
        refine px_icmp_eqN (q := 16) (tgt := 28) dI_M_orderOf_13 (by omega) (by omega) (by decide) rfl (fun b13 => ?_) (fun b13 => ?_)
        · refine px_iload_n (q := 29) dI_M_orderOf_28 rfl rfl ?_
          refine px_iret dI_M_orderOf_29 rfl ?_
          exact hp k h1 (by omega) (fun _ => by rw [← hy]; exact b13) hj
        · have hmul : y * x ≤ 40000 * 40000 := Nat.mul_le_mul (by omega) (by omega)
          refine px_iload_n (q := 17) dI_M_orderOf_16 rfl rfl ?_
          refine px_iload_n (q := 18) dI_M_orderOf_17 rfl rfl ?_
          refine px_imulN (q := 19) dI_M_orderOf_18 rfl ?_
          refine px_iload_n (q := 20) dI_M_orderOf_19 rfl rfl ?_
          refine px_iremN (q := 21) dI_M_orderOf_20 (by omega) (by omega) (by omega) rfl ?_
          refine px_istore_n (q := 22) dI_M_orderOf_21 rfl (by decide) rfl rfl ?_
          refine px_iinc (q := 25) dI_M_orderOf_22 rfl (ic_1 _) (by decide) rfl rfl ?_
          refine px_goto (tgt := 6) dI_M_orderOf_25 (by decide) ?_
          refine ih (k + 1) _ (by omega) (by omega) ?_ (fun j a b => ?_)
          · rw [hy, Nat.pow_succ, Nat.mod_mul_mod]
          · by_cases e : j = k
            · rw [e, ← hy]; exact b13
            · exact hj j a (by omega)
  exact key (m - 1) 1 (x % m) (by omega) (by omega) (by rw [Nat.pow_one]) (fun j a b => absurd a (by omega))
end CM6
