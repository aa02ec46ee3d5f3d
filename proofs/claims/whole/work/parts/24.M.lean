/-! the reference's calls: refusals, put .. divide -/
section CM4
variable {l : Launch} {g : pw_G} {X : pw_X} {Y : pw_Y} {Post : pw_P} {v : Nat → Nat}
def mz_ (Y : pw_Y) (v : Nat → Nat) : Prop := rg_ (Y 24) v ∧ ∃ W, wk_ (Y 25) W
def mf_ (Y Y' : pw_Y) : Prop := ∀ k, k < 23 → Y' k = Y k
theorem mf_0 : mf_ Y Y := fun _ _ => rfl
theorem mf_y {Y' : pw_Y} {k : Nat} {f : Nat → Int32} (hk : 23 ≤ k) (h : mf_ Y Y') : mf_ Y (yr_ Y' k f) := fun j hj => by rw [yr_n (by omega)]; exact h j hj
theorem mz_c {f : Nat → Int32} (h : mz_ Y v) : mz_ (yr_ Y 23 f) v := by
  obtain ⟨h1, W, h2⟩ := h
  exact ⟨by rw [yr_n (by decide)]; exact h1, W, by rw [yr_n (by decide)]; exact h2⟩
theorem mz_w {f : Nat → Int32} {W : Nat → Nat} (h : mz_ Y v) (hf : wk_ f W) : mz_ (yr_ Y 25 f) v := ⟨by rw [yr_n (by decide)]; exact h.1, W, by rw [yr_s]; exact hf⟩
theorem mz_r {f : Nat → Int32} {v' : Nat → Nat} (h : mz_ Y v) (hf : rg_ f v') : mz_ (yr_ Y 24 f) v' := by
  obtain ⟨h1, W, h2⟩ := h
  exact ⟨by rw [yr_s]; exact hf, W, by rw [yr_n (by decide)]; exact h2⟩
/-- no register -/
def bd_ (r : Int32) : Prop := ¬ ∃ k, k < 6 ∧ r = nI k
theorem c_M_noneB {r : Int32} (hr : bd_ r) (h1 : Post (some (.int (nI 1))) X Y) : pw_Met l g mM_none [.int r] X Y Post := by
  refine pw_ofW (by decide +kernel) rfl (Nat.le_of_ble_eq_true rfl) rfl (fun sz => ?_)
  refine px_iload_n (q := 1) dI_M_none_0 rfl rfl ?_
  refine px_if_lt (q := 4) (tgt := 9) dI_M_none_1 (by decide) rfl (fun b1 => ?_) (fun b1 => ?_)
  · refine px_iconst (q := 10) (v := nI 1) dI_M_none_9 (by decide +kernel) rfl ?_
    refine px_goto (tgt := 14) dI_M_none_10 (by decide) ?_
    refine px_zret dI_M_none_14 rfl (by decide +kernel) ?_
    exact h1
  · refine px_iload_n (q := 5) dI_M_none_4 rfl rfl ?_
    refine px_iconst (q := 6) (v := nI 5) dI_M_none_5 (by decide +kernel) rfl ?_
    refine px_icmp_le (q := 9) (tgt := 13) dI_M_none_6 (by decide) rfl (fun b6 => ?_) (fun b6 => ?_)
    · exfalso
      obtain ⟨k, hk, e⟩ := nI_of2 (M := nI 5) (n := 5) (by decide) b1 b6
      exact hr ⟨k, by omega, e⟩
    · refine px_iconst (q := 10) (v := nI 1) dI_M_none_9 (by decide +kernel) rfl ?_
      refine px_goto (tgt := 14) dI_M_none_10 (by decide) ?_
      refine px_zret dI_M_none_14 rfl (by decide +kernel) ?_
      exact h1
theorem c_M_noneG {r : Nat} (hr : r < 6) (h0 : Post (some (.int (nI 0))) X Y) : pw_Met l g mM_none [.int (nI r)] X Y Post := c_M_none (by omega) (fun q => absurd hr (by omega)) (fun _ => h0)

theorem c_M_add_bad {a b t : Int32} (hbad : bd_ a ∨ bd_ b ∨ bd_ t) (hm : mz_ Y v) (hp : ∀ Y', mz_ Y' v → mf_ Y Y' → Y' 23 3 = nI 1 → Post none X Y') : pw_Met l g mM_add [.ref (ad_ g 23), .int a, .int b, .int t] X Y Post := by
  refine pw_ofW (by decide +kernel) rfl (Nat.le_of_ble_eq_true rfl) rfl (fun sz => ?_)
  have fin : pw_W l g mM_add sz (pw_qM g sz Post 0 0) 22 [(0, .ref (ad_ g 23)), (1, .int a), (2, .int b), (3, .int t)] [.ref (ad_ g 23)] X Y := by
    refine px_iconst (q := 23) (v := nI 1) dI_M_add_22 (by decide +kernel) rfl ?_
    refine px_goto (tgt := 27) dI_M_add_23 (by decide) ?_
    refine px_iconst (q := 28) (v := nI 1) dI_M_add_27 (by decide +kernel) rfl ?_
    refine px_callV2 (q := 31) (ν := mM_refused) dI_M_add_28 (by decide) rfl rfl wl_M_27 wm_M_refused wv_M_refused wb_M_refused wi_M ⟨rfl, rfl⟩ (by decide +kernel) ⟨(Nat.le_of_ble_eq_true rfl), (Nat.le_of_ble_eq_true rfl)⟩ (Nat.le_of_ble_eq_true rfl) rfl (c_M_refused (by decide) (fun f hf => ?_))
    refine px_if_eqN (q := 34) (tgt := 35) dI_M_add_31 (by omega) (by decide) rfl (fun b31 => ?_) (fun b31 => ?_)
    · exact absurd b31 (by decide)
    · refine px_vret dI_M_add_34 rfl ?_
      exact hp _ (mz_c hm) (mf_y (by decide) mf_0) (by rw [yr_s, hf]; rfl)
  by_cases ha : bd_ a
  · refine px_aload_n (q := 1) dI_M_add_0 rfl rfl ?_
    refine px_iload_n (q := 2) dI_M_add_1 rfl rfl ?_
    refine px_callS1 (q := 5) (ν := mM_none) dI_M_add_2 wl_M_23 ws_M_none wb_M_none wi_M ⟨rfl, rfl⟩ (by decide +kernel) ⟨(Nat.le_of_ble_eq_true rfl), (Nat.le_of_ble_eq_true rfl)⟩ (Nat.le_of_ble_eq_true rfl) rfl (c_M_noneB ha ?_)
    refine px_if_neN (q := 8) (tgt := 22) dI_M_add_5 (by omega) (by decide) rfl (fun b5 => ?_) (fun b5 => ?_)
    · exact fin
    · exact absurd b5 (by decide)
  · obtain ⟨ka, hka, rfl⟩ := Decidable.not_not.mp ha
    by_cases hb : bd_ b
    · refine px_aload_n (q := 1) dI_M_add_0 rfl rfl ?_
      refine px_iload_n (q := 2) dI_M_add_1 rfl rfl ?_
      refine px_callS1 (q := 5) (ν := mM_none) dI_M_add_2 wl_M_23 ws_M_none wb_M_none wi_M ⟨rfl, rfl⟩ (by decide +kernel) ⟨(Nat.le_of_ble_eq_true rfl), (Nat.le_of_ble_eq_true rfl)⟩ (Nat.le_of_ble_eq_true rfl) rfl (c_M_noneG hka ?_)
      refine px_if_neN (q := 8) (tgt := 22) dI_M_add_5 (by omega) (by decide) rfl (fun b5 => ?_) (fun b5 => ?_)
      · exact absurd rfl b5
      · refine px_iload_n (q := 9) dI_M_add_8 rfl rfl ?_
        refine px_callS1 (q := 12) (ν := mM_none) dI_M_add_9 wl_M_23 ws_M_none wb_M_none wi_M ⟨rfl, rfl⟩ (by decide +kernel) ⟨(Nat.le_of_ble_eq_true rfl), (Nat.le_of_ble_eq_true rfl)⟩ (Nat.le_of_ble_eq_true rfl) rfl (c_M_noneB hb ?_)
        refine px_if_neN (q := 15) (tgt := 22) dI_M_add_12 (by omega) (by decide) rfl (fun b12 => ?_) (fun b12 => ?_)
        · exact fin
        · exact absurd b12 (by decide)
    · obtain ⟨kb, hkb, rfl⟩ := Decidable.not_not.mp hb
      have ht : bd_ t := by
        rcases hbad with q | q | q
        · exact absurd q ha
        · exact absurd q hb
        · exact q
      refine px_aload_n (q := 1) dI_M_add_0 rfl rfl ?_
      refine px_iload_n (q := 2) dI_M_add_1 rfl rfl ?_
      refine px_callS1 (q := 5) (ν := mM_none) dI_M_add_2 wl_M_23 ws_M_none wb_M_none wi_M ⟨rfl, rfl⟩ (by decide +kernel) ⟨(Nat.le_of_ble_eq_true rfl), (Nat.le_of_ble_eq_true rfl)⟩ (Nat.le_of_ble_eq_true rfl) rfl (c_M_noneG hka ?_)
      refine px_if_neN (q := 8) (tgt := 22) dI_M_add_5 (by omega) (by decide) rfl (fun b5 => ?_) (fun b5 => ?_)
      · exact absurd rfl b5
      · refine px_iload_n (q := 9) dI_M_add_8 rfl rfl ?_
        refine px_callS1 (q := 12) (ν := mM_none) dI_M_add_9 wl_M_23 ws_M_none wb_M_none wi_M ⟨rfl, rfl⟩ (by decide +kernel) ⟨(Nat.le_of_ble_eq_true rfl), (Nat.le_of_ble_eq_true rfl)⟩ (Nat.le_of_ble_eq_true rfl) rfl (c_M_noneG hkb ?_)
        refine px_if_neN (q := 15) (tgt := 22) dI_M_add_12 (by omega) (by decide) rfl (fun b12 => ?_) (fun b12 => ?_)
        · exact absurd rfl b12
        · refine px_iload_n (q := 16) dI_M_add_15 rfl rfl ?_
          refine px_callS1 (q := 19) (ν := mM_none) dI_M_add_16 wl_M_23 ws_M_none wb_M_none wi_M ⟨rfl, rfl⟩ (by decide +kernel) ⟨(Nat.le_of_ble_eq_true rfl), (Nat.le_of_ble_eq_true rfl)⟩ (Nat.le_of_ble_eq_true rfl) rfl (c_M_noneB ht ?_)
          refine px_if_eqN (q := 22) (tgt := 26) dI_M_add_19 (by omega) (by decide) rfl (fun b19 => ?_) (fun b19 => ?_)
          · exact absurd b19 (by decide)
          · exact fin

theorem c_M_subtract_bad {a b t : Int32} (hbad : bd_ a ∨ bd_ b ∨ bd_ t) (hm : mz_ Y v) (hp : ∀ Y', mz_ Y' v → mf_ Y Y' → Y' 23 3 = nI 1 → Post none X Y') : pw_Met l g mM_subtract [.ref (ad_ g 23), .int a, .int b, .int t] X Y Post := by
  refine pw_ofW (by decide +kernel) rfl (Nat.le_of_ble_eq_true rfl) rfl (fun sz => ?_)
  have fin : pw_W l g mM_subtract sz (pw_qM g sz Post 0 0) 22 [(0, .ref (ad_ g 23)), (1, .int a), (2, .int b), (3, .int t)] [.ref (ad_ g 23)] X Y := by
    refine px_iconst (q := 23) (v := nI 1) dI_M_subtract_22 (by decide +kernel) rfl ?_
    refine px_goto (tgt := 27) dI_M_subtract_23 (by decide) ?_
    refine px_iconst (q := 28) (v := nI 1) dI_M_subtract_27 (by decide +kernel) rfl ?_
    refine px_callV2 (q := 31) (ν := mM_refused) dI_M_subtract_28 (by decide) rfl rfl wl_M_27 wm_M_refused wv_M_refused wb_M_refused wi_M ⟨rfl, rfl⟩ (by decide +kernel) ⟨(Nat.le_of_ble_eq_true rfl), (Nat.le_of_ble_eq_true rfl)⟩ (Nat.le_of_ble_eq_true rfl) rfl (c_M_refused (by decide) (fun f hf => ?_))
    refine px_if_eqN (q := 34) (tgt := 35) dI_M_subtract_31 (by omega) (by decide) rfl (fun b31 => ?_) (fun b31 => ?_)
    · exact absurd b31 (by decide)
    · refine px_vret dI_M_subtract_34 rfl ?_
      exact hp _ (mz_c hm) (mf_y (by decide) mf_0) (by rw [yr_s, hf]; rfl)
  by_cases ha : bd_ a
  · refine px_aload_n (q := 1) dI_M_subtract_0 rfl rfl ?_
    refine px_iload_n (q := 2) dI_M_subtract_1 rfl rfl ?_
    refine px_callS1 (q := 5) (ν := mM_none) dI_M_subtract_2 wl_M_23 ws_M_none wb_M_none wi_M ⟨rfl, rfl⟩ (by decide +kernel) ⟨(Nat.le_of_ble_eq_true rfl), (Nat.le_of_ble_eq_true rfl)⟩ (Nat.le_of_ble_eq_true rfl) rfl (c_M_noneB ha ?_)
    refine px_if_neN (q := 8) (tgt := 22) dI_M_subtract_5 (by omega) (by decide) rfl (fun b5 => ?_) (fun b5 => ?_)
    · exact fin
    · exact absurd b5 (by decide)
  · obtain ⟨ka, hka, rfl⟩ := Decidable.not_not.mp ha
    by_cases hb : bd_ b
    · refine px_aload_n (q := 1) dI_M_subtract_0 rfl rfl ?_
      refine px_iload_n (q := 2) dI_M_subtract_1 rfl rfl ?_
      refine px_callS1 (q := 5) (ν := mM_none) dI_M_subtract_2 wl_M_23 ws_M_none wb_M_none wi_M ⟨rfl, rfl⟩ (by decide +kernel) ⟨(Nat.le_of_ble_eq_true rfl), (Nat.le_of_ble_eq_true rfl)⟩ (Nat.le_of_ble_eq_true rfl) rfl (c_M_noneG hka ?_)
      refine px_if_neN (q := 8) (tgt := 22) dI_M_subtract_5 (by omega) (by decide) rfl (fun b5 => ?_) (fun b5 => ?_)
      · exact absurd rfl b5
      · refine px_iload_n (q := 9) dI_M_subtract_8 rfl rfl ?_
        refine px_callS1 (q := 12) (ν := mM_none) dI_M_subtract_9 wl_M_23 ws_M_none wb_M_none wi_M ⟨rfl, rfl⟩ (by decide +kernel) ⟨(Nat.le_of_ble_eq_true rfl), (Nat.le_of_ble_eq_true rfl)⟩ (Nat.le_of_ble_eq_true rfl) rfl (c_M_noneB hb ?_)
        refine px_if_neN (q := 15) (tgt := 22) dI_M_subtract_12 (by omega) (by decide) rfl (fun b12 => ?_) (fun b12 => ?_)
        · exact fin
        · exact absurd b12 (by decide)
    · obtain ⟨kb, hkb, rfl⟩ := Decidable.not_not.mp hb
      have ht : bd_ t := by
        rcases hbad with q | q | q
        · exact absurd q ha
        · exact absurd q hb
        · exact q
      refine px_aload_n (q := 1) dI_M_subtract_0 rfl rfl ?_
      refine px_iload_n (q := 2) dI_M_subtract_1 rfl rfl ?_
      refine px_callS1 (q := 5) (ν := mM_none) dI_M_subtract_2 wl_M_23 ws_M_none wb_M_none wi_M ⟨rfl, rfl⟩ (by decide +kernel) ⟨(Nat.le_of_ble_eq_true rfl), (Nat.le_of_ble_eq_true rfl)⟩ (Nat.le_of_ble_eq_true rfl) rfl (c_M_noneG hka ?_)
      refine px_if_neN (q := 8) (tgt := 22) dI_M_subtract_5 (by omega) (by decide) rfl (fun b5 => ?_) (fun b5 => ?_)
      · exact absurd rfl b5
      · refine px_iload_n (q := 9) dI_M_subtract_8 rfl rfl ?_
        refine px_callS1 (q := 12) (ν := mM_none) dI_M_subtract_9 wl_M_23 ws_M_none wb_M_none wi_M ⟨rfl, rfl⟩ (by decide +kernel) ⟨(Nat.le_of_ble_eq_true rfl), (Nat.le_of_ble_eq_true rfl)⟩ (Nat.le_of_ble_eq_true rfl) rfl (c_M_noneG hkb ?_)
        refine px_if_neN (q := 15) (tgt := 22) dI_M_subtract_12 (by omega) (by decide) rfl (fun b12 => ?_) (fun b12 => ?_)
        · exact absurd rfl b12
        · refine px_iload_n (q := 16) dI_M_subtract_15 rfl rfl ?_
          refine px_callS1 (q := 19) (ν := mM_none) dI_M_subtract_16 wl_M_23 ws_M_none wb_M_none wi_M ⟨rfl, rfl⟩ (by decide +kernel) ⟨(Nat.le_of_ble_eq_true rfl), (Nat.le_of_ble_eq_true rfl)⟩ (Nat.le_of_ble_eq_true rfl) rfl (c_M_noneB ht ?_)
          refine px_if_eqN (q := 22) (tgt := 26) dI_M_subtract_19 (by omega) (by decide) rfl (fun b19 => ?_) (fun b19 => ?_)
          · exact absurd b19 (by decide)
          · exact fin

theorem c_M_multiply_bad {a b t : Int32} (hbad : bd_ a ∨ bd_ b ∨ bd_ t) (hm : mz_ Y v) (hp : ∀ Y', mz_ Y' v → mf_ Y Y' → Y' 23 3 = nI 1 → Post none X Y') : pw_Met l g mM_multiply [.ref (ad_ g 23), .int a, .int b, .int t] X Y Post := by
  refine pw_ofW (by decide +kernel) rfl (Nat.le_of_ble_eq_true rfl) rfl (fun sz => ?_)
  have fin : pw_W l g mM_multiply sz (pw_qM g sz Post 0 0) 22 [(0, .ref (ad_ g 23)), (1, .int a), (2, .int b), (3, .int t)] [.ref (ad_ g 23)] X Y := by
    refine px_iconst (q := 23) (v := nI 1) dI_M_multiply_22 (by decide +kernel) rfl ?_
    refine px_goto (tgt := 27) dI_M_multiply_23 (by decide) ?_
    refine px_iconst (q := 28) (v := nI 1) dI_M_multiply_27 (by decide +kernel) rfl ?_
    refine px_callV2 (q := 31) (ν := mM_refused) dI_M_multiply_28 (by decide) rfl rfl wl_M_27 wm_M_refused wv_M_refused wb_M_refused wi_M ⟨rfl, rfl⟩ (by decide +kernel) ⟨(Nat.le_of_ble_eq_true rfl), (Nat.le_of_ble_eq_true rfl)⟩ (Nat.le_of_ble_eq_true rfl) rfl (c_M_refused (by decide) (fun f hf => ?_))
    refine px_if_eqN (q := 34) (tgt := 35) dI_M_multiply_31 (by omega) (by decide) rfl (fun b31 => ?_) (fun b31 => ?_)
    · exact absurd b31 (by decide)
    · refine px_vret dI_M_multiply_34 rfl ?_
      exact hp _ (mz_c hm) (mf_y (by decide) mf_0) (by rw [yr_s, hf]; rfl)
  by_cases ha : bd_ a
  · refine px_aload_n (q := 1) dI_M_multiply_0 rfl rfl ?_
    refine px_iload_n (q := 2) dI_M_multiply_1 rfl rfl ?_
    refine px_callS1 (q := 5) (ν := mM_none) dI_M_multiply_2 wl_M_23 ws_M_none wb_M_none wi_M ⟨rfl, rfl⟩ (by decide +kernel) ⟨(Nat.le_of_ble_eq_true rfl), (Nat.le_of_ble_eq_true rfl)⟩ (Nat.le_of_ble_eq_true rfl) rfl (c_M_noneB ha ?_)
    refine px_if_neN (q := 8) (tgt := 22) dI_M_multiply_5 (by omega) (by decide) rfl (fun b5 => ?_) (fun b5 => ?_)
    · exact fin
    · exact absurd b5 (by decide)
  · obtain ⟨ka, hka, rfl⟩ := Decidable.not_not.mp ha
    by_cases hb : bd_ b
    · refine px_aload_n (q := 1) dI_M_multiply_0 rfl rfl ?_
      refine px_iload_n (q := 2) dI_M_multiply_1 rfl rfl ?_
      refine px_callS1 (q := 5) (ν := mM_none) dI_M_multiply_2 wl_M_23 ws_M_none wb_M_none wi_M ⟨rfl, rfl⟩ (by decide +kernel) ⟨(Nat.le_of_ble_eq_true rfl), (Nat.le_of_ble_eq_true rfl)⟩ (Nat.le_of_ble_eq_true rfl) rfl (c_M_noneG hka ?_)
      refine px_if_neN (q := 8) (tgt := 22) dI_M_multiply_5 (by omega) (by decide) rfl (fun b5 => ?_) (fun b5 => ?_)
      · exact absurd rfl b5
      · refine px_iload_n (q := 9) dI_M_multiply_8 rfl rfl ?_
        refine px_callS1 (q := 12) (ν := mM_none) dI_M_multiply_9 wl_M_23 ws_M_none wb_M_none wi_M ⟨rfl, rfl⟩ (by decide +kernel) ⟨(Nat.le_of_ble_eq_true rfl), (Nat.le_of_ble_eq_true rfl)⟩ (Nat.le_of_ble_eq_true rfl) rfl (c_M_noneB hb ?_)
        refine px_if_neN (q := 15) (tgt := 22) dI_M_multiply_12 (by omega) (by decide) rfl (fun b12 => ?_) (fun b12 => ?_)
        · exact fin
        · exact absurd b12 (by decide)
    · obtain ⟨kb, hkb, rfl⟩ := Decidable.not_not.mp hb
      have ht : bd_ t := by
        rcases hbad with q | q | q
        · exact absurd q ha
        · exact absurd q hb
        · exact q
      refine px_aload_n (q := 1) dI_M_multiply_0 rfl rfl ?_
      refine px_iload_n (q := 2) dI_M_multiply_1 rfl rfl ?_
      refine px_callS1 (q := 5) (ν := mM_none) dI_M_multiply_2 wl_M_23 ws_M_none wb_M_none wi_M ⟨rfl, rfl⟩ (by decide +kernel) ⟨(Nat.le_of_ble_eq_true rfl), (Nat.le_of_ble_eq_true rfl)⟩ (Nat.le_of_ble_eq_true rfl) rfl (c_M_noneG hka ?_)
      refine px_if_neN (q := 8) (tgt := 22) dI_M_multiply_5 (by omega) (by decide) rfl (fun b5 => ?_) (fun b5 => ?_)
      · exact absurd rfl b5
      · refine px_iload_n (q := 9) dI_M_multiply_8 rfl rfl ?_
        refine px_callS1 (q := 12) (ν := mM_none) dI_M_multiply_9 wl_M_23 ws_M_none wb_M_none wi_M ⟨rfl, rfl⟩ (by decide +kernel) ⟨(Nat.le_of_ble_eq_true rfl), (Nat.le_of_ble_eq_true rfl)⟩ (Nat.le_of_ble_eq_true rfl) rfl (c_M_noneG hkb ?_)
        refine px_if_neN (q := 15) (tgt := 22) dI_M_multiply_12 (by omega) (by decide) rfl (fun b12 => ?_) (fun b12 => ?_)
        · exact absurd rfl b12
        · refine px_iload_n (q := 16) dI_M_multiply_15 rfl rfl ?_
          refine px_callS1 (q := 19) (ν := mM_none) dI_M_multiply_16 wl_M_23 ws_M_none wb_M_none wi_M ⟨rfl, rfl⟩ (by decide +kernel) ⟨(Nat.le_of_ble_eq_true rfl), (Nat.le_of_ble_eq_true rfl)⟩ (Nat.le_of_ble_eq_true rfl) rfl (c_M_noneB ht ?_)
          refine px_if_eqN (q := 22) (tgt := 26) dI_M_multiply_19 (by omega) (by decide) rfl (fun b19 => ?_) (fun b19 => ?_)
          · exact absurd b19 (by decide)
          · exact fin

theorem c_M_gcd_bad {a b t : Int32} (hbad : bd_ a ∨ bd_ b ∨ bd_ t) (hm : mz_ Y v) (hp : ∀ Y', mz_ Y' v → mf_ Y Y' → Y' 23 3 = nI 1 → Post none X Y') : pw_Met l g mM_gcd [.ref (ad_ g 23), .int a, .int b, .int t] X Y Post := by
  refine pw_ofW (by decide +kernel) rfl (Nat.le_of_ble_eq_true rfl) rfl (fun sz => ?_)
  have fin : pw_W l g mM_gcd sz (pw_qM g sz Post 0 0) 22 [(0, .ref (ad_ g 23)), (1, .int a), (2, .int b), (3, .int t)] [.ref (ad_ g 23)] X Y := by
    refine px_iconst (q := 23) (v := nI 1) dI_M_gcd_22 (by decide +kernel) rfl ?_
    refine px_goto (tgt := 27) dI_M_gcd_23 (by decide) ?_
    refine px_iconst (q := 28) (v := nI 1) dI_M_gcd_27 (by decide +kernel) rfl ?_
    refine px_callV2 (q := 31) (ν := mM_refused) dI_M_gcd_28 (by decide) rfl rfl wl_M_27 wm_M_refused wv_M_refused wb_M_refused wi_M ⟨rfl, rfl⟩ (by decide +kernel) ⟨(Nat.le_of_ble_eq_true rfl), (Nat.le_of_ble_eq_true rfl)⟩ (Nat.le_of_ble_eq_true rfl) rfl (c_M_refused (by decide) (fun f hf => ?_))
    refine px_if_eqN (q := 34) (tgt := 35) dI_M_gcd_31 (by omega) (by decide) rfl (fun b31 => ?_) (fun b31 => ?_)
    · exact absurd b31 (by decide)
    · refine px_vret dI_M_gcd_34 rfl ?_
      exact hp _ (mz_c hm) (mf_y (by decide) mf_0) (by rw [yr_s, hf]; rfl)
  by_cases ha : bd_ a
  · refine px_aload_n (q := 1) dI_M_gcd_0 rfl rfl ?_
    refine px_iload_n (q := 2) dI_M_gcd_1 rfl rfl ?_
    refine px_callS1 (q := 5) (ν := mM_none) dI_M_gcd_2 wl_M_23 ws_M_none wb_M_none wi_M ⟨rfl, rfl⟩ (by decide +kernel) ⟨(Nat.le_of_ble_eq_true rfl), (Nat.le_of_ble_eq_true rfl)⟩ (Nat.le_of_ble_eq_true rfl) rfl (c_M_noneB ha ?_)
    refine px_if_neN (q := 8) (tgt := 22) dI_M_gcd_5 (by omega) (by decide) rfl (fun b5 => ?_) (fun b5 => ?_)
    · exact fin
    · exact absurd b5 (by decide)
  · obtain ⟨ka, hka, rfl⟩ := Decidable.not_not.mp ha
    by_cases hb : bd_ b
    · refine px_aload_n (q := 1) dI_M_gcd_0 rfl rfl ?_
      refine px_iload_n (q := 2) dI_M_gcd_1 rfl rfl ?_
      refine px_callS1 (q := 5) (ν := mM_none) dI_M_gcd_2 wl_M_23 ws_M_none wb_M_none wi_M ⟨rfl, rfl⟩ (by decide +kernel) ⟨(Nat.le_of_ble_eq_true rfl), (Nat.le_of_ble_eq_true rfl)⟩ (Nat.le_of_ble_eq_true rfl) rfl (c_M_noneG hka ?_)
      refine px_if_neN (q := 8) (tgt := 22) dI_M_gcd_5 (by omega) (by decide) rfl (fun b5 => ?_) (fun b5 => ?_)
      · exact absurd rfl b5
      · refine px_iload_n (q := 9) dI_M_gcd_8 rfl rfl ?_
        refine px_callS1 (q := 12) (ν := mM_none) dI_M_gcd_9 wl_M_23 ws_M_none wb_M_none wi_M ⟨rfl, rfl⟩ (by decide +kernel) ⟨(Nat.le_of_ble_eq_true rfl), (Nat.le_of_ble_eq_true rfl)⟩ (Nat.le_of_ble_eq_true rfl) rfl (c_M_noneB hb ?_)
        refine px_if_neN (q := 15) (tgt := 22) dI_M_gcd_12 (by omega) (by decide) rfl (fun b12 => ?_) (fun b12 => ?_)
        · exact fin
        · exact absurd b12 (by decide)
    · obtain ⟨kb, hkb, rfl⟩ := Decidable.not_not.mp hb
      have ht : bd_ t := by
        rcases hbad with q | q | q
        · exact absurd q ha
        · exact absurd q hb
        · exact q
      refine px_aload_n (q := 1) dI_M_gcd_0 rfl rfl ?_
      refine px_iload_n (q := 2) dI_M_gcd_1 rfl rfl ?_
      refine px_callS1 (q := 5) (ν := mM_none) dI_M_gcd_2 wl_M_23 ws_M_none wb_M_none wi_M ⟨rfl, rfl⟩ (by decide +kernel) ⟨(Nat.le_of_ble_eq_true rfl), (Nat.le_of_ble_eq_true rfl)⟩ (Nat.le_of_ble_eq_true rfl) rfl (c_M_noneG hka ?_)
      refine px_if_neN (q := 8) (tgt := 22) dI_M_gcd_5 (by omega) (by decide) rfl (fun b5 => ?_) (fun b5 => ?_)
      · exact absurd rfl b5
      · refine px_iload_n (q := 9) dI_M_gcd_8 rfl rfl ?_
        refine px_callS1 (q := 12) (ν := mM_none) dI_M_gcd_9 wl_M_23 ws_M_none wb_M_none wi_M ⟨rfl, rfl⟩ (by decide +kernel) ⟨(Nat.le_of_ble_eq_true rfl), (Nat.le_of_ble_eq_true rfl)⟩ (Nat.le_of_ble_eq_true rfl) rfl (c_M_noneG hkb ?_)
        refine px_if_neN (q := 15) (tgt := 22) dI_M_gcd_12 (by omega) (by decide) rfl (fun b12 => ?_) (fun b12 => ?_)
        · exact absurd rfl b12
        · refine px_iload_n (q := 16) dI_M_gcd_15 rfl rfl ?_
          refine px_callS1 (q := 19) (ν := mM_none) dI_M_gcd_16 wl_M_23 ws_M_none wb_M_none wi_M ⟨rfl, rfl⟩ (by decide +kernel) ⟨(Nat.le_of_ble_eq_true rfl), (Nat.le_of_ble_eq_true rfl)⟩ (Nat.le_of_ble_eq_true rfl) rfl (c_M_noneB ht ?_)
          refine px_if_eqN (q := 22) (tgt := 26) dI_M_gcd_19 (by omega) (by decide) rfl (fun b19 => ?_) (fun b19 => ?_)
          · exact absurd b19 (by decide)
          · exact fin

end CM4
