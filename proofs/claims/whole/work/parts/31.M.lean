/-! the reference's call congruent -/
section CM10
variable {l : Launch} {g : pw_G} {X : pw_X} {Y : pw_Y} {Post : pw_P} {v : Nat → Nat}
theorem c_M_raise {n m c : Nat} {p : Nat → Nat} (hn2 : 2 ≤ n) (hn : n ≤ 4095) (hm1 : 1 ≤ m) (hm : m ≤ 64) (hc : c ≤ 4095) (hp0 : pr_ (Y 26) m n p) (hp : ∀ f : Nat → Int32, pr_ f m n (pm_ n m c p) → Post none X (yr_ Y 26 f)) : pw_Met l g mM_raise [.ref (ad_ g 23), .int (nI n), .int (nI m), .int (nI c)] X Y Post := by
  have a1 := hp0 (m - 1) (by omega)
  refine pw_ofW (by decide +kernel) rfl (Nat.le_of_ble_eq_true rfl) rfl (fun sz => ?_)
  refine px_aload_n (q := 1) dI_M_raise_0 rfl rfl ?_
  refine px_getM (q := 4) (j := 2) dI_M_raise_1 wf_M_16 rfl (by decide) rfl rfl ?_
  refine px_iload_n (q := 5) dI_M_raise_4 rfl rfl ?_
  refine px_iconst (q := 6) (v := nI 1) dI_M_raise_5 (by decide +kernel) rfl ?_
  refine px_isubN (q := 7) dI_M_raise_6 (by omega) rfl ?_
  refine px_iald (q := 8) dI_M_raise_7 rfl (by omega) (by omega) a1.1 rfl ?_
  refine px_istore (q := 10) dI_M_raise_8 (by decide) rfl rfl ?_
  refine px_iload_n (q := 11) dI_M_raise_10 rfl rfl ?_
  refine px_iconst (q := 12) (v := nI 1) dI_M_raise_11 (by decide +kernel) rfl ?_
  refine px_isubN (q := 13) dI_M_raise_12 (by omega) rfl ?_
  refine px_istore (q := 15) dI_M_raise_13 (by decide) rfl rfl ?_
  have key : ∀ (i : Nat) (f : Nat → Int32), i < m → (∀ j, i < j → j < m → f j = nI (pm_ n m c p j)) → (∀ j, j ≤ i → f j = nI (p j)) → pw_W l g mM_raise sz (pw_qM g sz Post 0 0) 15 [(0, .ref (ad_ g 23)), (1, .int (nI n)), (2, .int (nI m)), (3, .int (nI c)), (4, .int (nI (p (m - 1)))), (5, .int (nI i))] [] X (yr_ Y 26 f) := by
    intro i
    induction i with
    | zero =>
      intro f hi h1 h2
      have b1 := (hp0 0 hi).2
      have hb : p 0 * c ≤ 4095 * 4095 := Nat.mul_le_mul (by omega) hc
      refine px_iload (q := 17) dI_M_raise_15 rfl rfl ?_
      refine px_if_leN (q := 20) (tgt := 59) dI_M_raise_17 (by omega) (by decide) rfl (fun b17 => ?_) (fun b17 => ?_)
      · refine px_aload_n (q := 60) dI_M_raise_59 rfl rfl ?_
        refine px_getM (q := 63) (j := 2) dI_M_raise_60 wf_M_16 rfl (by decide) rfl rfl ?_
        refine px_iconst (q := 64) (v := nI 0) dI_M_raise_63 (by decide +kernel) rfl ?_
        refine px_aload_n (q := 65) dI_M_raise_64 rfl rfl ?_
        refine px_getM (q := 68) (j := 2) dI_M_raise_65 wf_M_16 rfl (by decide) rfl rfl ?_
        refine px_iconst (q := 69) (v := nI 0) dI_M_raise_68 (by decide +kernel) rfl ?_
        refine px_iald (q := 70) dI_M_raise_69 rfl (by omega) (by omega) (ys_ (h2 0 (by omega))) rfl ?_
        refine px_i2lN (q := 71) dI_M_raise_70 (by omega) rfl ?_
        refine px_iload_n (q := 72) dI_M_raise_71 rfl rfl ?_
        refine px_i2lN (q := 73) dI_M_raise_72 (by omega) rfl ?_
        refine px_lmulN (q := 74) dI_M_raise_73 rfl ?_
        refine px_iload (q := 76) dI_M_raise_74 rfl rfl ?_
        refine px_i2lN (q := 77) dI_M_raise_76 (by omega) rfl ?_
        refine px_laddN (q := 78) dI_M_raise_77 rfl ?_
        refine px_iload_n (q := 79) dI_M_raise_78 rfl rfl ?_
        refine px_i2lN (q := 80) dI_M_raise_79 (by omega) rfl ?_
        refine px_lremN (q := 81) dI_M_raise_80 (by omega) (by omega) (by omega) rfl ?_
        refine px_l2iN (q := 82) dI_M_raise_81 rfl ?_
        refine px_iast (q := 83) dI_M_raise_82 rfl (by omega) (by omega) rfl ?_
        refine px_vret dI_M_raise_83 rfl ?_
        rw [yr_s, yr_yr]
        refine hp _ (fun j hj => ⟨?_, Nat.mod_lt _ (by omega)⟩)
        by_cases e : j = 0
        · subst e
          rw [pk_us]
          show _ = nI ((p ((0 + m - 1) % m) + c * p 0) % n)
          rw [Nat.zero_add, Nat.mod_eq_of_lt (a := m - 1) (by omega), Nat.mul_comm, Nat.add_comm]
        · rw [pk_un e]; exact h1 j (by omega) hj
      · omega
    | succ i ih =>
      intro f hi h1 h2
      have b1 := (hp0 (i + 1) hi).2
      have b2 := (hp0 i (by omega)).2
      have hb : p (i + 1) * c ≤ 4095 * 4095 := Nat.mul_le_mul (by omega) hc
      refine px_iload (q := 17) dI_M_raise_15 rfl rfl ?_
      refine px_if_leN (q := 20) (tgt := 59) dI_M_raise_17 (by omega) (by decide) rfl (fun b17 => ?_) (fun b17 => ?_)
      · omega
      · refine px_aload_n (q := 21) dI_M_raise_20 rfl rfl ?_
        refine px_getM (q := 24) (j := 2) dI_M_raise_21 wf_M_16 rfl (by decide) rfl rfl ?_
        refine px_iload (q := 26) dI_M_raise_24 rfl rfl ?_
        refine px_aload_n (q := 27) dI_M_raise_26 rfl rfl ?_
        refine px_getM (q := 30) (j := 2) dI_M_raise_27 wf_M_16 rfl (by decide) rfl rfl ?_
        refine px_iload (q := 32) dI_M_raise_30 rfl rfl ?_
        refine px_iald (q := 33) dI_M_raise_32 rfl (by omega) (by omega) (ys_ (h2 (i + 1) (by omega))) rfl ?_
        refine px_i2lN (q := 34) dI_M_raise_33 (by omega) rfl ?_
        refine px_iload_n (q := 35) dI_M_raise_34 rfl rfl ?_
        refine px_i2lN (q := 36) dI_M_raise_35 (by omega) rfl ?_
        refine px_lmulN (q := 37) dI_M_raise_36 rfl ?_
        refine px_aload_n (q := 38) dI_M_raise_37 rfl rfl ?_
        refine px_getM (q := 41) (j := 2) dI_M_raise_38 wf_M_16 rfl (by decide) rfl rfl ?_
        refine px_iload (q := 43) dI_M_raise_41 rfl rfl ?_
        refine px_iconst (q := 44) (v := nI 1) dI_M_raise_43 (by decide +kernel) rfl ?_
        refine px_isubN (q := 45) dI_M_raise_44 (by omega) rfl ?_
        refine px_iald (q := 46) dI_M_raise_45 rfl (by omega) (by omega) (ys_ (h2 i (by omega))) rfl ?_
        refine px_i2lN (q := 47) dI_M_raise_46 (by omega) rfl ?_
        refine px_laddN (q := 48) dI_M_raise_47 rfl ?_
        refine px_iload_n (q := 49) dI_M_raise_48 rfl rfl ?_
        refine px_i2lN (q := 50) dI_M_raise_49 (by omega) rfl ?_
        refine px_lremN (q := 51) dI_M_raise_50 (by omega) (by omega) (by omega) rfl ?_
        refine px_l2iN (q := 52) dI_M_raise_51 rfl ?_
        refine px_iast (q := 53) dI_M_raise_52 rfl (by omega) (by omega) rfl ?_
        refine px_iinc (q := 56) dI_M_raise_53 rfl (ic_d (by omega)) (by decide) rfl rfl ?_
        refine px_goto (tgt := 15) dI_M_raise_56 (by decide) ?_
        rw [yr_s, yr_yr]
        refine ih _ (by omega) (fun j h4 h5 => ?_) (fun j h4 => ?_)
        · by_cases e : j = i + 1
          · subst e
            rw [pk_us]
            show _ = nI ((p ((i + 1 + m - 1) % m) + c * p (i + 1)) % n)
            rw [show i + 1 + m - 1 = i + m by omega, Nat.add_mod_right, Nat.mod_eq_of_lt (a := i) (by omega), Nat.mul_comm, Nat.add_comm]
          · rw [pk_un e]; exact h1 j (by omega) h5
        · rw [pk_un (by omega)]; exact h2 j (by omega)
  exact px_XY rfl yr_id.symm (key (m - 1) (Y 26) (by omega) (fun j h4 h5 => absurd h4 (by omega)) (fun j h4 => (hp0 j (by omega)).1))
theorem sm1_ {a b n : Nat} : (a + 1) % n = (b + 1) % n ↔ a % n = b % n := by
  constructor
  · intro h
    rcases Nat.le_total a b with q | q
    · have h1 := Nat.sub_mod_eq_zero_of_mod_eq h.symm
      rw [show b + 1 - (a + 1) = b - a by omega] at h1
      exact ((md_ q).mp h1).symm
    · have h1 := Nat.sub_mod_eq_zero_of_mod_eq h
      rw [show a + 1 - (b + 1) = a - b by omega] at h1
      exact (md_ q).mp h1
  · intro h
    rw [Nat.add_mod, h, ← Nat.add_mod]
theorem z_1 {A B n : Nat} (hB : B ≤ n) : (A + n - B) % n = 0 ↔ A % n = B % n := by
  rw [md_ (by omega), Nat.add_mod_right]
theorem z_3 {P c n : Nat} (hn : 2 ≤ n) : ((P + n - 1) % n + n - c % n) % n = 0 ↔ P % n = (1 + c) % n := by
  rw [z_1 (Nat.le_of_lt (Nat.mod_lt _ (by omega))), Nat.mod_mod, Nat.mod_mod, ← sm1_, show P + n - 1 + 1 = P + n by omega, Nat.add_mod_right, Nat.add_comm 1 c]
theorem mz_p {f : Nat → Int32} (h : mz_ Y v) : mz_ (yr_ Y 26 f) v := by
  obtain ⟨h1, W, h2⟩ := h
  exact ⟨by rw [yr_n (by decide)]; exact h1, W, by rw [yr_n (by decide)]; exact h2⟩
theorem c_M_congruent_bad {a m c : Int32} (hbad : bd_ a) (hm : mz_ Y v) (hp : ∀ Y', mz_ Y' v → mf_ Y Y' → Y' 23 3 = nI 1 → Post (some (.int (nI 0))) X Y') : pw_Met l g mM_congruent [.ref (ad_ g 23), .int a, .int m, .int c] X Y Post := by
  refine pw_ofW (by decide +kernel) rfl (Nat.le_of_ble_eq_true rfl) rfl (fun sz => ?_)
  refine px_aload_n (q := 1) dI_M_congruent_0 rfl rfl ?_
  refine px_iload_n (q := 2) dI_M_congruent_1 rfl rfl ?_
  refine px_callS1 (q := 5) (ν := mM_none) dI_M_congruent_2 wl_M_23 ws_M_none wb_M_none wi_M ⟨rfl, rfl⟩ (by decide +kernel) ⟨(Nat.le_of_ble_eq_true rfl), (Nat.le_of_ble_eq_true rfl)⟩ (Nat.le_of_ble_eq_true rfl) rfl (c_M_noneB hbad ?_)
  refine px_iconst (q := 6) (v := nI 1) dI_M_congruent_5 (by decide +kernel) rfl ?_
  refine px_callV2 (q := 9) (ν := mM_refused) dI_M_congruent_6 (by decide) rfl rfl wl_M_27 wm_M_refused wv_M_refused wb_M_refused wi_M ⟨rfl, rfl⟩ (by decide +kernel) ⟨(Nat.le_of_ble_eq_true rfl), (Nat.le_of_ble_eq_true rfl)⟩ (Nat.le_of_ble_eq_true rfl) rfl (c_M_refused (by decide) (fun f hf => ?_))
  refine px_if_neN (q := 12) (tgt := 47) dI_M_congruent_9 (by omega) (by decide) rfl (fun b9 => ?_) (fun b9 => ?_)
  · refine px_iconst (q := 48) (v := nI 0) dI_M_congruent_47 (by decide +kernel) rfl ?_
    refine px_zret dI_M_congruent_48 rfl (by decide +kernel) ?_
    exact hp _ (mz_c hm) (mf_y (by decide) mf_0) (by rw [yr_s, hf]; rfl)
  · exact absurd b9 (by decide)
theorem rng_ {x : Int32} {lo hi : Nat} (hl : lo < 2 ^ 31) (hh : hi < 2 ^ 31) (h1 : ¬ x < nI lo) (h2 : x ≤ nI hi) : ∃ k, lo ≤ k ∧ k ≤ hi ∧ x = nI k := by
  have h0 : ¬ x < 0 := fun q => h1 (by
    rw [Int32.lt_iff_toInt_lt] at q ⊢
    have e1 : (0 : Int32).toInt = 0 := by decide
    rw [nI_toInt hl]
    omega)
  obtain ⟨k, hk, e⟩ := nI_of2 (M := nI hi) (n := hi) (nI_toInt hh) h0 h2
  refine ⟨k, ?_, hk, e⟩
  subst e
  exact Nat.le_of_not_lt (fun q => h1 (nI_lt q hl))
theorem c_M_congruent_m {a : Nat} {m c : Int32} (ha : a < 6) (hbad : (¬ ∃ k, 1 ≤ k ∧ k ≤ 64 ∧ m = nI k) ∨ ¬ ∃ k, k ≤ 4095 ∧ c = nI k) (hm : mz_ Y v) (hp : ∀ Y', mz_ Y' v → mf_ Y Y' → Y' 23 3 = nI 2 → Post (some (.int (nI 0))) X Y') : pw_Met l g mM_congruent [.ref (ad_ g 23), .int (nI a), .int m, .int c] X Y Post := by
  refine pw_ofW (by decide +kernel) rfl (Nat.le_of_ble_eq_true rfl) rfl (fun sz => ?_)
  have fin : ∀ f, pw_W l g mM_congruent sz (pw_qM g sz Post 0 0) 35 [(0, .ref (ad_ g 23)), (1, .int (nI a)), (2, .int m), (3, .int c)] [.ref (ad_ g 23)] X (yr_ Y 23 f) := by
    intro f
    refine px_iconst (q := 36) (v := nI 1) dI_M_congruent_35 (by decide +kernel) rfl ?_
    refine px_goto (tgt := 40) dI_M_congruent_36 (by decide) ?_
    refine px_iconst (q := 41) (v := nI 2) dI_M_congruent_40 (by decide +kernel) rfl ?_
    refine px_callV2 (q := 44) (ν := mM_refused) dI_M_congruent_41 (by decide) rfl rfl wl_M_27 wm_M_refused wv_M_refused wb_M_refused wi_M ⟨rfl, rfl⟩ (by decide +kernel) ⟨(Nat.le_of_ble_eq_true rfl), (Nat.le_of_ble_eq_true rfl)⟩ (Nat.le_of_ble_eq_true rfl) rfl (c_M_refused (by decide) (fun f2 hf2 => ?_))
    rw [yr_yr]
    refine px_if_eqN (q := 47) (tgt := 49) dI_M_congruent_44 (by omega) (by decide) rfl (fun b44 => ?_) (fun b44 => ?_)
    · exact absurd b44 (by decide)
    · refine px_iconst (q := 48) (v := nI 0) dI_M_congruent_47 (by decide +kernel) rfl ?_
      refine px_zret dI_M_congruent_48 rfl (by decide +kernel) ?_
      exact hp _ (mz_c hm) (mf_y (by decide) mf_0) (by rw [yr_s, hf2]; rfl)
  refine px_aload_n (q := 1) dI_M_congruent_0 rfl rfl ?_
  refine px_iload_n (q := 2) dI_M_congruent_1 rfl rfl ?_
  refine px_callS1 (q := 5) (ν := mM_none) dI_M_congruent_2 wl_M_23 ws_M_none wb_M_none wi_M ⟨rfl, rfl⟩ (by decide +kernel) ⟨(Nat.le_of_ble_eq_true rfl), (Nat.le_of_ble_eq_true rfl)⟩ (Nat.le_of_ble_eq_true rfl) rfl (c_M_noneG ha ?_)
  refine px_iconst (q := 6) (v := nI 1) dI_M_congruent_5 (by decide +kernel) rfl ?_
  refine px_callV2 (q := 9) (ν := mM_refused) dI_M_congruent_6 (by decide) rfl rfl wl_M_27 wm_M_refused wv_M_refused wb_M_refused wi_M ⟨rfl, rfl⟩ (by decide +kernel) ⟨(Nat.le_of_ble_eq_true rfl), (Nat.le_of_ble_eq_true rfl)⟩ (Nat.le_of_ble_eq_true rfl) rfl (c_M_refused (by decide) (fun f hf => ?_))
  refine px_if_neN (q := 12) (tgt := 47) dI_M_congruent_9 (by omega) (by decide) rfl (fun b9 => ?_) (fun b9 => ?_)
  · exact absurd rfl b9
  · refine px_aload_n (q := 13) dI_M_congruent_12 rfl rfl ?_
    refine px_iload_n (q := 14) dI_M_congruent_13 rfl rfl ?_
    refine px_iconst (q := 15) (v := nI 1) dI_M_congruent_14 (by decide +kernel) rfl ?_
    refine px_icmp_lt (q := 18) (tgt := 35) dI_M_congruent_15 (by decide) rfl (fun b15 => ?_) (fun b15 => ?_)
    · exact fin f
    · refine px_iload_n (q := 19) dI_M_congruent_18 rfl rfl ?_
      refine px_bipush (q := 21) (v := nI 64) dI_M_congruent_19 (by decide +kernel) rfl ?_
      refine px_icmp_gt (q := 24) (tgt := 35) dI_M_congruent_21 (by decide) rfl (fun b21 => ?_) (fun b21 => ?_)
      · exact fin f
      · refine px_iload_n (q := 25) dI_M_congruent_24 rfl rfl ?_
        refine px_if_lt (q := 28) (tgt := 35) dI_M_congruent_25 (by decide) rfl (fun b25 => ?_) (fun b25 => ?_)
        · exact fin f
        · refine px_iload_n (q := 29) dI_M_congruent_28 rfl rfl ?_
          refine px_sipush (q := 32) (v := nI 4095) dI_M_congruent_29 (by decide +kernel) rfl ?_
          refine px_icmp_le (q := 35) (tgt := 39) dI_M_congruent_32 (by decide) rfl (fun b32 => ?_) (fun b32 => ?_)
          · exfalso
            rcases hbad with q | q
            · exact q (rng_ (by decide) (by decide) b15 (Int32.not_lt.mp b21))
            · obtain ⟨k, hk, e⟩ := nI_of2 (M := nI 4095) (n := 4095) (by decide) b25 b32
              exact q ⟨k, hk, e⟩
          · exact fin f
theorem c_M_congruent {a m c : Nat} (ha : a < 6) (hm1 : 1 ≤ m) (hm64 : m ≤ 64) (hc : c ≤ 4095) (hm : mz_ Y v) (h3 : (v a < 2 ∨ 4095 < v a) → ∀ Y', mz_ Y' v → mf_ Y Y' → Y' 23 3 = nI 3 → Post (some (.int (nI 0))) X Y') (h1 : 2 ≤ v a → v a ≤ 4095 → cg_ (v a) m c → ∀ Y', mz_ Y' v → mf_ Y Y' → Y' 23 3 = nI 0 → Post (some (.int (nI 1))) X Y') (h0 : 2 ≤ v a → v a ≤ 4095 → ¬ cg_ (v a) m c → ∀ Y', mz_ Y' v → mf_ Y Y' → Y' 23 3 = nI 0 → Post (some (.int (nI 0))) X Y') : pw_Met l g mM_congruent [.ref (ad_ g 23), .int (nI a), .int (nI m), .int (nI c)] X Y Post := by
  refine pw_ofW (by decide +kernel) rfl (Nat.le_of_ble_eq_true rfl) rfl (fun sz => ?_)
  have k49 : ∀ f, f 3 = nI 0 → pw_W l g mM_congruent sz (pw_qM g sz Post 0 0) 49 [(0, .ref (ad_ g 23)), (1, .int (nI a)), (2, .int (nI m)), (3, .int (nI c))] [] X (yr_ Y 23 f) := by
    intro f hf
    refine px_aload_n (q := 50) dI_M_congruent_49 rfl rfl ?_
    refine px_iload_n (q := 51) dI_M_congruent_50 rfl rfl ?_
    refine px_sipush (q := 54) (v := nI 4096) dI_M_congruent_51 (by decide +kernel) rfl ?_
    refine px_callV2 (q := 57) (ν := mM_value) dI_M_congruent_54 (by decide) rfl rfl wl_M_99 wm_M_value wv_M_value wb_M_value wi_M ⟨rfl, rfl⟩ (by decide +kernel) ⟨(Nat.le_of_ble_eq_true rfl), (Nat.le_of_ble_eq_true rfl)⟩ (Nat.le_of_ble_eq_true rfl) rfl (c_M_value ha (by decide) (mz_c hm).1 ?_)
    by_cases hv : v a < 2 ∨ 4095 < v a
    · generalize hx : (if v a ≤ 4096 then v a else 4096) = x
      have hxb : x < 2 ∨ x = 4096 := by subst hx; split <;> omega
      have fin : pw_W l g mM_congruent sz (pw_qM g sz Post 0 0) 74 [(0, .ref (ad_ g 23)), (1, .int (nI a)), (2, .int (nI m)), (3, .int (nI c)), (4, .int (nI x))] [.ref (ad_ g 23)] X (yr_ Y 23 f) := by
        refine px_iconst (q := 75) (v := nI 1) dI_M_congruent_74 (by decide +kernel) rfl ?_
        refine px_goto (tgt := 79) dI_M_congruent_75 (by decide) ?_
        refine px_iconst (q := 80) (v := nI 3) dI_M_congruent_79 (by decide +kernel) rfl ?_
        refine px_callV2 (q := 83) (ν := mM_refused) dI_M_congruent_80 (by decide) rfl rfl wl_M_27 wm_M_refused wv_M_refused wb_M_refused wi_M ⟨rfl, rfl⟩ (by decide +kernel) ⟨(Nat.le_of_ble_eq_true rfl), (Nat.le_of_ble_eq_true rfl)⟩ (Nat.le_of_ble_eq_true rfl) rfl (c_M_refused (by decide) (fun f2 hf2 => ?_))
        rw [yr_yr]
        refine px_if_eqN (q := 86) (tgt := 88) dI_M_congruent_83 (by omega) (by decide) rfl (fun b83 => ?_) (fun b83 => ?_)
        · exact absurd b83 (by decide)
        · refine px_iconst (q := 87) (v := nI 0) dI_M_congruent_86 (by decide +kernel) rfl ?_
          refine px_zret dI_M_congruent_87 rfl (by decide +kernel) ?_
          exact h3 hv _ (mz_c hm) (mf_y (by decide) mf_0) (by rw [yr_s, hf2]; rfl)
      refine px_istore (q := 59) dI_M_congruent_57 (by decide) rfl rfl ?_
      refine px_aload_n (q := 60) dI_M_congruent_59 rfl rfl ?_
      refine px_iload (q := 62) dI_M_congruent_60 rfl rfl ?_
      refine px_iconst (q := 63) (v := nI 2) dI_M_congruent_62 (by decide +kernel) rfl ?_
      refine px_icmp_ltN (q := 66) (tgt := 74) dI_M_congruent_63 (by omega) (by omega) (by decide) rfl (fun b63 => ?_) (fun b63 => ?_)
      · exact fin
      · refine px_iload (q := 68) dI_M_congruent_66 rfl rfl ?_
        refine px_sipush (q := 71) (v := nI 4095) dI_M_congruent_68 (by decide +kernel) rfl ?_
        refine px_icmp_leN (q := 74) (tgt := 78) dI_M_congruent_71 (by omega) (by omega) (by decide) rfl (fun b71 => ?_) (fun b71 => ?_)
        · omega
        · exact fin
    · rw [if_pos (by omega)]
      have hv2 : 2 ≤ v a := by omega
      have hv4 : v a ≤ 4095 := by omega
      generalize v a = n at hv2 hv4 h1 h0
      have hnm : n % m < m := Nat.mod_lt _ (by omega)
      refine px_istore (q := 59) dI_M_congruent_57 (by decide) rfl rfl ?_
      refine px_aload_n (q := 60) dI_M_congruent_59 rfl rfl ?_
      refine px_iload (q := 62) dI_M_congruent_60 rfl rfl ?_
      refine px_iconst (q := 63) (v := nI 2) dI_M_congruent_62 (by decide +kernel) rfl ?_
      refine px_icmp_ltN (q := 66) (tgt := 74) dI_M_congruent_63 (by omega) (by omega) (by decide) rfl (fun b63 => ?_) (fun b63 => ?_)
      · omega
      · refine px_iload (q := 68) dI_M_congruent_66 rfl rfl ?_
        refine px_sipush (q := 71) (v := nI 4095) dI_M_congruent_68 (by decide +kernel) rfl ?_
        refine px_icmp_leN (q := 74) (tgt := 78) dI_M_congruent_71 (by omega) (by omega) (by decide) rfl (fun b71 => ?_) (fun b71 => ?_)
        · refine px_iconst (q := 79) (v := nI 0) dI_M_congruent_78 (by decide +kernel) rfl ?_
          refine px_iconst (q := 80) (v := nI 3) dI_M_congruent_79 (by decide +kernel) rfl ?_
          refine px_callV2 (q := 83) (ν := mM_refused) dI_M_congruent_80 (by decide) rfl rfl wl_M_27 wm_M_refused wv_M_refused wb_M_refused wi_M ⟨rfl, rfl⟩ (by decide +kernel) ⟨(Nat.le_of_ble_eq_true rfl), (Nat.le_of_ble_eq_true rfl)⟩ (Nat.le_of_ble_eq_true rfl) rfl (c_M_refused (by decide) (fun f2 hf2 => ?_))
          rw [yr_yr]
          refine px_if_eqN (q := 86) (tgt := 88) dI_M_congruent_83 (by omega) (by decide) rfl (fun b83 => ?_) (fun b83 => ?_)
          · have hm2 := mz_c (f := f2) hm
            have hmf2 : mf_ Y (yr_ Y 23 f2) := mf_y (by decide) mf_0
            have hc2 : yr_ Y 23 f2 23 3 = nI 0 := by rw [yr_s, hf2]; rfl
            generalize yr_ Y 23 f2 = Y2 at hm2 hmf2 hc2
            refine px_iconst (q := 89) (v := nI 0) dI_M_congruent_88 (by decide +kernel) rfl ?_
            refine px_istore (q := 91) dI_M_congruent_89 (by decide) rfl rfl ?_
            have z64 : ∀ (d i : Nat) (h : Nat → Int32), i + d = 64 → (∀ j, j < i → h j = nI 0) → (∀ h : Nat → Int32, (∀ j, j < 64 → h j = nI 0) → pw_W l g mM_congruent sz (pw_qM g sz Post 0 0) 112 [(0, .ref (ad_ g 23)), (1, .int (nI a)), (2, .int (nI m)), (3, .int (nI c)), (4, .int (nI n)), (5, .int (nI 64))] [] X (yr_ Y2 26 h)) → pw_W l g mM_congruent sz (pw_qM g sz Post 0 0) 91 [(0, .ref (ad_ g 23)), (1, .int (nI a)), (2, .int (nI m)), (3, .int (nI c)), (4, .int (nI n)), (5, .int (nI i))] [] X (yr_ Y2 26 h) := by
              intro d
              induction d with
              | zero =>
                intro i h hi q k
                obtain rfl : i = 64 := by omega
                refine px_iload (q := 93) dI_M_congruent_91 rfl rfl ?_
                refine px_bipush (q := 95) (v := nI 64) dI_M_congruent_93 (by decide +kernel) rfl ?_
                refine px_icmp_geN (q := 98) (tgt := 112) dI_M_congruent_95 (by omega) (by omega) (by decide) rfl (fun b95 => ?_) (fun b95 => ?_)
                · exact k h q
                · omega
              | succ d ih =>
                intro i h hi q k
                refine px_iload (q := 93) dI_M_congruent_91 rfl rfl ?_
                refine px_bipush (q := 95) (v := nI 64) dI_M_congruent_93 (by decide +kernel) rfl ?_
                refine px_icmp_geN (q := 98) (tgt := 112) dI_M_congruent_95 (by omega) (by omega) (by decide) rfl (fun b95 => ?_) (fun b95 => ?_)
                · omega
                · refine px_aload_n (q := 99) dI_M_congruent_98 rfl rfl ?_
                  refine px_getM (q := 102) (j := 2) dI_M_congruent_99 wf_M_16 rfl (by decide) rfl rfl ?_
                  refine px_iload (q := 104) dI_M_congruent_102 rfl rfl ?_
                  refine px_iconst (q := 105) (v := nI 0) dI_M_congruent_104 (by decide +kernel) rfl ?_
                  refine px_iast (q := 106) dI_M_congruent_105 rfl (by omega) (by omega) rfl ?_
                  refine px_iinc (q := 109) dI_M_congruent_106 rfl (ic_1 _) (by decide) rfl rfl ?_
                  refine px_goto (tgt := 91) dI_M_congruent_109 (by decide) ?_
                  rw [yr_s, yr_yr]
                  refine ih (i + 1) _ (by omega) (fun j hj => ?_) k
                  by_cases e : j = i
                  · subst e; exact pk_us
                  · rw [pk_un e]; exact q j (by omega)
            refine px_XY rfl (yr_id (k := 26)).symm (z64 64 0 (Y2 26) rfl (fun j hj => absurd hj (by omega)) (fun h hz => ?_))
            refine px_aload_n (q := 113) dI_M_congruent_112 rfl rfl ?_
            refine px_getM (q := 116) (j := 2) dI_M_congruent_113 wf_M_16 rfl (by decide) rfl rfl ?_
            refine px_iconst (q := 117) (v := nI 0) dI_M_congruent_116 (by decide +kernel) rfl ?_
            refine px_iconst (q := 118) (v := nI 1) dI_M_congruent_117 (by decide +kernel) rfl ?_
            refine px_iast (q := 119) dI_M_congruent_118 rfl (by omega) (by omega) rfl ?_
            refine px_iconst (q := 120) (v := nI 0) dI_M_congruent_119 (by decide +kernel) rfl ?_
            refine px_istore (q := 122) dI_M_congruent_120 (by decide) rfl rfl ?_
            rw [yr_s, yr_yr]
            have rs : ∀ (d i : Nat) (h : Nat → Int32), i + d = n → pr_ h m n (pp_ n m c i) → (∀ h : Nat → Int32, pr_ h m n (pp_ n m c n) → pw_W l g mM_congruent sz (pw_qM g sz Post 0 0) 143 [(0, .ref (ad_ g 23)), (1, .int (nI a)), (2, .int (nI m)), (3, .int (nI c)), (4, .int (nI n)), (5, .int (nI n))] [] X (yr_ Y2 26 h)) → pw_W l g mM_congruent sz (pw_qM g sz Post 0 0) 122 [(0, .ref (ad_ g 23)), (1, .int (nI a)), (2, .int (nI m)), (3, .int (nI c)), (4, .int (nI n)), (5, .int (nI i))] [] X (yr_ Y2 26 h) := by
              intro d
              induction d with
              | zero =>
                intro i h hi q k
                obtain rfl : i = n := by omega
                refine px_iload (q := 124) dI_M_congruent_122 rfl rfl ?_
                refine px_iload (q := 126) dI_M_congruent_124 rfl rfl ?_
                refine px_icmp_geN (q := 129) (tgt := 143) dI_M_congruent_126 (by omega) (by omega) (by decide) rfl (fun b126 => ?_) (fun b126 => ?_)
                · exact k h q
                · omega
              | succ d ih =>
                intro i h hi q k
                refine px_iload (q := 124) dI_M_congruent_122 rfl rfl ?_
                refine px_iload (q := 126) dI_M_congruent_124 rfl rfl ?_
                refine px_icmp_geN (q := 129) (tgt := 143) dI_M_congruent_126 (by omega) (by omega) (by decide) rfl (fun b126 => ?_) (fun b126 => ?_)
                · omega
                · refine px_aload_n (q := 130) dI_M_congruent_129 rfl rfl ?_
                  refine px_iload (q := 132) dI_M_congruent_130 rfl rfl ?_
                  refine px_iload_n (q := 133) dI_M_congruent_132 rfl rfl ?_
                  refine px_iload_n (q := 134) dI_M_congruent_133 rfl rfl ?_
                  refine px_callV3 (q := 137) (ν := mM_raise) dI_M_congruent_134 (by decide) rfl rfl wl_M_103 wm_M_raise wv_M_raise wb_M_raise wi_M ⟨rfl, rfl⟩ (by decide +kernel) ⟨(Nat.le_of_ble_eq_true rfl), (Nat.le_of_ble_eq_true rfl)⟩ (Nat.le_of_ble_eq_true rfl) rfl (c_M_raise hv2 hv4 hm1 hm64 hc (by rw [yr_s]; exact q) (fun f6 hf6 => ?_))
                  rw [yr_yr]
                  refine px_iinc (q := 140) dI_M_congruent_137 rfl (ic_1 _) (by decide) rfl rfl ?_
                  refine px_goto (tgt := 122) dI_M_congruent_140 (by decide) ?_
                  exact ih (i + 1) f6 (by omega) hf6 k
            refine rs n 0 _ (by omega) ?_ (fun h2 hpr => ?_)
            · intro i hi
              by_cases e : i = 0
              · subst e
                rw [pk_us]
                exact ⟨rfl, by show 1 < n; omega⟩
              · rw [pk_un e, hz i (by omega)]
                refine ⟨?_, ?_⟩
                · show nI 0 = nI (if i = 0 then 1 else 0)
                  rw [if_neg e]
                · show (if i = 0 then 1 else 0) < n
                  rw [if_neg e]; omega
            · have a1 := hpr (n % m) hnm
              have a0 := hpr 0 (by omega)
              have hcn : c % n < n := Nat.mod_lt _ (by omega)
              refine px_aload_n (q := 144) dI_M_congruent_143 rfl rfl ?_
              refine px_getM (q := 147) (j := 2) dI_M_congruent_144 wf_M_16 rfl (by decide) rfl rfl ?_
              refine px_iload (q := 149) dI_M_congruent_147 rfl rfl ?_
              refine px_iload_n (q := 150) dI_M_congruent_149 rfl rfl ?_
              refine px_iremN (q := 151) dI_M_congruent_150 (by omega) (by omega) (by omega) rfl ?_
              refine px_aload_n (q := 152) dI_M_congruent_151 rfl rfl ?_
              refine px_getM (q := 155) (j := 2) dI_M_congruent_152 wf_M_16 rfl (by decide) rfl rfl ?_
              refine px_iload (q := 157) dI_M_congruent_155 rfl rfl ?_
              refine px_iload_n (q := 158) dI_M_congruent_157 rfl rfl ?_
              refine px_iremN (q := 159) dI_M_congruent_158 (by omega) (by omega) (by omega) rfl ?_
              refine px_iald (q := 160) dI_M_congruent_159 rfl (by omega) (by omega) (ys_ a1.1) rfl ?_
              refine px_iload (q := 162) dI_M_congruent_160 rfl rfl ?_
              refine px_iaddN (q := 163) dI_M_congruent_162 rfl ?_
              refine px_iconst (q := 164) (v := nI 1) dI_M_congruent_163 (by decide +kernel) rfl ?_
              refine px_isubN (q := 165) dI_M_congruent_164 (by omega) rfl ?_
              refine px_iload (q := 167) dI_M_congruent_165 rfl rfl ?_
              refine px_iremN (q := 168) dI_M_congruent_167 (by omega) (by omega) (by omega) rfl ?_
              refine px_iast (q := 169) dI_M_congruent_168 rfl (by omega) (by omega) rfl ?_
              rw [yr_s, yr_yr]
              have e0 : upd h2 (n % m) (nI ((pp_ n m c n (n % m) + n - 1) % n)) 0 = nI (if 0 = n % m then (pp_ n m c n 0 + n - 1) % n else pp_ n m c n 0) := by
                by_cases q : 0 = n % m
                · rw [if_pos q, ← q, pk_us]
                · rw [if_neg q, pk_un q, a0.1]
              have eb : (if 0 = n % m then (pp_ n m c n 0 + n - 1) % n else pp_ n m c n 0) < n := by
                split
                · exact Nat.mod_lt _ (by omega)
                · exact a0.2
              refine px_aload_n (q := 170) dI_M_congruent_169 rfl rfl ?_
              refine px_getM (q := 173) (j := 2) dI_M_congruent_170 wf_M_16 rfl (by decide) rfl rfl ?_
              refine px_iconst (q := 174) (v := nI 0) dI_M_congruent_173 (by decide +kernel) rfl ?_
              refine px_aload_n (q := 175) dI_M_congruent_174 rfl rfl ?_
              refine px_getM (q := 178) (j := 2) dI_M_congruent_175 wf_M_16 rfl (by decide) rfl rfl ?_
              refine px_iconst (q := 179) (v := nI 0) dI_M_congruent_178 (by decide +kernel) rfl ?_
              refine px_iald (q := 180) dI_M_congruent_179 rfl (by omega) (by omega) (ys_ e0) rfl ?_
              refine px_iload (q := 182) dI_M_congruent_180 rfl rfl ?_
              refine px_iaddN (q := 183) dI_M_congruent_182 rfl ?_
              refine px_iload_n (q := 184) dI_M_congruent_183 rfl rfl ?_
              refine px_iload (q := 186) dI_M_congruent_184 rfl rfl ?_
              refine px_iremN (q := 187) dI_M_congruent_186 (by omega) (by omega) (by omega) rfl ?_
              refine px_isubN (q := 188) dI_M_congruent_187 (by omega) rfl ?_
              refine px_iload (q := 190) dI_M_congruent_188 rfl rfl ?_
              refine px_iremN (q := 191) dI_M_congruent_190 (by omega) (by omega) (by omega) rfl ?_
              refine px_iast (q := 192) dI_M_congruent_191 rfl (by omega) (by omega) rfl ?_
              rw [yr_s, yr_yr]
              generalize hF : upd (upd h2 (n % m) (nI ((pp_ n m c n (n % m) + n - 1) % n))) 0 (nI (((if 0 = n % m then (pp_ n m c n 0 + n - 1) % n else pp_ n m c n 0) + n - c % n) % n)) = F
              have hFi : ∀ i, i < m → ∃ x, F i = nI x ∧ x < n ∧ (x = 0 ↔ pp_ n m c n i % n = cu_ n m c i % n) := by
                intro i hi
                subst hF
                by_cases q0 : i = 0
                · subst q0
                  refine ⟨_, pk_us, Nat.mod_lt _ (by omega), ?_⟩
                  show _ ↔ _ = ((if 0 = n % m then 1 else 0) + (if 0 = 0 then c else 0)) % n
                  rw [if_pos (rfl : (0 : Nat) = 0)]
                  by_cases q : 0 = n % m
                  · rw [if_pos q, if_pos q, z_3 hv2]
                  · rw [if_neg q, if_neg q, z_1 (Nat.le_of_lt hcn), Nat.mod_mod, Nat.zero_add]
                · rw [pk_un q0]
                  show ∃ x, _ ∧ _ ∧ (_ ↔ _ = ((if i = n % m then 1 else 0) + (if i = 0 then c else 0)) % n)
                  rw [if_neg q0, Nat.add_zero]
                  by_cases q : i = n % m
                  · rw [if_pos q, ← q]
                    exact ⟨_, pk_us, Nat.mod_lt _ (by omega), z_1 (by omega)⟩
                  · rw [if_neg q, pk_un q, (hpr i hi).1]
                    refine ⟨_, rfl, (hpr i hi).2, ?_⟩
                    rw [Nat.mod_eq_of_lt (hpr i hi).2, Nat.zero_mod]
              refine px_iconst (q := 193) (v := nI 1) dI_M_congruent_192 (by decide +kernel) rfl ?_
              refine px_istore (q := 195) dI_M_congruent_193 (by decide) rfl rfl ?_
              refine px_iconst (q := 196) (v := nI 0) dI_M_congruent_195 (by decide +kernel) rfl ?_
              refine px_istore (q := 198) dI_M_congruent_196 (by decide) rfl rfl ?_
              have fin : ∀ z, (z = 1 ∧ cg_ n m c ∨ z = 0 ∧ ¬ cg_ n m c) → ∀ ls, lk_ ls 5 = some (.int (nI z)) → pw_W l g mM_congruent sz (pw_qM g sz Post 0 0) 232 ls [] X (yr_ Y2 26 F) := by
                intro z hz ls hl
                refine px_iload (q := 234) dI_M_congruent_232 hl rfl ?_
                rcases hz with ⟨rfl, z1⟩ | ⟨rfl, z1⟩
                · refine px_zret dI_M_congruent_234 rfl (by decide +kernel) ?_
                  exact h1 hv2 hv4 z1 _ (mz_p hm2) (mf_y (by decide) hmf2) (by rw [yr_n (by decide)]; exact hc2)
                · refine px_zret dI_M_congruent_234 rfl (by decide +kernel) ?_
                  exact h0 hv2 hv4 z1 _ (mz_p hm2) (mf_y (by decide) hmf2) (by rw [yr_n (by decide)]; exact hc2)
              have key : ∀ (d i z : Nat), i + d = m → (z = 1 ∧ (∀ j, j < i → pp_ n m c n j % n = cu_ n m c j % n) ∨ z = 0 ∧ ¬ cg_ n m c) → pw_W l g mM_congruent sz (pw_qM g sz Post 0 0) 198 [(0, .ref (ad_ g 23)), (1, .int (nI a)), (2, .int (nI m)), (3, .int (nI c)), (4, .int (nI n)), (5, .int (nI z)), (6, .int (nI i))] [] X (yr_ Y2 26 F) := by
                intro d
                induction d with
                | zero =>
                  intro i z hi hz
                  refine px_iload (q := 200) dI_M_congruent_198 rfl rfl ?_
                  refine px_iload_n (q := 201) dI_M_congruent_200 rfl rfl ?_
                  refine px_icmp_geN (q := 204) (tgt := 232) dI_M_congruent_201 (by omega) (by omega) (by decide) rfl (fun b201 => ?_) (fun b201 => ?_)
                  · refine fin z ?_ _ rfl
                    rcases hz with ⟨q, q1⟩ | q
                    · exact Or.inl ⟨q, fun j hj => q1 j (by omega)⟩
                    · exact Or.inr q
                  · omega
                | succ d ih =>
                  intro i z hi hz
                  obtain ⟨x, x1, x2, x3⟩ := hFi i (by omega)
                  refine px_iload (q := 200) dI_M_congruent_198 rfl rfl ?_
                  refine px_iload_n (q := 201) dI_M_congruent_200 rfl rfl ?_
                  refine px_icmp_geN (q := 204) (tgt := 232) dI_M_congruent_201 (by omega) (by omega) (by decide) rfl (fun b201 => ?_) (fun b201 => ?_)
                  · omega
                  · refine px_iload (q := 206) dI_M_congruent_204 rfl rfl ?_
                    refine px_if_eqN (q := 209) (tgt := 223) dI_M_congruent_206 (by omega) (by decide) rfl (fun b206 => ?_) (fun b206 => ?_)
                    · refine px_iconst (q := 224) (v := nI 0) dI_M_congruent_223 (by decide +kernel) rfl ?_
                      refine px_istore (q := 226) dI_M_congruent_224 (by decide) rfl rfl ?_
                      refine px_iinc (q := 229) dI_M_congruent_226 rfl (ic_1 _) (by decide) rfl rfl ?_
                      refine px_goto (tgt := 198) dI_M_congruent_229 (by decide) ?_
                      refine ih (i + 1) 0 (by omega) (Or.inr ⟨rfl, ?_⟩)
                      rcases hz with ⟨q, -⟩ | ⟨-, q⟩
                      · omega
                      · exact q
                    · refine px_aload_n (q := 210) dI_M_congruent_209 rfl rfl ?_
                      refine px_getM (q := 213) (j := 2) dI_M_congruent_210 wf_M_16 rfl (by decide) rfl rfl ?_
                      refine px_iload (q := 215) dI_M_congruent_213 rfl rfl ?_
                      refine px_iald (q := 216) dI_M_congruent_215 rfl (by omega) (by omega) (ys_ x1) rfl ?_
                      refine px_if_neN (q := 219) (tgt := 223) dI_M_congruent_216 (by omega) (by decide) rfl (fun b216 => ?_) (fun b216 => ?_)
                      · refine px_iconst (q := 224) (v := nI 0) dI_M_congruent_223 (by decide +kernel) rfl ?_
                        refine px_istore (q := 226) dI_M_congruent_224 (by decide) rfl rfl ?_
                        refine px_iinc (q := 229) dI_M_congruent_226 rfl (ic_1 _) (by decide) rfl rfl ?_
                        refine px_goto (tgt := 198) dI_M_congruent_229 (by decide) ?_
                        exact ih (i + 1) 0 (by omega) (Or.inr ⟨rfl, fun hcg => b216 (x3.mpr (hcg i (by omega)))⟩)
                      · refine px_iconst (q := 220) (v := nI 1) dI_M_congruent_219 (by decide +kernel) rfl ?_
                        refine px_goto (tgt := 224) dI_M_congruent_220 (by decide) ?_
                        refine px_istore (q := 226) dI_M_congruent_224 (by decide) rfl rfl ?_
                        refine px_iinc (q := 229) dI_M_congruent_226 rfl (ic_1 _) (by decide) rfl rfl ?_
                        refine px_goto (tgt := 198) dI_M_congruent_229 (by decide) ?_
                        refine ih (i + 1) 1 (by omega) (Or.inl ⟨rfl, fun j hj => ?_⟩)
                        rcases hz with ⟨-, q⟩ | ⟨q, -⟩
                        · by_cases e : j = i
                          · rw [e]; exact x3.mp b216
                          · exact q j (by omega)
                        · omega
              exact key m 0 1 (by omega) (Or.inl ⟨rfl, fun j hj => absurd hj (by omega)⟩)
          · exact absurd rfl b83
        · omega
  refine px_aload_n (q := 1) dI_M_congruent_0 rfl rfl ?_
  refine px_iload_n (q := 2) dI_M_congruent_1 rfl rfl ?_
  refine px_callS1 (q := 5) (ν := mM_none) dI_M_congruent_2 wl_M_23 ws_M_none wb_M_none wi_M ⟨rfl, rfl⟩ (by decide +kernel) ⟨(Nat.le_of_ble_eq_true rfl), (Nat.le_of_ble_eq_true rfl)⟩ (Nat.le_of_ble_eq_true rfl) rfl (c_M_noneG ha ?_)
  refine px_iconst (q := 6) (v := nI 1) dI_M_congruent_5 (by decide +kernel) rfl ?_
  refine px_callV2 (q := 9) (ν := mM_refused) dI_M_congruent_6 (by decide) rfl rfl wl_M_27 wm_M_refused wv_M_refused wb_M_refused wi_M ⟨rfl, rfl⟩ (by decide +kernel) ⟨(Nat.le_of_ble_eq_true rfl), (Nat.le_of_ble_eq_true rfl)⟩ (Nat.le_of_ble_eq_true rfl) rfl (c_M_refused (by decide) (fun f hf => ?_))
  refine px_if_neN (q := 12) (tgt := 47) dI_M_congruent_9 (by omega) (by decide) rfl (fun b9 => ?_) (fun b9 => ?_)
  · exact absurd rfl b9
  · refine px_aload_n (q := 13) dI_M_congruent_12 rfl rfl ?_
    refine px_iload_n (q := 14) dI_M_congruent_13 rfl rfl ?_
    refine px_iconst (q := 15) (v := nI 1) dI_M_congruent_14 (by decide +kernel) rfl ?_
    refine px_icmp_ltN (q := 18) (tgt := 35) dI_M_congruent_15 (by omega) (by omega) (by decide) rfl (fun b15 => ?_) (fun b15 => ?_)
    · omega
    · refine px_iload_n (q := 19) dI_M_congruent_18 rfl rfl ?_
      refine px_bipush (q := 21) (v := nI 64) dI_M_congruent_19 (by decide +kernel) rfl ?_
      refine px_icmp_gtN (q := 24) (tgt := 35) dI_M_congruent_21 (by omega) (by omega) (by decide) rfl (fun b21 => ?_) (fun b21 => ?_)
      · omega
      · refine px_iload_n (q := 25) dI_M_congruent_24 rfl rfl ?_
        refine px_if_ltN (q := 28) (tgt := 35) dI_M_congruent_25 (by omega) (by decide) rfl (fun b25 => ?_) (fun b25 => ?_)
        · exact b25.elim
        · refine px_iload_n (q := 29) dI_M_congruent_28 rfl rfl ?_
          refine px_sipush (q := 32) (v := nI 4095) dI_M_congruent_29 (by decide +kernel) rfl ?_
          refine px_icmp_leN (q := 35) (tgt := 39) dI_M_congruent_32 (by omega) (by omega) (by decide) rfl (fun b32 => ?_) (fun b32 => ?_)
          · refine px_iconst (q := 40) (v := nI 0) dI_M_congruent_39 (by decide +kernel) rfl ?_
            refine px_iconst (q := 41) (v := nI 2) dI_M_congruent_40 (by decide +kernel) rfl ?_
            refine px_callV2 (q := 44) (ν := mM_refused) dI_M_congruent_41 (by decide) rfl rfl wl_M_27 wm_M_refused wv_M_refused wb_M_refused wi_M ⟨rfl, rfl⟩ (by decide +kernel) ⟨(Nat.le_of_ble_eq_true rfl), (Nat.le_of_ble_eq_true rfl)⟩ (Nat.le_of_ble_eq_true rfl) rfl (c_M_refused (by decide) (fun f2 hf2 => ?_))
            rw [yr_yr]
            refine px_if_eqN (q := 47) (tgt := 49) dI_M_congruent_44 (by omega) (by decide) rfl (fun b44 => ?_) (fun b44 => ?_)
            · exact k49 f2 hf2
            · exact absurd rfl b44
          · omega
end CM10
