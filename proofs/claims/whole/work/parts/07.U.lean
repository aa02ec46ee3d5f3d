/-! Words: contracts -/
section CU
variable {l : Launch} {g : pw_G} {X : pw_X} {Y : pw_Y} {Post : pw_P}
theorem c_A_fillJ {a n : Nat} {v : Int64} (ha : ln_J a = some n) (hp : ∀ f : Nat → Int64, (∀ i, i < n → f i = v) → Post none (xr_ X a f) Y) : pw_Met l g mA_fillJ [.ref (ad_ g a), .long v] X Y Post := by
  have hn := ln_J_9 ha
  refine pw_ofW (by decide +kernel) rfl (Nat.le_of_ble_eq_true rfl) rfl (fun sz => ?_)
  refine px_iconst (q := 1) (v := nI 0) dI_A_fillJ_0 (by decide +kernel) rfl ?_
  refine px_istore_n (q := 2) dI_A_fillJ_1 rfl (by decide) rfl rfl ?_
  refine px_aload_n (q := 3) dI_A_fillJ_2 rfl rfl ?_
  refine px_alenJ (q := 4) dI_A_fillJ_3 ha rfl ?_
  refine px_istore (q := 6) dI_A_fillJ_4 (by decide) rfl rfl ?_
  have key : ∀ (d i : Nat) (f : Nat → Int64), i + d = n → (∀ j, j < i → f j = v) → pw_W l g mA_fillJ sz (pw_qM g sz Post 0 0) 6 [(0, .ref (ad_ g a)), (1, .long v), (3, .int (nI i)), (4, .int (nI n))] [] (xr_ X a f) Y := by
    intro d
    induction d with
    | zero =>
      intro i f hi hf
      refine px_iload_n (q := 7) dI_A_fillJ_6 rfl rfl ?_
      refine px_iload (q := 9) dI_A_fillJ_7 rfl rfl ?_
      refine px_icmp_geN (q := 12) (tgt := 22) dI_A_fillJ_9 (by omega) (by omega) (by decide) rfl (fun b9 => ?_) (fun b9 => ?_)
      · refine px_vret dI_A_fillJ_22 rfl ?_
        exact hp f (fun j hj => hf j (by omega))
      · omega
    | succ d ih =>
      intro i f hi hf
      refine px_iload_n (q := 7) dI_A_fillJ_6 rfl rfl ?_
      refine px_iload (q := 9) dI_A_fillJ_7 rfl rfl ?_
      refine px_icmp_geN (q := 12) (tgt := 22) dI_A_fillJ_9 (by omega) (by omega) (by decide) rfl (fun b9 => ?_) (fun b9 => ?_)
      · omega
      · refine px_aload_n (q := 13) dI_A_fillJ_12 rfl rfl ?_
        refine px_iload_n (q := 14) dI_A_fillJ_13 rfl rfl ?_
        refine px_lload_n (q := 15) dI_A_fillJ_14 rfl rfl ?_
        refine px_last (q := 16) dI_A_fillJ_15 ha (by omega) (by omega) rfl ?_
        refine px_iinc (q := 19) dI_A_fillJ_16 rfl (ic_1 _) (by decide) rfl rfl ?_
        refine px_goto (tgt := 6) dI_A_fillJ_19 (by decide) ?_
        rw [xr_s, xr_xr]
        refine ih (i + 1) _ (by omega) (fun j hj => ?_)
        by_cases e : j = i
        · subst e; exact pk_uLs
        · rw [pk_uLn e]; exact hf j (by omega)
  exact px_XY xr_id.symm rfl (key n 0 (X a) (by omega) (fun j hj => absurd hj (by omega)))
theorem c_U_length {a n : Nat} {d : Nat → Nat} (ha : ln_J a = some n) (hx : rw_ (X a) n d) (hp : ∀ L, L ≤ n → vl_ d n = vl_ d L → (0 < L → d (L - 1) ≠ 0) → (∀ i, L ≤ i → i < n → d i = 0) → Post (some (.int (nI L))) X Y) : pw_Met l g mU_length [.ref (ad_ g a)] X Y Post := by
  have hn := ln_J_9 ha
  refine pw_ofW (by decide +kernel) rfl (Nat.le_of_ble_eq_true rfl) rfl (fun sz => ?_)
  refine px_aload_n (q := 1) dI_U_length_0 rfl rfl ?_
  refine px_alenJ (q := 2) dI_U_length_1 ha rfl ?_
  refine px_istore_n (q := 3) dI_U_length_2 rfl (by decide) rfl rfl ?_
  have key : ∀ L, L ≤ n → vl_ d n = vl_ d L → (∀ i, L ≤ i → i < n → d i = 0) → pw_W l g mU_length sz (pw_qM g sz Post 0 0) 3 [(0, .ref (ad_ g a)), (1, .int (nI L))] [] X Y := by
    intro L
    induction L with
    | zero =>
      intro hL hv hz
      refine px_iload_n (q := 4) dI_U_length_3 rfl rfl ?_
      refine px_if_leN (q := 7) (tgt := 23) dI_U_length_4 (by omega) (by decide) rfl (fun b4 => ?_) (fun b4 => ?_)
      · refine px_iload_n (q := 24) dI_U_length_23 rfl rfl ?_
        refine px_iret dI_U_length_24 rfl ?_
        exact hp 0 hL hv (by omega) hz
      · omega
    | succ L ih =>
      intro hL hv hz
      refine px_iload_n (q := 4) dI_U_length_3 rfl rfl ?_
      refine px_if_leN (q := 7) (tgt := 23) dI_U_length_4 (by omega) (by decide) rfl (fun b4 => ?_) (fun b4 => ?_)
      · omega
      · have h1 := hx L (by omega)
        refine px_aload_n (q := 8) dI_U_length_7 rfl rfl ?_
        refine px_iload_n (q := 9) dI_U_length_8 rfl rfl ?_
        refine px_iconst (q := 10) (v := nI 1) dI_U_length_9 (by decide +kernel) rfl ?_
        refine px_isubN (q := 11) dI_U_length_10 (by omega) rfl ?_
        refine px_lald (q := 12) dI_U_length_11 ha (by omega) (by omega) h1.1 rfl ?_
        refine px_lconst (q := 13) (v := lN 0) dI_U_length_12 rfl rfl ?_
        refine px_lcmp (q := 14) dI_U_length_13 rfl ?_
        refine px_if_neC (q := 17) (tgt := 23) dI_U_length_14 (by omega) (by omega) (by decide) rfl (fun b14 => ?_) (fun b14 => ?_)
        · refine px_iload_n (q := 24) dI_U_length_23 rfl rfl ?_
          refine px_iret dI_U_length_24 rfl ?_
          exact hp (L + 1) hL hv (fun _ => b14) hz
        · refine px_iinc (q := 20) dI_U_length_17 rfl (ic_d (by omega)) (by decide) rfl rfl ?_
          refine px_goto (tgt := 3) dI_U_length_20 (by decide) ?_
          refine ih (by omega) ?_ (fun i h1 h2 => ?_)
          · rw [hv]; show vl_ d L + d L * _ = _; rw [b14, Nat.zero_mul, Nat.add_zero]
          · by_cases e : i = L
            · rw [e]; exact b14
            · exact hz i (by omega) h2
  exact key n (Nat.le_refl _) rfl (fun i h1 h2 => absurd h1 (by omega))
theorem c_U_sum {x y o : Nat} {dx dy : Nat → Nat} (hx0 : ln_J x = some 4) (hy0 : ln_J y = some 4) (ho0 : ln_J o = some 4) (hxo : x ≠ o) (hyo : y ≠ o) (hx : rw_ (X x) 4 dx) (hy : rw_ (X y) 4 dy) (hp : ∀ (f : Nat → Int64) (d : Nat → Nat) (c : Nat), rw_ f 4 d → c < 2 → vl_ d 4 + c * 4294967296 ^ 4 = vl_ dx 4 + vl_ dy 4 → Post (some (.long (lN c))) (xr_ X o f) Y) : pw_Met l g mU_sum [.ref (ad_ g x), .ref (ad_ g y), .ref (ad_ g o)] X Y Post := by
  refine pw_ofW (by decide +kernel) rfl (Nat.le_of_ble_eq_true rfl) rfl (fun sz => ?_)
  refine px_lconst (q := 1) (v := lN 0) dI_U_sum_0 rfl rfl ?_
  refine px_lstore_n (q := 2) dI_U_sum_1 rfl (by decide) rfl rfl ?_
  refine px_iconst (q := 3) (v := nI 0) dI_U_sum_2 (by decide +kernel) rfl ?_
  refine px_istore (q := 5) dI_U_sum_3 (by decide) rfl rfl ?_
  have key : ∀ (k i c : Nat) (f : Nat → Int64) (d : Nat → Nat), i + k = 4 → c < 2 → rw_ f i d → vl_ d i + c * 4294967296 ^ i = vl_ dx i + vl_ dy i → pw_W l g mU_sum sz (pw_qM g sz Post 0 0) 5 [(0, .ref (ad_ g x)), (1, .ref (ad_ g y)), (2, .ref (ad_ g o)), (3, .long (lN c)), (5, .int (nI i))] [] (xr_ X o f) Y := by
    intro k
    induction k with
    | zero =>
      intro i c f d hi hc hd hv
      refine px_iload (q := 7) dI_U_sum_5 rfl rfl ?_
      refine px_iconst (q := 8) (v := nI 4) dI_U_sum_7 (by decide +kernel) rfl ?_
      refine px_icmp_geN (q := 11) (tgt := 46) dI_U_sum_8 (by omega) (by omega) (by decide) rfl (fun b8 => ?_) (fun b8 => ?_)
      · obtain rfl : i = 4 := by omega
        refine px_lload_n (q := 47) dI_U_sum_46 rfl rfl ?_
        refine px_lret dI_U_sum_47 rfl ?_
        exact hp f d c hd hc hv
      · omega
    | succ k ih =>
      intro i c f d hi hc hd hv
      refine px_iload (q := 7) dI_U_sum_5 rfl rfl ?_
      refine px_iconst (q := 8) (v := nI 4) dI_U_sum_7 (by decide +kernel) rfl ?_
      refine px_icmp_geN (q := 11) (tgt := 46) dI_U_sum_8 (by omega) (by omega) (by decide) rfl (fun b8 => ?_) (fun b8 => ?_)
      · omega
      · have h1 := hx i (by omega)
        have h2 := hy i (by omega)
        refine px_aload_n (q := 12) dI_U_sum_11 rfl rfl ?_
        refine px_iload (q := 14) dI_U_sum_12 rfl rfl ?_
        refine px_lald (q := 15) dI_U_sum_14 hx0 (by omega) (by omega) (xn_ hxo h1.1) rfl ?_
        refine px_aload_n (q := 16) dI_U_sum_15 rfl rfl ?_
        refine px_iload (q := 18) dI_U_sum_16 rfl rfl ?_
        refine px_lald (q := 19) dI_U_sum_18 hy0 (by omega) (by omega) (xn_ hyo h2.1) rfl ?_
        refine px_laddN (q := 20) dI_U_sum_19 rfl ?_
        refine px_lload_n (q := 21) dI_U_sum_20 rfl rfl ?_
        refine px_laddN (q := 22) dI_U_sum_21 rfl ?_
        refine px_lstore (q := 24) dI_U_sum_22 (by decide) rfl rfl ?_
        refine px_aload_n (q := 25) dI_U_sum_24 rfl rfl ?_
        refine px_iload (q := 27) dI_U_sum_25 rfl rfl ?_
        refine px_lload (q := 29) dI_U_sum_27 rfl rfl ?_
        refine px_ldc2 (q := 32) (v2 := lN 4294967295) dI_U_sum_29 wk_U_15 (by decide +kernel) rfl ?_
        refine px_landN (q := 33) dI_U_sum_32 (by omega) rfl ?_
        refine px_last (q := 34) dI_U_sum_33 ho0 (by omega) (by omega) rfl ?_
        refine px_lload (q := 36) dI_U_sum_34 rfl rfl ?_
        refine px_bipush (q := 38) (v := nI 32) dI_U_sum_36 (by decide +kernel) rfl ?_
        refine px_lushrN (q := 39) dI_U_sum_38 (by omega) (by omega) rfl ?_
        refine px_lstore_n (q := 40) dI_U_sum_39 rfl (by decide) rfl rfl ?_
        refine px_iinc (q := 43) dI_U_sum_40 rfl (ic_1 _) (by decide) rfl rfl ?_
        refine px_goto (tgt := 5) dI_U_sum_43 (by decide) ?_
        rw [xr_s, xr_xr]
        refine px_keep [0, 1, 2, 3, 5] rfl ?_
        exact ih (i + 1) ((dx i + dy i + c) / 4294967296) _ (du_ d i ((dx i + dy i + c) % 4294967296)) (by omega) (by omega) (rw_push hd (Nat.mod_lt _ (by decide))) (vl_sum rfl hv rfl)
  exact px_XY xr_id.symm rfl (key 4 0 0 (X o) (fun _ => 0) rfl (by decide) (fun i h => absurd h (by omega)) rfl)
theorem c_U_isZero {a n : Nat} {d : Nat → Nat} (ha : ln_J a = some n) (hx : rw_ (X a) n d) (h1 : vl_ d n = 0 → Post (some (.int (nI 1))) X Y) (h0 : vl_ d n ≠ 0 → Post (some (.int (nI 0))) X Y) : pw_Met l g mU_isZero [.ref (ad_ g a)] X Y Post := by
  have hn := ln_J_9 ha
  refine pw_ofW (by decide +kernel) rfl (Nat.le_of_ble_eq_true rfl) rfl (fun sz => ?_)
  refine px_aload_n (q := 1) dI_U_isZero_0 rfl rfl ?_
  refine px_callS1 (q := 4) (ν := mU_length) dI_U_isZero_1 wl_U_23 ws_U_length wb_U_length wi_U ⟨rfl, rfl⟩ (by decide +kernel) ⟨(Nat.le_of_ble_eq_true rfl), (Nat.le_of_ble_eq_true rfl)⟩ (Nat.le_of_ble_eq_true rfl) rfl (c_U_length ha hx (fun L hL hv hd hz => ?_))
  refine px_if_neN (q := 7) (tgt := 11) dI_U_isZero_4 (by omega) (by decide) rfl (fun b4 => ?_) (fun b4 => ?_)
  · refine px_iconst (q := 12) (v := nI 0) dI_U_isZero_11 (by decide +kernel) rfl ?_
    refine px_zret dI_U_isZero_12 rfl (by decide +kernel) ?_
    refine h0 ?_
    have := vl_ge (n := L) (L := L - 1) (by omega) (hd (by omega))
    have := pw_pos (L - 1)
    omega
  · refine px_iconst (q := 8) (v := nI 1) dI_U_isZero_7 (by decide +kernel) rfl ?_
    refine px_goto (tgt := 12) dI_U_isZero_8 (by decide) ?_
    refine px_zret dI_U_isZero_12 rfl (by decide +kernel) ?_
    refine h1 ?_
    rw [hv, b4]
    rfl
theorem c_U_bitsOfWord {k : Nat} (hk : k < 4294967296) (hp : ∀ L, L ≤ 32 → k < 2 ^ L → (0 < L → 2 ^ (L - 1) ≤ k) → Post (some (.int (nI L))) X Y) : pw_Met l g mU_bitsOfWord [.long (lN k)] X Y Post := by
  refine pw_ofW (by decide +kernel) rfl (Nat.le_of_ble_eq_true rfl) rfl (fun sz => ?_)
  refine px_iconst (q := 1) (v := nI 0) dI_U_bitsOfWord_0 (by decide +kernel) rfl ?_
  refine px_istore_n (q := 2) dI_U_bitsOfWord_1 rfl (by decide) rfl rfl ?_
  have key : ∀ (d i : Nat), i + d = 32 → (0 < i → 2 ^ (i - 1) ≤ k) → pw_W l g mU_bitsOfWord sz (pw_qM g sz Post 0 0) 2 [(0, .long (lN k)), (2, .int (nI i))] [] X Y := by
    intro d
    induction d with
    | zero =>
      intro i hi hj
      refine px_iload_n (q := 3) dI_U_bitsOfWord_2 rfl rfl ?_
      refine px_bipush (q := 5) (v := nI 32) dI_U_bitsOfWord_3 (by decide +kernel) rfl ?_
      refine px_icmp_geN (q := 8) (tgt := 22) dI_U_bitsOfWord_5 (by omega) (by omega) (by decide) rfl (fun b5 => ?_) (fun b5 => ?_)
      · refine px_iload_n (q := 23) dI_U_bitsOfWord_22 rfl rfl ?_
        refine px_iret dI_U_bitsOfWord_23 rfl ?_
        obtain rfl : i = 32 := by omega
        exact hp 32 (by omega) (by omega) hj
      · omega
    | succ d ih =>
      intro i hi hj
      refine px_iload_n (q := 3) dI_U_bitsOfWord_2 rfl rfl ?_
      refine px_bipush (q := 5) (v := nI 32) dI_U_bitsOfWord_3 (by decide +kernel) rfl ?_
      refine px_icmp_geN (q := 8) (tgt := 22) dI_U_bitsOfWord_5 (by omega) (by omega) (by decide) rfl (fun b5 => ?_) (fun b5 => ?_)
      · omega
      · have hdv : k / 2 ^ i ≤ k := Nat.div_le_self _ _
        refine px_lload_n (q := 9) dI_U_bitsOfWord_8 rfl rfl ?_
        refine px_iload_n (q := 10) dI_U_bitsOfWord_9 rfl rfl ?_
        refine px_lushrN (q := 11) dI_U_bitsOfWord_10 (by omega) (by omega) rfl ?_
        refine px_lconst (q := 12) (v := lN 0) dI_U_bitsOfWord_11 rfl rfl ?_
        refine px_lcmp (q := 13) dI_U_bitsOfWord_12 rfl ?_
        refine px_if_eqC (q := 16) (tgt := 22) dI_U_bitsOfWord_13 (by omega) (by omega) (by decide) rfl (fun b13 => ?_) (fun b13 => ?_)
        · refine px_iload_n (q := 23) dI_U_bitsOfWord_22 rfl rfl ?_
          refine px_iret dI_U_bitsOfWord_23 rfl ?_
          exact hp i (by omega) ((Nat.div_eq_zero_iff_lt (Nat.pow_pos (by decide))).mp b13) hj
        · refine px_iinc (q := 19) dI_U_bitsOfWord_16 rfl (ic_1 _) (by decide) rfl rfl ?_
          refine px_goto (tgt := 2) dI_U_bitsOfWord_19 (by decide) ?_
          refine ih (i + 1) (by omega) (fun _ => ?_)
          show 2 ^ i ≤ k
          refine Nat.le_of_not_lt (fun q => b13 ?_)
          exact Nat.div_eq_of_lt q
  exact key 32 0 rfl (by omega)
theorem c_U_bitLength {a n : Nat} {d : Nat → Nat} (ha : ln_J a = some n) (hx : rw_ (X a) n d) (hp : ∀ T, T ≤ n * 32 → vl_ d n < 2 ^ T → (0 < T → 2 ^ (T - 1) ≤ vl_ d n) → Post (some (.int (nI T))) X Y) : pw_Met l g mU_bitLength [.ref (ad_ g a)] X Y Post := by
  have hn := ln_J_9 ha
  refine pw_ofW (by decide +kernel) rfl (Nat.le_of_ble_eq_true rfl) rfl (fun sz => ?_)
  refine px_aload_n (q := 1) dI_U_bitLength_0 rfl rfl ?_
  refine px_callS1 (q := 4) (ν := mU_length) dI_U_bitLength_1 wl_U_23 ws_U_length wb_U_length wi_U ⟨rfl, rfl⟩ (by decide +kernel) ⟨(Nat.le_of_ble_eq_true rfl), (Nat.le_of_ble_eq_true rfl)⟩ (Nat.le_of_ble_eq_true rfl) rfl (c_U_length ha hx (fun L hL hv hd hz => ?_))
  refine px_istore_n (q := 5) dI_U_bitLength_4 rfl (by decide) rfl rfl ?_
  refine px_iload_n (q := 6) dI_U_bitLength_5 rfl rfl ?_
  refine px_if_neN (q := 9) (tgt := 13) dI_U_bitLength_6 (by omega) (by decide) rfl (fun b6 => ?_) (fun b6 => ?_)
  · obtain ⟨m, rfl⟩ : ∃ m, L = m + 1 := ⟨L - 1, by omega⟩
    have h1 := hx m (by omega)
    refine px_iload_n (q := 14) dI_U_bitLength_13 rfl rfl ?_
    refine px_iconst (q := 15) (v := nI 1) dI_U_bitLength_14 (by decide +kernel) rfl ?_
    refine px_isubN (q := 16) dI_U_bitLength_15 (by omega) rfl ?_
    refine px_bipush (q := 18) (v := nI 32) dI_U_bitLength_16 (by decide +kernel) rfl ?_
    refine px_imulN (q := 19) dI_U_bitLength_18 rfl ?_
    refine px_aload_n (q := 20) dI_U_bitLength_19 rfl rfl ?_
    refine px_iload_n (q := 21) dI_U_bitLength_20 rfl rfl ?_
    refine px_iconst (q := 22) (v := nI 1) dI_U_bitLength_21 (by decide +kernel) rfl ?_
    refine px_isubN (q := 23) dI_U_bitLength_22 (by omega) rfl ?_
    refine px_lald (q := 24) dI_U_bitLength_23 ha (by omega) (by omega) h1.1 rfl ?_
    refine px_callS1 (q := 27) (ν := mU_bitsOfWord) dI_U_bitLength_24 wl_U_29 ws_U_bitsOfWord wb_U_bitsOfWord wi_U ⟨rfl, rfl⟩ (by decide +kernel) ⟨(Nat.le_of_ble_eq_true rfl), (Nat.le_of_ble_eq_true rfl)⟩ (Nat.le_of_ble_eq_true rfl) rfl (c_U_bitsOfWord h1.2 (fun t ht h3 h4 => ?_))
    refine px_iaddN (q := 28) dI_U_bitLength_27 rfl ?_
    refine px_iret dI_U_bitLength_28 rfl ?_
    have hne : d m ≠ 0 := hd (by omega)
    have ht0 : 0 < t := by
      refine Nat.pos_of_ne_zero (fun q => ?_)
      subst q
      omega
    have hb := vl_bits (d := d) (m := m) (t := t) (vl_lt m (fun i hi => (hx i (by omega)).2)) h3 (h4 ht0) ht0
    refine hp (m * 32 + t) (by omega) ?_ (fun _ => ?_)
    · rw [hv]; exact hb.1
    · rw [hv]; exact hb.2
  · refine px_iconst (q := 10) (v := nI 0) dI_U_bitLength_9 (by decide +kernel) rfl ?_
    refine px_goto (tgt := 28) dI_U_bitLength_10 (by decide) ?_
    refine px_iret dI_U_bitLength_28 rfl ?_
    refine hp 0 (by omega) ?_ (by omega)
    rw [hv, b6]
    exact Nat.one_pos
theorem c_U_assign {a k : Nat} (ha : ln_J a = some 4) (hk : k < 9223372036854775808) (hp : ∀ (f : Nat → Int64) (d : Nat → Nat), rw_ f 4 d → vl_ d 4 = k → Post none (xr_ X a f) Y) : pw_Met l g mU_assign [.ref (ad_ g a), .long (lN k)] X Y Post := by
  refine pw_ofW (by decide +kernel) rfl (Nat.le_of_ble_eq_true rfl) rfl (fun sz => ?_)
  refine px_aload_n (q := 1) dI_U_assign_0 rfl rfl ?_
  refine px_lconst (q := 2) (v := lN 0) dI_U_assign_1 rfl rfl ?_
  refine px_callS2 (q := 5) (ν := mA_fillJ) dI_U_assign_2 wl_U_9 ws_A_fillJ wb_A_fillJ wi_A ⟨rfl, rfl⟩ (by decide +kernel) ⟨(Nat.le_of_ble_eq_true rfl), (Nat.le_of_ble_eq_true rfl)⟩ (Nat.le_of_ble_eq_true rfl) rfl (c_A_fillJ ha (fun f hf => ?_))
  refine px_aload_n (q := 6) dI_U_assign_5 rfl rfl ?_
  refine px_iconst (q := 7) (v := nI 0) dI_U_assign_6 (by decide +kernel) rfl ?_
  refine px_lload_n (q := 8) dI_U_assign_7 rfl rfl ?_
  refine px_ldc2 (q := 11) (v2 := lN 4294967295) dI_U_assign_8 wk_U_15 (by decide +kernel) rfl ?_
  refine px_landN (q := 12) dI_U_assign_11 (by omega) rfl ?_
  refine px_last (q := 13) dI_U_assign_12 ha (by omega) (by omega) rfl ?_
  refine px_aload_n (q := 14) dI_U_assign_13 rfl rfl ?_
  refine px_iconst (q := 15) (v := nI 1) dI_U_assign_14 (by decide +kernel) rfl ?_
  refine px_lload_n (q := 16) dI_U_assign_15 rfl rfl ?_
  refine px_bipush (q := 18) (v := nI 32) dI_U_assign_16 (by decide +kernel) rfl ?_
  refine px_lushrN (q := 19) dI_U_assign_18 (by omega) (by omega) rfl ?_
  refine px_last (q := 20) dI_U_assign_19 ha (by omega) (by omega) rfl ?_
  refine px_vret dI_U_assign_20 rfl ?_
  rw [xr_s, xr_s, xr_xr, xr_xr]
  refine hp _ (fun j => if j = 0 then k % 4294967296 else if j = 1 then k / 4294967296 else 0) (fun i hi => ?_) ?_
  · rcases (show i = 0 ∨ i = 1 ∨ i = 2 ∨ i = 3 by omega) with rfl | rfl | rfl | rfl
    · exact ⟨rfl, by show k % 4294967296 < _; omega⟩
    · exact ⟨rfl, by show k / 4294967296 < _; omega⟩
    · exact ⟨hf 2 (by decide), Nat.zero_lt_succ _⟩
    · exact ⟨hf 3 (by decide), Nat.zero_lt_succ _⟩
  · show 0 + k % 4294967296 * 4294967296 ^ 0 + k / 4294967296 * 4294967296 ^ 1 + 0 * 4294967296 ^ 2 + 0 * 4294967296 ^ 3 = k
    omega
theorem c_U_copy {a b n : Nat} (ha : ln_J a = some n) (hb : ln_J b = some 4) (hn : 4 ≤ n) (hp : ∀ f : Nat → Int64, (∀ i, i < 4 → f i = X a i) → Post none (xr_ X b f) Y) : pw_Met l g mU_copy [.ref (ad_ g a), .ref (ad_ g b)] X Y Post := by
  have hn9 := ln_J_9 ha
  refine pw_ofW (by decide +kernel) rfl (Nat.le_of_ble_eq_true rfl) rfl (fun sz => ?_)
  refine px_aload_n (q := 1) dI_U_copy_0 rfl rfl ?_
  refine px_iconst (q := 2) (v := nI 0) dI_U_copy_1 (by decide +kernel) rfl ?_
  refine px_aload_n (q := 3) dI_U_copy_2 rfl rfl ?_
  refine px_iconst (q := 4) (v := nI 0) dI_U_copy_3 (by decide +kernel) rfl ?_
  refine px_iconst (q := 5) (v := nI 4) dI_U_copy_4 (by decide +kernel) rfl ?_
  refine px_copyl (q := 8) dI_U_copy_5 wl_U_17 ha hb (by omega) (by omega) (by omega) (by omega) (by decide) (Nat.le_of_ble_eq_true rfl) rfl ?_
  refine px_vret dI_U_copy_8 rfl ?_
  refine hp _ (fun i hi => ?_)
  rw [pk_cpy_in (by omega) (by omega)]
  simp
theorem c_U_hasBit {a k : Nat} {d : Nat → Nat} (ha : ln_J a = some 4) (hx : rw_ (X a) 4 d) (hk : k < 128) (h1 : vl_ d 4 / 2 ^ k % 2 = 1 → Post (some (.int (nI 1))) X Y) (h0 : vl_ d 4 / 2 ^ k % 2 = 0 → Post (some (.int (nI 0))) X Y) : pw_Met l g mU_hasBit [.ref (ad_ g a), .int (nI k)] X Y Post := by
  refine pw_ofW (by decide +kernel) rfl (Nat.le_of_ble_eq_true rfl) rfl (fun sz => ?_)
  have hw := hx (k / 32) (by omega)
  have hq : d (k / 32) / 2 ^ (k % 32) ≤ d (k / 32) := Nat.div_le_self _ _
  have hbit : d (k / 32) / 2 ^ (k % 32) % 2 = vl_ d 4 / 2 ^ k % 2 := by
    rw [← vl_dg (d := d) (n := 4) (i := k / 32) (by omega) (fun j hj => (hx j hj).2), bit_dg (by omega)]
    congr 3
    omega
  refine px_aload_n (q := 1) dI_U_hasBit_0 rfl rfl ?_
  refine px_iload_n (q := 2) dI_U_hasBit_1 rfl rfl ?_
  refine px_bipush (q := 4) (v := nI 32) dI_U_hasBit_2 (by decide +kernel) rfl ?_
  refine px_idivN (q := 5) dI_U_hasBit_4 (by omega) (by omega) (by omega) rfl ?_
  refine px_lald (q := 6) dI_U_hasBit_5 ha (by omega) (by omega) hw.1 rfl ?_
  refine px_iload_n (q := 7) dI_U_hasBit_6 rfl rfl ?_
  refine px_bipush (q := 9) (v := nI 32) dI_U_hasBit_7 (by decide +kernel) rfl ?_
  refine px_iremN (q := 10) dI_U_hasBit_9 (by omega) (by omega) (by omega) rfl ?_
  refine px_lushrN (q := 11) dI_U_hasBit_10 (by omega) (by omega) rfl ?_
  refine px_lconst (q := 12) (v := lN 1) dI_U_hasBit_11 rfl rfl ?_
  refine px_land1 (q := 13) dI_U_hasBit_12 (by omega) rfl ?_
  refine px_lconst (q := 14) (v := lN 1) dI_U_hasBit_13 rfl rfl ?_
  refine px_lcmp (q := 15) dI_U_hasBit_14 rfl ?_
  refine px_if_neC (q := 18) (tgt := 22) dI_U_hasBit_15 (by omega) (by omega) (by decide) rfl (fun b15 => ?_) (fun b15 => ?_)
  · refine px_iconst (q := 23) (v := nI 0) dI_U_hasBit_22 (by decide +kernel) rfl ?_
    refine px_zret dI_U_hasBit_23 rfl (by decide +kernel) ?_
    exact h0 (by omega)
  · refine px_iconst (q := 19) (v := nI 1) dI_U_hasBit_18 (by decide +kernel) rfl ?_
    refine px_goto (tgt := 23) dI_U_hasBit_19 (by decide) ?_
    refine px_zret dI_U_hasBit_23 rfl (by decide +kernel) ?_
    exact h1 (by omega)
theorem c_U_comparison {x y : Nat} {dx dy : Nat → Nat} (hx0 : ln_J x = some 4) (hy0 : ln_J y = some 4) (hx : rw_ (X x) 4 dx) (hy : rw_ (X y) 4 dy) (h1 : vl_ dx 4 < vl_ dy 4 → Post (some (.int (-1))) X Y) (h2 : vl_ dx 4 = vl_ dy 4 → Post (some (.int (nI 0))) X Y) (h3 : vl_ dy 4 < vl_ dx 4 → Post (some (.int (nI 1))) X Y) : pw_Met l g mU_comparison [.ref (ad_ g x), .ref (ad_ g y)] X Y Post := by
  refine pw_ofW (by decide +kernel) rfl (Nat.le_of_ble_eq_true rfl) rfl (fun sz => ?_)
  refine px_iconst (q := 1) (v := nI 3) dI_U_comparison_0 (by decide +kernel) rfl ?_
  refine px_istore_n (q := 2) dI_U_comparison_1 rfl (by decide) rfl rfl ?_
  have key : ∀ i, i ≤ 4 → (∀ j, i ≤ j → j < 4 → dx j = dy j) → pw_W l g mU_comparison sz (pw_qM g sz Post 0 0) 2 [(0, .ref (ad_ g x)), (1, .ref (ad_ g y)), (2, .int (mI i))] [] X Y := by
    intro i
    induction i with
    | zero =>
      intro hi he
      refine px_iload_n (q := 3) dI_U_comparison_2 rfl rfl ?_
      refine px_if_ltM (q := 6) (tgt := 38) dI_U_comparison_3 (by omega) (by decide) rfl (fun b3 => ?_) (fun b3 => ?_)
      · refine px_iconst (q := 39) (v := nI 0) dI_U_comparison_38 (by decide +kernel) rfl ?_
        refine px_iret dI_U_comparison_39 rfl ?_
        exact h2 (vl_congr 4 (fun j hj => he j (by omega) hj))
      · omega
    | succ i ih =>
      intro hi he
      rw [mI_s]
      have a1 := hx i (by omega)
      have a2 := hy i (by omega)
      refine px_iload_n (q := 3) dI_U_comparison_2 rfl rfl ?_
      refine px_if_ltN (q := 6) (tgt := 38) dI_U_comparison_3 (by omega) (by decide) rfl (fun b3 => ?_) (fun b3 => ?_)
      · exact b3.elim
      · refine px_aload_n (q := 7) dI_U_comparison_6 rfl rfl ?_
        refine px_iload_n (q := 8) dI_U_comparison_7 rfl rfl ?_
        refine px_lald (q := 9) dI_U_comparison_8 hx0 (by omega) (by omega) a1.1 rfl ?_
        refine px_aload_n (q := 10) dI_U_comparison_9 rfl rfl ?_
        refine px_iload_n (q := 11) dI_U_comparison_10 rfl rfl ?_
        refine px_lald (q := 12) dI_U_comparison_11 hy0 (by omega) (by omega) a2.1 rfl ?_
        refine px_lcmp (q := 13) dI_U_comparison_12 rfl ?_
        refine px_if_eqC (q := 16) (tgt := 32) dI_U_comparison_13 (by omega) (by omega) (by decide) rfl (fun b13 => ?_) (fun b13 => ?_)
        · refine px_iinc (q := 35) dI_U_comparison_32 rfl (ic_m _) (by decide) rfl rfl ?_
          refine px_goto (tgt := 2) dI_U_comparison_35 (by decide) ?_
          refine ih (by omega) (fun j h4 h5 => ?_)
          by_cases e : j = i
          · rw [e]; exact b13
          · exact he j (by omega) h5
        · refine px_aload_n (q := 17) dI_U_comparison_16 rfl rfl ?_
          refine px_iload_n (q := 18) dI_U_comparison_17 rfl rfl ?_
          refine px_lald (q := 19) dI_U_comparison_18 hx0 (by omega) (by omega) a1.1 rfl ?_
          refine px_aload_n (q := 20) dI_U_comparison_19 rfl rfl ?_
          refine px_iload_n (q := 21) dI_U_comparison_20 rfl rfl ?_
          refine px_lald (q := 22) dI_U_comparison_21 hy0 (by omega) (by omega) a2.1 rfl ?_
          refine px_lcmp (q := 23) dI_U_comparison_22 rfl ?_
          refine px_if_geC (q := 26) (tgt := 30) dI_U_comparison_23 (by omega) (by omega) (by decide) rfl (fun b23 => ?_) (fun b23 => ?_)
          · refine px_iconst (q := 31) (v := nI 1) dI_U_comparison_30 (by decide +kernel) rfl ?_
            refine px_iret dI_U_comparison_31 rfl ?_
            exact h3 (vl_cmp (i := i) (by omega) (fun j hj => (hy j hj).2) (fun j hj => (hx j hj).2) (fun j h4 h5 => (he j (by omega) h5).symm) (by omega))
          · refine px_iconst (q := 27) (v := (-1)) dI_U_comparison_26 (by decide +kernel) rfl ?_
            refine px_goto (tgt := 31) dI_U_comparison_27 (by decide) ?_
            refine px_iret dI_U_comparison_31 rfl ?_
            exact h1 (vl_cmp (i := i) (by omega) (fun j hj => (hx j hj).2) (fun j hj => (hy j hj).2) (fun j h4 h5 => he j (by omega) h5) b23)
  exact key 4 (by omega) (fun j h4 h5 => absurd h4 (by omega))
set_option maxHeartbeats 4000000 in
theorem c_U_difference {x y o : Nat} {dx dy : Nat → Nat} (hx0 : ln_J x = some 4) (hy0 : ln_J y = some 4) (ho0 : ln_J o = some 4) (hxo : x ≠ o) (hyo : y ≠ o) (hx : rw_ (X x) 4 dx) (hy : rw_ (X y) 4 dy) (hp : ∀ (f : Nat → Int64) (d : Nat → Nat) (c : Nat), rw_ f 4 d → c < 2 → vl_ d 4 + vl_ dy 4 = vl_ dx 4 + c * 4294967296 ^ 4 → Post (some (.long (lN c))) (xr_ X o f) Y) : pw_Met l g mU_difference [.ref (ad_ g x), .ref (ad_ g y), .ref (ad_ g o)] X Y Post := by
  refine pw_ofW (by decide +kernel) rfl (Nat.le_of_ble_eq_true rfl) rfl (fun sz => ?_)
  refine px_lconst (q := 1) (v := lN 0) dI_U_difference_0 rfl rfl ?_
  refine px_lstore_n (q := 2) dI_U_difference_1 rfl (by decide) rfl rfl ?_
  refine px_iconst (q := 3) (v := nI 0) dI_U_difference_2 (by decide +kernel) rfl ?_
  refine px_istore (q := 5) dI_U_difference_3 (by decide) rfl rfl ?_
  have key : ∀ (k i c : Nat) (f : Nat → Int64) (d : Nat → Nat), i + k = 4 → c < 2 → rw_ f i d → vl_ d i + vl_ dy i = vl_ dx i + c * 4294967296 ^ i → pw_W l g mU_difference sz (pw_qM g sz Post 0 0) 5 [(0, .ref (ad_ g x)), (1, .ref (ad_ g y)), (2, .ref (ad_ g o)), (3, .long (lN c)), (5, .int (nI i))] [] (xr_ X o f) Y := by
    intro k
    induction k with
    | zero =>
      intro i c f d hi hc hd hv
      refine px_iload (q := 7) dI_U_difference_5 rfl rfl ?_
      refine px_iconst (q := 8) (v := nI 4) dI_U_difference_7 (by decide +kernel) rfl ?_
      refine px_icmp_geN (q := 11) (tgt := 53) dI_U_difference_8 (by omega) (by omega) (by decide) rfl (fun b8 => ?_) (fun b8 => ?_)
      · obtain rfl : i = 4 := by omega
        refine px_lload_n (q := 54) dI_U_difference_53 rfl rfl ?_
        refine px_lret dI_U_difference_54 rfl ?_
        exact hp f d c hd hc hv
      · omega
    | succ k ih =>
      intro i c f d hi hc hd hv
      have h1 := hx i (by omega)
      have h2 := hy i (by omega)
      refine px_iload (q := 7) dI_U_difference_5 rfl rfl ?_
      refine px_iconst (q := 8) (v := nI 4) dI_U_difference_7 (by decide +kernel) rfl ?_
      refine px_icmp_geN (q := 11) (tgt := 53) dI_U_difference_8 (by omega) (by omega) (by decide) rfl (fun b8 => ?_) (fun b8 => ?_)
      · omega
      · by_cases q : dy i + c ≤ dx i
        · refine px_aload_n (q := 12) dI_U_difference_11 rfl rfl ?_
          refine px_iload (q := 14) dI_U_difference_12 rfl rfl ?_
          refine px_lald (q := 15) dI_U_difference_14 hx0 (by omega) (by omega) (xn_ hxo h1.1) rfl ?_
          refine px_aload_n (q := 16) dI_U_difference_15 rfl rfl ?_
          refine px_iload (q := 18) dI_U_difference_16 rfl rfl ?_
          refine px_lald (q := 19) dI_U_difference_18 hy0 (by omega) (by omega) (xn_ hyo h2.1) rfl ?_
          refine px_lsubN (q := 20) dI_U_difference_19 (by omega) rfl ?_
          refine px_lload_n (q := 21) dI_U_difference_20 rfl rfl ?_
          refine px_lsubN (q := 22) dI_U_difference_21 (by omega) rfl ?_
          refine px_lstore (q := 24) dI_U_difference_22 (by decide) rfl rfl ?_
          refine px_aload_n (q := 25) dI_U_difference_24 rfl rfl ?_
          refine px_iload (q := 27) dI_U_difference_25 rfl rfl ?_
          refine px_lload (q := 29) dI_U_difference_27 rfl rfl ?_
          refine px_ldc2 (q := 32) (v2 := lN 4294967295) dI_U_difference_29 wk_U_15 (by decide +kernel) rfl ?_
          refine px_landN (q := 33) dI_U_difference_32 (by omega) rfl ?_
          refine px_last (q := 34) dI_U_difference_33 ho0 (by omega) (by omega) rfl ?_
          refine px_lload (q := 36) dI_U_difference_34 rfl rfl ?_
          refine px_lconst (q := 37) (v := lN 0) dI_U_difference_36 rfl rfl ?_
          refine px_lcmp (q := 38) dI_U_difference_37 rfl ?_
          refine px_if_geC (q := 41) (tgt := 45) dI_U_difference_38 (by omega) (by omega) (by decide) rfl (fun b38 => ?_) (fun b38 => ?_)
          · refine px_lconst (q := 46) (v := lN 0) dI_U_difference_45 rfl rfl ?_
            refine px_lstore_n (q := 47) dI_U_difference_46 rfl (by decide) rfl rfl ?_
            refine px_iinc (q := 50) dI_U_difference_47 rfl (ic_1 _) (by decide) rfl rfl ?_
            refine px_goto (tgt := 5) dI_U_difference_50 (by decide) ?_
            rw [xr_s, xr_xr]
            refine px_keep [0, 1, 2, 3, 5] rfl ?_
            exact ih (i + 1) 0 _ (du_ d i ((dx i - dy i - c) % 4294967296)) (by omega) (by omega) (rw_push hd (Nat.mod_lt _ (by decide))) (vl_sub rfl hv (by omega))
          · omega
        · refine px_aload_n (q := 12) dI_U_difference_11 rfl rfl ?_
          refine px_iload (q := 14) dI_U_difference_12 rfl rfl ?_
          refine px_lald (q := 15) dI_U_difference_14 hx0 (by omega) (by omega) (xn_ hxo h1.1) rfl ?_
          refine px_aload_n (q := 16) dI_U_difference_15 rfl rfl ?_
          refine px_iload (q := 18) dI_U_difference_16 rfl rfl ?_
          refine px_lald (q := 19) dI_U_difference_18 hy0 (by omega) (by omega) (xn_ hyo h2.1) rfl ?_
          refine px_lsub (q := 20) dI_U_difference_19 rfl ?_
          refine px_lload_n (q := 21) dI_U_difference_20 rfl rfl ?_
          refine px_lsub (q := 22) dI_U_difference_21 rfl ?_
          refine px_tl (lN_neg h1.2 h2.2 hc (by omega)) ?_
          refine px_lstore (q := 24) dI_U_difference_22 (by decide) rfl rfl ?_
          refine px_aload_n (q := 25) dI_U_difference_24 rfl rfl ?_
          refine px_iload (q := 27) dI_U_difference_25 rfl rfl ?_
          refine px_lload (q := 29) dI_U_difference_27 rfl rfl ?_
          refine px_ldc2 (q := 32) (v2 := lN 4294967295) dI_U_difference_29 wk_U_15 (by decide +kernel) rfl ?_
          refine px_landN (q := 33) dI_U_difference_32 (by omega) rfl ?_
          refine px_last (q := 34) dI_U_difference_33 ho0 (by omega) (by omega) rfl ?_
          refine px_lload (q := 36) dI_U_difference_34 rfl rfl ?_
          refine px_lconst (q := 37) (v := lN 0) dI_U_difference_36 rfl rfl ?_
          refine px_lcmp (q := 38) dI_U_difference_37 rfl ?_
          refine px_if_ge (q := 41) (tgt := 45) dI_U_difference_38 (by decide) rfl (fun b38 => ?_) (fun b38 => ?_)
          · exact absurd b38 (by rw [lg_cmp_ge]; exact Int64.not_le.mpr (lN_n0 (by omega) (by omega)))
          · refine px_lconst (q := 42) (v := lN 1) dI_U_difference_41 rfl rfl ?_
            refine px_goto (tgt := 46) dI_U_difference_42 (by decide) ?_
            refine px_lstore_n (q := 47) dI_U_difference_46 rfl (by decide) rfl rfl ?_
            refine px_iinc (q := 50) dI_U_difference_47 rfl (ic_1 _) (by decide) rfl rfl ?_
            refine px_goto (tgt := 5) dI_U_difference_50 (by decide) ?_
            rw [xr_s, xr_xr]
            refine px_keep [0, 1, 2, 3, 5] rfl ?_
            exact ih (i + 1) 1 _ (du_ d i ((dx i + 18446744073709551616 - dy i - c) % 4294967296)) (by omega) (by omega) (rw_push hd (Nat.mod_lt _ (by decide))) (vl_sub rfl hv (by omega))
  exact px_XY xr_id.symm rfl (key 4 0 0 (X o) (fun _ => 0) rfl (by decide) (fun i h => absurd h (by omega)) rfl)
theorem c_U_remainderBy {a m : Nat} {d : Nat → Nat} (ha : ln_J a = some 4) (hx : rw_ (X a) 4 d) (h2 : 2 ≤ m) (hm : m ≤ 1000) (hp : Post (some (.int (nI (vl_ d 4 % m)))) X Y) : pw_Met l g mU_remainderBy [.ref (ad_ g a), .int (nI m)] X Y Post := by
  refine pw_ofW (by decide +kernel) rfl (Nat.le_of_ble_eq_true rfl) rfl (fun sz => ?_)
  refine px_lconst (q := 1) (v := lN 0) dI_U_remainderBy_0 rfl rfl ?_
  refine px_lstore_n (q := 2) dI_U_remainderBy_1 rfl (by decide) rfl rfl ?_
  refine px_iconst (q := 3) (v := nI 3) dI_U_remainderBy_2 (by decide +kernel) rfl ?_
  refine px_istore (q := 5) dI_U_remainderBy_3 (by decide) rfl rfl ?_
  have key : ∀ i r, i ≤ 4 → r = vl_ d 4 / 4294967296 ^ i % m → pw_W l g mU_remainderBy sz (pw_qM g sz Post 0 0) 5 [(0, .ref (ad_ g a)), (1, .int (nI m)), (2, .long (lN r)), (4, .int (mI i))] [] X Y := by
    intro i
    induction i with
    | zero =>
      intro r hi hr
      refine px_iload (q := 7) dI_U_remainderBy_5 rfl rfl ?_
      refine px_if_ltM (q := 10) (tgt := 29) dI_U_remainderBy_7 (by omega) (by decide) rfl (fun b7 => ?_) (fun b7 => ?_)
      · refine px_lload_n (q := 30) dI_U_remainderBy_29 rfl rfl ?_
        refine px_l2iN (q := 31) dI_U_remainderBy_30 rfl ?_
        refine px_iret dI_U_remainderBy_31 rfl ?_
        rw [Nat.pow_zero, Nat.div_one] at hr
        rw [hr]
        exact hp
      · omega
    | succ i ih =>
      intro r hi hr
      rw [mI_s]
      have h1 := hx i (by omega)
      have hrm : r < m := by rw [hr]; exact Nat.mod_lt _ (by omega)
      refine px_iload (q := 7) dI_U_remainderBy_5 rfl rfl ?_
      refine px_if_ltN (q := 10) (tgt := 29) dI_U_remainderBy_7 (by omega) (by decide) rfl (fun b7 => ?_) (fun b7 => ?_)
      · exact b7.elim
      · refine px_lload_n (q := 11) dI_U_remainderBy_10 rfl rfl ?_
        refine px_bipush (q := 13) (v := nI 32) dI_U_remainderBy_11 (by decide +kernel) rfl ?_
        refine px_lshlN (q := 14) dI_U_remainderBy_13 (by omega) rfl ?_
        refine px_aload_n (q := 15) dI_U_remainderBy_14 rfl rfl ?_
        refine px_iload (q := 17) dI_U_remainderBy_15 rfl rfl ?_
        refine px_lald (q := 18) dI_U_remainderBy_17 ha (by omega) (by omega) h1.1 rfl ?_
        refine px_lor (q := 19) dI_U_remainderBy_18 rfl ?_
        refine px_tl (g_or (k := 32) (p := 4294967296) (by decide) h1.2 (by omega)) ?_
        refine px_iload_n (q := 20) dI_U_remainderBy_19 rfl rfl ?_
        refine px_i2lN (q := 21) dI_U_remainderBy_20 (by omega) rfl ?_
        refine px_lremN (q := 22) dI_U_remainderBy_21 (by omega) (by omega) (by omega) rfl ?_
        refine px_lstore_n (q := 23) dI_U_remainderBy_22 rfl (by decide) rfl rfl ?_
        refine px_iinc (q := 26) dI_U_remainderBy_23 rfl (ic_m _) (by decide) rfl rfl ?_
        refine px_goto (tgt := 5) dI_U_remainderBy_26 (by decide) ?_
        refine ih _ (by omega) ?_
        rw [vl_hi (i := i) (n := 4) (by omega) (fun j hj => (hx j hj).2), hr, Nat.add_mod, Nat.mul_mod, Nat.mod_mod, ← Nat.mul_mod, ← Nat.add_mod]
  refine key 4 0 (by omega) ?_
  rw [Nat.div_eq_of_lt (rw_lt hx), Nat.zero_mod]
theorem c_U_valueUpTo {a k : Nat} {d : Nat → Nat} (ha : ln_J a = some 4) (hx : rw_ (X a) 4 d) (hk : k < 10000) (hp : Post (some (.int (nI (if vl_ d 4 ≤ k then vl_ d 4 else k + 1)))) X Y) : pw_Met l g mU_valueUpTo [.ref (ad_ g a), .int (nI k)] X Y Post := by
  refine pw_ofW (by decide +kernel) rfl (Nat.le_of_ble_eq_true rfl) rfl (fun sz => ?_)
  have h1 := hx 0 (by omega)
  refine px_aload_n (q := 1) dI_U_valueUpTo_0 rfl rfl ?_
  refine px_callS1 (q := 4) (ν := mU_length) dI_U_valueUpTo_1 wl_U_23 ws_U_length wb_U_length wi_U ⟨rfl, rfl⟩ (by decide +kernel) ⟨(Nat.le_of_ble_eq_true rfl), (Nat.le_of_ble_eq_true rfl)⟩ (Nat.le_of_ble_eq_true rfl) rfl (c_U_length ha hx (fun L hL hv hd hz => ?_))
  refine px_iconst (q := 5) (v := nI 1) dI_U_valueUpTo_4 (by decide +kernel) rfl ?_
  refine px_icmp_gtN (q := 8) (tgt := 17) dI_U_valueUpTo_5 (by omega) (by omega) (by decide) rfl (fun b5 => ?_) (fun b5 => ?_)
  · refine px_iload_n (q := 18) dI_U_valueUpTo_17 rfl rfl ?_
    refine px_iconst (q := 19) (v := nI 1) dI_U_valueUpTo_18 (by decide +kernel) rfl ?_
    refine px_iaddN (q := 20) dI_U_valueUpTo_19 rfl ?_
    refine px_goto (tgt := 27) dI_U_valueUpTo_20 (by decide) ?_
    refine px_iret dI_U_valueUpTo_27 rfl ?_
    have := vl_ge (n := L) (L := L - 1) (by omega) (hd (by omega))
    have h3 : 4294967296 ^ 1 ≤ 4294967296 ^ (L - 1) := Nat.pow_le_pow_right (by decide) (by omega)
    rw [if_neg (by omega)] at hp
    exact hp
  · have hv1 : vl_ d 4 = d 0 := by
      rw [hv]
      rcases (show L = 0 ∨ L = 1 by omega) with e | e
      · rw [e, hz 0 (by omega) (by omega)]; rfl
      · rw [e]; show 0 + d 0 * 4294967296 ^ 0 = d 0; omega
    rw [hv1] at hp
    refine px_aload_n (q := 9) dI_U_valueUpTo_8 rfl rfl ?_
    refine px_iconst (q := 10) (v := nI 0) dI_U_valueUpTo_9 (by decide +kernel) rfl ?_
    refine px_lald (q := 11) dI_U_valueUpTo_10 ha (by omega) (by omega) h1.1 rfl ?_
    refine px_iload_n (q := 12) dI_U_valueUpTo_11 rfl rfl ?_
    refine px_i2lN (q := 13) dI_U_valueUpTo_12 (by omega) rfl ?_
    refine px_lcmp (q := 14) dI_U_valueUpTo_13 rfl ?_
    refine px_if_leC (q := 17) (tgt := 23) dI_U_valueUpTo_14 (by omega) (by omega) (by decide) rfl (fun b14 => ?_) (fun b14 => ?_)
    · refine px_aload_n (q := 24) dI_U_valueUpTo_23 rfl rfl ?_
      refine px_iconst (q := 25) (v := nI 0) dI_U_valueUpTo_24 (by decide +kernel) rfl ?_
      refine px_lald (q := 26) dI_U_valueUpTo_25 ha (by omega) (by omega) h1.1 rfl ?_
      refine px_l2iN (q := 27) dI_U_valueUpTo_26 rfl ?_
      refine px_iret dI_U_valueUpTo_27 rfl ?_
      rw [if_pos b14] at hp
      exact hp
    · refine px_iload_n (q := 18) dI_U_valueUpTo_17 rfl rfl ?_
      refine px_iconst (q := 19) (v := nI 1) dI_U_valueUpTo_18 (by decide +kernel) rfl ?_
      refine px_iaddN (q := 20) dI_U_valueUpTo_19 rfl ?_
      refine px_goto (tgt := 27) dI_U_valueUpTo_20 (by decide) ?_
      refine px_iret dI_U_valueUpTo_27 rfl ?_
      rw [if_neg (by omega)] at hp
      exact hp
end CU
