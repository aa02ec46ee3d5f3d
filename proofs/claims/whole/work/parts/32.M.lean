/-! the reference's call perfect -/
section CMP
variable {l : Launch} {g : pw_G} {X : pw_X} {Y : pw_Y} {Post : pw_P} {v W : Nat → Nat}
theorem c_M_grow (hk : wk_ (Y 25) W) (h1 : W 2 * W 3 < 2 ^ 128 → ∀ f W', wk_ f W' → W' 2 = W 2 * W 3 → (∀ i, i ≠ 2 → i ≠ 5 → W' i = W i) → Post (some (.int (nI 1))) X (yr_ Y 25 f)) (h0 : 2 ^ 128 ≤ W 2 * W 3 → ∀ f W', wk_ f W' → (∀ i, i ≠ 2 → i ≠ 5 → W' i = W i) → Post (some (.int (nI 0))) X (yr_ Y 25 f)) : pw_Met l g mM_grow [.ref (ad_ g 23)] X Y Post := by
  refine pw_ofW (by decide +kernel) rfl (Nat.le_of_ble_eq_true rfl) rfl (fun sz => ?_)
  refine px_aload_n (q := 1) dI_M_grow_0 rfl rfl ?_
  refine px_iconst (q := 2) (v := nI 5) dI_M_grow_1 (by decide +kernel) rfl ?_
  refine px_callV1 (q := 5) (ν := mM_clear) dI_M_grow_2 (by decide) rfl rfl wl_M_52 wm_M_clear wv_M_clear wb_M_clear wi_M ⟨rfl, rfl⟩ (by decide +kernel) ⟨(Nat.le_of_ble_eq_true rfl), (Nat.le_of_ble_eq_true rfl)⟩ (Nat.le_of_ble_eq_true rfl) rfl (c_M_clear (w := 5) (by decide) hk (fun f1 hk1 => ?_))
  refine px_iconst (q := 6) (v := nI 1) dI_M_grow_5 (by decide +kernel) rfl ?_
  refine px_istore_n (q := 7) dI_M_grow_6 rfl (by decide) rfl rfl ?_
  refine px_aload_n (q := 8) dI_M_grow_7 rfl rfl ?_
  refine px_iconst (q := 9) (v := nI 3) dI_M_grow_8 (by decide +kernel) rfl ?_
  refine px_callV1 (q := 12) (ν := mM_top) dI_M_grow_9 (by decide) rfl rfl wl_M_65 wm_M_top wv_M_top wb_M_top wi_M ⟨rfl, rfl⟩ (by decide +kernel) ⟨(Nat.le_of_ble_eq_true rfl), (Nat.le_of_ble_eq_true rfl)⟩ (Nat.le_of_ble_eq_true rfl) rfl (c_M_top (w := 3) (by decide) (by rw [yr_s]; exact hk1) (fun T hT hbl => ?_))
  rw [va_up_ne _ _ (by decide)] at hbl
  have fin : ∀ (z : Nat) (f : Nat → Int32) (W' : Nat → Nat) (t k : Int32), wk_ f W' → (z = 1 ∧ W' 5 = W 2 * W 3 ∧ W' 5 < 2 ^ 128 ∨ z = 0 ∧ 2 ^ 128 ≤ W 2 * W 3) → (∀ i, i ≠ 5 → W' i = W i) → pw_W l g mM_grow sz (pw_qM g sz Post 0 0) 79 [(0, .ref (ad_ g 23)), (1, .int (nI z)), (2, .int t), (3, .int k)] [] X (yr_ Y 25 f) := by
    intro z f W' t k hf hz qo
    refine px_aload_n (q := 80) dI_M_grow_79 rfl rfl ?_
    refine px_iconst (q := 81) (v := nI 2) dI_M_grow_80 (by decide +kernel) rfl ?_
    refine px_iconst (q := 82) (v := nI 5) dI_M_grow_81 (by decide +kernel) rfl ?_
    refine px_callV2 (q := 85) (ν := mM_copy) dI_M_grow_82 (by decide) rfl rfl wl_M_69 wm_M_copy wv_M_copy wb_M_copy wi_M ⟨rfl, rfl⟩ (by decide +kernel) ⟨(Nat.le_of_ble_eq_true rfl), (Nat.le_of_ble_eq_true rfl)⟩ (Nat.le_of_ble_eq_true rfl) rfl (c_M_copy (w := 2) (x := 5) (by decide) (by decide) (by decide) (by rw [yr_s]; exact hf) (fun f2 hf2 => ?_))
    rw [yr_yr]
    rcases hz with ⟨rfl, q5, ql⟩ | ⟨rfl, ql⟩
    · refine px_iload_n (q := 86) dI_M_grow_85 rfl rfl ?_
      refine px_zret dI_M_grow_86 rfl (by decide +kernel) ?_
      exact h1 (by rw [← q5]; exact ql) f2 _ hf2 (by rw [va_up_self]; exact q5) (fun i a1 a2 => by rw [va_up_ne _ _ a1]; exact qo i a2)
    · refine px_iload_n (q := 86) dI_M_grow_85 rfl rfl ?_
      refine px_zret dI_M_grow_86 rfl (by decide +kernel) ?_
      exact h0 ql f2 _ hf2 (fun i a1 a2 => by rw [va_up_ne _ _ a1]; exact qo i a2)
  have key : ∀ (K z : Nat) (f : Nat → Int32) (W' : Nat → Nat), K ≤ 129 → wk_ f W' → (z = 1 ∧ W' 5 = W 2 * (W 3 / 2 ^ K) ∧ W' 5 < 2 ^ 128 ∨ z = 0 ∧ 2 ^ 128 ≤ W 2 * W 3) → (∀ i, i ≠ 5 → W' i = W i) → pw_W l g mM_grow sz (pw_qM g sz Post 0 0) 15 [(0, .ref (ad_ g 23)), (1, .int (nI z)), (2, .int (mI T)), (3, .int (mI K))] [] X (yr_ Y 25 f) := by
    intro K
    induction K with
    | zero =>
      intro z f W' hK hf hz qo
      rw [Nat.pow_zero, Nat.div_one] at hz
      refine px_iload_n (q := 16) dI_M_grow_15 rfl rfl ?_
      refine px_if_ltM (q := 19) (tgt := 79) dI_M_grow_16 (by omega) (by decide) rfl (fun b16 => ?_) (fun b16 => ?_)
      · exact fin z f W' _ _ hf hz qo
      · omega
    | succ K ih =>
      intro z f W' hK hf hz qo
      rw [mI_s]
      refine px_iload_n (q := 16) dI_M_grow_15 rfl rfl ?_
      refine px_if_ltN (q := 19) (tgt := 79) dI_M_grow_16 (by omega) (by decide) rfl (fun b16 => ?_) (fun b16 => ?_)
      · exact b16.elim
      · rcases hz with ⟨rfl, q5, ql⟩ | ⟨rfl, ql⟩
        · refine px_iload_n (q := 20) dI_M_grow_19 rfl rfl ?_
          refine px_if_eqN (q := 23) (tgt := 79) dI_M_grow_20 (by omega) (by decide) rfl (fun b20 => ?_) (fun b20 => ?_)
          · exact absurd b20 (by decide)
          · have hbit : ∀ (f3 : Nat → Int32) (W3 : Nat → Nat), wk_ f3 W3 → (∀ i, i ≠ 5 → W3 i = W i) → f3 (387 + K) = nI (W 3 / 2 ^ K % 2) := by
              intro f3 W3 hf3 ho
              have := (hf3 3 (by decide)).2 K (by omega)
              rw [ho 3 (by decide)] at this
              exact this
            have hpre : W 3 / 2 ^ K = 2 * (W 3 / 2 ^ (K + 1)) + W 3 / 2 ^ K % 2 := hi_eq (B := 0)
            have hb2 : W 3 / 2 ^ K % 2 < 2 := Nat.mod_lt _ (by decide)
            have hle : W 2 * (W 3 / 2 ^ K) ≤ W 2 * W 3 := Nat.mul_le_mul_left _ (Nat.div_le_self _ _)
            have nx0 : ∀ (f4 : Nat → Int32) (W4 : Nat → Nat), wk_ f4 W4 → (∀ i, i ≠ 5 → W4 i = W i) → 2 ^ 128 ≤ W 2 * W 3 → pw_W l g mM_grow sz (pw_qM g sz Post 0 0) 71 [(0, .ref (ad_ g 23)), (1, .int (nI 1)), (2, .int (mI T)), (3, .int (nI K))] [] X (yr_ Y 25 f4) := by
              intro f4 W4 hf4 ho hge
              refine px_iconst (q := 72) (v := nI 0) dI_M_grow_71 (by decide +kernel) rfl ?_
              refine px_istore_n (q := 73) dI_M_grow_72 rfl (by decide) rfl rfl ?_
              refine px_iinc (q := 76) dI_M_grow_73 rfl (ic_m _) (by decide) rfl rfl ?_
              refine px_goto (tgt := 15) dI_M_grow_76 (by decide) ?_
              exact ih 0 f4 W4 (by omega) hf4 (Or.inr ⟨rfl, hge⟩) ho
            have nx0' : ∀ (f4 : Nat → Int32) (W4 : Nat → Nat), wk_ f4 W4 → (∀ i, i ≠ 5 → W4 i = W i) → 2 ^ 128 ≤ W 2 * W 3 → pw_W l g mM_grow sz (pw_qM g sz Post 0 0) 55 [(0, .ref (ad_ g 23)), (1, .int (nI 0)), (2, .int (mI T)), (3, .int (nI K))] [] X (yr_ Y 25 f4) := by
              intro f4 W4 hf4 ho hge
              refine px_iload_n (q := 56) dI_M_grow_55 rfl rfl ?_
              refine px_if_eqN (q := 59) (tgt := 71) dI_M_grow_56 (by omega) (by decide) rfl (fun b56 => ?_) (fun b56 => ?_)
              · refine px_iconst (q := 72) (v := nI 0) dI_M_grow_71 (by decide +kernel) rfl ?_
                refine px_istore_n (q := 73) dI_M_grow_72 rfl (by decide) rfl rfl ?_
                refine px_iinc (q := 76) dI_M_grow_73 rfl (ic_m _) (by decide) rfl rfl ?_
                refine px_goto (tgt := 15) dI_M_grow_76 (by decide) ?_
                exact ih 0 f4 W4 (by omega) hf4 (Or.inr ⟨rfl, hge⟩) ho
              · exact absurd rfl b56
            have nx1 : ∀ (f4 : Nat → Int32) (W4 : Nat → Nat), wk_ f4 W4 → (∀ i, i ≠ 5 → W4 i = W i) → W4 5 = W 2 * (W 3 / 2 ^ K) → pw_W l g mM_grow sz (pw_qM g sz Post 0 0) 55 [(0, .ref (ad_ g 23)), (1, .int (nI 1)), (2, .int (mI T)), (3, .int (nI K))] [] X (yr_ Y 25 f4) := by
              intro f4 W4 hf4 ho h5
              refine px_iload_n (q := 56) dI_M_grow_55 rfl rfl ?_
              refine px_if_eqN (q := 59) (tgt := 71) dI_M_grow_56 (by omega) (by decide) rfl (fun b56 => ?_) (fun b56 => ?_)
              · exact absurd b56 (by decide)
              · refine px_aload_n (q := 60) dI_M_grow_59 rfl rfl ?_
                refine px_iconst (q := 61) (v := nI 5) dI_M_grow_60 (by decide +kernel) rfl ?_
                refine px_callV1 (q := 64) (ν := mM_isLong) dI_M_grow_61 (by decide) rfl rfl wl_M_39 wm_M_isLong wv_M_isLong wb_M_isLong wi_M ⟨rfl, rfl⟩ (by decide +kernel) ⟨(Nat.le_of_ble_eq_true rfl), (Nat.le_of_ble_eq_true rfl)⟩ (Nat.le_of_ble_eq_true rfl) rfl (c_M_isLong (w := 5) (by decide) (by rw [yr_s]; exact hf4) (fun hge => ?_) (fun hlt => ?_))
                · refine px_if_neN (q := 67) (tgt := 71) dI_M_grow_64 (by omega) (by decide) rfl (fun b64 => ?_) (fun b64 => ?_)
                  · exact nx0 f4 W4 hf4 ho (Nat.le_trans hge (by rw [h5]; exact hle))
                  · exact absurd b64 (by decide)
                · refine px_if_neN (q := 67) (tgt := 71) dI_M_grow_64 (by omega) (by decide) rfl (fun b64 => ?_) (fun b64 => ?_)
                  · exact absurd rfl b64
                  · refine px_iconst (q := 68) (v := nI 1) dI_M_grow_67 (by decide +kernel) rfl ?_
                    refine px_goto (tgt := 72) dI_M_grow_68 (by decide) ?_
                    refine px_istore_n (q := 73) dI_M_grow_72 rfl (by decide) rfl rfl ?_
                    refine px_iinc (q := 76) dI_M_grow_73 rfl (ic_m _) (by decide) rfl rfl ?_
                    refine px_goto (tgt := 15) dI_M_grow_76 (by decide) ?_
                    exact ih 1 f4 W4 (by omega) hf4 (Or.inl ⟨rfl, h5, hlt⟩) ho
            refine px_aload_n (q := 24) dI_M_grow_23 rfl rfl ?_
            refine px_iconst (q := 25) (v := nI 5) dI_M_grow_24 (by decide +kernel) rfl ?_
            refine px_iconst (q := 26) (v := nI 0) dI_M_grow_25 (by decide +kernel) rfl ?_
            refine px_callV2 (q := 29) (ν := mM_twice) dI_M_grow_26 (by decide) rfl rfl wl_M_56 wm_M_twice wv_M_twice wb_M_twice wi_M ⟨rfl, rfl⟩ (by decide +kernel) ⟨(Nat.le_of_ble_eq_true rfl), (Nat.le_of_ble_eq_true rfl)⟩ (Nat.le_of_ble_eq_true rfl) rfl (c_M_twice (w := 5) (by decide) (by decide) (by rw [yr_s]; exact hf) (fun hlt f3 hf3 => ?_) (fun hge => absurd ql (Nat.not_lt.mpr hge)))
            rw [yr_yr]
            rw [Nat.add_zero] at hf3
            have v5 : va_up W' 5 (2 * W' 5) 5 = 2 * W' 5 := va_up_self _ _ _
            have vo : ∀ i, i ≠ 5 → va_up W' 5 (2 * W' 5) i = W i := fun i a => by rw [va_up_ne _ _ a]; exact qo i a
            generalize va_up W' 5 (2 * W' 5) = W3 at hf3 v5 vo
            refine px_istore_n (q := 30) dI_M_grow_29 rfl (by decide) rfl rfl ?_
            refine px_iload_n (q := 31) dI_M_grow_30 rfl rfl ?_
            refine px_if_eqN (q := 34) (tgt := 55) dI_M_grow_31 (by omega) (by decide) rfl (fun b31 => ?_) (fun b31 => ?_)
            · exact absurd b31 (by decide)
            · have hb3 := hbit f3 W3 hf3 vo
              refine px_aload_n (q := 35) dI_M_grow_34 rfl rfl ?_
              refine px_getM (q := 38) (j := 1) dI_M_grow_35 wf_M_13 rfl (by decide) rfl rfl ?_
              refine px_sipush (q := 41) (v := nI 387) dI_M_grow_38 (by decide +kernel) rfl ?_
              refine px_iload_n (q := 42) dI_M_grow_41 rfl rfl ?_
              refine px_iaddN (q := 43) dI_M_grow_42 rfl ?_
              refine px_iald (q := 44) dI_M_grow_43 rfl (by omega) (by omega) (ys_ hb3) rfl ?_
              refine px_iconst (q := 45) (v := nI 1) dI_M_grow_44 (by decide +kernel) rfl ?_
              refine px_icmp_neN (q := 48) (tgt := 55) dI_M_grow_45 (by omega) (by omega) (by decide) rfl (fun b45 => ?_) (fun b45 => ?_)
              · refine nx1 f3 W3 hf3 vo ?_
                have e0 : W 3 / 2 ^ K % 2 = 0 := by omega
                rw [v5, q5, hpre, e0, Nat.mul_left_comm]; rfl
              · refine px_aload_n (q := 49) dI_M_grow_48 rfl rfl ?_
                refine px_iconst (q := 50) (v := nI 5) dI_M_grow_49 (by decide +kernel) rfl ?_
                refine px_iconst (q := 51) (v := nI 2) dI_M_grow_50 (by decide +kernel) rfl ?_
                refine px_callV2 (q := 54) (ν := mM_plus) dI_M_grow_51 (by decide) rfl rfl wl_M_35 wm_M_plus wv_M_plus wb_M_plus wi_M ⟨rfl, rfl⟩ (by decide +kernel) ⟨(Nat.le_of_ble_eq_true rfl), (Nat.le_of_ble_eq_true rfl)⟩ (Nat.le_of_ble_eq_true rfl) rfl (c_M_plus (w := 5) (x := 2) (by decide) (by decide) (by decide) (by rw [yr_s]; exact hf3) (fun hlt5 f5 hf5 => ?_) (fun hge f5 hf5 => ?_))
                · rw [yr_yr]
                  refine px_istore_n (q := 55) dI_M_grow_54 rfl (by decide) rfl rfl ?_
                  refine nx1 f5 _ hf5 (fun i a => by rw [va_up_ne _ _ a]; exact vo i a) ?_
                  rw [va_up_self, v5, vo 2 (by decide), q5, hpre, b45, Nat.mul_add, Nat.mul_one, Nat.mul_left_comm]
                · rw [yr_yr]
                  refine px_istore_n (q := 55) dI_M_grow_54 rfl (by decide) rfl rfl ?_
                  refine nx0' f5 _ hf5 (fun i a => by rw [va_up_ne _ _ a]; exact vo i a) ?_
                  rw [v5, vo 2 (by decide), q5] at hge
                  rw [hpre, b45, Nat.mul_add, Nat.mul_one, Nat.mul_left_comm] at hle
                  exact Nat.le_trans (by decide) (Nat.le_trans hge hle)
        · refine px_iload_n (q := 20) dI_M_grow_19 rfl rfl ?_
          refine px_if_eqN (q := 23) (tgt := 79) dI_M_grow_20 (by omega) (by decide) rfl (fun b20 => ?_) (fun b20 => ?_)
          · rw [← mI_s K]
            exact fin 0 f W' _ _ hf (Or.inr ⟨rfl, ql⟩) qo
          · exact absurd rfl b20
  refine px_istore_n (q := 13) dI_M_grow_12 rfl (by decide) rfl rfl ?_
  refine px_iload_n (q := 14) dI_M_grow_13 rfl rfl ?_
  refine px_istore_n (q := 15) dI_M_grow_14 rfl (by decide) rfl rfl ?_
  refine px_keep [0, 1, 2, 3] rfl ?_
  refine key T 1 f1 _ hT hk1 (Or.inl ⟨rfl, ?_, ?_⟩) (fun i a => va_up_ne _ _ a)
  · rw [va_up_self, Nat.div_eq_of_lt hbl.1, Nat.mul_zero]
  · rw [va_up_self]; exact p2_ 128
theorem c_M_powerAgainst {k : Nat} (hk0 : k < 2147483648) (hk : wk_ (Y 25) W) (hN : W 0 < 2 ^ 128)
    (h1 : W 3 ^ k < W 0 → ∀ f W', wk_ f W' → (∀ i, i ≠ 2 → i ≠ 5 → W' i = W i) → Post (some (.int (-1))) X (yr_ Y 25 f))
    (h2 : W 3 ^ k = W 0 → ∀ f W', wk_ f W' → (∀ i, i ≠ 2 → i ≠ 5 → W' i = W i) → Post (some (.int (nI 0))) X (yr_ Y 25 f))
    (h3 : W 0 < W 3 ^ k → ∀ f W', wk_ f W' → (∀ i, i ≠ 2 → i ≠ 5 → W' i = W i) → Post (some (.int (nI 1))) X (yr_ Y 25 f)) : pw_Met l g mM_powerAgainst [.ref (ad_ g 23), .int (nI k)] X Y Post := by
  refine pw_ofW (by decide +kernel) rfl (Nat.le_of_ble_eq_true rfl) rfl (fun sz => ?_)
  refine px_aload_n (q := 1) dI_M_powerAgainst_0 rfl rfl ?_
  refine px_iconst (q := 2) (v := nI 2) dI_M_powerAgainst_1 (by decide +kernel) rfl ?_
  refine px_callV1 (q := 5) (ν := mM_clear) dI_M_powerAgainst_2 (by decide) rfl rfl wl_M_52 wm_M_clear wv_M_clear wb_M_clear wi_M ⟨rfl, rfl⟩ (by decide +kernel) ⟨(Nat.le_of_ble_eq_true rfl), (Nat.le_of_ble_eq_true rfl)⟩ (Nat.le_of_ble_eq_true rfl) rfl (c_M_clear (w := 2) (by decide) hk (fun f1 hk1 => ?_))
  have hf8 := wk_b1 (i := 2) (k := 0) hk1 (by decide) (by decide) (by rw [va_up_self, Nat.zero_div])
  refine px_aload_n (q := 6) dI_M_powerAgainst_5 rfl rfl ?_
  refine px_getM (q := 9) (j := 1) dI_M_powerAgainst_6 wf_M_13 rfl (by decide) rfl rfl ?_
  refine px_sipush (q := 12) (v := nI 258) dI_M_powerAgainst_9 (by decide +kernel) rfl ?_
  refine px_iconst (q := 13) (v := nI 1) dI_M_powerAgainst_12 (by decide +kernel) rfl ?_
  refine px_iast (q := 14) dI_M_powerAgainst_13 rfl (by omega) (by omega) rfl ?_
  refine px_iconst (q := 15) (v := nI 0) dI_M_powerAgainst_14 (by decide +kernel) rfl ?_
  refine px_istore_n (q := 16) dI_M_powerAgainst_15 rfl (by decide) rfl rfl ?_
  rw [yr_s, yr_yr]
  have t2 : va_up (va_up W 2 0) 2 (va_up W 2 0 2 + 2 ^ 0) 2 = 1 := by rw [va_up_self, va_up_self]
  have to : ∀ i, i ≠ 2 → i ≠ 5 → va_up (va_up W 2 0) 2 (va_up W 2 0 2 + 2 ^ 0) i = W i := fun i a _ => by rw [va_up_ne _ _ a, va_up_ne _ _ a]
  generalize va_up (va_up W 2 0) 2 (va_up W 2 0 2 + 2 ^ 0) = W8 at hf8 t2 to
  have key : ∀ (d i : Nat) (f : Nat → Int32) (W' : Nat → Nat), i + d = k → wk_ f W' → W' 2 = W 3 ^ i → (∀ i, i ≠ 2 → i ≠ 5 → W' i = W i) → pw_W l g mM_powerAgainst sz (pw_qM g sz Post 0 0) 16 [(0, .ref (ad_ g 23)), (1, .int (nI k)), (2, .int (nI i))] [] X (yr_ Y 25 f) := by
    intro d
    induction d with
    | zero =>
      intro i f W' hi hf q2 qo
      have q0 : W' 0 = W 0 := qo 0 (by decide) (by decide)
      obtain rfl : i = k := by omega
      refine px_iload_n (q := 17) dI_M_powerAgainst_16 rfl rfl ?_
      refine px_iload_n (q := 18) dI_M_powerAgainst_17 rfl rfl ?_
      refine px_icmp_geN (q := 21) (tgt := 36) dI_M_powerAgainst_18 (by omega) (by omega) (by decide) rfl (fun b18 => ?_) (fun b18 => ?_)
      · refine px_aload_n (q := 37) dI_M_powerAgainst_36 rfl rfl ?_
        refine px_iconst (q := 38) (v := nI 2) dI_M_powerAgainst_37 (by decide +kernel) rfl ?_
        refine px_iconst (q := 39) (v := nI 0) dI_M_powerAgainst_38 (by decide +kernel) rfl ?_
        refine px_callV2 (q := 42) (ν := mM_against) dI_M_powerAgainst_39 (by decide) rfl rfl wl_M_45 wm_M_against wv_M_against wb_M_against wi_M ⟨rfl, rfl⟩ (by decide +kernel) ⟨(Nat.le_of_ble_eq_true rfl), (Nat.le_of_ble_eq_true rfl)⟩ (Nat.le_of_ble_eq_true rfl) rfl (c_M_against (x := 2) (y := 0) (by decide) (by decide) (by rw [yr_s]; exact hf) (fun z => ?_) (fun z => ?_) (fun z => ?_))
        · refine px_iret dI_M_powerAgainst_42 rfl ?_
          rw [q2, q0] at z
          exact h1 z f W' hf qo
        · refine px_iret dI_M_powerAgainst_42 rfl ?_
          rw [q2, q0] at z
          exact h2 z f W' hf qo
        · refine px_iret dI_M_powerAgainst_42 rfl ?_
          rw [q2, q0] at z
          exact h3 z f W' hf qo
      · omega
    | succ d ih =>
      intro i f W' hi hf q2 qo
      have q3 : W' 3 = W 3 := qo 3 (by decide) (by decide)
      refine px_iload_n (q := 17) dI_M_powerAgainst_16 rfl rfl ?_
      refine px_iload_n (q := 18) dI_M_powerAgainst_17 rfl rfl ?_
      refine px_icmp_geN (q := 21) (tgt := 36) dI_M_powerAgainst_18 (by omega) (by omega) (by decide) rfl (fun b18 => ?_) (fun b18 => ?_)
      · omega
      · refine px_aload_n (q := 22) dI_M_powerAgainst_21 rfl rfl ?_
        refine px_callV0 (q := 25) (ν := mM_grow) dI_M_powerAgainst_22 (by decide) rfl rfl wl_M_80 wm_M_grow wv_M_grow wb_M_grow wi_M ⟨rfl, rfl⟩ (by decide +kernel) ⟨(Nat.le_of_ble_eq_true rfl), (Nat.le_of_ble_eq_true rfl)⟩ (Nat.le_of_ble_eq_true rfl) rfl (c_M_grow (by rw [yr_s]; exact hf) (fun hlt f2 W2 hf2 r2 ro => ?_) (fun hge f2 W2 hf2 ro => ?_))
        · rw [yr_yr]
          refine px_if_neN (q := 28) (tgt := 30) dI_M_powerAgainst_25 (by omega) (by decide) rfl (fun b25 => ?_) (fun b25 => ?_)
          · refine px_iinc (q := 33) dI_M_powerAgainst_30 rfl (ic_1 _) (by decide) rfl rfl ?_
            refine px_goto (tgt := 16) dI_M_powerAgainst_33 (by decide) ?_
            refine ih (i + 1) f2 W2 (by omega) hf2 (by rw [r2, q2, q3, Nat.pow_succ]) (fun j a1 a2 => by rw [ro j a1 a2]; exact qo j a1 a2)
          · exact absurd b25 (by decide)
        · rw [yr_yr]
          refine px_if_neN (q := 28) (tgt := 30) dI_M_powerAgainst_25 (by omega) (by decide) rfl (fun b25 => ?_) (fun b25 => ?_)
          · exact absurd rfl b25
          · refine px_iconst (q := 29) (v := nI 1) dI_M_powerAgainst_28 (by decide +kernel) rfl ?_
            refine px_iret dI_M_powerAgainst_29 rfl ?_
            refine h3 ?_ f2 W2 hf2 (fun j a1 a2 => by rw [ro j a1 a2]; exact qo j a1 a2)
            rw [q2, q3, ← Nat.pow_succ] at hge
            have hR : 0 < W 3 := by
              refine Nat.pos_of_ne_zero (fun q => ?_)
              rw [q, Nat.zero_pow (by omega)] at hge
              exact absurd hge (by decide)
            exact Nat.lt_of_lt_of_le hN (Nat.le_trans hge (Nat.pow_le_pow_right hR (by omega)))
  exact key k 0 _ W8 (by omega) hf8 (by rw [t2, Nat.pow_zero]) to
theorem gw_0 {A b q : Nat} (h : A = 2 ^ (b + 1) * q) : A / 2 ^ b % 2 = 0 := by
  rw [h, Nat.pow_succ, Nat.mul_assoc, Nat.mul_div_cancel_left _ (p2_ b)]
  omega
theorem c_M_isPower {k : Nat} (hk2 : 2 ≤ k) (hk0 : k < 2147483648) (hk : wk_ (Y 25) W) (hN : W 0 < 2 ^ 128) (hN0 : 0 < W 0)
    (h1 : (∃ r, r ^ k = W 0) → ∀ f W', wk_ f W' → W' 0 = W 0 → Post (some (.int (nI 1))) X (yr_ Y 25 f))
    (h0 : (¬ ∃ r, r ^ k = W 0) → ∀ f W', wk_ f W' → W' 0 = W 0 → Post (some (.int (nI 0))) X (yr_ Y 25 f)) : pw_Met l g mM_isPower [.ref (ad_ g 23), .int (nI k)] X Y Post := by
  refine pw_ofW (by decide +kernel) rfl (Nat.le_of_ble_eq_true rfl) rfl (fun sz => ?_)
  refine px_aload_n (q := 1) dI_M_isPower_0 rfl rfl ?_
  refine px_iconst (q := 2) (v := nI 3) dI_M_isPower_1 (by decide +kernel) rfl ?_
  refine px_callV1 (q := 5) (ν := mM_clear) dI_M_isPower_2 (by decide) rfl rfl wl_M_52 wm_M_clear wv_M_clear wb_M_clear wi_M ⟨rfl, rfl⟩ (by decide +kernel) ⟨(Nat.le_of_ble_eq_true rfl), (Nat.le_of_ble_eq_true rfl)⟩ (Nat.le_of_ble_eq_true rfl) rfl (c_M_clear (w := 3) (by decide) hk (fun f1 hk1 => ?_))
  refine px_iconst (q := 6) (v := (-1)) dI_M_isPower_5 (by decide +kernel) rfl ?_
  refine px_istore_n (q := 7) dI_M_isPower_6 rfl (by decide) rfl rfl ?_
  refine px_bipush (q := 9) (v := nI 127) dI_M_isPower_7 (by decide +kernel) rfl ?_
  refine px_iload_n (q := 10) dI_M_isPower_9 rfl rfl ?_
  refine px_idivN (q := 11) dI_M_isPower_10 (by omega) (by omega) (by omega) rfl ?_
  refine px_istore_n (q := 12) dI_M_isPower_11 rfl (by decide) rfl rfl ?_
  have hd : 127 / k ≤ 63 := Nat.le_trans (Nat.div_le_div_left hk2 (by decide)) (by decide)
  have hdk : 128 ≤ (127 / k + 1) * k := by
    have := Nat.lt_div_mul_add (a := 127) (b := k) (by omega)
    rw [Nat.add_mul, Nat.one_mul]
    omega
  have key : ∀ (K : Nat) (c : Int32) (f : Nat → Int32) (W' : Nat → Nat) (q : Nat), K ≤ 64 → wk_ f W' → W' 0 = W 0 → W' 3 = 2 ^ K * q → W' 3 ^ k < W 0 → W 0 < (W' 3 + 2 ^ K) ^ k → c ≠ 0 → pw_W l g mM_isPower sz (pw_qM g sz Post 0 0) 12 [(0, .ref (ad_ g 23)), (1, .int (nI k)), (2, .int c), (3, .int (mI K))] [] X (yr_ Y 25 f) := by
    intro K
    induction K with
    | zero =>
      intro c f W' q hK hf q0 q3 hlo hhi hc
      refine px_iload_n (q := 13) dI_M_isPower_12 rfl rfl ?_
      refine px_if_ltM (q := 16) (tgt := 62) dI_M_isPower_13 (by omega) (by decide) rfl (fun b13 => ?_) (fun b13 => ?_)
      · refine px_iload_n (q := 63) dI_M_isPower_62 rfl rfl ?_
        refine px_if_ne (q := 66) (tgt := 70) dI_M_isPower_63 (by decide) rfl (fun b63 => ?_) (fun b63 => ?_)
        · refine px_iconst (q := 71) (v := nI 0) dI_M_isPower_70 (by decide +kernel) rfl ?_
          refine px_zret dI_M_isPower_71 rfl (by decide +kernel) ?_
          refine h0 ?_ f W' hf q0
          rintro ⟨r, hr⟩
          rw [← hr] at hlo hhi
          have e1 := (Nat.pow_lt_pow_iff_left (by omega)).mp hlo
          have e2 := (Nat.pow_lt_pow_iff_left (by omega)).mp hhi
          rw [Nat.pow_zero] at e2
          omega
        · exact absurd b63 hc
      · omega
    | succ K ih =>
      intro c f W' q hK hf q0 q3 hlo hhi hc
      have hbz := gw_0 q3
      rw [mI_s]
      refine px_iload_n (q := 13) dI_M_isPower_12 rfl rfl ?_
      refine px_if_ltN (q := 16) (tgt := 62) dI_M_isPower_13 (by omega) (by decide) rfl (fun b13 => ?_) (fun b13 => ?_)
      · exact b13.elim
      · refine px_iload_n (q := 17) dI_M_isPower_16 rfl rfl ?_
        refine px_if_eq (q := 20) (tgt := 62) dI_M_isPower_17 (by decide) rfl (fun b17 => ?_) (fun b17 => ?_)
        · exact absurd b17 hc
        · have hf2 := wk_b1 (i := 3) (k := K) hf (by decide) (by omega) hbz
          have e3 : 129 * 3 + K = 387 + K := rfl
          rw [e3] at hf2
          have p1 : 2 ^ (K + 1) = 2 ^ K + 2 ^ K := by rw [Nat.pow_succ]; omega
          refine px_aload_n (q := 21) dI_M_isPower_20 rfl rfl ?_
          refine px_getM (q := 24) (j := 1) dI_M_isPower_21 wf_M_13 rfl (by decide) rfl rfl ?_
          refine px_sipush (q := 27) (v := nI 387) dI_M_isPower_24 (by decide +kernel) rfl ?_
          refine px_iload_n (q := 28) dI_M_isPower_27 rfl rfl ?_
          refine px_iaddN (q := 29) dI_M_isPower_28 rfl ?_
          refine px_iconst (q := 30) (v := nI 1) dI_M_isPower_29 (by decide +kernel) rfl ?_
          refine px_iast (q := 31) dI_M_isPower_30 rfl (by omega) (by omega) rfl ?_
          rw [yr_s, yr_yr]
          have u3 : va_up W' 3 (W' 3 + 2 ^ K) 3 = W' 3 + 2 ^ K := va_up_self _ _ _
          have u0 : va_up W' 3 (W' 3 + 2 ^ K) 0 = W 0 := by rw [va_up_ne _ _ (by decide)]; exact q0
          have hA : W' 3 = 2 ^ K * (2 * q) := by rw [q3, Nat.pow_succ, Nat.mul_assoc]
          have upid : ∀ (f4 : Nat → Int32) (W4 : Nat → Nat), wk_ f4 W4 → W4 3 = W' 3 + 2 ^ K → upd f4 (387 + K) (nI 1) = f4 := by
            intro f4 W4 hf4 w3
            have hw : f4 (387 + K) = nI 1 := by
              have := (hf4 3 (by decide)).2 K (by omega)
              rw [w3, bit_add hbz, if_pos rfl] at this
              exact this
            funext p
            by_cases e : p = 387 + K
            · rw [e, pk_us, hw]
            · rw [pk_un e]
          refine px_aload_n (q := 32) dI_M_isPower_31 rfl rfl ?_
          refine px_iload_n (q := 33) dI_M_isPower_32 rfl rfl ?_
          refine px_callV1 (q := 36) (ν := mM_powerAgainst) dI_M_isPower_33 (by decide) rfl rfl wl_M_84 wm_M_powerAgainst wv_M_powerAgainst wb_M_powerAgainst wi_M ⟨rfl, rfl⟩ (by decide +kernel) ⟨(Nat.le_of_ble_eq_true rfl), (Nat.le_of_ble_eq_true rfl)⟩ (Nat.le_of_ble_eq_true rfl) rfl (c_M_powerAgainst hk0 (by rw [yr_s]; exact hf2) (by rw [u0]; exact hN) (fun hlt f4 W4 hf4 ro => ?_) (fun heq f4 W4 hf4 ro => ?_) (fun hgt f4 W4 hf4 ro => ?_))
          · rw [yr_yr]
            rw [u3, u0] at hlt
            have w0 : W4 0 = W 0 := by rw [ro 0 (by decide) (by decide)]; exact u0
            have w3 : W4 3 = W' 3 + 2 ^ K := by rw [ro 3 (by decide) (by decide)]; exact u3
            refine px_istore_n (q := 37) dI_M_isPower_36 rfl (by decide) rfl rfl ?_
            refine px_aload_n (q := 38) dI_M_isPower_37 rfl rfl ?_
            refine px_getM (q := 41) (j := 1) dI_M_isPower_38 wf_M_13 rfl (by decide) rfl rfl ?_
            refine px_sipush (q := 44) (v := nI 387) dI_M_isPower_41 (by decide +kernel) rfl ?_
            refine px_iload_n (q := 45) dI_M_isPower_44 rfl rfl ?_
            refine px_iaddN (q := 46) dI_M_isPower_45 rfl ?_
            refine px_iload_n (q := 47) dI_M_isPower_46 rfl rfl ?_
            refine px_if_le (q := 50) (tgt := 54) dI_M_isPower_47 (by decide) rfl (fun b47 => ?_) (fun b47 => ?_)
            · refine px_iconst (q := 55) (v := nI 1) dI_M_isPower_54 (by decide +kernel) rfl ?_
              refine px_iast (q := 56) dI_M_isPower_55 rfl (by omega) (by omega) rfl ?_
              refine px_iinc (q := 59) dI_M_isPower_56 rfl (ic_m _) (by decide) rfl rfl ?_
              refine px_goto (tgt := 12) dI_M_isPower_59 (by decide) ?_
              rw [yr_s, yr_yr, upid f4 W4 hf4 w3]
              refine px_keep [0, 1, 2, 3] rfl ?_
              refine ih (-1) f4 W4 (2 * q + 1) (by omega) hf4 w0 ?_ ?_ ?_ (by decide)
              · rw [w3, hA, Nat.mul_add, Nat.mul_one]
              · rw [w3]; exact hlt
              · rw [w3, Nat.add_assoc, ← p1]; exact hhi
            · exact absurd (by decide) b47
          · rw [yr_yr]
            rw [u3, u0] at heq
            have w0 : W4 0 = W 0 := by rw [ro 0 (by decide) (by decide)]; exact u0
            have w3 : W4 3 = W' 3 + 2 ^ K := by rw [ro 3 (by decide) (by decide)]; exact u3
            have fin : pw_W l g mM_isPower sz (pw_qM g sz Post 0 0) 62 [(0, .ref (ad_ g 23)), (1, .int (nI k)), (2, .int (nI 0)), (3, .int (mI K))] [] X (yr_ Y 25 f4) := by
              refine px_iload_n (q := 63) dI_M_isPower_62 rfl rfl ?_
              refine px_if_neN (q := 66) (tgt := 70) dI_M_isPower_63 (by omega) (by decide) rfl (fun b63 => ?_) (fun b63 => ?_)
              · exact absurd rfl b63
              · refine px_iconst (q := 67) (v := nI 1) dI_M_isPower_66 (by decide +kernel) rfl ?_
                refine px_goto (tgt := 71) dI_M_isPower_67 (by decide) ?_
                refine px_zret dI_M_isPower_71 rfl (by decide +kernel) ?_
                exact h1 ⟨_, heq⟩ f4 W4 hf4 w0
            refine px_istore_n (q := 37) dI_M_isPower_36 rfl (by decide) rfl rfl ?_
            refine px_aload_n (q := 38) dI_M_isPower_37 rfl rfl ?_
            refine px_getM (q := 41) (j := 1) dI_M_isPower_38 wf_M_13 rfl (by decide) rfl rfl ?_
            refine px_sipush (q := 44) (v := nI 387) dI_M_isPower_41 (by decide +kernel) rfl ?_
            refine px_iload_n (q := 45) dI_M_isPower_44 rfl rfl ?_
            refine px_iaddN (q := 46) dI_M_isPower_45 rfl ?_
            refine px_iload_n (q := 47) dI_M_isPower_46 rfl rfl ?_
            refine px_if_leN (q := 50) (tgt := 54) dI_M_isPower_47 (by omega) (by decide) rfl (fun b47 => ?_) (fun b47 => ?_)
            · refine px_iconst (q := 55) (v := nI 1) dI_M_isPower_54 (by decide +kernel) rfl ?_
              refine px_iast (q := 56) dI_M_isPower_55 rfl (by omega) (by omega) rfl ?_
              refine px_iinc (q := 59) dI_M_isPower_56 rfl (ic_m _) (by decide) rfl rfl ?_
              refine px_goto (tgt := 12) dI_M_isPower_59 (by decide) ?_
              rw [yr_s, yr_yr, upid f4 W4 hf4 w3]
              refine px_keep [0, 1, 2, 3] rfl ?_
              refine px_iload_n (q := 13) dI_M_isPower_12 rfl rfl ?_
              refine px_if_ltM (q := 16) (tgt := 62) dI_M_isPower_13 (by omega) (by decide) rfl (fun b13 => ?_) (fun b13 => ?_)
              · exact fin
              · refine px_iload_n (q := 17) dI_M_isPower_16 rfl rfl ?_
                refine px_if_eqN (q := 20) (tgt := 62) dI_M_isPower_17 (by omega) (by decide) rfl (fun b17 => ?_) (fun b17 => ?_)
                · exact fin
                · exact absurd rfl b17
            · omega
          · rw [yr_yr]
            rw [u3, u0] at hgt
            have w0 : W4 0 = W 0 := by rw [ro 0 (by decide) (by decide)]; exact u0
            have w3 : W4 3 = W' 3 + 2 ^ K := by rw [ro 3 (by decide) (by decide)]; exact u3
            have hf5 := wk_b0 (i := 3) (k := K) hf4 (by decide) (by omega) w3 hbz
            rw [e3] at hf5
            refine px_istore_n (q := 37) dI_M_isPower_36 rfl (by decide) rfl rfl ?_
            refine px_aload_n (q := 38) dI_M_isPower_37 rfl rfl ?_
            refine px_getM (q := 41) (j := 1) dI_M_isPower_38 wf_M_13 rfl (by decide) rfl rfl ?_
            refine px_sipush (q := 44) (v := nI 387) dI_M_isPower_41 (by decide +kernel) rfl ?_
            refine px_iload_n (q := 45) dI_M_isPower_44 rfl rfl ?_
            refine px_iaddN (q := 46) dI_M_isPower_45 rfl ?_
            refine px_iload_n (q := 47) dI_M_isPower_46 rfl rfl ?_
            refine px_if_leN (q := 50) (tgt := 54) dI_M_isPower_47 (by omega) (by decide) rfl (fun b47 => ?_) (fun b47 => ?_)
            · omega
            · refine px_iconst (q := 51) (v := nI 0) dI_M_isPower_50 (by decide +kernel) rfl ?_
              refine px_goto (tgt := 55) dI_M_isPower_51 (by decide) ?_
              refine px_iast (q := 56) dI_M_isPower_55 rfl (by omega) (by omega) rfl ?_
              refine px_iinc (q := 59) dI_M_isPower_56 rfl (ic_m _) (by decide) rfl rfl ?_
              refine px_goto (tgt := 12) dI_M_isPower_59 (by decide) ?_
              rw [yr_s, yr_yr]
              refine px_keep [0, 1, 2, 3] rfl ?_
              refine ih (nI 1) _ _ (2 * q) (by omega) hf5 (by rw [va_up_ne _ _ (by decide)]; exact w0) ?_ ?_ ?_ (by decide)
              · rw [va_up_self]; exact hA
              · rw [va_up_self]; exact hlo
              · rw [va_up_self]; exact hgt
  rw [← mI_s (127 / k)]
  refine px_keep [0, 1, 2, 3] rfl ?_
  refine key (127 / k + 1) (-1) f1 _ 0 (by omega) hk1 (by rw [va_up_ne _ _ (by decide)]) (by rw [va_up_self, Nat.mul_zero]) (by rw [va_up_self, Nat.zero_pow (by omega)]; exact hN0) ?_ (by decide)
  rw [va_up_self, Nat.zero_add, ← Nat.pow_mul]
  exact Nat.lt_of_lt_of_le hN (Nat.pow_le_pow_right (by decide) hdk)
theorem ex_dv : ∀ k, k < 128 → 2 ≤ k → ∃ i, i < 31 ∧ ex_ i ∣ k := by decide +kernel
theorem ex_mo : ∀ i, i < 31 → ∀ j, j < i → ex_ j < ex_ i := by decide +kernel
theorem le_some {V T k : Nat} (hT : T ≤ 128) (hbl : bl_ V T) (h2 : 2 ≤ k) (hk : k < T) (hr : ∃ r, r ^ k = V) (hn : ∀ j, 2 ≤ j → j < k → ¬ ∃ r, r ^ j = V) : le_ V k := by
  obtain ⟨i, hi, hd⟩ := ex_dv k (by omega) h2
  have he : ex_ i = k := by
    rcases Nat.lt_or_ge (ex_ i) k with q | q
    · obtain ⟨c, hc⟩ := hd
      obtain ⟨r, hr⟩ := hr
      refine absurd ⟨r ^ c, ?_⟩ (hn (ex_ i) (ex_in i hi).1 q)
      rw [← Nat.pow_mul, Nat.mul_comm, ← hc, hr]
    · exact Nat.le_antisymm (Nat.le_of_dvd (by omega) hd) q
  refine ⟨T, hT, hbl.1, hbl.2, Or.inl ⟨i, hi, he.symm, hk, hr, fun j hj _ => hn _ (ex_in j (by omega)).1 (by rw [← he]; exact ex_mo i hi j hj)⟩⟩
theorem le_none {V T : Nat} (hT : T ≤ 128) (hbl : bl_ V T) (hn : ∀ j, 2 ≤ j → j < T → ¬ ∃ r, r ^ j = V) : le_ V 0 :=
  ⟨T, hT, hbl.1, hbl.2, Or.inr ⟨rfl, fun j hj h => hn _ (ex_in j hj).1 h⟩⟩
theorem le_u {V e e' : Nat} (h : le_ V e) (h' : le_ V e') : e = e' := by
  obtain ⟨T, hT, a1, a2, a⟩ := h
  obtain ⟨S, hS, b1, b2, b⟩ := h'
  obtain rfl : T = S := bl_u ⟨a1, a2⟩ ⟨b1, b2⟩
  rcases a with ⟨i, hi, rfl, hlt, hr, hn⟩ | ⟨rfl, hn⟩
  · rcases b with ⟨i', hi', rfl, hlt', hr', hn'⟩ | ⟨rfl, hn'⟩
    · rcases Nat.lt_trichotomy i i' with q | q | q
      · exact absurd hr (hn' i q hlt)
      · rw [q]
      · exact absurd hr' (hn i' q hlt')
    · exact absurd hr (hn' i hi hlt)
  · rcases b with ⟨i', hi', rfl, hlt', hr', hn'⟩ | ⟨rfl, hn'⟩
    · exact absurd hr' (hn i' hi' hlt')
    · rfl
theorem c_M_perfect_bad {a : Int32} (hbad : bd_ a) (hm : mz_ Y v) (hp : ∀ Y', mz_ Y' v → mf_ Y Y' → Y' 23 3 = nI 1 → Post (some (.int (nI 0))) X Y') : pw_Met l g mM_perfect [.ref (ad_ g 23), .int a] X Y Post := by
  refine pw_ofW (by decide +kernel) rfl (Nat.le_of_ble_eq_true rfl) rfl (fun sz => ?_)
  refine px_aload_n (q := 1) dI_M_perfect_0 rfl rfl ?_
  refine px_iload_n (q := 2) dI_M_perfect_1 rfl rfl ?_
  refine px_callS1 (q := 5) (ν := mM_none) dI_M_perfect_2 wl_M_23 ws_M_none wb_M_none wi_M ⟨rfl, rfl⟩ (by decide +kernel) ⟨(Nat.le_of_ble_eq_true rfl), (Nat.le_of_ble_eq_true rfl)⟩ (Nat.le_of_ble_eq_true rfl) rfl (c_M_noneB hbad ?_)
  refine px_iconst (q := 6) (v := nI 1) dI_M_perfect_5 (by decide +kernel) rfl ?_
  refine px_callV2 (q := 9) (ν := mM_refused) dI_M_perfect_6 (by decide) rfl rfl wl_M_27 wm_M_refused wv_M_refused wb_M_refused wi_M ⟨rfl, rfl⟩ (by decide +kernel) ⟨(Nat.le_of_ble_eq_true rfl), (Nat.le_of_ble_eq_true rfl)⟩ (Nat.le_of_ble_eq_true rfl) rfl (c_M_refused (by decide) (fun f hf => ?_))
  refine px_if_eqN (q := 12) (tgt := 14) dI_M_perfect_9 (by omega) (by decide) rfl (fun b9 => ?_) (fun b9 => ?_)
  · exact absurd b9 (by decide)
  · refine px_iconst (q := 13) (v := nI 0) dI_M_perfect_12 (by decide +kernel) rfl ?_
    refine px_iret dI_M_perfect_13 rfl ?_
    exact hp _ (mz_c hm) (mf_y (by decide) mf_0) (by rw [yr_s, hf]; rfl)
theorem c_M_perfect {a : Nat} (ha : a < 6) (hm : mz_ Y v) (hp : ∀ e, e < 128 → le_ (v a) e → ∀ Y', mz_ Y' v → mf_ Y Y' → Y' 23 3 = nI 0 → Post (some (.int (nI e))) X Y') : pw_Met l g mM_perfect [.ref (ad_ g 23), .int (nI a)] X Y Post := by
  refine pw_ofW (by decide +kernel) rfl (Nat.le_of_ble_eq_true rfl) rfl (fun sz => ?_)
  refine px_aload_n (q := 1) dI_M_perfect_0 rfl rfl ?_
  refine px_iload_n (q := 2) dI_M_perfect_1 rfl rfl ?_
  refine px_callS1 (q := 5) (ν := mM_none) dI_M_perfect_2 wl_M_23 ws_M_none wb_M_none wi_M ⟨rfl, rfl⟩ (by decide +kernel) ⟨(Nat.le_of_ble_eq_true rfl), (Nat.le_of_ble_eq_true rfl)⟩ (Nat.le_of_ble_eq_true rfl) rfl (c_M_noneG ha ?_)
  refine px_iconst (q := 6) (v := nI 1) dI_M_perfect_5 (by decide +kernel) rfl ?_
  refine px_callV2 (q := 9) (ν := mM_refused) dI_M_perfect_6 (by decide) rfl rfl wl_M_27 wm_M_refused wv_M_refused wb_M_refused wi_M ⟨rfl, rfl⟩ (by decide +kernel) ⟨(Nat.le_of_ble_eq_true rfl), (Nat.le_of_ble_eq_true rfl)⟩ (Nat.le_of_ble_eq_true rfl) rfl (c_M_refused (by decide) (fun f hf => ?_))
  have hm1 := mz_c (f := f) hm
  have hmf1 : mf_ Y (yr_ Y 23 f) := mf_y (by decide) mf_0
  have hc1 : yr_ Y 23 f 23 3 = nI 0 := by rw [yr_s, hf]; rfl
  generalize yr_ Y 23 f = Y1 at hm1 hmf1 hc1
  refine px_if_eqN (q := 12) (tgt := 14) dI_M_perfect_9 (by omega) (by decide) rfl (fun b9 => ?_) (fun b9 => ?_)
  · refine px_aload_n (q := 15) dI_M_perfect_14 rfl rfl ?_
    refine px_iload_n (q := 16) dI_M_perfect_15 rfl rfl ?_
    refine px_callV1 (q := 19) (ν := mM_bitsOf) dI_M_perfect_16 (by decide) rfl rfl wl_M_75 wm_M_bitsOf wv_M_bitsOf wb_M_bitsOf wi_M ⟨rfl, rfl⟩ (by decide +kernel) ⟨(Nat.le_of_ble_eq_true rfl), (Nat.le_of_ble_eq_true rfl)⟩ (Nat.le_of_ble_eq_true rfl) rfl (c_M_bitsOf ha hm1.1 (fun T hT hbl => ?_))
    refine px_istore_n (q := 20) dI_M_perfect_19 rfl (by decide) rfl rfl ?_
    refine px_iload_n (q := 21) dI_M_perfect_20 rfl rfl ?_
    refine px_iconst (q := 22) (v := nI 2) dI_M_perfect_21 (by decide +kernel) rfl ?_
    refine px_icmp_geN (q := 25) (tgt := 27) dI_M_perfect_22 (by omega) (by omega) (by decide) rfl (fun b22 => ?_) (fun b22 => ?_)
    · obtain ⟨W0, hwk⟩ := hm1.2
      refine px_aload_n (q := 28) dI_M_perfect_27 rfl rfl ?_
      refine px_iconst (q := 29) (v := nI 0) dI_M_perfect_28 (by decide +kernel) rfl ?_
      refine px_iload_n (q := 30) dI_M_perfect_29 rfl rfl ?_
      refine px_callV2 (q := 33) (ν := mM_load) dI_M_perfect_30 (by decide) rfl rfl wl_M_31 wm_M_load wv_M_load wb_M_load wi_M ⟨rfl, rfl⟩ (by decide +kernel) ⟨(Nat.le_of_ble_eq_true rfl), (Nat.le_of_ble_eq_true rfl)⟩ (Nat.le_of_ble_eq_true rfl) rfl (c_M_load (w := 0) (by decide) ha hwk hm1.1 (fun f2 hf2 => ?_))
      refine px_iconst (q := 34) (v := nI 2) dI_M_perfect_33 (by decide +kernel) rfl ?_
      refine px_istore_n (q := 35) dI_M_perfect_34 rfl (by decide) rfl rfl ?_
      have hv := (hm1.1 a ha).1
      have hv0 : 0 < v a := Nat.lt_of_lt_of_le (p2_ (T - 1)) (hbl.2 (by omega))
      have key : ∀ (d k : Nat) (f : Nat → Int32) (W' : Nat → Nat), k + d = T → 2 ≤ k → wk_ f W' → W' 0 = v a → (∀ j, 2 ≤ j → j < k → ¬ ∃ r, r ^ j = v a) → pw_W l g mM_perfect sz (pw_qM g sz Post 0 0) 35 [(0, .ref (ad_ g 23)), (1, .int (nI a)), (2, .int (nI T)), (3, .int (nI k))] [] X (yr_ Y1 25 f) := by
        intro d
        induction d with
        | zero =>
          intro k f W' hk h2 hf q0 hn
          refine px_iload_n (q := 36) dI_M_perfect_35 rfl rfl ?_
          refine px_iload_n (q := 37) dI_M_perfect_36 rfl rfl ?_
          refine px_icmp_geN (q := 40) (tgt := 56) dI_M_perfect_37 (by omega) (by omega) (by decide) rfl (fun b37 => ?_) (fun b37 => ?_)
          · refine px_iconst (q := 57) (v := nI 0) dI_M_perfect_56 (by decide +kernel) rfl ?_
            refine px_iret dI_M_perfect_57 rfl ?_
            exact hp 0 (by decide) (le_none hT hbl (fun j a1 a2 => hn j a1 (by omega))) _ (mz_w hm1 hf) (mf_y (by decide) hmf1) (by rw [yr_n (by decide)]; exact hc1)
          · omega
        | succ d ih =>
          intro k f W' hk h2 hf q0 hn
          refine px_iload_n (q := 36) dI_M_perfect_35 rfl rfl ?_
          refine px_iload_n (q := 37) dI_M_perfect_36 rfl rfl ?_
          refine px_icmp_geN (q := 40) (tgt := 56) dI_M_perfect_37 (by omega) (by omega) (by decide) rfl (fun b37 => ?_) (fun b37 => ?_)
          · omega
          · refine px_aload_n (q := 41) dI_M_perfect_40 rfl rfl ?_
            refine px_iload_n (q := 42) dI_M_perfect_41 rfl rfl ?_
            refine px_callV1 (q := 45) (ν := mM_isPower) dI_M_perfect_42 (by decide) rfl rfl wl_M_87 wm_M_isPower wv_M_isPower wb_M_isPower wi_M ⟨rfl, rfl⟩ (by decide +kernel) ⟨(Nat.le_of_ble_eq_true rfl), (Nat.le_of_ble_eq_true rfl)⟩ (Nat.le_of_ble_eq_true rfl) rfl (c_M_isPower h2 (by omega) (by rw [yr_s]; exact hf) (by rw [q0]; exact hv) (by rw [q0]; exact hv0) (fun hr f3 W3 hf3 r0 => ?_) (fun hr f3 W3 hf3 r0 => ?_))
            · rw [yr_yr]
              rw [q0] at hr
              refine px_if_eqN (q := 48) (tgt := 50) dI_M_perfect_45 (by omega) (by decide) rfl (fun b45 => ?_) (fun b45 => ?_)
              · exact absurd b45 (by decide)
              · refine px_iload_n (q := 49) dI_M_perfect_48 rfl rfl ?_
                refine px_iret dI_M_perfect_49 rfl ?_
                exact hp k (by omega) (le_some hT hbl h2 (by omega) hr hn) _ (mz_w hm1 hf3) (mf_y (by decide) hmf1) (by rw [yr_n (by decide)]; exact hc1)
            · rw [yr_yr]
              rw [q0] at hr
              refine px_if_eqN (q := 48) (tgt := 50) dI_M_perfect_45 (by omega) (by decide) rfl (fun b45 => ?_) (fun b45 => ?_)
              · refine px_iinc (q := 53) dI_M_perfect_50 rfl (ic_1 _) (by decide) rfl rfl ?_
                refine px_goto (tgt := 35) dI_M_perfect_53 (by decide) ?_
                refine ih (k + 1) f3 W3 (by omega) (by omega) hf3 (by rw [r0]; exact q0) (fun j a1 a2 => ?_)
                by_cases e : j = k
                · rw [e]; exact hr
                · exact hn j a1 (by omega)
              · exact absurd rfl b45
      exact key (T - 2) 2 f2 _ (by omega) (by omega) hf2 (va_up_self _ _ _) (fun j a1 a2 => absurd a1 (by omega))
    · refine px_iconst (q := 26) (v := nI 0) dI_M_perfect_25 (by decide +kernel) rfl ?_
      refine px_iret dI_M_perfect_26 rfl ?_
      exact hp 0 (by decide) (le_none hT hbl (fun j a1 a2 => absurd a1 (by omega))) _ hm1 hmf1 hc1
  · exact absurd rfl b9
end CMP
