/-! the reference: division, product by a modulus -/
section CM3
variable {l : Launch} {g : pw_G} {X : pw_X} {Y : pw_Y} {Post : pw_P} {W v : Nat → Nat}
theorem sp_1 {p b B : Nat} (hB : 0 < B) (hb : b < 2) (h : B ≤ 2 * (p % B) + b) : (2 * p + b) / B = 2 * (p / B) + 1 ∧ (2 * p + b) % B = 2 * (p % B) + b - B := by
  have h1 := Nat.div_add_mod p B
  have h2 := Nat.mod_lt p hB
  generalize p % B = r at h h1 h2 ⊢
  generalize p / B = q at h1 ⊢
  have h3 : 2 * p + b = (2 * r + b - B) + B * (2 * q + 1) := by
    rw [Nat.mul_add, Nat.mul_left_comm, ← h1]; omega
  rw [h3, Nat.add_mul_div_left _ _ hB, Nat.add_mul_mod_self_left, Nat.div_eq_of_lt (by omega), Nat.mod_eq_of_lt (by omega)]
  omega
theorem sp_0 {p b B : Nat} (hB : 0 < B) (h : 2 * (p % B) + b < B) : (2 * p + b) / B = 2 * (p / B) ∧ (2 * p + b) % B = 2 * (p % B) + b := by
  have h1 := Nat.div_add_mod p B
  generalize p % B = r at h h1 ⊢
  generalize p / B = q at h1 ⊢
  have h3 : 2 * p + b = (2 * r + b) + B * (2 * q) := by
    rw [Nat.mul_left_comm, ← h1]; omega
  rw [h3, Nat.add_mul_div_left _ _ hB, Nat.add_mul_mod_self_left, Nat.div_eq_of_lt h, Nat.mod_eq_of_lt h]
  omega
theorem am_ {m x N : Nat} (hx : x < N) : (m + x) % N = if N ≤ m % N + x then m % N + x - N else m % N + x := by
  have h2 := Nat.mod_lt m (by omega : 0 < N)
  rw [← Nat.mod_add_mod]
  generalize m % N = r at h2 ⊢
  split
  · rename_i q
    rw [Nat.mod_eq_sub_mod q, Nat.mod_eq_of_lt (by omega)]
  · exact Nat.mod_eq_of_lt (by omega)
theorem wk_v {f : Nat → Int32} {i : Nat} (h : wk_ f W) (hi : i < 6) : W i < 2 ^ 129 := (h i hi).1
theorem c_M_split {x y : Nat} (hx : x < 6) (hy : y < 6) (hx3 : x ≠ 3) (hx4 : x ≠ 4) (hy3 : y ≠ 3) (hy4 : y ≠ 4) (hk : wk_ (Y 25) W) (hB0 : 0 < W y) (hB : W y < 2 ^ 128)
    (hp : ∀ f W', wk_ f W' → W' 3 = W x / W y → W' 4 = W x % W y → (∀ i, i ≠ 3 → i ≠ 4 → W' i = W i) → Post none X (yr_ Y 25 f)) : pw_Met l g mM_split [.ref (ad_ g 23), .int (nI x), .int (nI y)] X Y Post := by
  have hA := wk_v hk hx
  refine pw_ofW (by decide +kernel) rfl (Nat.le_of_ble_eq_true rfl) rfl (fun sz => ?_)
  refine px_aload_n (q := 1) dI_M_split_0 rfl rfl ?_
  refine px_iconst (q := 2) (v := nI 3) dI_M_split_1 (by decide +kernel) rfl ?_
  refine px_callV1 (q := 5) (ν := mM_clear) dI_M_split_2 (by decide) rfl rfl wl_M_52 wm_M_clear wv_M_clear wb_M_clear wi_M ⟨rfl, rfl⟩ (by decide +kernel) ⟨(Nat.le_of_ble_eq_true rfl), (Nat.le_of_ble_eq_true rfl)⟩ (Nat.le_of_ble_eq_true rfl) rfl (c_M_clear (by decide) hk (fun f1 hk1 => ?_))
  refine px_aload_n (q := 6) dI_M_split_5 rfl rfl ?_
  refine px_iconst (q := 7) (v := nI 4) dI_M_split_6 (by decide +kernel) rfl ?_
  refine px_callV1 (q := 10) (ν := mM_clear) dI_M_split_7 (by decide) rfl rfl wl_M_52 wm_M_clear wv_M_clear wb_M_clear wi_M ⟨rfl, rfl⟩ (by decide +kernel) ⟨(Nat.le_of_ble_eq_true rfl), (Nat.le_of_ble_eq_true rfl)⟩ (Nat.le_of_ble_eq_true rfl) rfl (c_M_clear (by decide) (by rw [yr_s]; exact hk1) (fun f2 hk2 => ?_))
  rw [yr_yr]
  refine px_sipush (q := 13) (v := nI 128) dI_M_split_10 (by decide +kernel) rfl ?_
  refine px_istore_n (q := 14) dI_M_split_13 rfl (by decide) rfl rfl ?_
  have key : ∀ (K : Nat) (f : Nat → Int32) (W' : Nat → Nat), K ≤ 129 → wk_ f W' → W' 3 = W x / 2 ^ K / W y → W' 4 = W x / 2 ^ K % W y → (∀ i, i ≠ 3 → i ≠ 4 → W' i = W i) → pw_W l g mM_split sz (pw_qM g sz Post 0 0) 14 [(0, .ref (ad_ g 23)), (1, .int (nI x)), (2, .int (nI y)), (3, .int (mI K))] [] X (yr_ Y 25 f) := by
    intro K
    induction K with
    | zero =>
      intro f W' hK hf q3 q4 qo
      rw [Nat.pow_zero, Nat.div_one] at q3 q4
      refine px_iload_n (q := 15) dI_M_split_14 rfl rfl ?_
      refine px_if_ltM (q := 18) (tgt := 100) dI_M_split_15 (by omega) (by decide) rfl (fun b15 => ?_) (fun b15 => ?_)
      · refine px_vret dI_M_split_100 rfl ?_
        exact hp f W' hf q3 q4 qo
      · omega
    | succ K ih =>
      intro f W' hK hf q3 q4 qo
      have hbit := (hf x hx).2 K (by omega)
      rw [qo x hx3 hx4] at hbit
      have hb2 : W x / 2 ^ K % 2 < 2 := Nat.mod_lt _ (by decide)
      have hpre : W x / 2 ^ K = 2 * (W x / 2 ^ (K + 1)) + W x / 2 ^ K % 2 := hi_eq (B := 0)
      have hr : W' 4 < W y := by rw [q4]; exact Nat.mod_lt _ hB0
      have hq : W' 3 < 2 ^ 128 := by
        rw [q3]
        refine Nat.lt_of_le_of_lt (Nat.div_le_self _ _) (Nat.div_lt_of_lt_mul (Nat.lt_of_lt_of_le hA ?_))
        rw [← Nat.pow_add]
        exact Nat.pow_le_pow_right (by decide) (by omega)
      generalize hbe : W x / 2 ^ K % 2 = bt at hbit hb2 hpre
      generalize hpe : W x / 2 ^ (K + 1) = pr at q3 q4 hpre
      rw [mI_s]
      refine px_iload_n (q := 15) dI_M_split_14 rfl rfl ?_
      refine px_if_ltN (q := 18) (tgt := 100) dI_M_split_15 (by omega) (by decide) rfl (fun b15 => ?_) (fun b15 => ?_)
      · exact b15.elim
      · refine px_aload_n (q := 19) dI_M_split_18 rfl rfl ?_
        refine px_iconst (q := 20) (v := nI 4) dI_M_split_19 (by decide +kernel) rfl ?_
        refine px_aload_n (q := 21) dI_M_split_20 rfl rfl ?_
        refine px_getM (q := 24) (j := 1) dI_M_split_21 wf_M_13 rfl (by decide) rfl rfl ?_
        refine px_sipush (q := 27) (v := nI 129) dI_M_split_24 (by decide +kernel) rfl ?_
        refine px_iload_n (q := 28) dI_M_split_27 rfl rfl ?_
        refine px_imulN (q := 29) dI_M_split_28 rfl ?_
        refine px_iload_n (q := 30) dI_M_split_29 rfl rfl ?_
        refine px_iaddN (q := 31) dI_M_split_30 rfl ?_
        refine px_iald (q := 32) dI_M_split_31 rfl (by omega) (by omega) (ys_ hbit) rfl ?_
        refine px_callV2 (q := 35) (ν := mM_twice) dI_M_split_32 (by decide) rfl rfl wl_M_56 wm_M_twice wv_M_twice wb_M_twice wi_M ⟨rfl, rfl⟩ (by decide +kernel) ⟨(Nat.le_of_ble_eq_true rfl), (Nat.le_of_ble_eq_true rfl)⟩ (Nat.le_of_ble_eq_true rfl) rfl (c_M_twice (w := 4) (by decide) hb2 (by rw [yr_s]; exact hf) (fun hlt f3 hf3 => ?_) (fun hge => absurd (Nat.lt_trans hr hB) (Nat.not_lt.mpr hge)))
        rw [yr_yr]
        refine px_istore (q := 37) dI_M_split_35 (by decide) rfl rfl ?_
        have v4 : va_up W' 4 (2 * W' 4 + bt) 4 = 2 * W' 4 + bt := va_up_self _ _ _
        have vy : va_up W' 4 (2 * W' 4 + bt) y = W y := by rw [va_up_ne _ _ hy4]; exact qo y hy3 hy4
        have v3 : va_up W' 4 (2 * W' 4 + bt) 3 = W' 3 := va_up_ne _ _ (by decide)
        have hm1 : ∀ (f4 : Nat → Int32) (W4 : Nat → Nat), wk_ f4 W4 → W4 3 = W' 3 → W4 4 = W x / 2 ^ K % W y → (∀ i, i ≠ 3 → i ≠ 4 → W4 i = W i) → ∀ mr, mr < 2 → 2 * W' 3 + mr = W x / 2 ^ K / W y → pw_W l g mM_split sz (pw_qM g sz Post 0 0) 64 [(0, .ref (ad_ g 23)), (1, .int (nI x)), (2, .int (nI y)), (3, .int (nI K)), (4, .int (nI 1)), (5, .int (nI mr))] [] X (yr_ Y 25 f4) := by
          intro f4 W4 hf4 w3 w4 wo mr hmr hqq
          have fin : pw_W l g mM_split sz (pw_qM g sz Post 0 0) 81 [(0, .ref (ad_ g 23)), (1, .int (nI x)), (2, .int (nI y)), (3, .int (nI K)), (4, .int (nI 1)), (5, .int (nI mr))] [.int (nI mr), .int (nI 3), .ref (ad_ g 23)] X (yr_ Y 25 f4) := by
            refine px_callV2 (q := 84) (ν := mM_twice) dI_M_split_81 (by decide) rfl rfl wl_M_56 wm_M_twice wv_M_twice wb_M_twice wi_M ⟨rfl, rfl⟩ (by decide +kernel) ⟨(Nat.le_of_ble_eq_true rfl), (Nat.le_of_ble_eq_true rfl)⟩ (Nat.le_of_ble_eq_true rfl) rfl (c_M_twice (w := 3) (by decide) hmr (by rw [yr_s]; exact hf4) (fun hlt5 f5 hf5 => ?_) (fun hge => absurd (by rw [w3]; exact hq) (Nat.not_lt.mpr hge)))
            rw [yr_yr]
            refine px_if_eqN (q := 87) (tgt := 91) dI_M_split_84 (by omega) (by decide) rfl (fun b84 => ?_) (fun b84 => ?_)
            · exact absurd b84 (by decide)
            · refine px_iconst (q := 88) (v := nI 1) dI_M_split_87 (by decide +kernel) rfl ?_
              refine px_goto (tgt := 92) dI_M_split_88 (by decide) ?_
              refine px_istore (q := 94) dI_M_split_92 (by decide) rfl rfl ?_
              refine px_iinc (q := 97) dI_M_split_94 rfl (ic_m _) (by decide) rfl rfl ?_
              refine px_goto (tgt := 14) dI_M_split_97 (by decide) ?_
              refine px_keep [0, 1, 2, 3] rfl ?_
              refine ih f5 _ (by omega) hf5 ?_ ?_ (fun i a1 a2 => ?_)
              · rw [va_up_self, w3]; exact hqq
              · rw [va_up_ne _ _ (by decide)]; exact w4
              · rw [va_up_ne _ _ a1]; exact wo i a1 a2
          refine px_iload (q := 66) dI_M_split_64 rfl rfl ?_
          refine px_if_eqN (q := 69) (tgt := 91) dI_M_split_66 (by omega) (by decide) rfl (fun b66 => ?_) (fun b66 => ?_)
          · exact absurd b66 (by decide)
          · rcases (show mr = 0 ∨ mr = 1 by omega) with rfl | rfl
            · refine px_aload_n (q := 70) dI_M_split_69 rfl rfl ?_
              refine px_iconst (q := 71) (v := nI 3) dI_M_split_70 (by decide +kernel) rfl ?_
              refine px_iload (q := 73) dI_M_split_71 rfl rfl ?_
              refine px_if_eqN (q := 76) (tgt := 80) dI_M_split_73 (by omega) (by decide) rfl (fun b73 => ?_) (fun b73 => ?_)
              · refine px_iconst (q := 81) (v := nI 0) dI_M_split_80 (by decide +kernel) rfl ?_
                exact fin
              · exact absurd rfl b73
            · refine px_aload_n (q := 70) dI_M_split_69 rfl rfl ?_
              refine px_iconst (q := 71) (v := nI 3) dI_M_split_70 (by decide +kernel) rfl ?_
              refine px_iload (q := 73) dI_M_split_71 rfl rfl ?_
              refine px_if_eqN (q := 76) (tgt := 80) dI_M_split_73 (by omega) (by decide) rfl (fun b73 => ?_) (fun b73 => ?_)
              · exact absurd b73 (by decide)
              · refine px_iconst (q := 77) (v := nI 1) dI_M_split_76 (by decide +kernel) rfl ?_
                refine px_goto (tgt := 81) dI_M_split_77 (by decide) ?_
                exact fin
        have hsub : W y ≤ 2 * W' 4 + bt → pw_W l g mM_split sz (pw_qM g sz Post 0 0) 51 [(0, .ref (ad_ g 23)), (1, .int (nI x)), (2, .int (nI y)), (3, .int (nI K)), (4, .int (nI 1))] [.int (nI 1)] X (yr_ Y 25 f3) := by
          intro hge
          rw [q4] at hge
          obtain ⟨s1, s2⟩ := sp_1 hB0 hb2 hge
          rw [← hpre] at s1 s2
          refine px_istore (q := 53) dI_M_split_51 (by decide) rfl rfl ?_
          refine px_iload (q := 55) dI_M_split_53 rfl rfl ?_
          refine px_if_eqN (q := 58) (tgt := 64) dI_M_split_55 (by omega) (by decide) rfl (fun b55 => ?_) (fun b55 => ?_)
          · exact absurd b55 (by decide)
          · refine px_aload_n (q := 59) dI_M_split_58 rfl rfl ?_
            refine px_iconst (q := 60) (v := nI 4) dI_M_split_59 (by decide +kernel) rfl ?_
            refine px_iload_n (q := 61) dI_M_split_60 rfl rfl ?_
            refine px_callV2 (q := 64) (ν := mM_minus) dI_M_split_61 (by decide) rfl rfl wl_M_49 wm_M_minus wv_M_minus wb_M_minus wi_M ⟨rfl, rfl⟩ (by decide +kernel) ⟨(Nat.le_of_ble_eq_true rfl), (Nat.le_of_ble_eq_true rfl)⟩ (Nat.le_of_ble_eq_true rfl) rfl (c_M_minus (w := 4) (x := y) (by decide) hy (Ne.symm hy4) (by rw [yr_s]; exact hf3) (by rw [v4, vy, q4]; exact hge) (fun f6 hf6 => ?_))
            rw [yr_yr]
            rw [v4, vy] at hf6
            refine hm1 f6 _ hf6 ?_ ?_ (fun i a1 a2 => ?_) 1 (by decide) ?_
            · rw [va_up_ne _ _ (by decide)]; exact v3
            · rw [va_up_self, s2, q4]
            · rw [va_up_ne _ _ a2, va_up_ne _ _ a2]; exact qo i a1 a2
            · rw [s1, q3]
        have hno : 2 * W' 4 + bt < W y → pw_W l g mM_split sz (pw_qM g sz Post 0 0) 51 [(0, .ref (ad_ g 23)), (1, .int (nI x)), (2, .int (nI y)), (3, .int (nI K)), (4, .int (nI 1))] [.int (nI 0)] X (yr_ Y 25 f3) := by
          intro hlt7
          rw [q4] at hlt7
          obtain ⟨s1, s2⟩ := sp_0 hB0 hlt7
          rw [← hpre] at s1 s2
          refine px_istore (q := 53) dI_M_split_51 (by decide) rfl rfl ?_
          refine px_iload (q := 55) dI_M_split_53 rfl rfl ?_
          refine px_if_eqN (q := 58) (tgt := 64) dI_M_split_55 (by omega) (by decide) rfl (fun b55 => ?_) (fun b55 => ?_)
          · refine hm1 f3 _ hf3 v3 ?_ (fun i a1 a2 => ?_) 0 (by decide) ?_
            · rw [v4, s2, q4]
            · rw [va_up_ne _ _ a2]; exact qo i a1 a2
            · rw [s1, q3]; rfl
          · exact absurd rfl b55
        refine px_aload_n (q := 38) dI_M_split_37 rfl rfl ?_
        refine px_iconst (q := 39) (v := nI 4) dI_M_split_38 (by decide +kernel) rfl ?_
        refine px_iload_n (q := 40) dI_M_split_39 rfl rfl ?_
        refine px_callV2 (q := 43) (ν := mM_against) dI_M_split_40 (by decide) rfl rfl wl_M_45 wm_M_against wv_M_against wb_M_against wi_M ⟨rfl, rfl⟩ (by decide +kernel) ⟨(Nat.le_of_ble_eq_true rfl), (Nat.le_of_ble_eq_true rfl)⟩ (Nat.le_of_ble_eq_true rfl) rfl (c_M_against (x := 4) (y := y) (by decide) hy (by rw [yr_s]; exact hf3) (fun z => ?_) (fun z => ?_) (fun z => ?_))
        · rw [v4, vy] at z
          refine px_if_lt (q := 46) (tgt := 50) dI_M_split_43 (by decide) rfl (fun b43 => ?_) (fun b43 => ?_)
          · refine px_iconst (q := 51) (v := nI 0) dI_M_split_50 (by decide +kernel) rfl ?_
            exact hno z
          · exact absurd (by decide) b43
        · rw [v4, vy] at z
          refine px_if_ltN (q := 46) (tgt := 50) dI_M_split_43 (by omega) (by decide) rfl (fun b43 => ?_) (fun b43 => ?_)
          · exact b43.elim
          · refine px_iconst (q := 47) (v := nI 1) dI_M_split_46 (by decide +kernel) rfl ?_
            refine px_goto (tgt := 51) dI_M_split_47 (by decide) ?_
            exact hsub (Nat.le_of_eq z.symm)
        · rw [v4, vy] at z
          refine px_if_ltN (q := 46) (tgt := 50) dI_M_split_43 (by omega) (by decide) rfl (fun b43 => ?_) (fun b43 => ?_)
          · exact b43.elim
          · refine px_iconst (q := 47) (v := nI 1) dI_M_split_46 (by decide +kernel) rfl ?_
            refine px_goto (tgt := 51) dI_M_split_47 (by decide) ?_
            exact hsub (Nat.le_of_lt z)
  refine key 129 f2 _ (by omega) hk2 ?_ ?_ (fun i a1 a2 => ?_)
  · rw [va_up_ne _ _ (by decide), va_up_self, Nat.div_eq_of_lt hA, Nat.zero_div]
  · rw [va_up_self, Nat.div_eq_of_lt hA, Nat.zero_mod]
  · rw [va_up_ne _ _ a2, va_up_ne _ _ a1]
theorem c_M_times {x : Nat} (hx : x = 0 ∨ x = 3) (hk : wk_ (Y 25) W) (hN : W 1 < 2 ^ 128) (hxN : W x < W 1)
    (hp : ∀ f W', wk_ f W' → W' 2 = W 2 * W x % W 1 → (∀ i, i ≠ 2 → i ≠ 5 → W' i = W i) → Post none X (yr_ Y 25 f)) : pw_Met l g mM_times [.ref (ad_ g 23), .int (nI x)] X Y Post := by
  have hx6 : x < 6 := by omega
  have hx5 : x ≠ 5 := by omega
  have hp129 : 2 ^ 129 = 2 * 2 ^ 128 := by decide
  refine pw_ofW (by decide +kernel) rfl (Nat.le_of_ble_eq_true rfl) rfl (fun sz => ?_)
  refine px_aload_n (q := 1) dI_M_times_0 rfl rfl ?_
  refine px_iconst (q := 2) (v := nI 5) dI_M_times_1 (by decide +kernel) rfl ?_
  refine px_callV1 (q := 5) (ν := mM_clear) dI_M_times_2 (by decide) rfl rfl wl_M_52 wm_M_clear wv_M_clear wb_M_clear wi_M ⟨rfl, rfl⟩ (by decide +kernel) ⟨(Nat.le_of_ble_eq_true rfl), (Nat.le_of_ble_eq_true rfl)⟩ (Nat.le_of_ble_eq_true rfl) rfl (c_M_clear (w := 5) (by decide) hk (fun f1 hk1 => ?_))
  refine px_aload_n (q := 6) dI_M_times_5 rfl rfl ?_
  refine px_iconst (q := 7) (v := nI 2) dI_M_times_6 (by decide +kernel) rfl ?_
  refine px_callV1 (q := 10) (ν := mM_top) dI_M_times_7 (by decide) rfl rfl wl_M_65 wm_M_top wv_M_top wb_M_top wi_M ⟨rfl, rfl⟩ (by decide +kernel) ⟨(Nat.le_of_ble_eq_true rfl), (Nat.le_of_ble_eq_true rfl)⟩ (Nat.le_of_ble_eq_true rfl) rfl (c_M_top (w := 2) (by decide) (by rw [yr_s]; exact hk1) (fun T hT hbl => ?_))
  rw [va_up_ne _ _ (by decide)] at hbl
  have key : ∀ (K : Nat) (f : Nat → Int32) (W' : Nat → Nat), K ≤ 129 → wk_ f W' → W' 5 = W 2 / 2 ^ K * W x % W 1 → (∀ i, i ≠ 5 → W' i = W i) → pw_W l g mM_times sz (pw_qM g sz Post 0 0) 13 [(0, .ref (ad_ g 23)), (1, .int (nI x)), (3, .int (mI K))] [] X (yr_ Y 25 f) := by
    intro K
    induction K with
    | zero =>
      intro f W' hK hf q5 qo
      rw [Nat.pow_zero, Nat.div_one] at q5
      refine px_iload_n (q := 14) dI_M_times_13 rfl rfl ?_
      refine px_if_ltM (q := 17) (tgt := 83) dI_M_times_14 (by omega) (by decide) rfl (fun b14 => ?_) (fun b14 => ?_)
      · refine px_aload_n (q := 84) dI_M_times_83 rfl rfl ?_
        refine px_iconst (q := 85) (v := nI 2) dI_M_times_84 (by decide +kernel) rfl ?_
        refine px_iconst (q := 86) (v := nI 5) dI_M_times_85 (by decide +kernel) rfl ?_
        refine px_callV2 (q := 89) (ν := mM_copy) dI_M_times_86 (by decide) rfl rfl wl_M_69 wm_M_copy wv_M_copy wb_M_copy wi_M ⟨rfl, rfl⟩ (by decide +kernel) ⟨(Nat.le_of_ble_eq_true rfl), (Nat.le_of_ble_eq_true rfl)⟩ (Nat.le_of_ble_eq_true rfl) rfl (c_M_copy (w := 2) (x := 5) (by decide) (by decide) (by decide) (by rw [yr_s]; exact hf) (fun f2 hf2 => ?_))
        refine px_vret dI_M_times_89 rfl ?_
        rw [yr_yr]
        refine hp f2 _ hf2 (by rw [va_up_self]; exact q5) (fun i a1 a2 => by rw [va_up_ne _ _ a1]; exact qo i a2)
      · omega
    | succ K ih =>
      intro f W' hK hf q5 qo
      have hbit := (hf 2 (by decide)).2 K (by omega)
      rw [qo 2 (by decide)] at hbit
      have hb2 : W 2 / 2 ^ K % 2 < 2 := Nat.mod_lt _ (by decide)
      have hpre : W 2 / 2 ^ K = 2 * (W 2 / 2 ^ (K + 1)) + W 2 / 2 ^ K % 2 := hi_eq (B := 0)
      have hN0 : 0 < W 1 := by omega
      have hr : W' 5 < W 1 := by rw [q5]; exact Nat.mod_lt _ hN0
      have e1 : W' 1 = W 1 := qo 1 (by decide)
      have e2 : 2 * (W 2 / 2 ^ (K + 1)) * W x = 2 * (W 2 / 2 ^ (K + 1) * W x) + 0 := by rw [Nat.mul_assoc]; rfl
      generalize hbe : W 2 / 2 ^ K % 2 = bt at hbit hb2 hpre
      rw [mI_s]
      refine px_iload_n (q := 14) dI_M_times_13 rfl rfl ?_
      refine px_if_ltN (q := 17) (tgt := 83) dI_M_times_14 (by omega) (by decide) rfl (fun b14 => ?_) (fun b14 => ?_)
      · exact b14.elim
      · refine px_aload_n (q := 18) dI_M_times_17 rfl rfl ?_
        refine px_iconst (q := 19) (v := nI 5) dI_M_times_18 (by decide +kernel) rfl ?_
        refine px_iconst (q := 20) (v := nI 0) dI_M_times_19 (by decide +kernel) rfl ?_
        refine px_callV2 (q := 23) (ν := mM_twice) dI_M_times_20 (by decide) rfl rfl wl_M_56 wm_M_twice wv_M_twice wb_M_twice wi_M ⟨rfl, rfl⟩ (by decide +kernel) ⟨(Nat.le_of_ble_eq_true rfl), (Nat.le_of_ble_eq_true rfl)⟩ (Nat.le_of_ble_eq_true rfl) rfl (c_M_twice (w := 5) (by decide) (by decide) (by rw [yr_s]; exact hf) (fun hlt f3 hf3 => ?_) (fun hge => absurd (Nat.lt_trans hr hN) (Nat.not_lt.mpr hge)))
        rw [yr_yr]
        rw [Nat.add_zero] at hf3
        refine px_istore (q := 25) dI_M_times_23 (by decide) rfl rfl ?_
        have v5 : va_up W' 5 (2 * W' 5) 5 = 2 * W' 5 := va_up_self _ _ _
        have v1 : va_up W' 5 (2 * W' 5) 1 = W 1 := by rw [va_up_ne _ _ (by decide)]; exact e1
        have c40 : ∀ (f4 : Nat → Int32) (W4 : Nat → Nat), wk_ f4 W4 → W4 5 = 2 * (W 2 / 2 ^ (K + 1)) * W x % W 1 → (∀ i, i ≠ 5 → W4 i = W i) → pw_W l g mM_times sz (pw_qM g sz Post 0 0) 40 [(0, .ref (ad_ g 23)), (1, .int (nI x)), (3, .int (nI K)), (4, .int (nI 1))] [] X (yr_ Y 25 f4) := by
          intro f4 W4 hf4 w5 wo
          have hr4 : W4 5 < W 1 := by rw [w5]; exact Nat.mod_lt _ hN0
          have hbit4 := (hf4 2 (by decide)).2 K (by omega)
          rw [wo 2 (by decide), hbe] at hbit4
          refine px_aload_n (q := 41) dI_M_times_40 rfl rfl ?_
          refine px_getM (q := 44) (j := 1) dI_M_times_41 wf_M_13 rfl (by decide) rfl rfl ?_
          refine px_sipush (q := 47) (v := nI 258) dI_M_times_44 (by decide +kernel) rfl ?_
          refine px_iload_n (q := 48) dI_M_times_47 rfl rfl ?_
          refine px_iaddN (q := 49) dI_M_times_48 rfl ?_
          refine px_iald (q := 50) dI_M_times_49 rfl (by omega) (by omega) (ys_ hbit4) rfl ?_
          refine px_iconst (q := 51) (v := nI 1) dI_M_times_50 (by decide +kernel) rfl ?_
          refine px_icmp_neN (q := 54) (tgt := 77) dI_M_times_51 (by omega) (by omega) (by decide) rfl (fun b51 => ?_) (fun b51 => ?_)
          · refine px_iinc (q := 80) dI_M_times_77 rfl (ic_m _) (by decide) rfl rfl ?_
            refine px_goto (tgt := 13) dI_M_times_80 (by decide) ?_
            refine px_keep [0, 1, 3] rfl ?_
            refine ih f4 W4 (by omega) hf4 ?_ wo
            have hpre0 : W 2 / 2 ^ K = 2 * (W 2 / 2 ^ (K + 1)) := by omega
            rw [w5, hpre0]
          · subst b51
            have hst : pw_W l g mM_times sz (pw_qM g sz Post 0 0) 54 [(0, .ref (ad_ g 23)), (1, .int (nI x)), (3, .int (nI K)), (4, .int (nI 1))] [] X (yr_ Y 25 f4) := by
              refine px_aload_n (q := 55) dI_M_times_54 rfl rfl ?_
              refine px_iconst (q := 56) (v := nI 5) dI_M_times_55 (by decide +kernel) rfl ?_
              refine px_iload_n (q := 57) dI_M_times_56 rfl rfl ?_
              refine px_callV2 (q := 60) (ν := mM_plus) dI_M_times_57 (by decide) rfl rfl wl_M_35 wm_M_plus wv_M_plus wb_M_plus wi_M ⟨rfl, rfl⟩ (by decide +kernel) ⟨(Nat.le_of_ble_eq_true rfl), (Nat.le_of_ble_eq_true rfl)⟩ (Nat.le_of_ble_eq_true rfl) rfl (c_M_plus (w := 5) (x := x) (by decide) hx6 (Ne.symm hx5) (by rw [yr_s]; exact hf4) (fun hlt5 f5 hf5 => ?_) (fun hge => ?_))
              · rw [yr_yr]
                rw [wo x hx5] at hf5
                have u5 : va_up W4 5 (W4 5 + W x) 5 = W4 5 + W x := va_up_self _ _ _
                have u1 : va_up W4 5 (W4 5 + W x) 1 = W 1 := by rw [va_up_ne _ _ (by decide)]; exact wo 1 (by decide)
                have hval : W 2 / 2 ^ K * W x % W 1 = if W 1 ≤ W4 5 + W x then W4 5 + W x - W 1 else W4 5 + W x := by
                  rw [hpre, Nat.add_mul, Nat.one_mul, am_ hxN, ← w5]
                refine px_istore (q := 62) dI_M_times_60 (by decide) rfl rfl ?_
                have hsub : W 1 ≤ W4 5 + W x → pw_W l g mM_times sz (pw_qM g sz Post 0 0) 71 [(0, .ref (ad_ g 23)), (1, .int (nI x)), (3, .int (nI K)), (4, .int (nI 1))] [] X (yr_ Y 25 f5) := by
                  intro hge
                  rw [if_pos hge] at hval
                  refine px_aload_n (q := 72) dI_M_times_71 rfl rfl ?_
                  refine px_iconst (q := 73) (v := nI 5) dI_M_times_72 (by decide +kernel) rfl ?_
                  refine px_iconst (q := 74) (v := nI 1) dI_M_times_73 (by decide +kernel) rfl ?_
                  refine px_callV2 (q := 77) (ν := mM_minus) dI_M_times_74 (by decide) rfl rfl wl_M_49 wm_M_minus wv_M_minus wb_M_minus wi_M ⟨rfl, rfl⟩ (by decide +kernel) ⟨(Nat.le_of_ble_eq_true rfl), (Nat.le_of_ble_eq_true rfl)⟩ (Nat.le_of_ble_eq_true rfl) rfl (c_M_minus (w := 5) (x := 1) (by decide) (by decide) (by decide) (by rw [yr_s]; exact hf5) (by rw [u5, u1]; exact hge) (fun f6 hf6 => ?_))
                  rw [yr_yr]
                  rw [u5, u1] at hf6
                  refine px_iinc (q := 80) dI_M_times_77 rfl (ic_m _) (by decide) rfl rfl ?_
                  refine px_goto (tgt := 13) dI_M_times_80 (by decide) ?_
                  refine px_keep [0, 1, 3] rfl ?_
                  refine ih f6 _ (by omega) hf6 (by rw [va_up_self, hval]) (fun i a => by rw [va_up_ne _ _ a, va_up_ne _ _ a]; exact wo i a)
                refine px_aload_n (q := 63) dI_M_times_62 rfl rfl ?_
                refine px_iconst (q := 64) (v := nI 5) dI_M_times_63 (by decide +kernel) rfl ?_
                refine px_iconst (q := 65) (v := nI 1) dI_M_times_64 (by decide +kernel) rfl ?_
                refine px_callV2 (q := 68) (ν := mM_against) dI_M_times_65 (by decide) rfl rfl wl_M_45 wm_M_against wv_M_against wb_M_against wi_M ⟨rfl, rfl⟩ (by decide +kernel) ⟨(Nat.le_of_ble_eq_true rfl), (Nat.le_of_ble_eq_true rfl)⟩ (Nat.le_of_ble_eq_true rfl) rfl (c_M_against (x := 5) (y := 1) (by decide) (by decide) (by rw [yr_s]; exact hf5) (fun z => ?_) (fun z => ?_) (fun z => ?_))
                · rw [u5, u1] at z
                  rw [if_neg (Nat.not_le.mpr z)] at hval
                  refine px_if_lt (q := 71) (tgt := 77) dI_M_times_68 (by decide) rfl (fun b68 => ?_) (fun b68 => ?_)
                  · refine px_iinc (q := 80) dI_M_times_77 rfl (ic_m _) (by decide) rfl rfl ?_
                    refine px_goto (tgt := 13) dI_M_times_80 (by decide) ?_
                    refine px_keep [0, 1, 3] rfl ?_
                    refine ih f5 _ (by omega) hf5 (by rw [va_up_self, hval]) (fun i a => by rw [va_up_ne _ _ a]; exact wo i a)
                  · exact absurd (by decide) b68
                · rw [u5, u1] at z
                  refine px_if_ltN (q := 71) (tgt := 77) dI_M_times_68 (by omega) (by decide) rfl (fun b68 => ?_) (fun b68 => ?_)
                  · exact b68.elim
                  · exact hsub (Nat.le_of_eq z.symm)
                · rw [u5, u1] at z
                  refine px_if_ltN (q := 71) (tgt := 77) dI_M_times_68 (by omega) (by decide) rfl (fun b68 => ?_) (fun b68 => ?_)
                  · exact b68.elim
                  · exact hsub (Nat.le_of_lt z)
              · rw [wo x hx5, hp129] at hge
                exfalso
                generalize 2 ^ 128 = P at hge hN
                omega
            exact hst
        have hsub : W 1 ≤ 2 * W' 5 → pw_W l g mM_times sz (pw_qM g sz Post 0 0) 34 [(0, .ref (ad_ g 23)), (1, .int (nI x)), (3, .int (nI K)), (4, .int (nI 1))] [] X (yr_ Y 25 f3) := by
          intro hge
          refine px_aload_n (q := 35) dI_M_times_34 rfl rfl ?_
          refine px_iconst (q := 36) (v := nI 5) dI_M_times_35 (by decide +kernel) rfl ?_
          refine px_iconst (q := 37) (v := nI 1) dI_M_times_36 (by decide +kernel) rfl ?_
          refine px_callV2 (q := 40) (ν := mM_minus) dI_M_times_37 (by decide) rfl rfl wl_M_49 wm_M_minus wv_M_minus wb_M_minus wi_M ⟨rfl, rfl⟩ (by decide +kernel) ⟨(Nat.le_of_ble_eq_true rfl), (Nat.le_of_ble_eq_true rfl)⟩ (Nat.le_of_ble_eq_true rfl) rfl (c_M_minus (w := 5) (x := 1) (by decide) (by decide) (by decide) (by rw [yr_s]; exact hf3) (by rw [v5, v1]; exact hge) (fun f6 hf6 => ?_))
          rw [yr_yr]
          rw [v5, v1] at hf6
          refine c40 f6 _ hf6 ?_ (fun i a => by rw [va_up_ne _ _ a, va_up_ne _ _ a]; exact qo i a)
          rw [va_up_self, e2, (sp_1 hN0 (by decide) (by rw [← q5]; exact hge)).2, ← q5]
          rfl
        refine px_aload_n (q := 26) dI_M_times_25 rfl rfl ?_
        refine px_iconst (q := 27) (v := nI 5) dI_M_times_26 (by decide +kernel) rfl ?_
        refine px_iconst (q := 28) (v := nI 1) dI_M_times_27 (by decide +kernel) rfl ?_
        refine px_callV2 (q := 31) (ν := mM_against) dI_M_times_28 (by decide) rfl rfl wl_M_45 wm_M_against wv_M_against wb_M_against wi_M ⟨rfl, rfl⟩ (by decide +kernel) ⟨(Nat.le_of_ble_eq_true rfl), (Nat.le_of_ble_eq_true rfl)⟩ (Nat.le_of_ble_eq_true rfl) rfl (c_M_against (x := 5) (y := 1) (by decide) (by decide) (by rw [yr_s]; exact hf3) (fun z => ?_) (fun z => ?_) (fun z => ?_))
        · rw [v5, v1] at z
          refine px_if_lt (q := 34) (tgt := 40) dI_M_times_31 (by decide) rfl (fun b31 => ?_) (fun b31 => ?_)
          · refine c40 f3 _ hf3 ?_ (fun i a => by rw [va_up_ne _ _ a]; exact qo i a)
            rw [v5, e2, (sp_0 hN0 (by rw [← q5]; exact z)).2, ← q5]
            rfl
          · exact absurd (by decide) b31
        · rw [v5, v1] at z
          refine px_if_ltN (q := 34) (tgt := 40) dI_M_times_31 (by omega) (by decide) rfl (fun b31 => ?_) (fun b31 => ?_)
          · exact b31.elim
          · exact hsub (Nat.le_of_eq z.symm)
        · rw [v5, v1] at z
          refine px_if_ltN (q := 34) (tgt := 40) dI_M_times_31 (by omega) (by decide) rfl (fun b31 => ?_) (fun b31 => ?_)
          · exact b31.elim
          · exact hsub (Nat.le_of_lt z)
  refine px_istore_n (q := 11) dI_M_times_10 rfl (by decide) rfl rfl ?_
  refine px_iload_n (q := 12) dI_M_times_11 rfl rfl ?_
  refine px_istore_n (q := 13) dI_M_times_12 rfl (by decide) rfl rfl ?_
  refine px_keep [0, 1, 3] rfl ?_
  refine key T f1 _ hT hk1 ?_ (fun i a => va_up_ne _ _ a)
  rw [va_up_self, Nat.div_eq_of_lt hbl.1, Nat.zero_mul, Nat.zero_mod]
end CM3
