/-! the reference's calls power, order, prime -/
section CM8
variable {l : Launch} {g : pw_G} {X : pw_X} {Y : pw_Y} {Post : pw_P} {v W : Nat → Nat}
theorem tb_ (A j : Nat) : (A / 2 ^ j % 2 = 1) ↔ A.testBit j = true := by
  rw [Nat.testBit_eq_decide_div_mod_eq]
  exact decide_eq_true_iff.symm
theorem bit_add {A k j : Nat} (h : A / 2 ^ k % 2 = 0) : (A + 2 ^ k) / 2 ^ j % 2 = if j = k then 1 else A / 2 ^ j % 2 := by
  have hx := xo_add h
  have h1 := tb_ (A + 2 ^ k) j
  have h2 := tb_ A j
  rw [← hx, Nat.testBit_xor, Nat.testBit_two_pow, hx] at h1
  by_cases e : j = k
  · subst e
    rw [if_pos rfl]
    have h3 : A.testBit j = false := by
      cases q : A.testBit j with
      | false => rfl
      | true => rw [q] at h2; exact absurd (h2.mpr rfl) (by omega)
    rw [h3] at h1
    exact h1.mpr (by simp)
  · rw [if_neg e]
    rw [show decide (k = j) = false from decide_eq_false (fun z => e z.symm), Bool.xor_false] at h1
    have h4 : ((A + 2 ^ k) / 2 ^ j % 2 = 1) ↔ (A / 2 ^ j % 2 = 1) := h1.trans h2.symm
    generalize (A + 2 ^ k) / 2 ^ j = x at h4 ⊢
    generalize A / 2 ^ j = y at h4 ⊢
    omega
theorem wk_b1 {f : Nat → Int32} {i k : Nat} (h : wk_ f W) (hi : i < 6) (hk : k < 129) (h0 : W i / 2 ^ k % 2 = 0) : wk_ (upd f (129 * i + k) (nI 1)) (va_up W i (W i + 2 ^ k)) := by
  refine wk_put h ?_ (fun j hj => ?_) (fun p h4 => pk_un (by omega))
  · rw [← xo_add h0]
    exact Nat.xor_lt_two_pow (h i hi).1 (Nat.pow_lt_pow_right (by decide) hk)
  · rw [bit_add h0]
    by_cases e : j = k
    · subst e; rw [pk_us, if_pos rfl]
    · rw [pk_un (by omega), if_neg e]; exact (h i hi).2 j hj
theorem wk_b0 {f : Nat → Int32} {i k A : Nat} (h : wk_ f W) (hi : i < 6) (hk : k < 129) (hA : W i = A + 2 ^ k) (h0 : A / 2 ^ k % 2 = 0) : wk_ (upd f (129 * i + k) (nI 0)) (va_up W i A) := by
  refine wk_put h (Nat.lt_of_le_of_lt (by rw [hA]; exact Nat.le_add_right _ _) (h i hi).1) (fun j hj => ?_) (fun p h4 => pk_un (by omega))
  by_cases e : j = k
  · subst e; rw [pk_us, h0]
  · rw [pk_un (by omega), (h i hi).2 j hj, hA, bit_add h0, if_neg e]
theorem c_M_power {a b q r : Nat} (ha : a < 6) (hb : b < 6) (hq : q < 6) (hr : r < 6) (hm : mz_ Y v) (h2 : v q = 0 → ∀ Y', mz_ Y' v → mf_ Y Y' → Y' 23 3 = nI 2 → Post none X Y') (h0 : v q ≠ 0 → ∀ Y', mz_ Y' (va_up v r (v a ^ v b % v q)) → mf_ Y Y' → Y' 23 3 = nI 0 → Post none X Y') : pw_Met l g mM_power [.ref (ad_ g 23), .int (nI a), .int (nI b), .int (nI q), .int (nI r)] X Y Post := by
  refine pw_ofW (by decide +kernel) rfl (Nat.le_of_ble_eq_true rfl) rfl (fun sz => ?_)
  have k34 : pw_W l g mM_power sz (pw_qM g sz Post 0 0) 34 [(0, .ref (ad_ g 23)), (1, .int (nI a)), (2, .int (nI b)), (3, .int (nI q)), (4, .int (nI r))] [.ref (ad_ g 23)] X Y := by
    refine px_iconst (q := 35) (v := nI 0) dI_M_power_34 (by decide +kernel) rfl ?_
    refine px_iconst (q := 36) (v := nI 1) dI_M_power_35 (by decide +kernel) rfl ?_
    refine px_callV2 (q := 39) (ν := mM_refused) dI_M_power_36 (by decide) rfl rfl wl_M_27 wm_M_refused wv_M_refused wb_M_refused wi_M ⟨rfl, rfl⟩ (by decide +kernel) ⟨(Nat.le_of_ble_eq_true rfl), (Nat.le_of_ble_eq_true rfl)⟩ (Nat.le_of_ble_eq_true rfl) rfl (c_M_refused (by decide) (fun f1 hf1 => ?_))
    refine px_if_eqN (q := 42) (tgt := 43) dI_M_power_39 (by omega) (by decide) rfl (fun b39 => ?_) (fun b39 => ?_)
    · obtain ⟨hrg, W, hwk⟩ := mz_c (f := f1) hm
      have hm1 : mz_ (yr_ Y 23 f1) v := ⟨hrg, W, hwk⟩
      generalize hY1 : yr_ Y 23 f1 = Y1 at hrg hwk hm1
      have hmf1 : mf_ Y Y1 := by rw [← hY1]; exact mf_y (by decide) mf_0
      refine px_aload_n (q := 44) dI_M_power_43 rfl rfl ?_
      refine px_iconst (q := 45) (v := nI 0) dI_M_power_44 (by decide +kernel) rfl ?_
      refine px_iload_n (q := 46) dI_M_power_45 rfl rfl ?_
      refine px_callV2 (q := 49) (ν := mM_load) dI_M_power_46 (by decide) rfl rfl wl_M_31 wm_M_load wv_M_load wb_M_load wi_M ⟨rfl, rfl⟩ (by decide +kernel) ⟨(Nat.le_of_ble_eq_true rfl), (Nat.le_of_ble_eq_true rfl)⟩ (Nat.le_of_ble_eq_true rfl) rfl (c_M_load (w := 0) (by decide) ha hwk hrg (fun f2 hf2 => ?_))
      refine px_aload_n (q := 50) dI_M_power_49 rfl rfl ?_
      refine px_iconst (q := 51) (v := nI 1) dI_M_power_50 (by decide +kernel) rfl ?_
      refine px_iload_n (q := 52) dI_M_power_51 rfl rfl ?_
      refine px_callV2 (q := 55) (ν := mM_load) dI_M_power_52 (by decide) rfl rfl wl_M_31 wm_M_load wv_M_load wb_M_load wi_M ⟨rfl, rfl⟩ (by decide +kernel) ⟨(Nat.le_of_ble_eq_true rfl), (Nat.le_of_ble_eq_true rfl)⟩ (Nat.le_of_ble_eq_true rfl) rfl (c_M_load (w := 1) (by decide) hq (by rw [yr_s]; exact hf2) (by rw [yr_n (by decide)]; exact hrg) (fun f3 hf3 => ?_))
      rw [yr_yr]
      have e0 : va_up (va_up W 0 (v a)) 1 (v q) 0 = v a := by rw [va_up_ne _ _ (by decide), va_up_self]
      have e1 : va_up (va_up W 0 (v a)) 1 (v q) 1 = v q := va_up_self _ _ _
      have hvb := hrg b hb
      have hvq := (hrg q hq).1
      generalize va_up (va_up W 0 (v a)) 1 (v q) = W3 at hf3 e0 e1
      refine px_aload_n (q := 56) dI_M_power_55 rfl rfl ?_
      refine px_aload_n (q := 57) dI_M_power_56 rfl rfl ?_
      refine px_iconst (q := 58) (v := nI 1) dI_M_power_57 (by decide +kernel) rfl ?_
      refine px_callV1 (q := 61) (ν := mM_isZero) dI_M_power_58 (by decide) rfl rfl wl_M_59 wm_M_isZero wv_M_isZero wb_M_isZero wi_M ⟨rfl, rfl⟩ (by decide +kernel) ⟨(Nat.le_of_ble_eq_true rfl), (Nat.le_of_ble_eq_true rfl)⟩ (Nat.le_of_ble_eq_true rfl) rfl (c_M_isZero (w := 1) (by decide) (by rw [yr_s]; exact hf3) (fun z => ?_) (fun z => ?_))
      · rw [e1] at z
        refine px_iconst (q := 62) (v := nI 2) dI_M_power_61 (by decide +kernel) rfl ?_
        refine px_callV2 (q := 65) (ν := mM_refused) dI_M_power_62 (by decide) rfl rfl wl_M_27 wm_M_refused wv_M_refused wb_M_refused wi_M ⟨rfl, rfl⟩ (by decide +kernel) ⟨(Nat.le_of_ble_eq_true rfl), (Nat.le_of_ble_eq_true rfl)⟩ (Nat.le_of_ble_eq_true rfl) rfl (c_M_refused (by decide) (fun f4 hf4 => ?_))
        refine px_if_eqN (q := 68) (tgt := 69) dI_M_power_65 (by omega) (by decide) rfl (fun b65 => ?_) (fun b65 => ?_)
        · exact absurd b65 (by decide)
        · refine px_vret dI_M_power_68 rfl ?_
          exact h2 z _ (mz_c (mz_w hm1 hf3)) (mf_y (by decide) (mf_y (by decide) hmf1)) (by rw [yr_s, hf4]; rfl)
      · rw [e1] at z
        have hN0 : 0 < v q := Nat.pos_of_ne_zero z
        refine px_iconst (q := 62) (v := nI 2) dI_M_power_61 (by decide +kernel) rfl ?_
        refine px_callV2 (q := 65) (ν := mM_refused) dI_M_power_62 (by decide) rfl rfl wl_M_27 wm_M_refused wv_M_refused wb_M_refused wi_M ⟨rfl, rfl⟩ (by decide +kernel) ⟨(Nat.le_of_ble_eq_true rfl), (Nat.le_of_ble_eq_true rfl)⟩ (Nat.le_of_ble_eq_true rfl) rfl (c_M_refused (by decide) (fun f4 hf4 => ?_))
        refine px_if_eqN (q := 68) (tgt := 69) dI_M_power_65 (by omega) (by decide) rfl (fun b65 => ?_) (fun b65 => ?_)
        · have hm4 : mz_ (yr_ (yr_ Y1 25 f3) 23 f4) v := mz_c (mz_w hm1 hf3)
          have hmf4 : mf_ Y (yr_ (yr_ Y1 25 f3) 23 f4) := mf_y (by decide) (mf_y (by decide) hmf1)
          have hc4 : yr_ (yr_ Y1 25 f3) 23 f4 23 3 = nI 0 := by rw [yr_s, hf4]; rfl
          have hw4 : wk_ (yr_ (yr_ Y1 25 f3) 23 f4 25) W3 := by rw [yr_n (by decide), yr_s]; exact hf3
          have hg4 : rg_ (yr_ (yr_ Y1 25 f3) 23 f4 24) v := hm4.1
          generalize yr_ (yr_ Y1 25 f3) 23 f4 = Y4 at hm4 hmf4 hc4 hw4 hg4
          refine px_aload_n (q := 70) dI_M_power_69 rfl rfl ?_
          refine px_iconst (q := 71) (v := nI 0) dI_M_power_70 (by decide +kernel) rfl ?_
          refine px_iconst (q := 72) (v := nI 1) dI_M_power_71 (by decide +kernel) rfl ?_
          refine px_callV2 (q := 75) (ν := mM_split) dI_M_power_72 (by decide) rfl rfl wl_M_62 wm_M_split wv_M_split wb_M_split wi_M ⟨rfl, rfl⟩ (by decide +kernel) ⟨(Nat.le_of_ble_eq_true rfl), (Nat.le_of_ble_eq_true rfl)⟩ (Nat.le_of_ble_eq_true rfl) rfl (c_M_split (x := 0) (y := 1) (by decide) (by decide) (by decide) (by decide) (by decide) (by decide) hw4 (by rw [e1]; exact hN0) (by rw [e1]; exact hvq) (fun f5 W5 hf5 r3 r4 ro => ?_))
          rw [e0, e1] at r4
          have r1 : W5 1 = v q := by rw [ro 1 (by decide) (by decide)]; exact e1
          refine px_aload_n (q := 76) dI_M_power_75 rfl rfl ?_
          refine px_iconst (q := 77) (v := nI 0) dI_M_power_76 (by decide +kernel) rfl ?_
          refine px_iconst (q := 78) (v := nI 4) dI_M_power_77 (by decide +kernel) rfl ?_
          refine px_callV2 (q := 81) (ν := mM_copy) dI_M_power_78 (by decide) rfl rfl wl_M_69 wm_M_copy wv_M_copy wb_M_copy wi_M ⟨rfl, rfl⟩ (by decide +kernel) ⟨(Nat.le_of_ble_eq_true rfl), (Nat.le_of_ble_eq_true rfl)⟩ (Nat.le_of_ble_eq_true rfl) rfl (c_M_copy (w := 0) (x := 4) (by decide) (by decide) (by decide) (by rw [yr_s]; exact hf5) (fun f6 hf6 => ?_))
          rw [yr_yr]
          rw [r4] at hf6
          refine px_aload_n (q := 82) dI_M_power_81 rfl rfl ?_
          refine px_iconst (q := 83) (v := nI 3) dI_M_power_82 (by decide +kernel) rfl ?_
          refine px_callV1 (q := 86) (ν := mM_clear) dI_M_power_83 (by decide) rfl rfl wl_M_52 wm_M_clear wv_M_clear wb_M_clear wi_M ⟨rfl, rfl⟩ (by decide +kernel) ⟨(Nat.le_of_ble_eq_true rfl), (Nat.le_of_ble_eq_true rfl)⟩ (Nat.le_of_ble_eq_true rfl) rfl (c_M_clear (w := 3) (by decide) (by rw [yr_s]; exact hf6) (fun f7 hf7 => ?_))
          rw [yr_yr]
          have hf8 := wk_b1 (i := 3) (k := 0) hf7 (by decide) (by decide) (by rw [va_up_self, Nat.zero_div])
          refine px_aload_n (q := 87) dI_M_power_86 rfl rfl ?_
          refine px_getM (q := 90) (j := 1) dI_M_power_87 wf_M_13 rfl (by decide) rfl rfl ?_
          refine px_sipush (q := 93) (v := nI 387) dI_M_power_90 (by decide +kernel) rfl ?_
          refine px_iconst (q := 94) (v := nI 1) dI_M_power_93 (by decide +kernel) rfl ?_
          refine px_iast (q := 95) dI_M_power_94 rfl (by omega) (by omega) rfl ?_
          rw [yr_s, yr_yr]
          have t0 : va_up (va_up (va_up W5 0 (v a % v q)) 3 0) 3 (va_up (va_up W5 0 (v a % v q)) 3 0 3 + 2 ^ 0) 0 = v a % v q := by rw [va_up_ne _ _ (by decide), va_up_ne _ _ (by decide), va_up_self]
          have t1 : va_up (va_up (va_up W5 0 (v a % v q)) 3 0) 3 (va_up (va_up W5 0 (v a % v q)) 3 0 3 + 2 ^ 0) 1 = v q := by rw [va_up_ne _ _ (by decide), va_up_ne _ _ (by decide), va_up_ne _ _ (by decide)]; exact r1
          have t3 : va_up (va_up (va_up W5 0 (v a % v q)) 3 0) 3 (va_up (va_up W5 0 (v a % v q)) 3 0 3 + 2 ^ 0) 3 = 1 := by rw [va_up_self, va_up_self]
          generalize va_up (va_up (va_up W5 0 (v a % v q)) 3 0) 3 (va_up (va_up W5 0 (v a % v q)) 3 0 3 + 2 ^ 0) = W8 at hf8 t0 t1 t3
          generalize hu8 : upd f7 (129 * 3 + 0) (nI 1) = f8 at hf8
          refine px_aload_n (q := 96) dI_M_power_95 rfl rfl ?_
          refine px_iconst (q := 97) (v := nI 2) dI_M_power_96 (by decide +kernel) rfl ?_
          refine px_iconst (q := 98) (v := nI 3) dI_M_power_97 (by decide +kernel) rfl ?_
          refine px_callV2 (q := 101) (ν := mM_copy) dI_M_power_98 (by decide) rfl rfl wl_M_69 wm_M_copy wv_M_copy wb_M_copy wi_M ⟨rfl, rfl⟩ (by decide +kernel) ⟨(Nat.le_of_ble_eq_true rfl), (Nat.le_of_ble_eq_true rfl)⟩ (Nat.le_of_ble_eq_true rfl) rfl (c_M_copy (w := 2) (x := 3) (by decide) (by decide) (by decide) (by rw [yr_s]; exact hf8) (fun f9 hf9 => ?_))
          rw [yr_yr]
          refine px_aload_n (q := 102) dI_M_power_101 rfl rfl ?_
          refine px_iconst (q := 103) (v := nI 2) dI_M_power_102 (by decide +kernel) rfl ?_
          refine px_iconst (q := 104) (v := nI 1) dI_M_power_103 (by decide +kernel) rfl ?_
          refine px_callV2 (q := 107) (ν := mM_split) dI_M_power_104 (by decide) rfl rfl wl_M_62 wm_M_split wv_M_split wb_M_split wi_M ⟨rfl, rfl⟩ (by decide +kernel) ⟨(Nat.le_of_ble_eq_true rfl), (Nat.le_of_ble_eq_true rfl)⟩ (Nat.le_of_ble_eq_true rfl) rfl (c_M_split (x := 2) (y := 1) (by decide) (by decide) (by decide) (by decide) (by decide) (by decide) (by rw [yr_s]; exact hf9) (by rw [va_up_ne _ _ (by decide), t1]; exact hN0) (by rw [va_up_ne _ _ (by decide), t1]; exact hvq) (fun f10 W10 hf10 u3 u4 uo => ?_))
          rw [yr_yr]
          rw [va_up_self, va_up_ne _ _ (by decide), t1, t3] at u4
          have u0 : W10 0 = v a % v q := by rw [uo 0 (by decide) (by decide), va_up_ne _ _ (by decide)]; exact t0
          have u1 : W10 1 = v q := by rw [uo 1 (by decide) (by decide), va_up_ne _ _ (by decide)]; exact t1
          refine px_aload_n (q := 108) dI_M_power_107 rfl rfl ?_
          refine px_iconst (q := 109) (v := nI 2) dI_M_power_108 (by decide +kernel) rfl ?_
          refine px_iconst (q := 110) (v := nI 4) dI_M_power_109 (by decide +kernel) rfl ?_
          refine px_callV2 (q := 113) (ν := mM_copy) dI_M_power_110 (by decide) rfl rfl wl_M_69 wm_M_copy wv_M_copy wb_M_copy wi_M ⟨rfl, rfl⟩ (by decide +kernel) ⟨(Nat.le_of_ble_eq_true rfl), (Nat.le_of_ble_eq_true rfl)⟩ (Nat.le_of_ble_eq_true rfl) rfl (c_M_copy (w := 2) (x := 4) (by decide) (by decide) (by decide) (by rw [yr_s]; exact hf10) (fun f11 hf11 => ?_))
          rw [yr_yr]
          rw [u4] at hf11
          refine px_bipush (q := 115) (v := nI 127) dI_M_power_113 (by decide +kernel) rfl ?_
          refine px_istore (q := 117) dI_M_power_115 (by decide) rfl rfl ?_
          have loop : ∀ (K : Nat) (f : Nat → Int32) (W' : Nat → Nat), K ≤ 128 → wk_ f W' → W' 0 = v a % v q → W' 1 = v q → W' 2 = (v a % v q) ^ (v b / 2 ^ K) % v q → pw_W l g mM_power sz (pw_qM g sz Post 0 0) 144 [(0, .ref (ad_ g 23)), (1, .int (nI a)), (2, .int (nI b)), (3, .int (nI q)), (4, .int (nI r)), (5, .int (mI K))] [] X (yr_ Y4 25 f) := by
            intro K
            induction K with
            | zero =>
              intro f W' hK hf q0 q1 q2
              rw [Nat.pow_zero, Nat.div_one, ← Nat.pow_mod] at q2
              refine px_iload (q := 146) dI_M_power_144 rfl rfl ?_
              refine px_if_ltM (q := 149) (tgt := 188) dI_M_power_146 (by omega) (by decide) rfl (fun b146 => ?_) (fun b146 => ?_)
              · refine px_aload_n (q := 189) dI_M_power_188 rfl rfl ?_
                refine px_iload (q := 191) dI_M_power_189 rfl rfl ?_
                refine px_iconst (q := 192) (v := nI 2) dI_M_power_191 (by decide +kernel) rfl ?_
                refine px_callV2 (q := 195) (ν := mM_store) dI_M_power_192 (by decide) rfl rfl wl_M_42 wm_M_store wv_M_store wb_M_store wi_M ⟨rfl, rfl⟩ (by decide +kernel) ⟨(Nat.le_of_ble_eq_true rfl), (Nat.le_of_ble_eq_true rfl)⟩ (Nat.le_of_ble_eq_true rfl) rfl (c_M_store (w := 2) (v := v) hr (by decide) (by rw [yr_s]; exact hf) (by rw [yr_n (by decide)]; exact hg4) (by rw [q2]; exact Nat.lt_trans (Nat.mod_lt _ hN0) hvq) (fun f12 hf12 => ?_))
                refine px_vret dI_M_power_195 rfl ?_
                rw [q2] at hf12
                exact h0 z _ (mz_r (mz_w hm4 hf) hf12) (mf_y (by decide) (mf_y (by decide) hmf4)) (by rw [yr_n (by decide), yr_n (by decide)]; exact hc4)
              · omega
            | succ K ih =>
              intro f W' hK hf q0 q1 q2
              have hbit : yr_ Y4 25 f 24 (128 * b + K) = nI (v b / 2 ^ K % 2) := yn_ (by decide) ((hg4 b hb).2 K (by omega))
              have hpre : v b / 2 ^ K = v b / 2 ^ (K + 1) + v b / 2 ^ (K + 1) + v b / 2 ^ K % 2 := by
                have := hi_eq (A := v b) (B := 0) (k := K)
                omega
              rw [mI_s]
              refine px_iload (q := 146) dI_M_power_144 rfl rfl ?_
              refine px_if_ltN (q := 149) (tgt := 188) dI_M_power_146 (by omega) (by decide) rfl (fun b146 => ?_) (fun b146 => ?_)
              · exact b146.elim
              · refine px_aload_n (q := 150) dI_M_power_149 rfl rfl ?_
                refine px_iconst (q := 151) (v := nI 3) dI_M_power_150 (by decide +kernel) rfl ?_
                refine px_iconst (q := 152) (v := nI 2) dI_M_power_151 (by decide +kernel) rfl ?_
                refine px_callV2 (q := 155) (ν := mM_copy) dI_M_power_152 (by decide) rfl rfl wl_M_69 wm_M_copy wv_M_copy wb_M_copy wi_M ⟨rfl, rfl⟩ (by decide +kernel) ⟨(Nat.le_of_ble_eq_true rfl), (Nat.le_of_ble_eq_true rfl)⟩ (Nat.le_of_ble_eq_true rfl) rfl (c_M_copy (w := 3) (x := 2) (by decide) (by decide) (by decide) (by rw [yr_s]; exact hf) (fun f12 hf12 => ?_))
                rw [yr_yr]
                refine px_aload_n (q := 156) dI_M_power_155 rfl rfl ?_
                refine px_iconst (q := 157) (v := nI 3) dI_M_power_156 (by decide +kernel) rfl ?_
                refine px_callV1 (q := 160) (ν := mM_times) dI_M_power_157 (by decide) rfl rfl wl_M_72 wm_M_times wv_M_times wb_M_times wi_M ⟨rfl, rfl⟩ (by decide +kernel) ⟨(Nat.le_of_ble_eq_true rfl), (Nat.le_of_ble_eq_true rfl)⟩ (Nat.le_of_ble_eq_true rfl) rfl (c_M_times (x := 3) (Or.inr rfl) (by rw [yr_s]; exact hf12) (by rw [va_up_ne _ _ (by decide), q1]; exact hvq) (by rw [va_up_self, va_up_ne _ _ (by decide), q1, q2]; exact Nat.mod_lt _ hN0) (fun f13 W13 hf13 s2 so => ?_))
                rw [yr_yr]
                rw [va_up_self, va_up_ne _ _ (by decide), va_up_ne _ _ (by decide), q1, q2, pwm_, ← Nat.pow_add] at s2
                have s0 : W13 0 = v a % v q := by rw [so 0 (by decide) (by decide), va_up_ne _ _ (by decide)]; exact q0
                have s1 : W13 1 = v q := by rw [so 1 (by decide) (by decide), va_up_ne _ _ (by decide)]; exact q1
                have hbit2 : yr_ Y4 25 f13 24 (128 * b + K) = nI (v b / 2 ^ K % 2) := yn_ (by decide) ((hg4 b hb).2 K (by omega))
                refine px_aload_n (q := 161) dI_M_power_160 rfl rfl ?_
                refine px_getM (q := 164) (j := 0) dI_M_power_161 wf_M_7 rfl (by decide) rfl rfl ?_
                refine px_sipush (q := 167) (v := nI 128) dI_M_power_164 (by decide +kernel) rfl ?_
                refine px_iload_n (q := 168) dI_M_power_167 rfl rfl ?_
                refine px_imulN (q := 169) dI_M_power_168 rfl ?_
                refine px_iload (q := 171) dI_M_power_169 rfl rfl ?_
                refine px_iaddN (q := 172) dI_M_power_171 rfl ?_
                refine px_iald (q := 173) dI_M_power_172 rfl (by omega) (by omega) hbit2 rfl ?_
                refine px_iconst (q := 174) (v := nI 1) dI_M_power_173 (by decide +kernel) rfl ?_
                refine px_icmp_neN (q := 177) (tgt := 182) dI_M_power_174 (by omega) (by omega) (by decide) rfl (fun b174 => ?_) (fun b174 => ?_)
                · refine px_iinc (q := 185) dI_M_power_182 rfl (ic_m _) (by decide) rfl rfl ?_
                  refine px_goto (tgt := 144) dI_M_power_185 (by decide) ?_
                  refine ih f13 W13 (by omega) hf13 s0 s1 ?_
                  rw [s2]
                  congr 2
                  rcases ms_ (v b) K with y | y
                  · omega
                  · exact absurd y b174
                · refine px_aload_n (q := 178) dI_M_power_177 rfl rfl ?_
                  refine px_iconst (q := 179) (v := nI 0) dI_M_power_178 (by decide +kernel) rfl ?_
                  refine px_callV1 (q := 182) (ν := mM_times) dI_M_power_179 (by decide) rfl rfl wl_M_72 wm_M_times wv_M_times wb_M_times wi_M ⟨rfl, rfl⟩ (by decide +kernel) ⟨(Nat.le_of_ble_eq_true rfl), (Nat.le_of_ble_eq_true rfl)⟩ (Nat.le_of_ble_eq_true rfl) rfl (c_M_times (x := 0) (Or.inl rfl) (by rw [yr_s]; exact hf13) (by rw [s1]; exact hvq) (by rw [s0, s1]; exact Nat.mod_lt _ hN0) (fun f14 W14 hf14 p2 po => ?_))
                  rw [yr_yr]
                  refine px_iinc (q := 185) dI_M_power_182 rfl (ic_m _) (by decide) rfl rfl ?_
                  refine px_goto (tgt := 144) dI_M_power_185 (by decide) ?_
                  refine ih f14 W14 (by omega) hf14 (by rw [po 0 (by decide) (by decide)]; exact s0) (by rw [po 1 (by decide) (by decide)]; exact s1) ?_
                  rw [p2, s0, s1, s2, Nat.mod_mul_mod, ← Nat.pow_succ]
                  congr 2
                  omega
          have k117 : ∀ K, K ≤ 128 → v b < 2 ^ K → pw_W l g mM_power sz (pw_qM g sz Post 0 0) 117 [(0, .ref (ad_ g 23)), (1, .int (nI a)), (2, .int (nI b)), (3, .int (nI q)), (4, .int (nI r)), (5, .int (mI K))] [] X (yr_ Y4 25 f11) := by
            intro K
            induction K with
            | zero =>
              intro hK hlt
              refine px_iload (q := 119) dI_M_power_117 rfl rfl ?_
              refine px_if_ltM (q := 122) (tgt := 144) dI_M_power_119 (by omega) (by decide) rfl (fun b119 => ?_) (fun b119 => ?_)
              · refine loop 0 f11 _ (by omega) hf11 ?_ ?_ ?_
                · rw [va_up_ne _ _ (by decide)]; exact u0
                · rw [va_up_ne _ _ (by decide)]; exact u1
                · rw [va_up_self, Nat.div_eq_of_lt hlt, Nat.pow_zero]
              · omega
            | succ K ih =>
              intro hK hlt
              have hbit : yr_ Y4 25 f11 24 (128 * b + K) = nI (v b / 2 ^ K % 2) := yn_ (by decide) ((hg4 b hb).2 K (by omega))
              rw [mI_s]
              refine px_iload (q := 119) dI_M_power_117 rfl rfl ?_
              refine px_if_ltN (q := 122) (tgt := 144) dI_M_power_119 (by omega) (by decide) rfl (fun b119 => ?_) (fun b119 => ?_)
              · exact b119.elim
              · refine px_aload_n (q := 123) dI_M_power_122 rfl rfl ?_
                refine px_getM (q := 126) (j := 0) dI_M_power_123 wf_M_7 rfl (by decide) rfl rfl ?_
                refine px_sipush (q := 129) (v := nI 128) dI_M_power_126 (by decide +kernel) rfl ?_
                refine px_iload_n (q := 130) dI_M_power_129 rfl rfl ?_
                refine px_imulN (q := 131) dI_M_power_130 rfl ?_
                refine px_iload (q := 133) dI_M_power_131 rfl rfl ?_
                refine px_iaddN (q := 134) dI_M_power_133 rfl ?_
                refine px_iald (q := 135) dI_M_power_134 rfl (by omega) (by omega) hbit rfl ?_
                refine px_if_neN (q := 138) (tgt := 144) dI_M_power_135 (by omega) (by decide) rfl (fun b135 => ?_) (fun b135 => ?_)
                · rw [← mI_s K]
                  refine loop (K + 1) f11 _ (by omega) hf11 ?_ ?_ ?_
                  · rw [va_up_ne _ _ (by decide)]; exact u0
                  · rw [va_up_ne _ _ (by decide)]; exact u1
                  · rw [va_up_self, Nat.div_eq_of_lt hlt, Nat.pow_zero]
                · refine px_iinc (q := 141) dI_M_power_138 rfl (ic_m _) (by decide) rfl rfl ?_
                  refine px_goto (tgt := 117) dI_M_power_141 (by decide) ?_
                  exact ih (by omega) (lt_s_ hlt b135)
          exact k117 128 (by omega) hvb.1
        · exact absurd rfl b65
    · exact absurd rfl b39
  refine px_aload_n (q := 1) dI_M_power_0 rfl rfl ?_
  refine px_iload_n (q := 2) dI_M_power_1 rfl rfl ?_
  refine px_callS1 (q := 5) (ν := mM_none) dI_M_power_2 wl_M_23 ws_M_none wb_M_none wi_M ⟨rfl, rfl⟩ (by decide +kernel) ⟨(Nat.le_of_ble_eq_true rfl), (Nat.le_of_ble_eq_true rfl)⟩ (Nat.le_of_ble_eq_true rfl) rfl (c_M_noneG ha ?_)
  refine px_if_neN (q := 8) (tgt := 30) dI_M_power_5 (by omega) (by decide) rfl (fun b5 => ?_) (fun b5 => ?_)
  · exact absurd rfl b5
  · refine px_iload_n (q := 9) dI_M_power_8 rfl rfl ?_
    refine px_callS1 (q := 12) (ν := mM_none) dI_M_power_9 wl_M_23 ws_M_none wb_M_none wi_M ⟨rfl, rfl⟩ (by decide +kernel) ⟨(Nat.le_of_ble_eq_true rfl), (Nat.le_of_ble_eq_true rfl)⟩ (Nat.le_of_ble_eq_true rfl) rfl (c_M_noneG hb ?_)
    refine px_if_neN (q := 15) (tgt := 30) dI_M_power_12 (by omega) (by decide) rfl (fun b12 => ?_) (fun b12 => ?_)
    · exact absurd rfl b12
    · refine px_iload_n (q := 16) dI_M_power_15 rfl rfl ?_
      refine px_callS1 (q := 19) (ν := mM_none) dI_M_power_16 wl_M_23 ws_M_none wb_M_none wi_M ⟨rfl, rfl⟩ (by decide +kernel) ⟨(Nat.le_of_ble_eq_true rfl), (Nat.le_of_ble_eq_true rfl)⟩ (Nat.le_of_ble_eq_true rfl) rfl (c_M_noneG hq ?_)
      refine px_if_neN (q := 22) (tgt := 30) dI_M_power_19 (by omega) (by decide) rfl (fun b19 => ?_) (fun b19 => ?_)
      · exact absurd rfl b19
      · refine px_iload (q := 24) dI_M_power_22 rfl rfl ?_
        refine px_callS1 (q := 27) (ν := mM_none) dI_M_power_24 wl_M_23 ws_M_none wb_M_none wi_M ⟨rfl, rfl⟩ (by decide +kernel) ⟨(Nat.le_of_ble_eq_true rfl), (Nat.le_of_ble_eq_true rfl)⟩ (Nat.le_of_ble_eq_true rfl) rfl (c_M_noneG hr ?_)
        refine px_if_eqN (q := 30) (tgt := 34) dI_M_power_27 (by omega) (by decide) rfl (fun b27 => ?_) (fun b27 => ?_)
        · exact k34
        · exact absurd rfl b27
theorem c_M_prime_bad {a : Int32} (hbad : bd_ a) (hm : mz_ Y v) (hp : ∀ Y', mz_ Y' v → mf_ Y Y' → Y' 23 3 = nI 1 → Post (some (.int (nI 0))) X Y') : pw_Met l g mM_prime [.ref (ad_ g 23), .int a] X Y Post := by
  refine pw_ofW (by decide +kernel) rfl (Nat.le_of_ble_eq_true rfl) rfl (fun sz => ?_)
  refine px_aload_n (q := 1) dI_M_prime_0 rfl rfl ?_
  refine px_iload_n (q := 2) dI_M_prime_1 rfl rfl ?_
  refine px_callS1 (q := 5) (ν := mM_none) dI_M_prime_2 wl_M_23 ws_M_none wb_M_none wi_M ⟨rfl, rfl⟩ (by decide +kernel) ⟨(Nat.le_of_ble_eq_true rfl), (Nat.le_of_ble_eq_true rfl)⟩ (Nat.le_of_ble_eq_true rfl) rfl (c_M_noneB hbad ?_)
  refine px_iconst (q := 6) (v := nI 1) dI_M_prime_5 (by decide +kernel) rfl ?_
  refine px_callV2 (q := 9) (ν := mM_refused) dI_M_prime_6 (by decide) rfl rfl wl_M_27 wm_M_refused wv_M_refused wb_M_refused wi_M ⟨rfl, rfl⟩ (by decide +kernel) ⟨(Nat.le_of_ble_eq_true rfl), (Nat.le_of_ble_eq_true rfl)⟩ (Nat.le_of_ble_eq_true rfl) rfl (c_M_refused (by decide) (fun f hf => ?_))
  refine px_if_eqN (q := 12) (tgt := 14) dI_M_prime_9 (by omega) (by decide) rfl (fun b9 => ?_) (fun b9 => ?_)
  · exact absurd b9 (by decide)
  · refine px_iconst (q := 13) (v := nI 0) dI_M_prime_12 (by decide +kernel) rfl ?_
    refine px_zret dI_M_prime_13 rfl (by decide +kernel) ?_
    exact hp _ (mz_c hm) (mf_y (by decide) mf_0) (by rw [yr_s, hf]; rfl)
theorem c_M_prime {a : Nat} (ha : a < 6) (hm : mz_ Y v) (h2 : 511 < v a → ∀ Y', mz_ Y' v → mf_ Y Y' → Y' 23 3 = nI 2 → Post (some (.int (nI 0))) X Y') (h1 : v a ≤ 511 → 2 ≤ v a → (∀ d, 2 ≤ d → d < v a → v a % d ≠ 0) → ∀ Y', mz_ Y' v → mf_ Y Y' → Y' 23 3 = nI 0 → Post (some (.int (nI 1))) X Y') (h0 : v a ≤ 511 → (v a < 2 ∨ ∃ d, 2 ≤ d ∧ d < v a ∧ v a % d = 0) → ∀ Y', mz_ Y' v → mf_ Y Y' → Y' 23 3 = nI 0 → Post (some (.int (nI 0))) X Y') : pw_Met l g mM_prime [.ref (ad_ g 23), .int (nI a)] X Y Post := by
  refine pw_ofW (by decide +kernel) rfl (Nat.le_of_ble_eq_true rfl) rfl (fun sz => ?_)
  refine px_aload_n (q := 1) dI_M_prime_0 rfl rfl ?_
  refine px_iload_n (q := 2) dI_M_prime_1 rfl rfl ?_
  refine px_callS1 (q := 5) (ν := mM_none) dI_M_prime_2 wl_M_23 ws_M_none wb_M_none wi_M ⟨rfl, rfl⟩ (by decide +kernel) ⟨(Nat.le_of_ble_eq_true rfl), (Nat.le_of_ble_eq_true rfl)⟩ (Nat.le_of_ble_eq_true rfl) rfl (c_M_noneG ha ?_)
  refine px_iconst (q := 6) (v := nI 1) dI_M_prime_5 (by decide +kernel) rfl ?_
  refine px_callV2 (q := 9) (ν := mM_refused) dI_M_prime_6 (by decide) rfl rfl wl_M_27 wm_M_refused wv_M_refused wb_M_refused wi_M ⟨rfl, rfl⟩ (by decide +kernel) ⟨(Nat.le_of_ble_eq_true rfl), (Nat.le_of_ble_eq_true rfl)⟩ (Nat.le_of_ble_eq_true rfl) rfl (c_M_refused (by decide) (fun f hf => ?_))
  refine px_if_eqN (q := 12) (tgt := 14) dI_M_prime_9 (by omega) (by decide) rfl (fun b9 => ?_) (fun b9 => ?_)
  · refine px_aload_n (q := 15) dI_M_prime_14 rfl rfl ?_
    refine px_iload_n (q := 16) dI_M_prime_15 rfl rfl ?_
    refine px_sipush (q := 19) (v := nI 512) dI_M_prime_16 (by decide +kernel) rfl ?_
    refine px_callV2 (q := 22) (ν := mM_value) dI_M_prime_19 (by decide) rfl rfl wl_M_99 wm_M_value wv_M_value wb_M_value wi_M ⟨rfl, rfl⟩ (by decide +kernel) ⟨(Nat.le_of_ble_eq_true rfl), (Nat.le_of_ble_eq_true rfl)⟩ (Nat.le_of_ble_eq_true rfl) rfl (c_M_value ha (by decide) (mz_c hm).1 ?_)
    by_cases hv : v a ≤ 511
    · rw [if_pos (by omega)]
      refine px_istore_n (q := 23) dI_M_prime_22 rfl (by decide) rfl rfl ?_
      refine px_aload_n (q := 24) dI_M_prime_23 rfl rfl ?_
      refine px_iload_n (q := 25) dI_M_prime_24 rfl rfl ?_
      refine px_sipush (q := 28) (v := nI 511) dI_M_prime_25 (by decide +kernel) rfl ?_
      refine px_icmp_leN (q := 31) (tgt := 35) dI_M_prime_28 (by omega) (by omega) (by decide) rfl (fun b28 => ?_) (fun b28 => ?_)
      · refine px_iconst (q := 36) (v := nI 0) dI_M_prime_35 (by decide +kernel) rfl ?_
        refine px_iconst (q := 37) (v := nI 2) dI_M_prime_36 (by decide +kernel) rfl ?_
        refine px_callV2 (q := 40) (ν := mM_refused) dI_M_prime_37 (by decide) rfl rfl wl_M_27 wm_M_refused wv_M_refused wb_M_refused wi_M ⟨rfl, rfl⟩ (by decide +kernel) ⟨(Nat.le_of_ble_eq_true rfl), (Nat.le_of_ble_eq_true rfl)⟩ (Nat.le_of_ble_eq_true rfl) rfl (c_M_refused (by decide) (fun f2 hf2 => ?_))
        rw [yr_yr]
        have hm2 := mz_c (f := f2) hm
        have hmf2 : mf_ Y (yr_ Y 23 f2) := mf_y (by decide) mf_0
        have hc2 : yr_ Y 23 f2 23 3 = nI 0 := by rw [yr_s, hf2]; rfl
        refine px_if_eqN (q := 43) (tgt := 45) dI_M_prime_40 (by omega) (by decide) rfl (fun b40 => ?_) (fun b40 => ?_)
        · have fin : ∀ z, (z = 1 ∧ 2 ≤ v a ∧ (∀ d, 2 ≤ d → d < v a → v a % d ≠ 0) ∨ z = 0 ∧ (v a < 2 ∨ ∃ d, 2 ≤ d ∧ d < v a ∧ v a % d = 0)) → ∀ ls, lk_ ls 3 = some (.int (nI z)) → pw_W l g mM_prime sz (pw_qM g sz Post 0 0) 88 ls [] X (yr_ Y 23 f2) := by
            intro z hz ls hl
            refine px_iload_n (q := 89) dI_M_prime_88 hl rfl ?_
            rcases hz with ⟨rfl, z1, z2⟩ | ⟨rfl, z1⟩
            · refine px_zret dI_M_prime_89 rfl (by decide +kernel) ?_
              exact h1 hv z1 z2 _ hm2 hmf2 hc2
            · refine px_zret dI_M_prime_89 rfl (by decide +kernel) ?_
              exact h0 hv z1 _ hm2 hmf2 hc2
          have key : ∀ (c d z : Nat), d + c = 600 → 2 ≤ d → (z = 1 ∧ 2 ≤ v a ∧ (∀ j, 2 ≤ j → j < d → j < v a → v a % j ≠ 0) ∨ z = 0 ∧ (v a < 2 ∨ ∃ d, 2 ≤ d ∧ d < v a ∧ v a % d = 0)) → pw_W l g mM_prime sz (pw_qM g sz Post 0 0) 59 [(0, .ref (ad_ g 23)), (1, .int (nI a)), (2, .int (nI (v a))), (3, .int (nI z)), (4, .int (nI d))] [] X (yr_ Y 23 f2) := by
            intro c
            induction c with
            | zero =>
              intro d z hd hd2 hz
              refine px_iload (q := 61) dI_M_prime_59 rfl rfl ?_
              refine px_iload_n (q := 62) dI_M_prime_61 rfl rfl ?_
              refine px_icmp_geN (q := 65) (tgt := 88) dI_M_prime_62 (by omega) (by omega) (by decide) rfl (fun b62 => ?_) (fun b62 => ?_)
              · refine fin z ?_ _ rfl
                rcases hz with ⟨q, q1, q2⟩ | q
                · exact Or.inl ⟨q, q1, fun j x1 x2 => q2 j x1 (by omega) x2⟩
                · exact Or.inr q
              · omega
            | succ c ih =>
              intro d z hd hd2 hz
              refine px_iload (q := 61) dI_M_prime_59 rfl rfl ?_
              refine px_iload_n (q := 62) dI_M_prime_61 rfl rfl ?_
              refine px_icmp_geN (q := 65) (tgt := 88) dI_M_prime_62 (by omega) (by omega) (by decide) rfl (fun b62 => ?_) (fun b62 => ?_)
              · refine fin z ?_ _ rfl
                rcases hz with ⟨q, q1, q2⟩ | q
                · exact Or.inl ⟨q, q1, fun j x1 x2 => q2 j x1 (by omega) x2⟩
                · exact Or.inr q
              · have hmod : v a % d < d := Nat.mod_lt _ (by omega)
                refine px_iload_n (q := 66) dI_M_prime_65 rfl rfl ?_
                refine px_if_eqN (q := 69) (tgt := 80) dI_M_prime_66 (by omega) (by decide) rfl (fun b66 => ?_) (fun b66 => ?_)
                · refine px_iconst (q := 81) (v := nI 0) dI_M_prime_80 (by decide +kernel) rfl ?_
                  refine px_istore_n (q := 82) dI_M_prime_81 rfl (by decide) rfl rfl ?_
                  refine px_iinc (q := 85) dI_M_prime_82 rfl (ic_1 _) (by decide) rfl rfl ?_
                  refine px_goto (tgt := 59) dI_M_prime_85 (by decide) ?_
                  refine ih (d + 1) 0 (by omega) (by omega) (Or.inr ⟨rfl, ?_⟩)
                  rcases hz with ⟨q, -⟩ | ⟨-, q⟩
                  · omega
                  · exact q
                · refine px_iload_n (q := 70) dI_M_prime_69 rfl rfl ?_
                  refine px_iload (q := 72) dI_M_prime_70 rfl rfl ?_
                  refine px_iremN (q := 73) dI_M_prime_72 (by omega) (by omega) (by omega) rfl ?_
                  refine px_if_eqN (q := 76) (tgt := 80) dI_M_prime_73 (by omega) (by decide) rfl (fun b73 => ?_) (fun b73 => ?_)
                  · refine px_iconst (q := 81) (v := nI 0) dI_M_prime_80 (by decide +kernel) rfl ?_
                    refine px_istore_n (q := 82) dI_M_prime_81 rfl (by decide) rfl rfl ?_
                    refine px_iinc (q := 85) dI_M_prime_82 rfl (ic_1 _) (by decide) rfl rfl ?_
                    refine px_goto (tgt := 59) dI_M_prime_85 (by decide) ?_
                    exact ih (d + 1) 0 (by omega) (by omega) (Or.inr ⟨rfl, Or.inr ⟨d, hd2, by omega, b73⟩⟩)
                  · refine px_iconst (q := 77) (v := nI 1) dI_M_prime_76 (by decide +kernel) rfl ?_
                    refine px_goto (tgt := 81) dI_M_prime_77 (by decide) ?_
                    refine px_istore_n (q := 82) dI_M_prime_81 rfl (by decide) rfl rfl ?_
                    refine px_iinc (q := 85) dI_M_prime_82 rfl (ic_1 _) (by decide) rfl rfl ?_
                    refine px_goto (tgt := 59) dI_M_prime_85 (by decide) ?_
                    refine ih (d + 1) 1 (by omega) (by omega) (Or.inl ⟨rfl, by omega, fun j x1 x2 x3 => ?_⟩)
                    rcases hz with ⟨-, -, q⟩ | ⟨q, -⟩
                    · by_cases e : j = d
                      · rw [e]; exact b73
                      · exact q j x1 (by omega) x3
                    · omega
          refine px_iload_n (q := 46) dI_M_prime_45 rfl rfl ?_
          refine px_iconst (q := 47) (v := nI 1) dI_M_prime_46 (by decide +kernel) rfl ?_
          refine px_icmp_leN (q := 50) (tgt := 54) dI_M_prime_47 (by omega) (by omega) (by decide) rfl (fun b47 => ?_) (fun b47 => ?_)
          · refine px_iconst (q := 55) (v := nI 0) dI_M_prime_54 (by decide +kernel) rfl ?_
            refine px_istore_n (q := 56) dI_M_prime_55 rfl (by decide) rfl rfl ?_
            refine px_iconst (q := 57) (v := nI 2) dI_M_prime_56 (by decide +kernel) rfl ?_
            refine px_istore (q := 59) dI_M_prime_57 (by decide) rfl rfl ?_
            exact key 598 2 0 rfl (by omega) (Or.inr ⟨rfl, Or.inl (by omega)⟩)
          · refine px_iconst (q := 51) (v := nI 1) dI_M_prime_50 (by decide +kernel) rfl ?_
            refine px_goto (tgt := 55) dI_M_prime_51 (by decide) ?_
            refine px_istore_n (q := 56) dI_M_prime_55 rfl (by decide) rfl rfl ?_
            refine px_iconst (q := 57) (v := nI 2) dI_M_prime_56 (by decide +kernel) rfl ?_
            refine px_istore (q := 59) dI_M_prime_57 (by decide) rfl rfl ?_
            exact key 598 2 1 rfl (by omega) (Or.inl ⟨rfl, by omega, fun j x1 x2 => absurd x1 (by omega)⟩)
        · exact absurd rfl b40
      · omega
    · have e : (if v a ≤ 512 then v a else 512) = 512 := by split <;> omega
      rw [e]
      refine px_istore_n (q := 23) dI_M_prime_22 rfl (by decide) rfl rfl ?_
      refine px_aload_n (q := 24) dI_M_prime_23 rfl rfl ?_
      refine px_iload_n (q := 25) dI_M_prime_24 rfl rfl ?_
      refine px_sipush (q := 28) (v := nI 511) dI_M_prime_25 (by decide +kernel) rfl ?_
      refine px_icmp_leN (q := 31) (tgt := 35) dI_M_prime_28 (by omega) (by omega) (by decide) rfl (fun b28 => ?_) (fun b28 => ?_)
      · exact absurd b28 (by decide)
      · refine px_iconst (q := 32) (v := nI 1) dI_M_prime_31 (by decide +kernel) rfl ?_
        refine px_goto (tgt := 36) dI_M_prime_32 (by decide) ?_
        refine px_iconst (q := 37) (v := nI 2) dI_M_prime_36 (by decide +kernel) rfl ?_
        refine px_callV2 (q := 40) (ν := mM_refused) dI_M_prime_37 (by decide) rfl rfl wl_M_27 wm_M_refused wv_M_refused wb_M_refused wi_M ⟨rfl, rfl⟩ (by decide +kernel) ⟨(Nat.le_of_ble_eq_true rfl), (Nat.le_of_ble_eq_true rfl)⟩ (Nat.le_of_ble_eq_true rfl) rfl (c_M_refused (by decide) (fun f2 hf2 => ?_))
        rw [yr_yr]
        refine px_if_eqN (q := 43) (tgt := 45) dI_M_prime_40 (by omega) (by decide) rfl (fun b40 => ?_) (fun b40 => ?_)
        · exact absurd b40 (by decide)
        · refine px_iconst (q := 44) (v := nI 0) dI_M_prime_43 (by decide +kernel) rfl ?_
          refine px_zret dI_M_prime_44 rfl (by decide +kernel) ?_
          exact h2 (by omega) _ (mz_c hm) (mf_y (by decide) mf_0) (by rw [yr_s, hf2]; rfl)
  · exact absurd rfl b9
end CM8
