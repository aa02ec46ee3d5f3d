/-! Polynomial: contracts -/
section CY
variable {l : Launch} {g : pw_G} {X : pw_X} {Y : pw_Y} {Post : pw_P}
theorem c_A_fillI {a n : Nat} {v : Int32} (ha : ln_I a = some n) (hp : ∀ f : Nat → Int32, (∀ i, i < n → f i = v) → Post none X (yr_ Y a f)) : pw_Met l g mA_fillI [.ref (ad_ g a), .int v] X Y Post := by
  have hn := ln_I_774 ha
  refine pw_ofW (by decide +kernel) rfl (Nat.le_of_ble_eq_true rfl) rfl (fun sz => ?_)
  refine px_iconst (q := 1) (v := nI 0) dI_A_fillI_0 (by decide +kernel) rfl ?_
  refine px_istore_n (q := 2) dI_A_fillI_1 rfl (by decide) rfl rfl ?_
  refine px_aload_n (q := 3) dI_A_fillI_2 rfl rfl ?_
  refine px_alenI (q := 4) dI_A_fillI_3 ha rfl ?_
  refine px_istore_n (q := 5) dI_A_fillI_4 rfl (by decide) rfl rfl ?_
  have key : ∀ (d i : Nat) (f : Nat → Int32), i + d = n → (∀ j, j < i → f j = v) → pw_W l g mA_fillI sz (pw_qM g sz Post 0 0) 5 [(0, .ref (ad_ g a)), (1, .int v), (2, .int (nI i)), (3, .int (nI n))] [] X (yr_ Y a f) := by
    intro d
    induction d with
    | zero =>
      intro i f hi hf
      refine px_iload_n (q := 6) dI_A_fillI_5 rfl rfl ?_
      refine px_iload_n (q := 7) dI_A_fillI_6 rfl rfl ?_
      refine px_icmp_geN (q := 10) (tgt := 20) dI_A_fillI_7 (by omega) (by omega) (by decide) rfl (fun b7 => ?_) (fun b7 => ?_)
      · refine px_vret dI_A_fillI_20 rfl ?_
        exact hp f (fun j hj => hf j (by omega))
      · omega
    | succ d ih =>
      intro i f hi hf
      refine px_iload_n (q := 6) dI_A_fillI_5 rfl rfl ?_
      refine px_iload_n (q := 7) dI_A_fillI_6 rfl rfl ?_
      refine px_icmp_geN (q := 10) (tgt := 20) dI_A_fillI_7 (by omega) (by omega) (by decide) rfl (fun b7 => ?_) (fun b7 => ?_)
      · omega
      · refine px_aload_n (q := 11) dI_A_fillI_10 rfl rfl ?_
        refine px_iload_n (q := 12) dI_A_fillI_11 rfl rfl ?_
        refine px_iload_n (q := 13) dI_A_fillI_12 rfl rfl ?_
        refine px_iast (q := 14) dI_A_fillI_13 ha (by omega) (by omega) rfl ?_
        refine px_iinc (q := 17) dI_A_fillI_14 rfl (ic_1 _) (by decide) rfl rfl ?_
        refine px_goto (tgt := 5) dI_A_fillI_17 (by decide) ?_
        rw [yr_s, yr_yr]
        refine ih (i + 1) _ (by omega) (fun j hj => ?_)
        by_cases e : j = i
        · subst e; exact pk_us
        · rw [pk_un e]; exact hf j (by omega)
  exact px_XY rfl yr_id.symm (key n 0 (Y a) (by omega) (fun j hj => absurd hj (by omega)))
theorem c_Y_squareCoefficient {n m i : Nat} {p : Nat → Nat} (hn : n ≤ 4095) (hm : m ≤ 64) (hi : i < m) (hp0 : pr_ (Y 21) m n p) (hp : Post (some (.int (nI (sm_ (fun j => p j * p ((i + m - j) % m)) m)))) X Y) : pw_Met l g mY_squareCoefficient [.ref (ad_ g 20), .int (nI i), .int (nI m)] X Y Post := by
  refine pw_ofW (by decide +kernel) rfl (Nat.le_of_ble_eq_true rfl) rfl (fun sz => ?_)
  refine px_iconst (q := 1) (v := nI 0) dI_Y_squareCoefficient_0 (by decide +kernel) rfl ?_
  refine px_istore_n (q := 2) dI_Y_squareCoefficient_1 rfl (by decide) rfl rfl ?_
  refine px_iconst (q := 3) (v := nI 0) dI_Y_squareCoefficient_2 (by decide +kernel) rfl ?_
  refine px_istore (q := 5) dI_Y_squareCoefficient_3 (by decide) rfl rfl ?_
  have key : ∀ (d j : Nat), j + d = m → pw_W l g mY_squareCoefficient sz (pw_qM g sz Post 0 0) 5 [(0, .ref (ad_ g 20)), (1, .int (nI i)), (2, .int (nI m)), (3, .int (nI (sm_ (fun j => p j * p ((i + m - j) % m)) j))), (4, .int (nI j))] [] X Y := by
    intro d
    induction d with
    | zero =>
      intro j hj
      obtain rfl : j = m := by omega
      refine px_iload (q := 7) dI_Y_squareCoefficient_5 rfl rfl ?_
      refine px_iload_n (q := 8) dI_Y_squareCoefficient_7 rfl rfl ?_
      refine px_icmp_geN (q := 11) (tgt := 56) dI_Y_squareCoefficient_8 (by omega) (by omega) (by decide) rfl (fun b8 => ?_) (fun b8 => ?_)
      · refine px_iload_n (q := 57) dI_Y_squareCoefficient_56 rfl rfl ?_
        refine px_iret dI_Y_squareCoefficient_57 rfl ?_
        exact hp
      · omega
    | succ d ih =>
      intro j hj
      have hix : (i + m - j) % m < m := Nat.mod_lt _ (by omega)
      have a1 := hp0 j (by omega)
      have a2 := hp0 ((i + m - j) % m) hix
      have hnx : pw_W l g mY_squareCoefficient sz (pw_qM g sz Post 0 0) 30 [(0, .ref (ad_ g 20)), (1, .int (nI i)), (2, .int (nI m)), (3, .int (nI (sm_ (fun j => p j * p ((i + m - j) % m)) j))), (4, .int (nI j))] [.int (nI ((i + m - j) % m))] X Y := by
        refine px_istore (q := 32) dI_Y_squareCoefficient_30 (by decide) rfl rfl ?_
        refine px_iload_n (q := 33) dI_Y_squareCoefficient_32 rfl rfl ?_
        refine px_aload_n (q := 34) dI_Y_squareCoefficient_33 rfl rfl ?_
        refine px_getY (q := 37) (j := 0) dI_Y_squareCoefficient_34 wf_Y_9 rfl (by decide) rfl rfl ?_
        refine px_iload (q := 39) dI_Y_squareCoefficient_37 rfl rfl ?_
        refine px_iald (q := 40) dI_Y_squareCoefficient_39 rfl (by omega) (by omega) a1.1 rfl ?_
        refine px_aload_n (q := 41) dI_Y_squareCoefficient_40 rfl rfl ?_
        refine px_getY (q := 44) (j := 0) dI_Y_squareCoefficient_41 wf_Y_9 rfl (by decide) rfl rfl ?_
        refine px_iload (q := 46) dI_Y_squareCoefficient_44 rfl rfl ?_
        refine px_iald (q := 47) dI_Y_squareCoefficient_46 rfl (by omega) (by omega) a2.1 rfl ?_
        refine px_imulN (q := 48) dI_Y_squareCoefficient_47 rfl ?_
        refine px_iaddN (q := 49) dI_Y_squareCoefficient_48 rfl ?_
        refine px_istore_n (q := 50) dI_Y_squareCoefficient_49 rfl (by decide) rfl rfl ?_
        refine px_iinc (q := 53) dI_Y_squareCoefficient_50 rfl (ic_1 _) (by decide) rfl rfl ?_
        refine px_goto (tgt := 5) dI_Y_squareCoefficient_53 (by decide) ?_
        refine px_keep [0, 1, 2, 3, 4] rfl ?_
        exact ih (j + 1) (by omega)
      refine px_iload (q := 7) dI_Y_squareCoefficient_5 rfl rfl ?_
      refine px_iload_n (q := 8) dI_Y_squareCoefficient_7 rfl rfl ?_
      refine px_icmp_geN (q := 11) (tgt := 56) dI_Y_squareCoefficient_8 (by omega) (by omega) (by decide) rfl (fun b8 => ?_) (fun b8 => ?_)
      · omega
      · refine px_iload (q := 13) dI_Y_squareCoefficient_11 rfl rfl ?_
        refine px_iload_n (q := 14) dI_Y_squareCoefficient_13 rfl rfl ?_
        refine px_icmp_gtN (q := 17) (tgt := 24) dI_Y_squareCoefficient_14 (by omega) (by omega) (by decide) rfl (fun b14 => ?_) (fun b14 => ?_)
        · refine px_iload_n (q := 25) dI_Y_squareCoefficient_24 rfl rfl ?_
          refine px_iload (q := 27) dI_Y_squareCoefficient_25 rfl rfl ?_
          refine px_isub (q := 28) dI_Y_squareCoefficient_27 rfl ?_
          refine px_iload_n (q := 29) dI_Y_squareCoefficient_28 rfl rfl ?_
          refine px_iadd (q := 30) dI_Y_squareCoefficient_29 rfl ?_
          refine px_ti (y := nI ((i + m - j) % m)) ?_ hnx
          rw [im_ (by omega), Nat.mod_eq_of_lt (by omega)]
        · refine px_iload_n (q := 18) dI_Y_squareCoefficient_17 rfl rfl ?_
          refine px_iload (q := 20) dI_Y_squareCoefficient_18 rfl rfl ?_
          refine px_isubN (q := 21) dI_Y_squareCoefficient_20 (by omega) rfl ?_
          refine px_goto (tgt := 30) dI_Y_squareCoefficient_21 (by decide) ?_
          refine px_ti (y := nI ((i + m - j) % m)) ?_ hnx
          rw [show i + m - j = i - j + m by omega, Nat.add_mod_right, Nat.mod_eq_of_lt (by omega)]
  exact key m 0 (by omega)
theorem c_Y_squareBy {n m : Nat} {p : Nat → Nat} (hn2 : 2 ≤ n) (hn : n ≤ 4095) (hm1 : 1 ≤ m) (hm : m ≤ 64) (hp0 : pr_ (Y 21) m n p) (hp : ∀ f h : Nat → Int32, pr_ f m n (cv_ n m p p) → Post none X (yr_ (yr_ Y 22 h) 21 f)) : pw_Met l g mY_squareBy [.ref (ad_ g 20), .int (nI n), .int (nI m)] X Y Post := by
  refine pw_ofW (by decide +kernel) rfl (Nat.le_of_ble_eq_true rfl) rfl (fun sz => ?_)
  refine px_iconst (q := 1) (v := nI 0) dI_Y_squareBy_0 (by decide +kernel) rfl ?_
  refine px_istore_n (q := 2) dI_Y_squareBy_1 rfl (by decide) rfl rfl ?_
  have key : ∀ (d i : Nat) (f : Nat → Int32), i + d = m → (∀ j, j < i → f j = nI (cv_ n m p p j)) → pw_W l g mY_squareBy sz (pw_qM g sz Post 0 0) 2 [(0, .ref (ad_ g 20)), (1, .int (nI n)), (2, .int (nI m)), (3, .int (nI i))] [] X (yr_ Y 22 f) := by
    intro d
    induction d with
    | zero =>
      intro i f hi hf
      refine px_iload_n (q := 3) dI_Y_squareBy_2 rfl rfl ?_
      refine px_iload_n (q := 4) dI_Y_squareBy_3 rfl rfl ?_
      refine px_icmp_geN (q := 7) (tgt := 27) dI_Y_squareBy_4 (by omega) (by omega) (by decide) rfl (fun b4 => ?_) (fun b4 => ?_)
      · refine px_aload_n (q := 28) dI_Y_squareBy_27 rfl rfl ?_
        refine px_getY (q := 31) (j := 1) dI_Y_squareBy_28 wf_Y_15 rfl (by decide) rfl rfl ?_
        refine px_iconst (q := 32) (v := nI 0) dI_Y_squareBy_31 (by decide +kernel) rfl ?_
        refine px_aload_n (q := 33) dI_Y_squareBy_32 rfl rfl ?_
        refine px_getY (q := 36) (j := 0) dI_Y_squareBy_33 wf_Y_9 rfl (by decide) rfl rfl ?_
        refine px_iconst (q := 37) (v := nI 0) dI_Y_squareBy_36 (by decide +kernel) rfl ?_
        refine px_iload_n (q := 38) dI_Y_squareBy_37 rfl rfl ?_
        refine px_copyi (q := 41) dI_Y_squareBy_38 wl_Y_45 rfl rfl (by omega) (by omega) (by omega) (by omega) (by decide) (Nat.le_of_ble_eq_true rfl) rfl ?_
        refine px_vret dI_Y_squareBy_41 rfl ?_
        refine hp _ f (fun j hj => ⟨?_, Nat.mod_lt _ (by omega)⟩)
        rw [pk_cpy_in (by omega) (by omega), yr_s]
        simp only [Nat.zero_add, Nat.sub_zero]
        exact hf j (by omega)
      · omega
    | succ d ih =>
      intro i f hi hf
      have hb : sm_ (fun j => p j * p ((i + m - j) % m)) m ≤ m * (4095 * 4095) := sm_le m (fun j hj => by
        have a1 := (hp0 j hj).2
        have a2 := (hp0 ((i + m - j) % m) (Nat.mod_lt _ (by omega))).2
        exact Nat.mul_le_mul (by omega) (by omega))
      have hb2 : m * (4095 * 4095) ≤ 64 * (4095 * 4095) := Nat.mul_le_mul_right _ hm
      refine px_iload_n (q := 3) dI_Y_squareBy_2 rfl rfl ?_
      refine px_iload_n (q := 4) dI_Y_squareBy_3 rfl rfl ?_
      refine px_icmp_geN (q := 7) (tgt := 27) dI_Y_squareBy_4 (by omega) (by omega) (by decide) rfl (fun b4 => ?_) (fun b4 => ?_)
      · omega
      · refine px_aload_n (q := 8) dI_Y_squareBy_7 rfl rfl ?_
        refine px_getY (q := 11) (j := 1) dI_Y_squareBy_8 wf_Y_15 rfl (by decide) rfl rfl ?_
        refine px_iload_n (q := 12) dI_Y_squareBy_11 rfl rfl ?_
        refine px_aload_n (q := 13) dI_Y_squareBy_12 rfl rfl ?_
        refine px_iload_n (q := 14) dI_Y_squareBy_13 rfl rfl ?_
        refine px_iload_n (q := 15) dI_Y_squareBy_14 rfl rfl ?_
        refine px_callV2 (q := 18) (ν := mY_squareCoefficient) dI_Y_squareBy_15 (by decide) rfl rfl wl_Y_41 wm_Y_squareCoefficient wv_Y_squareCoefficient wb_Y_squareCoefficient wi_Y ⟨rfl, rfl⟩ (by decide +kernel) ⟨(Nat.le_of_ble_eq_true rfl), (Nat.le_of_ble_eq_true rfl)⟩ (Nat.le_of_ble_eq_true rfl) rfl (c_Y_squareCoefficient hn hm (by omega) (by rw [yr_n (by decide)]; exact hp0) ?_)
        refine px_iload_n (q := 19) dI_Y_squareBy_18 rfl rfl ?_
        refine px_iremN (q := 20) dI_Y_squareBy_19 (by omega) (by omega) (by omega) rfl ?_
        refine px_iast (q := 21) dI_Y_squareBy_20 rfl (by omega) (by omega) rfl ?_
        refine px_iinc (q := 24) dI_Y_squareBy_21 rfl (ic_1 _) (by decide) rfl rfl ?_
        refine px_goto (tgt := 2) dI_Y_squareBy_24 (by decide) ?_
        rw [yr_s, yr_yr]
        refine ih (i + 1) _ (by omega) (fun j hj => ?_)
        by_cases e : j = i
        · subst e; exact pk_us
        · rw [pk_un e]; exact hf j (by omega)
  exact px_XY rfl yr_id.symm (key m 0 (Y 22) (by omega) (fun j hj => absurd hj (by omega)))
theorem c_Y_multiplyByBinomial {n m c : Nat} {p : Nat → Nat} (hn2 : 2 ≤ n) (hn : n ≤ 4095) (hm1 : 1 ≤ m) (hm : m ≤ 64) (hc : c ≤ 4095) (hp0 : pr_ (Y 21) m n p) (hp : ∀ f : Nat → Int32, pr_ f m n (pm_ n m c p) → Post none X (yr_ Y 21 f)) : pw_Met l g mY_multiplyByBinomial [.ref (ad_ g 20), .int (nI n), .int (nI m), .int (nI c)] X Y Post := by
  have a1 := hp0 (m - 1) (by omega)
  refine pw_ofW (by decide +kernel) rfl (Nat.le_of_ble_eq_true rfl) rfl (fun sz => ?_)
  refine px_aload_n (q := 1) dI_Y_multiplyByBinomial_0 rfl rfl ?_
  refine px_getY (q := 4) (j := 0) dI_Y_multiplyByBinomial_1 wf_Y_9 rfl (by decide) rfl rfl ?_
  refine px_iload_n (q := 5) dI_Y_multiplyByBinomial_4 rfl rfl ?_
  refine px_iconst (q := 6) (v := nI 1) dI_Y_multiplyByBinomial_5 (by decide +kernel) rfl ?_
  refine px_isubN (q := 7) dI_Y_multiplyByBinomial_6 (by omega) rfl ?_
  refine px_iald (q := 8) dI_Y_multiplyByBinomial_7 rfl (by omega) (by omega) a1.1 rfl ?_
  refine px_istore (q := 10) dI_Y_multiplyByBinomial_8 (by decide) rfl rfl ?_
  refine px_iload_n (q := 11) dI_Y_multiplyByBinomial_10 rfl rfl ?_
  refine px_iconst (q := 12) (v := nI 1) dI_Y_multiplyByBinomial_11 (by decide +kernel) rfl ?_
  refine px_isubN (q := 13) dI_Y_multiplyByBinomial_12 (by omega) rfl ?_
  refine px_istore (q := 15) dI_Y_multiplyByBinomial_13 (by decide) rfl rfl ?_
  have key : ∀ (i : Nat) (f : Nat → Int32), i < m → (∀ j, i < j → j < m → f j = nI (pm_ n m c p j)) → (∀ j, j ≤ i → f j = nI (p j)) → pw_W l g mY_multiplyByBinomial sz (pw_qM g sz Post 0 0) 15 [(0, .ref (ad_ g 20)), (1, .int (nI n)), (2, .int (nI m)), (3, .int (nI c)), (4, .int (nI (p (m - 1)))), (5, .int (nI i))] [] X (yr_ Y 21 f) := by
    intro i
    induction i with
    | zero =>
      intro f hi h1 h2
      have b1 := (hp0 0 hi).2
      have hb : c * p 0 ≤ 4095 * 4095 := Nat.mul_le_mul hc (by omega)
      refine px_iload (q := 17) dI_Y_multiplyByBinomial_15 rfl rfl ?_
      refine px_if_leN (q := 20) (tgt := 54) dI_Y_multiplyByBinomial_17 (by omega) (by decide) rfl (fun b17 => ?_) (fun b17 => ?_)
      · refine px_aload_n (q := 55) dI_Y_multiplyByBinomial_54 rfl rfl ?_
        refine px_getY (q := 58) (j := 0) dI_Y_multiplyByBinomial_55 wf_Y_9 rfl (by decide) rfl rfl ?_
        refine px_iconst (q := 59) (v := nI 0) dI_Y_multiplyByBinomial_58 (by decide +kernel) rfl ?_
        refine px_iload (q := 61) dI_Y_multiplyByBinomial_59 rfl rfl ?_
        refine px_iload_n (q := 62) dI_Y_multiplyByBinomial_61 rfl rfl ?_
        refine px_aload_n (q := 63) dI_Y_multiplyByBinomial_62 rfl rfl ?_
        refine px_getY (q := 66) (j := 0) dI_Y_multiplyByBinomial_63 wf_Y_9 rfl (by decide) rfl rfl ?_
        refine px_iconst (q := 67) (v := nI 0) dI_Y_multiplyByBinomial_66 (by decide +kernel) rfl ?_
        refine px_iald (q := 68) dI_Y_multiplyByBinomial_67 rfl (by omega) (by omega) (ys_ (h2 0 (by omega))) rfl ?_
        refine px_imulN (q := 69) dI_Y_multiplyByBinomial_68 rfl ?_
        refine px_iaddN (q := 70) dI_Y_multiplyByBinomial_69 rfl ?_
        refine px_iload_n (q := 71) dI_Y_multiplyByBinomial_70 rfl rfl ?_
        refine px_iremN (q := 72) dI_Y_multiplyByBinomial_71 (by omega) (by omega) (by omega) rfl ?_
        refine px_iast (q := 73) dI_Y_multiplyByBinomial_72 rfl (by omega) (by omega) rfl ?_
        refine px_vret dI_Y_multiplyByBinomial_73 rfl ?_
        rw [yr_s, yr_yr]
        refine hp _ (fun j hj => ⟨?_, Nat.mod_lt _ (by omega)⟩)
        by_cases e : j = 0
        · subst e
          rw [pk_us]
          show _ = nI ((p ((0 + m - 1) % m) + c * p 0) % n)
          rw [Nat.zero_add, Nat.mod_eq_of_lt (a := m - 1) (by omega)]
        · rw [pk_un e]; exact h1 j (by omega) hj
      · omega
    | succ i ih =>
      intro f hi h1 h2
      have b1 := (hp0 (i + 1) hi).2
      have b2 := (hp0 i (by omega)).2
      have hb : c * p (i + 1) ≤ 4095 * 4095 := Nat.mul_le_mul hc (by omega)
      refine px_iload (q := 17) dI_Y_multiplyByBinomial_15 rfl rfl ?_
      refine px_if_leN (q := 20) (tgt := 54) dI_Y_multiplyByBinomial_17 (by omega) (by decide) rfl (fun b17 => ?_) (fun b17 => ?_)
      · omega
      · refine px_aload_n (q := 21) dI_Y_multiplyByBinomial_20 rfl rfl ?_
        refine px_getY (q := 24) (j := 0) dI_Y_multiplyByBinomial_21 wf_Y_9 rfl (by decide) rfl rfl ?_
        refine px_iload (q := 26) dI_Y_multiplyByBinomial_24 rfl rfl ?_
        refine px_aload_n (q := 27) dI_Y_multiplyByBinomial_26 rfl rfl ?_
        refine px_getY (q := 30) (j := 0) dI_Y_multiplyByBinomial_27 wf_Y_9 rfl (by decide) rfl rfl ?_
        refine px_iload (q := 32) dI_Y_multiplyByBinomial_30 rfl rfl ?_
        refine px_iconst (q := 33) (v := nI 1) dI_Y_multiplyByBinomial_32 (by decide +kernel) rfl ?_
        refine px_isubN (q := 34) dI_Y_multiplyByBinomial_33 (by omega) rfl ?_
        refine px_iald (q := 35) dI_Y_multiplyByBinomial_34 rfl (by omega) (by omega) (ys_ (h2 i (by omega))) rfl ?_
        refine px_iload_n (q := 36) dI_Y_multiplyByBinomial_35 rfl rfl ?_
        refine px_aload_n (q := 37) dI_Y_multiplyByBinomial_36 rfl rfl ?_
        refine px_getY (q := 40) (j := 0) dI_Y_multiplyByBinomial_37 wf_Y_9 rfl (by decide) rfl rfl ?_
        refine px_iload (q := 42) dI_Y_multiplyByBinomial_40 rfl rfl ?_
        refine px_iald (q := 43) dI_Y_multiplyByBinomial_42 rfl (by omega) (by omega) (ys_ (h2 (i + 1) (by omega))) rfl ?_
        refine px_imulN (q := 44) dI_Y_multiplyByBinomial_43 rfl ?_
        refine px_iaddN (q := 45) dI_Y_multiplyByBinomial_44 rfl ?_
        refine px_iload_n (q := 46) dI_Y_multiplyByBinomial_45 rfl rfl ?_
        refine px_iremN (q := 47) dI_Y_multiplyByBinomial_46 (by omega) (by omega) (by omega) rfl ?_
        refine px_iast (q := 48) dI_Y_multiplyByBinomial_47 rfl (by omega) (by omega) rfl ?_
        refine px_iinc (q := 51) dI_Y_multiplyByBinomial_48 rfl (ic_d (by omega)) (by decide) rfl rfl ?_
        refine px_goto (tgt := 15) dI_Y_multiplyByBinomial_51 (by decide) ?_
        rw [yr_s, yr_yr]
        refine ih _ (by omega) (fun j h4 h5 => ?_) (fun j h4 => ?_)
        · by_cases e : j = i + 1
          · subst e
            rw [pk_us]
            show _ = nI ((p ((i + 1 + m - 1) % m) + c * p (i + 1)) % n)
            rw [show i + 1 + m - 1 = i + m by omega, Nat.add_mod_right, Nat.mod_eq_of_lt (a := i) (by omega)]
          · rw [pk_un e]; exact h1 j (by omega) h5
        · rw [pk_un (by omega)]; exact h2 j (by omega)
  exact px_XY rfl yr_id.symm (key (m - 1) (Y 21) (by omega) (fun j h4 h5 => absurd h4 (by omega)) (fun j h4 => (hp0 j (by omega)).1))
theorem yr_c {Y : pw_Y} {a b : Nat} {f h k : Nat → Int32} (hab : a ≠ b) : yr_ (yr_ (yr_ Y a f) b h) a k = yr_ (yr_ Y a k) b h := by
  funext j
  by_cases h1 : j = a
  · subst h1; simp [yr_, hab]
  · by_cases h2 : j = b
    · subst h2; simp [yr_, h1]
    · simp [yr_, h1, h2]
theorem pr_congr {f : Nat → Int32} {m n : Nat} {p q : Nat → Nat} (h : pr_ f m n p) (e : ∀ i, i < m → p i = q i) : pr_ f m n q := fun i hi => by rw [← e i hi]; exact h i hi
theorem c_Y_raiseBinomial {n m c : Nat} (hn2 : 2 ≤ n) (hn : n ≤ 4095) (hm1 : 1 ≤ m) (hm : m ≤ 64) (hc : c ≤ 4095) (hp : ∀ f h : Nat → Int32, pr_ f m n (pp_ n m c n) → Post none X (yr_ (yr_ Y 22 h) 21 f)) : pw_Met l g mY_raiseBinomial [.ref (ad_ g 20), .int (nI n), .int (nI m), .int (nI c)] X Y Post := by
  refine pw_ofW (by decide +kernel) rfl (Nat.le_of_ble_eq_true rfl) rfl (fun sz => ?_)
  refine px_aload_n (q := 1) dI_Y_raiseBinomial_0 rfl rfl ?_
  refine px_getY (q := 4) (j := 0) dI_Y_raiseBinomial_1 wf_Y_9 rfl (by decide) rfl rfl ?_
  refine px_iconst (q := 5) (v := nI 0) dI_Y_raiseBinomial_4 (by decide +kernel) rfl ?_
  refine px_callS2 (q := 8) (ν := mA_fillI) dI_Y_raiseBinomial_5 wl_Y_22 ws_A_fillI wb_A_fillI wi_A ⟨rfl, rfl⟩ (by decide +kernel) ⟨(Nat.le_of_ble_eq_true rfl), (Nat.le_of_ble_eq_true rfl)⟩ (Nat.le_of_ble_eq_true rfl) rfl (c_A_fillI (a := 21) (n := 64) rfl (fun f0 hf0 => ?_))
  refine px_aload_n (q := 9) dI_Y_raiseBinomial_8 rfl rfl ?_
  refine px_getY (q := 12) (j := 0) dI_Y_raiseBinomial_9 wf_Y_9 rfl (by decide) rfl rfl ?_
  refine px_iconst (q := 13) (v := nI 0) dI_Y_raiseBinomial_12 (by decide +kernel) rfl ?_
  refine px_iconst (q := 14) (v := nI 1) dI_Y_raiseBinomial_13 (by decide +kernel) rfl ?_
  refine px_iast (q := 15) dI_Y_raiseBinomial_14 rfl (by omega) (by omega) rfl ?_
  refine px_iload_n (q := 16) dI_Y_raiseBinomial_15 rfl rfl ?_
  refine px_i2lN (q := 17) dI_Y_raiseBinomial_16 (by omega) rfl ?_
  refine px_callS1 (q := 20) (ν := mU_bitsOfWord) dI_Y_raiseBinomial_17 wl_Y_28 ws_U_bitsOfWord wb_U_bitsOfWord wi_U ⟨rfl, rfl⟩ (by decide +kernel) ⟨(Nat.le_of_ble_eq_true rfl), (Nat.le_of_ble_eq_true rfl)⟩ (Nat.le_of_ble_eq_true rfl) rfl (c_U_bitsOfWord (k := n) (by omega) (fun L hL hL1 hL2 => ?_))
  rw [yr_s, yr_yr]
  have hL3 : 2 ≤ L := by
    refine Nat.le_of_not_lt (fun q => ?_)
    have : 2 ^ L ≤ 2 ^ 1 := Nat.pow_le_pow_right (by decide) (by omega)
    omega
  refine px_iconst (q := 21) (v := nI 1) dI_Y_raiseBinomial_20 (by decide +kernel) rfl ?_
  refine px_isubN (q := 22) dI_Y_raiseBinomial_21 (by omega) rfl ?_
  refine px_istore (q := 24) dI_Y_raiseBinomial_22 (by decide) rfl rfl ?_
  have key : ∀ (K : Nat) (f h : Nat → Int32), K ≤ 32 → pr_ f m n (pp_ n m c (n / 2 ^ K)) → pw_W l g mY_raiseBinomial sz (pw_qM g sz Post 0 0) 24 [(0, .ref (ad_ g 20)), (1, .int (nI n)), (2, .int (nI m)), (3, .int (nI c)), (4, .int (mI K))] [] X (yr_ (yr_ Y 22 h) 21 f) := by
    intro K
    induction K with
    | zero =>
      intro f h hK hf
      rw [Nat.pow_zero, Nat.div_one] at hf
      refine px_iload (q := 26) dI_Y_raiseBinomial_24 rfl rfl ?_
      refine px_if_ltM (q := 29) (tgt := 58) dI_Y_raiseBinomial_26 (by omega) (by decide) rfl (fun b26 => ?_) (fun b26 => ?_)
      · refine px_vret dI_Y_raiseBinomial_58 rfl ?_
        exact hp f h hf
      · omega
    | succ K ih =>
      intro f h hK hf
      have hdv : n / 2 ^ K = 2 * (n / 2 ^ (K + 1)) + n / 2 ^ K % 2 := by
        rw [Nat.pow_succ, ← Nat.div_div_eq_div_mul]; omega
      have hle : n / 2 ^ K ≤ n := Nat.div_le_self _ _
      rw [mI_s]
      refine px_iload (q := 26) dI_Y_raiseBinomial_24 rfl rfl ?_
      refine px_if_ltN (q := 29) (tgt := 58) dI_Y_raiseBinomial_26 (by omega) (by decide) rfl (fun b26 => ?_) (fun b26 => ?_)
      · exact b26.elim
      · refine px_aload_n (q := 30) dI_Y_raiseBinomial_29 rfl rfl ?_
        refine px_iload_n (q := 31) dI_Y_raiseBinomial_30 rfl rfl ?_
        refine px_iload_n (q := 32) dI_Y_raiseBinomial_31 rfl rfl ?_
        refine px_callV2 (q := 35) (ν := mY_squareBy) dI_Y_raiseBinomial_32 (by decide) rfl rfl wl_Y_34 wm_Y_squareBy wv_Y_squareBy wb_Y_squareBy wi_Y ⟨rfl, rfl⟩ (by decide +kernel) ⟨(Nat.le_of_ble_eq_true rfl), (Nat.le_of_ble_eq_true rfl)⟩ (Nat.le_of_ble_eq_true rfl) rfl (c_Y_squareBy hn2 hn hm1 hm (by rw [yr_s]; exact hf) (fun f2 h2 hf2 => ?_))
        rw [yr_c (a := 22) (b := 21) (by decide), yr_yr]
        have hf3 : pr_ f2 m n (pp_ n m c (n / 2 ^ (K + 1) + n / 2 ^ (K + 1))) := pr_congr hf2 (fun i hi => cv_pp hn2 _ i hi)
        refine px_iload_n (q := 36) dI_Y_raiseBinomial_35 rfl rfl ?_
        refine px_iload (q := 38) dI_Y_raiseBinomial_36 rfl rfl ?_
        refine px_iushrN (q := 39) dI_Y_raiseBinomial_38 (by omega) (by omega) rfl ?_
        refine px_iconst (q := 40) (v := nI 1) dI_Y_raiseBinomial_39 (by decide +kernel) rfl ?_
        refine px_iand1 (q := 41) dI_Y_raiseBinomial_40 (by omega) rfl ?_
        refine px_iconst (q := 42) (v := nI 1) dI_Y_raiseBinomial_41 (by decide +kernel) rfl ?_
        refine px_icmp_neN (q := 45) (tgt := 52) dI_Y_raiseBinomial_42 (by omega) (by omega) (by decide) rfl (fun b42 => ?_) (fun b42 => ?_)
        · refine px_iinc (q := 55) dI_Y_raiseBinomial_52 rfl (ic_m _) (by decide) rfl rfl ?_
          refine px_goto (tgt := 24) dI_Y_raiseBinomial_55 (by decide) ?_
          refine ih f2 h2 (by omega) ?_
          rw [show n / 2 ^ K = n / 2 ^ (K + 1) + n / 2 ^ (K + 1) by omega]
          exact hf3
        · refine px_aload_n (q := 46) dI_Y_raiseBinomial_45 rfl rfl ?_
          refine px_iload_n (q := 47) dI_Y_raiseBinomial_46 rfl rfl ?_
          refine px_iload_n (q := 48) dI_Y_raiseBinomial_47 rfl rfl ?_
          refine px_iload_n (q := 49) dI_Y_raiseBinomial_48 rfl rfl ?_
          refine px_callV3 (q := 52) (ν := mY_multiplyByBinomial) dI_Y_raiseBinomial_49 (by decide) rfl rfl wl_Y_38 wm_Y_multiplyByBinomial wv_Y_multiplyByBinomial wb_Y_multiplyByBinomial wi_Y ⟨rfl, rfl⟩ (by decide +kernel) ⟨(Nat.le_of_ble_eq_true rfl), (Nat.le_of_ble_eq_true rfl)⟩ (Nat.le_of_ble_eq_true rfl) rfl (c_Y_multiplyByBinomial hn2 hn hm1 hm hc (by rw [yr_s]; exact hf3) (fun f4 hf4 => ?_))
          rw [yr_yr]
          refine px_iinc (q := 55) dI_Y_raiseBinomial_52 rfl (ic_m _) (by decide) rfl rfl ?_
          refine px_goto (tgt := 24) dI_Y_raiseBinomial_55 (by decide) ?_
          refine ih f4 h2 (by omega) ?_
          rw [show n / 2 ^ K = n / 2 ^ (K + 1) + n / 2 ^ (K + 1) + 1 by omega]
          exact hf4
  have hst := key L (upd f0 0 (nI 1)) (Y 22) hL (by
    rw [Nat.div_eq_of_lt hL1]
    intro i hi
    by_cases e : i = 0
    · subst e
      rw [pk_us]
      exact ⟨rfl, by show 1 < n; omega⟩
    · rw [pk_un e, hf0 i (by omega)]
      refine ⟨?_, ?_⟩
      · show nI 0 = nI (if i = 0 then 1 else 0)
        rw [if_neg e]
      · show (if i = 0 then 1 else 0) < n
        rw [if_neg e]; omega)
  rw [yr_id, mI_p (by omega)] at hst
  exact hst
theorem md_ {P u n : Nat} (h : u ≤ P) : (P - u) % n = 0 ↔ P % n = u % n := by
  constructor
  · intro e
    have h1 := Nat.mod_add_div (P - u) n
    rw [e, Nat.zero_add] at h1
    rw [show P = u + n * ((P - u) / n) by omega, Nat.add_mul_mod_self_left]
  · exact Nat.sub_mod_eq_zero_of_mod_eq
/-- the signed remainder is 0 just where the two are the same by n -/
theorem sr_ {P u n : Nat} (hP : P < 2 ^ 30) (hu : u < 2 ^ 30) (h0 : 0 < n) (hn : n < 2 ^ 30) : (nI P - nI u) - (nI P - nI u) / nI n * nI n = 0 ↔ P % n = u % n := by
  by_cases h : u ≤ P
  · rw [pk_sub h, pk_rem (by omega) h0 (by omega), nI_z (Nat.lt_trans (Nat.mod_lt _ h0) (by omega)), md_ h]
  · rw [ng_sub (by omega), ng_rem (by omega) h0 (by omega), ng_0 (Nat.lt_trans (Nat.mod_lt _ h0) (by omega)), md_ (by omega)]
    exact ⟨Eq.symm, Eq.symm⟩
theorem ss_ {a b c : Nat} : nI a - nI b - nI c = nI a - nI (b + c) := by
  rw [← nI_add, Int32.sub_eq_add_neg, Int32.sub_eq_add_neg, Int32.sub_eq_add_neg, Int32.neg_add, Int32.sub_eq_add_neg, Int32.add_assoc]
def cu_ (n m c i : Nat) : Nat := (if i = n % m then 1 else 0) + (if i = 0 then c else 0)
def cg_ (n m c : Nat) : Prop := ∀ i, i < m → pp_ n m c n i % n = cu_ n m c i % n
theorem c_Y_isCongruent {n m c : Nat} (hn2 : 2 ≤ n) (hn : n ≤ 4095) (hm1 : 1 ≤ m) (hm : m ≤ 64) (hc : c ≤ 4095) (h1 : ∀ f h : Nat → Int32, cg_ n m c → Post (some (.int (nI 1))) X (yr_ (yr_ Y 22 h) 21 f)) (h0 : ∀ f h : Nat → Int32, ¬ cg_ n m c → Post (some (.int (nI 0))) X (yr_ (yr_ Y 22 h) 21 f)) : pw_Met l g mY_isCongruent [.ref (ad_ g 20), .int (nI n), .int (nI m), .int (nI c)] X Y Post := by
  have hnm : n % m < m := Nat.mod_lt _ (by omega)
  refine pw_ofW (by decide +kernel) rfl (Nat.le_of_ble_eq_true rfl) rfl (fun sz => ?_)
  refine px_aload_n (q := 1) dI_Y_isCongruent_0 rfl rfl ?_
  refine px_iload_n (q := 2) dI_Y_isCongruent_1 rfl rfl ?_
  refine px_iload_n (q := 3) dI_Y_isCongruent_2 rfl rfl ?_
  refine px_iload_n (q := 4) dI_Y_isCongruent_3 rfl rfl ?_
  refine px_callV3 (q := 7) (ν := mY_raiseBinomial) dI_Y_isCongruent_4 (by decide) rfl rfl wl_Y_18 wm_Y_raiseBinomial wv_Y_raiseBinomial wb_Y_raiseBinomial wi_Y ⟨rfl, rfl⟩ (by decide +kernel) ⟨(Nat.le_of_ble_eq_true rfl), (Nat.le_of_ble_eq_true rfl)⟩ (Nat.le_of_ble_eq_true rfl) rfl (c_Y_raiseBinomial hn2 hn hm1 hm hc (fun f h hf => ?_))
  have a1 := hf (n % m) hnm
  have a0 := hf 0 (by omega)
  refine px_aload_n (q := 8) dI_Y_isCongruent_7 rfl rfl ?_
  refine px_getY (q := 11) (j := 0) dI_Y_isCongruent_8 wf_Y_9 rfl (by decide) rfl rfl ?_
  refine px_iload_n (q := 12) dI_Y_isCongruent_11 rfl rfl ?_
  refine px_iload_n (q := 13) dI_Y_isCongruent_12 rfl rfl ?_
  refine px_iremN (q := 14) dI_Y_isCongruent_13 (by omega) (by omega) (by omega) rfl ?_
  refine px_dup2 (q := 15) dI_Y_isCongruent_14 rfl rfl rfl ?_
  refine px_iald (q := 16) dI_Y_isCongruent_15 rfl (by omega) (by omega) (ys_ a1.1) rfl ?_
  refine px_iconst (q := 17) (v := nI 1) dI_Y_isCongruent_16 (by decide +kernel) rfl ?_
  refine px_isub (q := 18) dI_Y_isCongruent_17 rfl ?_
  refine px_iast (q := 19) dI_Y_isCongruent_18 rfl (by omega) (by omega) rfl ?_
  rw [yr_s, yr_yr]
  have e0 : upd f (n % m) (nI (pp_ n m c n (n % m)) - nI 1) 0 = nI (pp_ n m c n 0) - nI (if 0 = n % m then 1 else 0) := by
    by_cases q : 0 = n % m
    · rw [if_pos q, ← q, pk_us]
    · rw [if_neg q, pk_un q, a0.1]
      exact (pk_sub (Nat.zero_le _)).symm
  refine px_aload_n (q := 20) dI_Y_isCongruent_19 rfl rfl ?_
  refine px_getY (q := 23) (j := 0) dI_Y_isCongruent_20 wf_Y_9 rfl (by decide) rfl rfl ?_
  refine px_iconst (q := 24) (v := nI 0) dI_Y_isCongruent_23 (by decide +kernel) rfl ?_
  refine px_dup2 (q := 25) dI_Y_isCongruent_24 rfl rfl rfl ?_
  refine px_iald (q := 26) dI_Y_isCongruent_25 rfl (by omega) (by omega) (ys_ e0) rfl ?_
  refine px_iload_n (q := 27) dI_Y_isCongruent_26 rfl rfl ?_
  refine px_isub (q := 28) dI_Y_isCongruent_27 rfl ?_
  refine px_iast (q := 29) dI_Y_isCongruent_28 rfl (by omega) (by omega) rfl ?_
  rw [yr_s, yr_yr]
  generalize hF : upd (upd f (n % m) (nI (pp_ n m c n (n % m)) - nI 1)) 0 (nI (pp_ n m c n 0) - nI (if 0 = n % m then 1 else 0) - nI c) = F
  have hFi : ∀ i, i < m → F i = nI (pp_ n m c n i) - nI (cu_ n m c i) := by
    intro i hi
    subst hF
    by_cases q0 : i = 0
    · subst q0
      rw [pk_us, ss_]
      show _ = _ - nI ((if 0 = n % m then 1 else 0) + (if 0 = 0 then c else 0))
      rw [if_pos (rfl : (0 : Nat) = 0)]
    · rw [pk_un q0]
      show _ = _ - nI ((if i = n % m then 1 else 0) + (if i = 0 then c else 0))
      rw [if_neg q0, Nat.add_zero]
      by_cases q : i = n % m
      · rw [if_pos q, ← q, pk_us]
      · rw [if_neg q, pk_un q, (hf i hi).1]
        exact (pk_sub (Nat.zero_le _)).symm
  have hcu : ∀ i, cu_ n m c i < 2 ^ 30 := by
    intro i
    show (if i = n % m then 1 else 0) + (if i = 0 then c else 0) < _
    split <;> split <;> omega
  refine px_iconst (q := 30) (v := nI 0) dI_Y_isCongruent_29 (by decide +kernel) rfl ?_
  refine px_istore (q := 32) dI_Y_isCongruent_30 (by decide) rfl rfl ?_
  have key : ∀ (d i : Nat), i + d = m → (∀ j, j < i → pp_ n m c n j % n = cu_ n m c j % n) → pw_W l g mY_isCongruent sz (pw_qM g sz Post 0 0) 32 [(0, .ref (ad_ g 20)), (1, .int (nI n)), (2, .int (nI m)), (3, .int (nI c)), (4, .int (nI i))] [] X (yr_ (yr_ Y 22 h) 21 F) := by
    intro d
    induction d with
    | zero =>
      intro i hi hj
      refine px_iload (q := 34) dI_Y_isCongruent_32 rfl rfl ?_
      refine px_iload_n (q := 35) dI_Y_isCongruent_34 rfl rfl ?_
      refine px_icmp_geN (q := 38) (tgt := 58) dI_Y_isCongruent_35 (by omega) (by omega) (by decide) rfl (fun b35 => ?_) (fun b35 => ?_)
      · refine px_iconst (q := 59) (v := nI 1) dI_Y_isCongruent_58 (by decide +kernel) rfl ?_
        refine px_zret dI_Y_isCongruent_59 rfl (by decide +kernel) ?_
        exact h1 F h (fun j hjm => hj j (by omega))
      · omega
    | succ d ih =>
      intro i hi hj
      have hpl := pp_lt (n := n) (m := m) (c := c) hn2 n i
      have hsr := sr_ (P := pp_ n m c n i) (u := cu_ n m c i) (n := n) (by omega) (hcu i) (by omega) (by omega)
      refine px_iload (q := 34) dI_Y_isCongruent_32 rfl rfl ?_
      refine px_iload_n (q := 35) dI_Y_isCongruent_34 rfl rfl ?_
      refine px_icmp_geN (q := 38) (tgt := 58) dI_Y_isCongruent_35 (by omega) (by omega) (by decide) rfl (fun b35 => ?_) (fun b35 => ?_)
      · omega
      · refine px_aload_n (q := 39) dI_Y_isCongruent_38 rfl rfl ?_
        refine px_getY (q := 42) (j := 0) dI_Y_isCongruent_39 wf_Y_9 rfl (by decide) rfl rfl ?_
        refine px_iload (q := 44) dI_Y_isCongruent_42 rfl rfl ?_
        refine px_iald (q := 45) dI_Y_isCongruent_44 rfl (by omega) (by omega) (ys_ (hFi i (by omega))) rfl ?_
        refine px_iload_n (q := 46) dI_Y_isCongruent_45 rfl rfl ?_
        refine px_irem (q := 47) dI_Y_isCongruent_46 (nI_ne0 (by omega) (by omega)) rfl ?_
        refine px_if_eq (q := 50) (tgt := 52) dI_Y_isCongruent_47 (by decide) rfl (fun b47 => ?_) (fun b47 => ?_)
        · refine px_iinc (q := 55) dI_Y_isCongruent_52 rfl (ic_1 _) (by decide) rfl rfl ?_
          refine px_goto (tgt := 32) dI_Y_isCongruent_55 (by decide) ?_
          refine ih (i + 1) (by omega) (fun j hj2 => ?_)
          by_cases q : j = i
          · subst q; exact hsr.mp b47
          · exact hj j (by omega)
        · refine px_iconst (q := 51) (v := nI 0) dI_Y_isCongruent_50 (by decide +kernel) rfl ?_
          refine px_zret dI_Y_isCongruent_51 rfl (by decide +kernel) ?_
          exact h0 F h (fun hcg => b47 (hsr.mpr (hcg i (by omega))))
  exact key m 0 (by omega) (fun j hj => absurd hj (by omega))
end CY
