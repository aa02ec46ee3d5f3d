/-! the reference's calls put, append, divide, power, order, prime -/
section CM7
variable {l : Launch} {g : pw_G} {X : pw_X} {Y : pw_Y} {Post : pw_P} {v : Nat → Nat}
theorem sr64 {a i : Nat} (ha : a < 2 ^ 63) (hi : i < 64) : lN a >>> ((nI i).toInt64 &&& 63) = lN (a / 2 ^ i) := by
  rw [wb_c i hi]
  have hd : a / 2 ^ i ≤ a := Nat.div_le_self _ _
  apply Int64.toInt_inj.mp
  have hD : ((lN i).toBitVec.smod 64).toNat = i := by
    rw [wb_tb, wb_sm i hi, BitVec.toNat_ofNat, Nat.mod_eq_of_lt (by omega)]
  have e : (lN a >>> lN i).toInt = (lN a).toInt >>> i := by
    conv => rhs; rw [← hD]
    exact BitVec.toInt_sshiftRight ..
  rw [e, Int.shiftRight_eq_div_pow, pk_lT ha, pk_lT (by omega)]
  rfl
theorem sa_ {u k : Nat} (hu : u < 2 ^ 32) (hk : k < 32) : nI u >>> (nI k &&& 31) &&& nI 1 = nI (u / 2 ^ k % 2) := by
  have hs : ((nI k &&& 31).toBitVec.smod 32).toNat = k := by
    have : ∀ n, n < 32 → ((nI n &&& 31).toBitVec.smod 32).toNat = n := by decide +kernel
    exact this k hk
  obtain ⟨n, hn, e⟩ := wb_of32 (nI u >>> (nI k &&& 31))
  rw [e, pk_andN hn 1 (by decide)]
  congr 1
  have hb : (nI u >>> (nI k &&& 31)).toBitVec = (nI u).toBitVec.sshiftRight ((nI k &&& 31).toBitVec.smod 32).toNat := rfl
  rw [e, hs] at hb
  have h1 := congrArg (fun b : BitVec 32 => b.getLsbD 0) hb
  simp only [BitVec.getLsbD_sshiftRight] at h1
  have h2 : (nI n).toBitVec.getLsbD 0 = n.testBit 0 := by
    show ((nI n).toBitVec.toNat).testBit 0 = _
    rw [pk_tn hn]
  have h3 : (nI u).toBitVec.getLsbD (k + 0) = u.testBit k := by
    show ((nI u).toBitVec.toNat).testBit (k + 0) = _
    rw [pk_tn hu]
    rfl
  rw [h2, h3, if_pos (by omega)] at h1
  simp only [show (decide (32 ≤ 0)) = false from rfl, Bool.not_false, Bool.true_and] at h1
  rw [Nat.testBit_eq_decide_div_mod_eq, Nat.testBit_eq_decide_div_mod_eq, Nat.pow_zero, Nat.div_one] at h1
  have h4 : (n % 2 = 1) ↔ (u / 2 ^ k % 2 = 1) := by
    constructor
    · intro q; exact of_decide_eq_true (by rw [← h1]; exact decide_eq_true q)
    · intro q; exact of_decide_eq_true (by rw [h1]; exact decide_eq_true q)
  show n % 2 = _
  generalize u / 2 ^ k = w at h4 ⊢
  omega
theorem ap_lo {V u k : Nat} (hk : k < 32) : (V * 4294967296 + u) / 2 ^ k % 2 = u / 2 ^ k % 2 := by
  have e : 4294967296 = 2 ^ k * (2 * 2 ^ (31 - k)) := by
    rw [← Nat.mul_assoc, Nat.mul_comm (2 ^ k) 2, ← Nat.pow_succ', Nat.succ_eq_add_one, ← Nat.pow_add, show k + 1 + (31 - k) = 32 by omega]
  have e2 : V * 4294967296 = 2 ^ k * (2 * (V * 2 ^ (31 - k))) := by
    rw [e, ← Nat.mul_assoc, ← Nat.mul_assoc, ← Nat.mul_assoc, Nat.mul_comm V, Nat.mul_assoc (2 ^ k), Nat.mul_comm V 2, ← Nat.mul_assoc (2 ^ k)]
    simp [Nat.mul_assoc]
  rw [e2, Nat.mul_add_div (p2_ k)]
  omega
theorem ap_hi {V u k : Nat} (hu : u < 4294967296) (hk : 32 ≤ k) : (V * 4294967296 + u) / 2 ^ k % 2 = V / 2 ^ (k - 32) % 2 := by
  obtain ⟨j, rfl⟩ : ∃ j, k = 32 + j := ⟨k - 32, by omega⟩
  rw [Nat.pow_add, ← Nat.div_div_eq_div_mul, show (V * 4294967296 + u) / 2 ^ 32 = V by omega, show 32 + j - 32 = j by omega]
theorem c_M_put_bad {t : Int32} {x : Int64} (hbad : bd_ t) (hm : mz_ Y v) (hp : ∀ Y', mz_ Y' v → mf_ Y Y' → Y' 23 3 = nI 1 → Post none X Y') : pw_Met l g mM_put [.ref (ad_ g 23), .int t, .long x] X Y Post := by
  refine pw_ofW (by decide +kernel) rfl (Nat.le_of_ble_eq_true rfl) rfl (fun sz => ?_)
  refine px_aload_n (q := 1) dI_M_put_0 rfl rfl ?_
  refine px_iload_n (q := 2) dI_M_put_1 rfl rfl ?_
  refine px_callS1 (q := 5) (ν := mM_none) dI_M_put_2 wl_M_23 ws_M_none wb_M_none wi_M ⟨rfl, rfl⟩ (by decide +kernel) ⟨(Nat.le_of_ble_eq_true rfl), (Nat.le_of_ble_eq_true rfl)⟩ (Nat.le_of_ble_eq_true rfl) rfl (c_M_noneB hbad ?_)
  refine px_iconst (q := 6) (v := nI 1) dI_M_put_5 (by decide +kernel) rfl ?_
  refine px_callV2 (q := 9) (ν := mM_refused) dI_M_put_6 (by decide) rfl rfl wl_M_27 wm_M_refused wv_M_refused wb_M_refused wi_M ⟨rfl, rfl⟩ (by decide +kernel) ⟨(Nat.le_of_ble_eq_true rfl), (Nat.le_of_ble_eq_true rfl)⟩ (Nat.le_of_ble_eq_true rfl) rfl (c_M_refused (by decide) (fun f hf => ?_))
  refine px_if_neN (q := 12) (tgt := 31) dI_M_put_9 (by omega) (by decide) rfl (fun b9 => ?_) (fun b9 => ?_)
  · refine px_vret dI_M_put_31 rfl ?_
    exact hp _ (mz_c hm) (mf_y (by decide) mf_0) (by rw [yr_s, hf]; rfl)
  · exact absurd b9 (by decide)
theorem c_M_put_neg {t : Nat} {x : Int64} (ht : t < 6) (hx : x < 0) (hm : mz_ Y v) (hp : ∀ Y', mz_ Y' v → mf_ Y Y' → Y' 23 3 = nI 2 → Post none X Y') : pw_Met l g mM_put [.ref (ad_ g 23), .int (nI t), .long x] X Y Post := by
  refine pw_ofW (by decide +kernel) rfl (Nat.le_of_ble_eq_true rfl) rfl (fun sz => ?_)
  refine px_aload_n (q := 1) dI_M_put_0 rfl rfl ?_
  refine px_iload_n (q := 2) dI_M_put_1 rfl rfl ?_
  refine px_callS1 (q := 5) (ν := mM_none) dI_M_put_2 wl_M_23 ws_M_none wb_M_none wi_M ⟨rfl, rfl⟩ (by decide +kernel) ⟨(Nat.le_of_ble_eq_true rfl), (Nat.le_of_ble_eq_true rfl)⟩ (Nat.le_of_ble_eq_true rfl) rfl (c_M_noneG ht ?_)
  refine px_iconst (q := 6) (v := nI 1) dI_M_put_5 (by decide +kernel) rfl ?_
  refine px_callV2 (q := 9) (ν := mM_refused) dI_M_put_6 (by decide) rfl rfl wl_M_27 wm_M_refused wv_M_refused wb_M_refused wi_M ⟨rfl, rfl⟩ (by decide +kernel) ⟨(Nat.le_of_ble_eq_true rfl), (Nat.le_of_ble_eq_true rfl)⟩ (Nat.le_of_ble_eq_true rfl) rfl (c_M_refused (by decide) (fun f hf => ?_))
  refine px_if_neN (q := 12) (tgt := 31) dI_M_put_9 (by omega) (by decide) rfl (fun b9 => ?_) (fun b9 => ?_)
  · exact absurd rfl b9
  · refine px_aload_n (q := 13) dI_M_put_12 rfl rfl ?_
    refine px_lload_n (q := 14) dI_M_put_13 rfl rfl ?_
    refine px_lconst (q := 15) (v := lN 0) dI_M_put_14 rfl rfl ?_
    refine px_lcmp (q := 16) dI_M_put_15 rfl ?_
    refine px_if_ge (q := 19) (tgt := 23) dI_M_put_16 (by decide) rfl (fun b16 => ?_) (fun b16 => ?_)
    · exact absurd ((lg_cmp_ge _ _).mp b16) (Int64.not_le.mpr hx)
    · refine px_iconst (q := 20) (v := nI 1) dI_M_put_19 (by decide +kernel) rfl ?_
      refine px_goto (tgt := 24) dI_M_put_20 (by decide) ?_
      refine px_iconst (q := 25) (v := nI 2) dI_M_put_24 (by decide +kernel) rfl ?_
      refine px_callV2 (q := 28) (ν := mM_refused) dI_M_put_25 (by decide) rfl rfl wl_M_27 wm_M_refused wv_M_refused wb_M_refused wi_M ⟨rfl, rfl⟩ (by decide +kernel) ⟨(Nat.le_of_ble_eq_true rfl), (Nat.le_of_ble_eq_true rfl)⟩ (Nat.le_of_ble_eq_true rfl) rfl (c_M_refused (by decide) (fun f2 hf2 => ?_))
      refine px_if_eqN (q := 31) (tgt := 32) dI_M_put_28 (by omega) (by decide) rfl (fun b28 => ?_) (fun b28 => ?_)
      · exact absurd b28 (by decide)
      · refine px_vret dI_M_put_31 rfl ?_
        exact hp _ (mz_c (mz_c hm)) (mf_y (by decide) (mf_y (by decide) mf_0)) (by rw [yr_s, hf2]; rfl)
theorem c_M_put {t k : Nat} (ht : t < 6) (hk : k < 2 ^ 63) (hm : mz_ Y v) (hp : ∀ Y', mz_ Y' (va_up v t k) → mf_ Y Y' → Y' 23 3 = nI 0 → Post none X Y') : pw_Met l g mM_put [.ref (ad_ g 23), .int (nI t), .long (lN k)] X Y Post := by
  refine pw_ofW (by decide +kernel) rfl (Nat.le_of_ble_eq_true rfl) rfl (fun sz => ?_)
  refine px_aload_n (q := 1) dI_M_put_0 rfl rfl ?_
  refine px_iload_n (q := 2) dI_M_put_1 rfl rfl ?_
  refine px_callS1 (q := 5) (ν := mM_none) dI_M_put_2 wl_M_23 ws_M_none wb_M_none wi_M ⟨rfl, rfl⟩ (by decide +kernel) ⟨(Nat.le_of_ble_eq_true rfl), (Nat.le_of_ble_eq_true rfl)⟩ (Nat.le_of_ble_eq_true rfl) rfl (c_M_noneG ht ?_)
  refine px_iconst (q := 6) (v := nI 1) dI_M_put_5 (by decide +kernel) rfl ?_
  refine px_callV2 (q := 9) (ν := mM_refused) dI_M_put_6 (by decide) rfl rfl wl_M_27 wm_M_refused wv_M_refused wb_M_refused wi_M ⟨rfl, rfl⟩ (by decide +kernel) ⟨(Nat.le_of_ble_eq_true rfl), (Nat.le_of_ble_eq_true rfl)⟩ (Nat.le_of_ble_eq_true rfl) rfl (c_M_refused (by decide) (fun f hf => ?_))
  refine px_if_neN (q := 12) (tgt := 31) dI_M_put_9 (by omega) (by decide) rfl (fun b9 => ?_) (fun b9 => ?_)
  · exact absurd rfl b9
  · refine px_aload_n (q := 13) dI_M_put_12 rfl rfl ?_
    refine px_lload_n (q := 14) dI_M_put_13 rfl rfl ?_
    refine px_lconst (q := 15) (v := lN 0) dI_M_put_14 rfl rfl ?_
    refine px_lcmp (q := 16) dI_M_put_15 rfl ?_
    refine px_if_geC (q := 19) (tgt := 23) dI_M_put_16 (by omega) (by omega) (by decide) rfl (fun b16 => ?_) (fun b16 => ?_)
    · refine px_iconst (q := 24) (v := nI 0) dI_M_put_23 (by decide +kernel) rfl ?_
      refine px_iconst (q := 25) (v := nI 2) dI_M_put_24 (by decide +kernel) rfl ?_
      refine px_callV2 (q := 28) (ν := mM_refused) dI_M_put_25 (by decide) rfl rfl wl_M_27 wm_M_refused wv_M_refused wb_M_refused wi_M ⟨rfl, rfl⟩ (by decide +kernel) ⟨(Nat.le_of_ble_eq_true rfl), (Nat.le_of_ble_eq_true rfl)⟩ (Nat.le_of_ble_eq_true rfl) rfl (c_M_refused (by decide) (fun f2 hf2 => ?_))
      rw [yr_yr]
      refine px_if_eqN (q := 31) (tgt := 32) dI_M_put_28 (by omega) (by decide) rfl (fun b28 => ?_) (fun b28 => ?_)
      · have hm1 := mz_c (f := f2) hm
        refine px_iconst (q := 33) (v := nI 0) dI_M_put_32 (by decide +kernel) rfl ?_
        refine px_istore (q := 35) dI_M_put_33 (by decide) rfl rfl ?_
        have key : ∀ (d i : Nat) (h : Nat → Int32), i + d = 128 → (∀ j, j < i → h (128 * t + j) = nI (k / 2 ^ j % 2)) → (∀ p, p < 128 * t ∨ 128 * t + 128 ≤ p → h p = yr_ Y 23 f2 24 p) → pw_W l g mM_put sz (pw_qM g sz Post 0 0) 35 [(0, .ref (ad_ g 23)), (1, .int (nI t)), (2, .long (lN k)), (4, .int (nI i))] [] X (yr_ (yr_ Y 23 f2) 24 h) := by
          intro d
          induction d with
          | zero =>
            intro i h hi q1 q2
            refine px_iload (q := 37) dI_M_put_35 rfl rfl ?_
            refine px_sipush (q := 40) (v := nI 128) dI_M_put_37 (by decide +kernel) rfl ?_
            refine px_icmp_geN (q := 43) (tgt := 80) dI_M_put_40 (by omega) (by omega) (by decide) rfl (fun b40 => ?_) (fun b40 => ?_)
            · refine px_vret dI_M_put_80 rfl ?_
              refine hp _ (mz_r hm1 (rg_put hm1.1 (Nat.lt_trans hk (by decide)) (fun j hj => q1 j (by omega)) q2)) (mf_y (by decide) (mf_y (by decide) mf_0)) (by rw [yr_n (by decide), yr_s, hf2]; rfl)
            · omega
          | succ d ih =>
            intro i h hi q1 q2
            have hdl : k / 2 ^ i ≤ k := Nat.div_le_self _ _
            have nx : pw_W l g mM_put sz (pw_qM g sz Post 0 0) 73 [(0, .ref (ad_ g 23)), (1, .int (nI t)), (2, .long (lN k)), (4, .int (nI i))] [.int (nI (k / 2 ^ i % 2)), .int (nI (128 * t + i)), .ref (ad_ g 24)] X (yr_ (yr_ Y 23 f2) 24 h) := by
              refine px_iast (q := 74) dI_M_put_73 rfl (by omega) (by omega) rfl ?_
              refine px_iinc (q := 77) dI_M_put_74 rfl (ic_1 _) (by decide) rfl rfl ?_
              refine px_goto (tgt := 35) dI_M_put_77 (by decide) ?_
              rw [yr_s, yr_yr]
              refine ih (i + 1) _ (by omega) (fun j hj => ?_) (fun p h4 => ?_)
              · by_cases e : j = i
                · subst e; exact pk_us
                · rw [pk_un (by omega)]; exact q1 j (by omega)
              · rw [pk_un (by omega)]; exact q2 p h4
            refine px_iload (q := 37) dI_M_put_35 rfl rfl ?_
            refine px_sipush (q := 40) (v := nI 128) dI_M_put_37 (by decide +kernel) rfl ?_
            refine px_icmp_geN (q := 43) (tgt := 80) dI_M_put_40 (by omega) (by omega) (by decide) rfl (fun b40 => ?_) (fun b40 => ?_)
            · omega
            · refine px_aload_n (q := 44) dI_M_put_43 rfl rfl ?_
              refine px_getM (q := 47) (j := 0) dI_M_put_44 wf_M_7 rfl (by decide) rfl rfl ?_
              refine px_sipush (q := 50) (v := nI 128) dI_M_put_47 (by decide +kernel) rfl ?_
              refine px_iload_n (q := 51) dI_M_put_50 rfl rfl ?_
              refine px_imulN (q := 52) dI_M_put_51 rfl ?_
              refine px_iload (q := 54) dI_M_put_52 rfl rfl ?_
              refine px_iaddN (q := 55) dI_M_put_54 rfl ?_
              refine px_iload (q := 57) dI_M_put_55 rfl rfl ?_
              refine px_bipush (q := 59) (v := nI 63) dI_M_put_57 (by decide +kernel) rfl ?_
              refine px_icmp_geN (q := 62) (tgt := 72) dI_M_put_59 (by omega) (by omega) (by decide) rfl (fun b59 => ?_) (fun b59 => ?_)
              · refine px_iconst (q := 73) (v := nI 0) dI_M_put_72 (by decide +kernel) rfl ?_
                refine px_ti ?_ nx
                rw [Nat.div_eq_of_lt (Nat.lt_of_lt_of_le hk (Nat.pow_le_pow_right (by decide) b59))]
              · refine px_lload_n (q := 63) dI_M_put_62 rfl rfl ?_
                refine px_iload (q := 65) dI_M_put_63 rfl rfl ?_
                refine px_lshr (q := 66) dI_M_put_65 (sr64 hk (by omega)) rfl ?_
                refine px_lconst (q := 67) (v := lN 1) dI_M_put_66 rfl rfl ?_
                refine px_land1 (q := 68) dI_M_put_67 (by omega) rfl ?_
                refine px_l2iN (q := 69) dI_M_put_68 rfl ?_
                refine px_goto (tgt := 73) dI_M_put_69 (by decide) ?_
                exact nx
        exact px_XY rfl yr_id.symm (key 128 0 _ rfl (fun j hj => absurd hj (by omega)) (fun _ _ => rfl))
      · exact absurd rfl b28
    · omega
theorem c_M_append_bad {t w : Int32} (hbad : bd_ t) (hm : mz_ Y v) (hp : ∀ Y', mz_ Y' v → mf_ Y Y' → Y' 23 3 = nI 1 → Post none X Y') : pw_Met l g mM_append [.ref (ad_ g 23), .int t, .int w] X Y Post := by
  refine pw_ofW (by decide +kernel) rfl (Nat.le_of_ble_eq_true rfl) rfl (fun sz => ?_)
  refine px_aload_n (q := 1) dI_M_append_0 rfl rfl ?_
  refine px_iload_n (q := 2) dI_M_append_1 rfl rfl ?_
  refine px_callS1 (q := 5) (ν := mM_none) dI_M_append_2 wl_M_23 ws_M_none wb_M_none wi_M ⟨rfl, rfl⟩ (by decide +kernel) ⟨(Nat.le_of_ble_eq_true rfl), (Nat.le_of_ble_eq_true rfl)⟩ (Nat.le_of_ble_eq_true rfl) rfl (c_M_noneB hbad ?_)
  refine px_iconst (q := 6) (v := nI 1) dI_M_append_5 (by decide +kernel) rfl ?_
  refine px_callV2 (q := 9) (ν := mM_refused) dI_M_append_6 (by decide) rfl rfl wl_M_27 wm_M_refused wv_M_refused wb_M_refused wi_M ⟨rfl, rfl⟩ (by decide +kernel) ⟨(Nat.le_of_ble_eq_true rfl), (Nat.le_of_ble_eq_true rfl)⟩ (Nat.le_of_ble_eq_true rfl) rfl (c_M_refused (by decide) (fun f hf => ?_))
  refine px_if_eqN (q := 12) (tgt := 13) dI_M_append_9 (by omega) (by decide) rfl (fun b9 => ?_) (fun b9 => ?_)
  · exact absurd b9 (by decide)
  · refine px_vret dI_M_append_12 rfl ?_
    exact hp _ (mz_c hm) (mf_y (by decide) mf_0) (by rw [yr_s, hf]; rfl)
theorem hi96 {V : Nat} (hV : V < 2 ^ 128) (h : ∀ k, 96 ≤ k → k < 128 → V / 2 ^ k % 2 = 0) : V < 2 ^ 96 := by
  have : ∀ d, d ≤ 32 → V < 2 ^ (128 - d) := by
    intro d
    induction d with
    | zero => intro _; exact hV
    | succ d ih =>
      intro hd
      have h1 := ih (by omega)
      rw [show 128 - d = (128 - (d + 1)) + 1 by omega] at h1
      exact lt_s_ h1 (h _ (by omega) (by omega))
  exact this 32 (Nat.le_refl _)
theorem c_M_append {t u : Nat} (ht : t < 6) (hu : u < 4294967296) (hm : mz_ Y v) (h2 : 2 ^ 96 ≤ v t → ∀ Y', mz_ Y' v → mf_ Y Y' → Y' 23 3 = nI 2 → Post none X Y') (h0 : v t < 2 ^ 96 → ∀ Y', mz_ Y' (va_up v t (v t * 4294967296 + u)) → mf_ Y Y' → Y' 23 3 = nI 0 → Post none X Y') : pw_Met l g mM_append [.ref (ad_ g 23), .int (nI t), .int (nI u)] X Y Post := by
  refine pw_ofW (by decide +kernel) rfl (Nat.le_of_ble_eq_true rfl) rfl (fun sz => ?_)
  refine px_aload_n (q := 1) dI_M_append_0 rfl rfl ?_
  refine px_iload_n (q := 2) dI_M_append_1 rfl rfl ?_
  refine px_callS1 (q := 5) (ν := mM_none) dI_M_append_2 wl_M_23 ws_M_none wb_M_none wi_M ⟨rfl, rfl⟩ (by decide +kernel) ⟨(Nat.le_of_ble_eq_true rfl), (Nat.le_of_ble_eq_true rfl)⟩ (Nat.le_of_ble_eq_true rfl) rfl (c_M_noneG ht ?_)
  refine px_iconst (q := 6) (v := nI 1) dI_M_append_5 (by decide +kernel) rfl ?_
  refine px_callV2 (q := 9) (ν := mM_refused) dI_M_append_6 (by decide) rfl rfl wl_M_27 wm_M_refused wv_M_refused wb_M_refused wi_M ⟨rfl, rfl⟩ (by decide +kernel) ⟨(Nat.le_of_ble_eq_true rfl), (Nat.le_of_ble_eq_true rfl)⟩ (Nat.le_of_ble_eq_true rfl) rfl (c_M_refused (by decide) (fun f hf => ?_))
  refine px_if_eqN (q := 12) (tgt := 13) dI_M_append_9 (by omega) (by decide) rfl (fun b9 => ?_) (fun b9 => ?_)
  · have hm1 := mz_c (f := f) hm
    have hv := hm1.1 t ht
    refine px_iconst (q := 14) (v := nI 0) dI_M_append_13 (by decide +kernel) rfl ?_
    refine px_istore_n (q := 15) dI_M_append_14 rfl (by decide) rfl rfl ?_
    refine px_bipush (q := 17) (v := nI 96) dI_M_append_15 (by decide +kernel) rfl ?_
    refine px_istore (q := 19) dI_M_append_17 (by decide) rfl rfl ?_
    have key : ∀ (d i z : Nat), i + d = 128 → 96 ≤ i → (z = 0 ∧ (∀ j, 96 ≤ j → j < i → v t / 2 ^ j % 2 = 0) ∨ z = 1 ∧ 2 ^ 96 ≤ v t) → pw_W l g mM_append sz (pw_qM g sz Post 0 0) 19 [(0, .ref (ad_ g 23)), (1, .int (nI t)), (2, .int (nI u)), (3, .int (nI z)), (4, .int (nI i))] [] X (yr_ Y 23 f) := by
      intro d
      induction d with
      | zero =>
        intro i z hi h96 hz
        refine px_iload (q := 21) dI_M_append_19 rfl rfl ?_
        refine px_sipush (q := 24) (v := nI 128) dI_M_append_21 (by decide +kernel) rfl ?_
        refine px_icmp_geN (q := 27) (tgt := 60) dI_M_append_24 (by omega) (by omega) (by decide) rfl (fun b24 => ?_) (fun b24 => ?_)
        · rcases hz with ⟨rfl, hz⟩ | ⟨rfl, hz⟩
          · have hlt := hi96 hv.1 (fun k a b => hz k a (by omega))
            refine px_aload_n (q := 61) dI_M_append_60 rfl rfl ?_
            refine px_iload_n (q := 62) dI_M_append_61 rfl rfl ?_
            refine px_iconst (q := 63) (v := nI 2) dI_M_append_62 (by decide +kernel) rfl ?_
            refine px_callV2 (q := 66) (ν := mM_refused) dI_M_append_63 (by decide) rfl rfl wl_M_27 wm_M_refused wv_M_refused wb_M_refused wi_M ⟨rfl, rfl⟩ (by decide +kernel) ⟨(Nat.le_of_ble_eq_true rfl), (Nat.le_of_ble_eq_true rfl)⟩ (Nat.le_of_ble_eq_true rfl) rfl (c_M_refused (by decide) (fun f2 hf2 => ?_))
            rw [yr_yr]
            refine px_if_eqN (q := 69) (tgt := 70) dI_M_append_66 (by omega) (by decide) rfl (fun b66 => ?_) (fun b66 => ?_)
            · have hm2 := mz_c (f := f2) hm
              have hv2 := hm2.1 t ht
              generalize hY2 : yr_ Y 23 f2 = Y2 at hm2 hv2
              have hc2 : Y2 23 3 = nI 0 := by rw [← hY2, yr_s, hf2]; rfl
              have hmf2 : mf_ Y Y2 := by rw [← hY2]; exact mf_y (by decide) mf_0
              refine px_bipush (q := 72) (v := nI 127) dI_M_append_70 (by decide +kernel) rfl ?_
              refine px_istore (q := 74) dI_M_append_72 (by decide) rfl rfl ?_
              have k2 : ∀ (d i : Nat) (h : Nat → Int32), i = 31 + d → i ≤ 127 → (∀ j, i < j → j < 128 → h (128 * t + j) = nI (v t / 2 ^ (j - 32) % 2)) → (∀ p, p < 128 * t + i + 1 ∨ 128 * t + 128 ≤ p → h p = Y2 24 p) → pw_W l g mM_append sz (pw_qM g sz Post 0 0) 74 [(0, .ref (ad_ g 23)), (1, .int (nI t)), (2, .int (nI u)), (3, .int (nI 0)), (4, .int (nI i))] [] X (yr_ Y2 24 h) := by
                intro d
                induction d with
                | zero =>
                  intro i h hi h127 q1 q2
                  refine px_iload (q := 76) dI_M_append_74 rfl rfl ?_
                  refine px_bipush (q := 78) (v := nI 32) dI_M_append_76 (by decide +kernel) rfl ?_
                  refine px_icmp_ltN (q := 81) (tgt := 116) dI_M_append_78 (by omega) (by omega) (by decide) rfl (fun b78 => ?_) (fun b78 => ?_)
                  · refine px_iconst (q := 117) (v := nI 0) dI_M_append_116 (by decide +kernel) rfl ?_
                    refine px_istore (q := 119) dI_M_append_117 (by decide) rfl rfl ?_
                    have k3 : ∀ (d i : Nat) (h : Nat → Int32), i + d = 32 → (∀ j, j < i → h (128 * t + j) = nI (u / 2 ^ j % 2)) → (∀ j, 32 ≤ j → j < 128 → h (128 * t + j) = nI (v t / 2 ^ (j - 32) % 2)) → (∀ p, p < 128 * t ∨ 128 * t + 128 ≤ p → h p = Y2 24 p) → pw_W l g mM_append sz (pw_qM g sz Post 0 0) 119 [(0, .ref (ad_ g 23)), (1, .int (nI t)), (2, .int (nI u)), (3, .int (nI 0)), (4, .int (nI i))] [] X (yr_ Y2 24 h) := by
                      intro d
                      induction d with
                      | zero =>
                        intro i h hi q1 q2 q3
                        refine px_iload (q := 121) dI_M_append_119 rfl rfl ?_
                        refine px_bipush (q := 123) (v := nI 32) dI_M_append_121 (by decide +kernel) rfl ?_
                        refine px_icmp_geN (q := 126) (tgt := 151) dI_M_append_123 (by omega) (by omega) (by decide) rfl (fun b123 => ?_) (fun b123 => ?_)
                        · refine px_vret dI_M_append_151 rfl ?_
                          have hVl : v t * 4294967296 + u < 2 ^ 128 := by omega
                          refine h0 hlt _ (mz_r hm2 (rg_put hm2.1 hVl (fun j hj => ?_) q3)) (mf_y (by decide) hmf2) (by rw [yr_n (by decide)]; exact hc2)
                          by_cases e : j < 32
                          · rw [q1 j (by omega), ap_lo e]
                          · rw [q2 j (by omega) hj, ap_hi hu (by omega)]
                        · omega
                      | succ d ih3 =>
                        intro i h hi q1 q2 q3
                        refine px_iload (q := 121) dI_M_append_119 rfl rfl ?_
                        refine px_bipush (q := 123) (v := nI 32) dI_M_append_121 (by decide +kernel) rfl ?_
                        refine px_icmp_geN (q := 126) (tgt := 151) dI_M_append_123 (by omega) (by omega) (by decide) rfl (fun b123 => ?_) (fun b123 => ?_)
                        · omega
                        · refine px_aload_n (q := 127) dI_M_append_126 rfl rfl ?_
                          refine px_getM (q := 130) (j := 0) dI_M_append_127 wf_M_7 rfl (by decide) rfl rfl ?_
                          refine px_sipush (q := 133) (v := nI 128) dI_M_append_130 (by decide +kernel) rfl ?_
                          refine px_iload_n (q := 134) dI_M_append_133 rfl rfl ?_
                          refine px_imulN (q := 135) dI_M_append_134 rfl ?_
                          refine px_iload (q := 137) dI_M_append_135 rfl rfl ?_
                          refine px_iaddN (q := 138) dI_M_append_137 rfl ?_
                          refine px_iload_n (q := 139) dI_M_append_138 rfl rfl ?_
                          refine px_iload (q := 141) dI_M_append_139 rfl rfl ?_
                          refine px_ishr (q := 142) dI_M_append_141 rfl ?_
                          refine px_iconst (q := 143) (v := nI 1) dI_M_append_142 (by decide +kernel) rfl ?_
                          refine px_iand (q := 144) dI_M_append_143 rfl ?_
                          refine px_ti (sa_ hu (by omega)) ?_
                          refine px_iast (q := 145) dI_M_append_144 rfl (by omega) (by omega) rfl ?_
                          refine px_iinc (q := 148) dI_M_append_145 rfl (ic_1 _) (by decide) rfl rfl ?_
                          refine px_goto (tgt := 119) dI_M_append_148 (by decide) ?_
                          rw [yr_s, yr_yr]
                          refine ih3 (i + 1) _ (by omega) (fun j hj => ?_) (fun j a b => ?_) (fun p h4 => ?_)
                          · by_cases e : j = i
                            · subst e; exact pk_us
                            · rw [pk_un (by omega)]; exact q1 j (by omega)
                          · rw [pk_un (by omega)]; exact q2 j a b
                          · rw [pk_un (by omega)]; exact q3 p h4
                    exact k3 32 0 h rfl (fun j hj => absurd hj (by omega)) (fun j a b => q1 j (by omega) b) (fun p h4 => q2 p (by omega))
                  · omega
                | succ d ih2 =>
                  intro i h hi h127 q1 q2
                  have hbit : Y2 24 (128 * t + i - 32) = nI (v t / 2 ^ (i - 32) % 2) := by
                    rw [show 128 * t + i - 32 = 128 * t + (i - 32) by omega]
                    exact hv2.2 (i - 32) (by omega)
                  refine px_iload (q := 76) dI_M_append_74 rfl rfl ?_
                  refine px_bipush (q := 78) (v := nI 32) dI_M_append_76 (by decide +kernel) rfl ?_
                  refine px_icmp_ltN (q := 81) (tgt := 116) dI_M_append_78 (by omega) (by omega) (by decide) rfl (fun b78 => ?_) (fun b78 => ?_)
                  · omega
                  · refine px_aload_n (q := 82) dI_M_append_81 rfl rfl ?_
                    refine px_getM (q := 85) (j := 0) dI_M_append_82 wf_M_7 rfl (by decide) rfl rfl ?_
                    refine px_sipush (q := 88) (v := nI 128) dI_M_append_85 (by decide +kernel) rfl ?_
                    refine px_iload_n (q := 89) dI_M_append_88 rfl rfl ?_
                    refine px_imulN (q := 90) dI_M_append_89 rfl ?_
                    refine px_iload (q := 92) dI_M_append_90 rfl rfl ?_
                    refine px_iaddN (q := 93) dI_M_append_92 rfl ?_
                    refine px_aload_n (q := 94) dI_M_append_93 rfl rfl ?_
                    refine px_getM (q := 97) (j := 0) dI_M_append_94 wf_M_7 rfl (by decide) rfl rfl ?_
                    refine px_sipush (q := 100) (v := nI 128) dI_M_append_97 (by decide +kernel) rfl ?_
                    refine px_iload_n (q := 101) dI_M_append_100 rfl rfl ?_
                    refine px_imulN (q := 102) dI_M_append_101 rfl ?_
                    refine px_iload (q := 104) dI_M_append_102 rfl rfl ?_
                    refine px_iaddN (q := 105) dI_M_append_104 rfl ?_
                    refine px_bipush (q := 107) (v := nI 32) dI_M_append_105 (by decide +kernel) rfl ?_
                    refine px_isubN (q := 108) dI_M_append_107 (by omega) rfl ?_
                    refine px_iald (q := 109) dI_M_append_108 rfl (by omega) (by omega) (ys_ ((q2 (128 * t + i - 32) (by omega)).trans hbit)) rfl ?_
                    refine px_iast (q := 110) dI_M_append_109 rfl (by omega) (by omega) rfl ?_
                    refine px_iinc (q := 113) dI_M_append_110 rfl (ic_d (by omega)) (by decide) rfl rfl ?_
                    refine px_goto (tgt := 74) dI_M_append_113 (by decide) ?_
                    rw [yr_s, yr_yr]
                    refine ih2 (i - 1) _ (by omega) (by omega) (fun j a b => ?_) (fun p h4 => ?_)
                    · by_cases e : j = i
                      · subst e; exact pk_us
                      · rw [pk_un (by omega)]; exact q1 j (by omega) b
                    · rw [pk_un (by omega)]; exact q2 p (by omega)
              exact px_XY rfl yr_id.symm (k2 96 127 (Y2 24) rfl (by omega) (fun j a b => absurd a (by omega)) (fun _ _ => rfl))
            · exact absurd rfl b66
          · refine px_aload_n (q := 61) dI_M_append_60 rfl rfl ?_
            refine px_iload_n (q := 62) dI_M_append_61 rfl rfl ?_
            refine px_iconst (q := 63) (v := nI 2) dI_M_append_62 (by decide +kernel) rfl ?_
            refine px_callV2 (q := 66) (ν := mM_refused) dI_M_append_63 (by decide) rfl rfl wl_M_27 wm_M_refused wv_M_refused wb_M_refused wi_M ⟨rfl, rfl⟩ (by decide +kernel) ⟨(Nat.le_of_ble_eq_true rfl), (Nat.le_of_ble_eq_true rfl)⟩ (Nat.le_of_ble_eq_true rfl) rfl (c_M_refused (by decide) (fun f2 hf2 => ?_))
            rw [yr_yr]
            refine px_if_eqN (q := 69) (tgt := 70) dI_M_append_66 (by omega) (by decide) rfl (fun b66 => ?_) (fun b66 => ?_)
            · exact absurd b66 (by decide)
            · refine px_vret dI_M_append_69 rfl ?_
              exact h2 hz _ (mz_c hm) (mf_y (by decide) mf_0) (by rw [yr_s, hf2]; rfl)
        · omega
      | succ d ih =>
        intro i z hi h96 hz
        have hb := hv.2 i (by omega)
        refine px_iload (q := 21) dI_M_append_19 rfl rfl ?_
        refine px_sipush (q := 24) (v := nI 128) dI_M_append_21 (by decide +kernel) rfl ?_
        refine px_icmp_geN (q := 27) (tgt := 60) dI_M_append_24 (by omega) (by omega) (by decide) rfl (fun b24 => ?_) (fun b24 => ?_)
        · omega
        · refine px_iload_n (q := 28) dI_M_append_27 rfl rfl ?_
          refine px_if_neN (q := 31) (tgt := 48) dI_M_append_28 (by omega) (by decide) rfl (fun b28 => ?_) (fun b28 => ?_)
          · refine px_iconst (q := 49) (v := nI 1) dI_M_append_48 (by decide +kernel) rfl ?_
            refine px_goto (tgt := 53) dI_M_append_49 (by decide) ?_
            refine px_istore_n (q := 54) dI_M_append_53 rfl (by decide) rfl rfl ?_
            refine px_iinc (q := 57) dI_M_append_54 rfl (ic_1 _) (by decide) rfl rfl ?_
            refine px_goto (tgt := 19) dI_M_append_57 (by decide) ?_
            refine ih (i + 1) 1 (by omega) (by omega) (Or.inr ⟨rfl, ?_⟩)
            rcases hz with ⟨q, -⟩ | ⟨-, q⟩
            · omega
            · exact q
          · refine px_aload_n (q := 32) dI_M_append_31 rfl rfl ?_
            refine px_getM (q := 35) (j := 0) dI_M_append_32 wf_M_7 rfl (by decide) rfl rfl ?_
            refine px_sipush (q := 38) (v := nI 128) dI_M_append_35 (by decide +kernel) rfl ?_
            refine px_iload_n (q := 39) dI_M_append_38 rfl rfl ?_
            refine px_imulN (q := 40) dI_M_append_39 rfl ?_
            refine px_iload (q := 42) dI_M_append_40 rfl rfl ?_
            refine px_iaddN (q := 43) dI_M_append_42 rfl ?_
            refine px_iald (q := 44) dI_M_append_43 rfl (by omega) (by omega) hb rfl ?_
            refine px_iconst (q := 45) (v := nI 1) dI_M_append_44 (by decide +kernel) rfl ?_
            refine px_icmp_neN (q := 48) (tgt := 52) dI_M_append_45 (by omega) (by omega) (by decide) rfl (fun b45 => ?_) (fun b45 => ?_)
            · refine px_iconst (q := 53) (v := nI 0) dI_M_append_52 (by decide +kernel) rfl ?_
              refine px_istore_n (q := 54) dI_M_append_53 rfl (by decide) rfl rfl ?_
              refine px_iinc (q := 57) dI_M_append_54 rfl (ic_1 _) (by decide) rfl rfl ?_
              refine px_goto (tgt := 19) dI_M_append_57 (by decide) ?_
              refine ih (i + 1) 0 (by omega) (by omega) (Or.inl ⟨rfl, fun j a b => ?_⟩)
              rcases hz with ⟨-, q⟩ | ⟨q, -⟩
              · by_cases e : j = i
                · rw [e]
                  rcases ms_ (v t) i with z0 | z0
                  · exact z0
                  · exact absurd z0 b45
                · exact q j a (by omega)
              · omega
            · refine px_iconst (q := 49) (v := nI 1) dI_M_append_48 (by decide +kernel) rfl ?_
              refine px_goto (tgt := 53) dI_M_append_49 (by decide) ?_
              refine px_istore_n (q := 54) dI_M_append_53 rfl (by decide) rfl rfl ?_
              refine px_iinc (q := 57) dI_M_append_54 rfl (ic_1 _) (by decide) rfl rfl ?_
              refine px_goto (tgt := 19) dI_M_append_57 (by decide) ?_
              refine ih (i + 1) 1 (by omega) (by omega) (Or.inr ⟨rfl, ?_⟩)
              exact Nat.le_trans (Nat.pow_le_pow_right (by decide) h96) (ge_s_ b45)
    exact key 32 96 0 rfl (by omega) (Or.inl ⟨rfl, fun j a b => absurd a (by omega)⟩)
  · exact absurd rfl b9

theorem c_M_divide_bad {a b q r : Int32} (hbad : bd_ a ∨ bd_ b ∨ bd_ q ∨ bd_ r) (hm : mz_ Y v) (hp : ∀ Y', mz_ Y' v → mf_ Y Y' → Y' 23 3 = nI 1 → Post none X Y') : pw_Met l g mM_divide [.ref (ad_ g 23), .int a, .int b, .int q, .int r] X Y Post := by
  refine pw_ofW (by decide +kernel) rfl (Nat.le_of_ble_eq_true rfl) rfl (fun sz => ?_)
  have fin : pw_W l g mM_divide sz (pw_qM g sz Post 0 0) 30 [(0, .ref (ad_ g 23)), (1, .int a), (2, .int b), (3, .int q), (4, .int r)] [.ref (ad_ g 23)] X Y := by
    refine px_iconst (q := 31) (v := nI 1) dI_M_divide_30 (by decide +kernel) rfl ?_
    refine px_goto (tgt := 35) dI_M_divide_31 (by decide) ?_
    refine px_iconst (q := 36) (v := nI 1) dI_M_divide_35 (by decide +kernel) rfl ?_
    refine px_callV2 (q := 39) (ν := mM_refused) dI_M_divide_36 (by decide) rfl rfl wl_M_27 wm_M_refused wv_M_refused wb_M_refused wi_M ⟨rfl, rfl⟩ (by decide +kernel) ⟨(Nat.le_of_ble_eq_true rfl), (Nat.le_of_ble_eq_true rfl)⟩ (Nat.le_of_ble_eq_true rfl) rfl (c_M_refused (by decide) (fun f hf => ?_))
    refine px_if_neN (q := 42) (tgt := 61) dI_M_divide_39 (by omega) (by decide) rfl (fun b39 => ?_) (fun b39 => ?_)
    · refine px_vret dI_M_divide_61 rfl ?_
      exact hp _ (mz_c hm) (mf_y (by decide) mf_0) (by rw [yr_s, hf]; rfl)
    · exact absurd b39 (by decide)
  by_cases ha : bd_ a
  · refine px_aload_n (q := 1) dI_M_divide_0 rfl rfl ?_
    refine px_iload_n (q := 2) dI_M_divide_1 rfl rfl ?_
    refine px_callS1 (q := 5) (ν := mM_none) dI_M_divide_2 wl_M_23 ws_M_none wb_M_none wi_M ⟨rfl, rfl⟩ (by decide +kernel) ⟨(Nat.le_of_ble_eq_true rfl), (Nat.le_of_ble_eq_true rfl)⟩ (Nat.le_of_ble_eq_true rfl) rfl (c_M_noneB ha ?_)
    refine px_if_neN (q := 8) (tgt := 30) dI_M_divide_5 (by omega) (by decide) rfl (fun b5 => ?_) (fun b5 => ?_)
    · exact fin
    · exact absurd b5 (by decide)
  · obtain ⟨ka, hka, rfl⟩ := Decidable.not_not.mp ha
    refine px_aload_n (q := 1) dI_M_divide_0 rfl rfl ?_
    refine px_iload_n (q := 2) dI_M_divide_1 rfl rfl ?_
    refine px_callS1 (q := 5) (ν := mM_none) dI_M_divide_2 wl_M_23 ws_M_none wb_M_none wi_M ⟨rfl, rfl⟩ (by decide +kernel) ⟨(Nat.le_of_ble_eq_true rfl), (Nat.le_of_ble_eq_true rfl)⟩ (Nat.le_of_ble_eq_true rfl) rfl (c_M_noneG hka ?_)
    refine px_if_neN (q := 8) (tgt := 30) dI_M_divide_5 (by omega) (by decide) rfl (fun b5 => ?_) (fun b5 => ?_)
    · exact absurd rfl b5
    · by_cases hb : bd_ b
      · refine px_iload_n (q := 9) dI_M_divide_8 rfl rfl ?_
        refine px_callS1 (q := 12) (ν := mM_none) dI_M_divide_9 wl_M_23 ws_M_none wb_M_none wi_M ⟨rfl, rfl⟩ (by decide +kernel) ⟨(Nat.le_of_ble_eq_true rfl), (Nat.le_of_ble_eq_true rfl)⟩ (Nat.le_of_ble_eq_true rfl) rfl (c_M_noneB hb ?_)
        refine px_if_neN (q := 15) (tgt := 30) dI_M_divide_12 (by omega) (by decide) rfl (fun b12 => ?_) (fun b12 => ?_)
        · exact fin
        · exact absurd b12 (by decide)
      · obtain ⟨kb, hkb, rfl⟩ := Decidable.not_not.mp hb
        refine px_iload_n (q := 9) dI_M_divide_8 rfl rfl ?_
        refine px_callS1 (q := 12) (ν := mM_none) dI_M_divide_9 wl_M_23 ws_M_none wb_M_none wi_M ⟨rfl, rfl⟩ (by decide +kernel) ⟨(Nat.le_of_ble_eq_true rfl), (Nat.le_of_ble_eq_true rfl)⟩ (Nat.le_of_ble_eq_true rfl) rfl (c_M_noneG hkb ?_)
        refine px_if_neN (q := 15) (tgt := 30) dI_M_divide_12 (by omega) (by decide) rfl (fun b12 => ?_) (fun b12 => ?_)
        · exact absurd rfl b12
        · by_cases hq : bd_ q
          · refine px_iload_n (q := 16) dI_M_divide_15 rfl rfl ?_
            refine px_callS1 (q := 19) (ν := mM_none) dI_M_divide_16 wl_M_23 ws_M_none wb_M_none wi_M ⟨rfl, rfl⟩ (by decide +kernel) ⟨(Nat.le_of_ble_eq_true rfl), (Nat.le_of_ble_eq_true rfl)⟩ (Nat.le_of_ble_eq_true rfl) rfl (c_M_noneB hq ?_)
            refine px_if_neN (q := 22) (tgt := 30) dI_M_divide_19 (by omega) (by decide) rfl (fun b19 => ?_) (fun b19 => ?_)
            · exact fin
            · exact absurd b19 (by decide)
          · obtain ⟨kq, hkq, rfl⟩ := Decidable.not_not.mp hq
            refine px_iload_n (q := 16) dI_M_divide_15 rfl rfl ?_
            refine px_callS1 (q := 19) (ν := mM_none) dI_M_divide_16 wl_M_23 ws_M_none wb_M_none wi_M ⟨rfl, rfl⟩ (by decide +kernel) ⟨(Nat.le_of_ble_eq_true rfl), (Nat.le_of_ble_eq_true rfl)⟩ (Nat.le_of_ble_eq_true rfl) rfl (c_M_noneG hkq ?_)
            refine px_if_neN (q := 22) (tgt := 30) dI_M_divide_19 (by omega) (by decide) rfl (fun b19 => ?_) (fun b19 => ?_)
            · exact absurd rfl b19
            · have hr : bd_ r := by
                rcases hbad with z | z | z | z
                · exact absurd z ha
                · exact absurd z hb
                · exact absurd z hq
                · exact z
              refine px_iload (q := 24) dI_M_divide_22 rfl rfl ?_
              refine px_callS1 (q := 27) (ν := mM_none) dI_M_divide_24 wl_M_23 ws_M_none wb_M_none wi_M ⟨rfl, rfl⟩ (by decide +kernel) ⟨(Nat.le_of_ble_eq_true rfl), (Nat.le_of_ble_eq_true rfl)⟩ (Nat.le_of_ble_eq_true rfl) rfl (c_M_noneB hr ?_)
              refine px_if_eqN (q := 30) (tgt := 34) dI_M_divide_27 (by omega) (by decide) rfl (fun b27 => ?_) (fun b27 => ?_)
              · exact absurd b27 (by decide)
              · exact fin

theorem c_M_power_bad {a b q r : Int32} (hbad : bd_ a ∨ bd_ b ∨ bd_ q ∨ bd_ r) (hm : mz_ Y v) (hp : ∀ Y', mz_ Y' v → mf_ Y Y' → Y' 23 3 = nI 1 → Post none X Y') : pw_Met l g mM_power [.ref (ad_ g 23), .int a, .int b, .int q, .int r] X Y Post := by
  refine pw_ofW (by decide +kernel) rfl (Nat.le_of_ble_eq_true rfl) rfl (fun sz => ?_)
  have fin : pw_W l g mM_power sz (pw_qM g sz Post 0 0) 30 [(0, .ref (ad_ g 23)), (1, .int a), (2, .int b), (3, .int q), (4, .int r)] [.ref (ad_ g 23)] X Y := by
    refine px_iconst (q := 31) (v := nI 1) dI_M_power_30 (by decide +kernel) rfl ?_
    refine px_goto (tgt := 35) dI_M_power_31 (by decide) ?_
    refine px_iconst (q := 36) (v := nI 1) dI_M_power_35 (by decide +kernel) rfl ?_
    refine px_callV2 (q := 39) (ν := mM_refused) dI_M_power_36 (by decide) rfl rfl wl_M_27 wm_M_refused wv_M_refused wb_M_refused wi_M ⟨rfl, rfl⟩ (by decide +kernel) ⟨(Nat.le_of_ble_eq_true rfl), (Nat.le_of_ble_eq_true rfl)⟩ (Nat.le_of_ble_eq_true rfl) rfl (c_M_refused (by decide) (fun f hf => ?_))
    refine px_if_eqN (q := 42) (tgt := 43) dI_M_power_39 (by omega) (by decide) rfl (fun b39 => ?_) (fun b39 => ?_)
    · exact absurd b39 (by decide)
    · refine px_vret dI_M_power_42 rfl ?_
      exact hp _ (mz_c hm) (mf_y (by decide) mf_0) (by rw [yr_s, hf]; rfl)
  by_cases ha : bd_ a
  · refine px_aload_n (q := 1) dI_M_power_0 rfl rfl ?_
    refine px_iload_n (q := 2) dI_M_power_1 rfl rfl ?_
    refine px_callS1 (q := 5) (ν := mM_none) dI_M_power_2 wl_M_23 ws_M_none wb_M_none wi_M ⟨rfl, rfl⟩ (by decide +kernel) ⟨(Nat.le_of_ble_eq_true rfl), (Nat.le_of_ble_eq_true rfl)⟩ (Nat.le_of_ble_eq_true rfl) rfl (c_M_noneB ha ?_)
    refine px_if_neN (q := 8) (tgt := 30) dI_M_power_5 (by omega) (by decide) rfl (fun b5 => ?_) (fun b5 => ?_)
    · exact fin
    · exact absurd b5 (by decide)
  · obtain ⟨ka, hka, rfl⟩ := Decidable.not_not.mp ha
    refine px_aload_n (q := 1) dI_M_power_0 rfl rfl ?_
    refine px_iload_n (q := 2) dI_M_power_1 rfl rfl ?_
    refine px_callS1 (q := 5) (ν := mM_none) dI_M_power_2 wl_M_23 ws_M_none wb_M_none wi_M ⟨rfl, rfl⟩ (by decide +kernel) ⟨(Nat.le_of_ble_eq_true rfl), (Nat.le_of_ble_eq_true rfl)⟩ (Nat.le_of_ble_eq_true rfl) rfl (c_M_noneG hka ?_)
    refine px_if_neN (q := 8) (tgt := 30) dI_M_power_5 (by omega) (by decide) rfl (fun b5 => ?_) (fun b5 => ?_)
    · exact absurd rfl b5
    · by_cases hb : bd_ b
      · refine px_iload_n (q := 9) dI_M_power_8 rfl rfl ?_
        refine px_callS1 (q := 12) (ν := mM_none) dI_M_power_9 wl_M_23 ws_M_none wb_M_none wi_M ⟨rfl, rfl⟩ (by decide +kernel) ⟨(Nat.le_of_ble_eq_true rfl), (Nat.le_of_ble_eq_true rfl)⟩ (Nat.le_of_ble_eq_true rfl) rfl (c_M_noneB hb ?_)
        refine px_if_neN (q := 15) (tgt := 30) dI_M_power_12 (by omega) (by decide) rfl (fun b12 => ?_) (fun b12 => ?_)
        · exact fin
        · exact absurd b12 (by decide)
      · obtain ⟨kb, hkb, rfl⟩ := Decidable.not_not.mp hb
        refine px_iload_n (q := 9) dI_M_power_8 rfl rfl ?_
        refine px_callS1 (q := 12) (ν := mM_none) dI_M_power_9 wl_M_23 ws_M_none wb_M_none wi_M ⟨rfl, rfl⟩ (by decide +kernel) ⟨(Nat.le_of_ble_eq_true rfl), (Nat.le_of_ble_eq_true rfl)⟩ (Nat.le_of_ble_eq_true rfl) rfl (c_M_noneG hkb ?_)
        refine px_if_neN (q := 15) (tgt := 30) dI_M_power_12 (by omega) (by decide) rfl (fun b12 => ?_) (fun b12 => ?_)
        · exact absurd rfl b12
        · by_cases hq : bd_ q
          · refine px_iload_n (q := 16) dI_M_power_15 rfl rfl ?_
            refine px_callS1 (q := 19) (ν := mM_none) dI_M_power_16 wl_M_23 ws_M_none wb_M_none wi_M ⟨rfl, rfl⟩ (by decide +kernel) ⟨(Nat.le_of_ble_eq_true rfl), (Nat.le_of_ble_eq_true rfl)⟩ (Nat.le_of_ble_eq_true rfl) rfl (c_M_noneB hq ?_)
            refine px_if_neN (q := 22) (tgt := 30) dI_M_power_19 (by omega) (by decide) rfl (fun b19 => ?_) (fun b19 => ?_)
            · exact fin
            · exact absurd b19 (by decide)
          · obtain ⟨kq, hkq, rfl⟩ := Decidable.not_not.mp hq
            refine px_iload_n (q := 16) dI_M_power_15 rfl rfl ?_
            refine px_callS1 (q := 19) (ν := mM_none) dI_M_power_16 wl_M_23 ws_M_none wb_M_none wi_M ⟨rfl, rfl⟩ (by decide +kernel) ⟨(Nat.le_of_ble_eq_true rfl), (Nat.le_of_ble_eq_true rfl)⟩ (Nat.le_of_ble_eq_true rfl) rfl (c_M_noneG hkq ?_)
            refine px_if_neN (q := 22) (tgt := 30) dI_M_power_19 (by omega) (by decide) rfl (fun b19 => ?_) (fun b19 => ?_)
            · exact absurd rfl b19
            · have hr : bd_ r := by
                rcases hbad with z | z | z | z
                · exact absurd z ha
                · exact absurd z hb
                · exact absurd z hq
                · exact z
              refine px_iload (q := 24) dI_M_power_22 rfl rfl ?_
              refine px_callS1 (q := 27) (ν := mM_none) dI_M_power_24 wl_M_23 ws_M_none wb_M_none wi_M ⟨rfl, rfl⟩ (by decide +kernel) ⟨(Nat.le_of_ble_eq_true rfl), (Nat.le_of_ble_eq_true rfl)⟩ (Nat.le_of_ble_eq_true rfl) rfl (c_M_noneB hr ?_)
              refine px_if_eqN (q := 30) (tgt := 34) dI_M_power_27 (by omega) (by decide) rfl (fun b27 => ?_) (fun b27 => ?_)
              · exact absurd b27 (by decide)
              · exact fin

theorem c_M_divide {a b q r : Nat} (ha : a < 6) (hb : b < 6) (hq : q < 6) (hr : r < 6) (hm : mz_ Y v) (h2 : q = r → ∀ Y', mz_ Y' v → mf_ Y Y' → Y' 23 3 = nI 2 → Post none X Y') (h3 : q ≠ r → v b = 0 → ∀ Y', mz_ Y' v → mf_ Y Y' → Y' 23 3 = nI 3 → Post none X Y') (h0 : q ≠ r → v b ≠ 0 → ∀ Y', mz_ Y' (va_up (va_up v q (v a / v b)) r (v a % v b)) → mf_ Y Y' → Y' 23 3 = nI 0 → Post none X Y') : pw_Met l g mM_divide [.ref (ad_ g 23), .int (nI a), .int (nI b), .int (nI q), .int (nI r)] X Y Post := by
  refine pw_ofW (by decide +kernel) rfl (Nat.le_of_ble_eq_true rfl) rfl (fun sz => ?_)
  have k34 : pw_W l g mM_divide sz (pw_qM g sz Post 0 0) 34 [(0, .ref (ad_ g 23)), (1, .int (nI a)), (2, .int (nI b)), (3, .int (nI q)), (4, .int (nI r))] [.ref (ad_ g 23)] X Y := by
    refine px_iconst (q := 35) (v := nI 0) dI_M_divide_34 (by decide +kernel) rfl ?_
    refine px_iconst (q := 36) (v := nI 1) dI_M_divide_35 (by decide +kernel) rfl ?_
    refine px_callV2 (q := 39) (ν := mM_refused) dI_M_divide_36 (by decide) rfl rfl wl_M_27 wm_M_refused wv_M_refused wb_M_refused wi_M ⟨rfl, rfl⟩ (by decide +kernel) ⟨(Nat.le_of_ble_eq_true rfl), (Nat.le_of_ble_eq_true rfl)⟩ (Nat.le_of_ble_eq_true rfl) rfl (c_M_refused (by decide) (fun f hf => ?_))
    refine px_if_neN (q := 42) (tgt := 61) dI_M_divide_39 (by omega) (by decide) rfl (fun b39 => ?_) (fun b39 => ?_)
    · exact absurd rfl b39
    · refine px_aload_n (q := 43) dI_M_divide_42 rfl rfl ?_
      refine px_iload_n (q := 44) dI_M_divide_43 rfl rfl ?_
      refine px_iload (q := 46) dI_M_divide_44 rfl rfl ?_
      refine px_icmp_neN (q := 49) (tgt := 53) dI_M_divide_46 (by omega) (by omega) (by decide) rfl (fun b46 => ?_) (fun b46 => ?_)
      · refine px_iconst (q := 54) (v := nI 0) dI_M_divide_53 (by decide +kernel) rfl ?_
        refine px_iconst (q := 55) (v := nI 2) dI_M_divide_54 (by decide +kernel) rfl ?_
        refine px_callV2 (q := 58) (ν := mM_refused) dI_M_divide_55 (by decide) rfl rfl wl_M_27 wm_M_refused wv_M_refused wb_M_refused wi_M ⟨rfl, rfl⟩ (by decide +kernel) ⟨(Nat.le_of_ble_eq_true rfl), (Nat.le_of_ble_eq_true rfl)⟩ (Nat.le_of_ble_eq_true rfl) rfl (c_M_refused (by decide) (fun f1 hf1 => ?_))
        rw [yr_yr]
        refine px_if_eqN (q := 61) (tgt := 62) dI_M_divide_58 (by omega) (by decide) rfl (fun b58 => ?_) (fun b58 => ?_)
        · obtain ⟨hrg, W, hwk⟩ := mz_c (f := f1) hm
          have hm1 : mz_ (yr_ Y 23 f1) v := ⟨hrg, W, hwk⟩
          generalize hY1 : yr_ Y 23 f1 = Y1 at hrg hwk hm1
          have hmf1 : mf_ Y Y1 := by rw [← hY1]; exact mf_y (by decide) mf_0
          refine px_aload_n (q := 63) dI_M_divide_62 rfl rfl ?_
          refine px_iconst (q := 64) (v := nI 0) dI_M_divide_63 (by decide +kernel) rfl ?_
          refine px_iload_n (q := 65) dI_M_divide_64 rfl rfl ?_
          refine px_callV2 (q := 68) (ν := mM_load) dI_M_divide_65 (by decide) rfl rfl wl_M_31 wm_M_load wv_M_load wb_M_load wi_M ⟨rfl, rfl⟩ (by decide +kernel) ⟨(Nat.le_of_ble_eq_true rfl), (Nat.le_of_ble_eq_true rfl)⟩ (Nat.le_of_ble_eq_true rfl) rfl (c_M_load (w := 0) (by decide) ha hwk hrg (fun f2 hf2 => ?_))
          refine px_aload_n (q := 69) dI_M_divide_68 rfl rfl ?_
          refine px_iconst (q := 70) (v := nI 1) dI_M_divide_69 (by decide +kernel) rfl ?_
          refine px_iload_n (q := 71) dI_M_divide_70 rfl rfl ?_
          refine px_callV2 (q := 74) (ν := mM_load) dI_M_divide_71 (by decide) rfl rfl wl_M_31 wm_M_load wv_M_load wb_M_load wi_M ⟨rfl, rfl⟩ (by decide +kernel) ⟨(Nat.le_of_ble_eq_true rfl), (Nat.le_of_ble_eq_true rfl)⟩ (Nat.le_of_ble_eq_true rfl) rfl (c_M_load (w := 1) (by decide) hb (by rw [yr_s]; exact hf2) (by rw [yr_n (by decide)]; exact hrg) (fun f3 hf3 => ?_))
          rw [yr_yr]
          have e0 : va_up (va_up W 0 (v a)) 1 (v b) 0 = v a := by rw [va_up_ne _ _ (by decide), va_up_self]
          have e1 : va_up (va_up W 0 (v a)) 1 (v b) 1 = v b := va_up_self _ _ _
          have hva := (hrg a ha).1
          have hvb := (hrg b hb).1
          refine px_aload_n (q := 75) dI_M_divide_74 rfl rfl ?_
          refine px_aload_n (q := 76) dI_M_divide_75 rfl rfl ?_
          refine px_iconst (q := 77) (v := nI 1) dI_M_divide_76 (by decide +kernel) rfl ?_
          refine px_callV1 (q := 80) (ν := mM_isZero) dI_M_divide_77 (by decide) rfl rfl wl_M_59 wm_M_isZero wv_M_isZero wb_M_isZero wi_M ⟨rfl, rfl⟩ (by decide +kernel) ⟨(Nat.le_of_ble_eq_true rfl), (Nat.le_of_ble_eq_true rfl)⟩ (Nat.le_of_ble_eq_true rfl) rfl (c_M_isZero (w := 1) (by decide) (by rw [yr_s]; exact hf3) (fun z => ?_) (fun z => ?_))
          · rw [e1] at z
            refine px_iconst (q := 81) (v := nI 3) dI_M_divide_80 (by decide +kernel) rfl ?_
            refine px_callV2 (q := 84) (ν := mM_refused) dI_M_divide_81 (by decide) rfl rfl wl_M_27 wm_M_refused wv_M_refused wb_M_refused wi_M ⟨rfl, rfl⟩ (by decide +kernel) ⟨(Nat.le_of_ble_eq_true rfl), (Nat.le_of_ble_eq_true rfl)⟩ (Nat.le_of_ble_eq_true rfl) rfl (c_M_refused (by decide) (fun f4 hf4 => ?_))
            refine px_if_eqN (q := 87) (tgt := 88) dI_M_divide_84 (by omega) (by decide) rfl (fun b84 => ?_) (fun b84 => ?_)
            · exact absurd b84 (by decide)
            · refine px_vret dI_M_divide_87 rfl ?_
              exact h3 b46 z _ (mz_c (mz_w hm1 hf3)) (mf_y (by decide) (mf_y (by decide) hmf1)) (by rw [yr_s, hf4]; rfl)
          · rw [e1] at z
            refine px_iconst (q := 81) (v := nI 3) dI_M_divide_80 (by decide +kernel) rfl ?_
            refine px_callV2 (q := 84) (ν := mM_refused) dI_M_divide_81 (by decide) rfl rfl wl_M_27 wm_M_refused wv_M_refused wb_M_refused wi_M ⟨rfl, rfl⟩ (by decide +kernel) ⟨(Nat.le_of_ble_eq_true rfl), (Nat.le_of_ble_eq_true rfl)⟩ (Nat.le_of_ble_eq_true rfl) rfl (c_M_refused (by decide) (fun f4 hf4 => ?_))
            refine px_if_eqN (q := 87) (tgt := 88) dI_M_divide_84 (by omega) (by decide) rfl (fun b84 => ?_) (fun b84 => ?_)
            · refine px_aload_n (q := 89) dI_M_divide_88 rfl rfl ?_
              refine px_iconst (q := 90) (v := nI 0) dI_M_divide_89 (by decide +kernel) rfl ?_
              refine px_iconst (q := 91) (v := nI 1) dI_M_divide_90 (by decide +kernel) rfl ?_
              refine px_callV2 (q := 94) (ν := mM_split) dI_M_divide_91 (by decide) rfl rfl wl_M_62 wm_M_split wv_M_split wb_M_split wi_M ⟨rfl, rfl⟩ (by decide +kernel) ⟨(Nat.le_of_ble_eq_true rfl), (Nat.le_of_ble_eq_true rfl)⟩ (Nat.le_of_ble_eq_true rfl) rfl (c_M_split (x := 0) (y := 1) (by decide) (by decide) (by decide) (by decide) (by decide) (by decide) (by rw [yr_n (by decide), yr_s]; exact hf3) (by rw [e1]; exact Nat.pos_of_ne_zero z) (by rw [e1]; exact hvb) (fun f5 W5 hf5 r3 r4 ro => ?_))
              rw [e0, e1] at r3 r4
              refine px_aload_n (q := 95) dI_M_divide_94 rfl rfl ?_
              refine px_iload_n (q := 96) dI_M_divide_95 rfl rfl ?_
              refine px_iconst (q := 97) (v := nI 3) dI_M_divide_96 (by decide +kernel) rfl ?_
              refine px_callV2 (q := 100) (ν := mM_store) dI_M_divide_97 (by decide) rfl rfl wl_M_42 wm_M_store wv_M_store wb_M_store wi_M ⟨rfl, rfl⟩ (by decide +kernel) ⟨(Nat.le_of_ble_eq_true rfl), (Nat.le_of_ble_eq_true rfl)⟩ (Nat.le_of_ble_eq_true rfl) rfl (c_M_store (w := 3) (v := v) hq (by decide) (by rw [yr_s]; exact hf5) (by rw [yr_n (by decide), yr_n (by decide), yr_n (by decide)]; exact hrg) (by rw [r3]; exact Nat.lt_of_le_of_lt (Nat.div_le_self _ _) hva) (fun f6 hf6 => ?_))
              refine px_aload_n (q := 101) dI_M_divide_100 rfl rfl ?_
              refine px_iload (q := 103) dI_M_divide_101 rfl rfl ?_
              refine px_iconst (q := 104) (v := nI 4) dI_M_divide_103 (by decide +kernel) rfl ?_
              refine px_callV2 (q := 107) (ν := mM_store) dI_M_divide_104 (by decide) rfl rfl wl_M_42 wm_M_store wv_M_store wb_M_store wi_M ⟨rfl, rfl⟩ (by decide +kernel) ⟨(Nat.le_of_ble_eq_true rfl), (Nat.le_of_ble_eq_true rfl)⟩ (Nat.le_of_ble_eq_true rfl) rfl (c_M_store (w := 4) hr (by decide) (by rw [yr_n (by decide), yr_s]; exact hf5) (by rw [yr_s]; exact hf6) (by rw [r4]; exact Nat.lt_trans (Nat.mod_lt _ (Nat.pos_of_ne_zero z)) hvb) (fun f7 hf7 => ?_))
              refine px_vret dI_M_divide_107 rfl ?_
              rw [yr_yr]
              rw [r3, r4] at hf7
              exact h0 b46 z _ (mz_r (mz_w (mz_c (mz_w hm1 hf3)) hf5) hf7) (mf_y (by decide) (mf_y (by decide) (mf_y (by decide) (mf_y (by decide) hmf1)))) (by rw [yr_n (by decide), yr_n (by decide), yr_s, hf4]; rfl)
            · exact absurd rfl b84
        · exact absurd rfl b58
      · refine px_iconst (q := 50) (v := nI 1) dI_M_divide_49 (by decide +kernel) rfl ?_
        refine px_goto (tgt := 54) dI_M_divide_50 (by decide) ?_
        refine px_iconst (q := 55) (v := nI 2) dI_M_divide_54 (by decide +kernel) rfl ?_
        refine px_callV2 (q := 58) (ν := mM_refused) dI_M_divide_55 (by decide) rfl rfl wl_M_27 wm_M_refused wv_M_refused wb_M_refused wi_M ⟨rfl, rfl⟩ (by decide +kernel) ⟨(Nat.le_of_ble_eq_true rfl), (Nat.le_of_ble_eq_true rfl)⟩ (Nat.le_of_ble_eq_true rfl) rfl (c_M_refused (by decide) (fun f1 hf1 => ?_))
        rw [yr_yr]
        refine px_if_eqN (q := 61) (tgt := 62) dI_M_divide_58 (by omega) (by decide) rfl (fun b58 => ?_) (fun b58 => ?_)
        · exact absurd b58 (by decide)
        · refine px_vret dI_M_divide_61 rfl ?_
          exact h2 b46 _ (mz_c hm) (mf_y (by decide) mf_0) (by rw [yr_s, hf1]; rfl)
  refine px_aload_n (q := 1) dI_M_divide_0 rfl rfl ?_
  refine px_iload_n (q := 2) dI_M_divide_1 rfl rfl ?_
  refine px_callS1 (q := 5) (ν := mM_none) dI_M_divide_2 wl_M_23 ws_M_none wb_M_none wi_M ⟨rfl, rfl⟩ (by decide +kernel) ⟨(Nat.le_of_ble_eq_true rfl), (Nat.le_of_ble_eq_true rfl)⟩ (Nat.le_of_ble_eq_true rfl) rfl (c_M_noneG ha ?_)
  refine px_if_neN (q := 8) (tgt := 30) dI_M_divide_5 (by omega) (by decide) rfl (fun b5 => ?_) (fun b5 => ?_)
  · exact absurd rfl b5
  · refine px_iload_n (q := 9) dI_M_divide_8 rfl rfl ?_
    refine px_callS1 (q := 12) (ν := mM_none) dI_M_divide_9 wl_M_23 ws_M_none wb_M_none wi_M ⟨rfl, rfl⟩ (by decide +kernel) ⟨(Nat.le_of_ble_eq_true rfl), (Nat.le_of_ble_eq_true rfl)⟩ (Nat.le_of_ble_eq_true rfl) rfl (c_M_noneG hb ?_)
    refine px_if_neN (q := 15) (tgt := 30) dI_M_divide_12 (by omega) (by decide) rfl (fun b12 => ?_) (fun b12 => ?_)
    · exact absurd rfl b12
    · refine px_iload_n (q := 16) dI_M_divide_15 rfl rfl ?_
      refine px_callS1 (q := 19) (ν := mM_none) dI_M_divide_16 wl_M_23 ws_M_none wb_M_none wi_M ⟨rfl, rfl⟩ (by decide +kernel) ⟨(Nat.le_of_ble_eq_true rfl), (Nat.le_of_ble_eq_true rfl)⟩ (Nat.le_of_ble_eq_true rfl) rfl (c_M_noneG hq ?_)
      refine px_if_neN (q := 22) (tgt := 30) dI_M_divide_19 (by omega) (by decide) rfl (fun b19 => ?_) (fun b19 => ?_)
      · exact absurd rfl b19
      · refine px_iload (q := 24) dI_M_divide_22 rfl rfl ?_
        refine px_callS1 (q := 27) (ν := mM_none) dI_M_divide_24 wl_M_23 ws_M_none wb_M_none wi_M ⟨rfl, rfl⟩ (by decide +kernel) ⟨(Nat.le_of_ble_eq_true rfl), (Nat.le_of_ble_eq_true rfl)⟩ (Nat.le_of_ble_eq_true rfl) rfl (c_M_noneG hr ?_)
        refine px_if_eqN (q := 30) (tgt := 34) dI_M_divide_27 (by omega) (by decide) rfl (fun b27 => ?_) (fun b27 => ?_)
        · exact k34
        · exact absurd rfl b27
end CM7
