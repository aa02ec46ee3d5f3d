/-! Division: contracts -/
section CV
variable {l : Launch} {g : pw_G} {X : pw_X} {Y : pw_Y} {Post : pw_P}
theorem c_V_shiftUp {a b n m len h : Nat} {d : Nat → Nat} (ha : ln_J a = some n) (hb : ln_J b = some m) (hab : a ≠ b) (hx : rw_ (X a) n d) (hln : len ≤ n) (hlm : len ≤ m) (hh : h ≤ 31) (hY : Y 12 4 = nI h)
    (hp : ∀ (f : Nat → Int64) (e : Nat → Nat) (o : Nat), rw_ f len e → o < 2 ^ h → vl_ e len + o * 4294967296 ^ len = vl_ d len * 2 ^ h → (∀ i, len ≤ i → f i = X b i) → Post (some (.long (lN o))) (xr_ X b f) Y) :
    pw_Met l g mV_shiftUp [.ref (ad_ g 12), .ref (ad_ g a), .int (nI len), .ref (ad_ g b)] X Y Post := by
  have hn9 := ln_J_9 ha
  have hm9 := ln_J_9 hb
  refine pw_ofW (by decide +kernel) rfl (Nat.le_of_ble_eq_true rfl) rfl (fun sz => ?_)
  refine px_lconst (q := 1) (v := lN 0) dI_V_shiftUp_0 rfl rfl ?_
  refine px_lstore (q := 3) dI_V_shiftUp_1 (by decide) rfl rfl ?_
  refine px_iconst (q := 4) (v := nI 0) dI_V_shiftUp_3 (by decide +kernel) rfl ?_
  refine px_istore (q := 6) dI_V_shiftUp_4 (by decide) rfl rfl ?_
  have key : ∀ (k i o : Nat) (f : Nat → Int64) (e : Nat → Nat), i + k = len → o < 2 ^ h → rw_ f i e → vl_ e i + o * 4294967296 ^ i = vl_ d i * 2 ^ h → (∀ i, len ≤ i → f i = X b i) → pw_W l g mV_shiftUp sz (pw_qM g sz Post 0 0) 6 [(0, .ref (ad_ g 12)), (1, .ref (ad_ g a)), (2, .int (nI len)), (3, .ref (ad_ g b)), (4, .long (lN o)), (6, .int (nI i))] [] (xr_ X b f) Y := by
    intro k
    induction k with
    | zero =>
      intro i o f e hi ho hd hv hk
      refine px_iload (q := 8) dI_V_shiftUp_6 rfl rfl ?_
      refine px_iload_n (q := 9) dI_V_shiftUp_8 rfl rfl ?_
      refine px_icmp_geN (q := 12) (tgt := 52) dI_V_shiftUp_9 (by omega) (by omega) (by decide) rfl (fun b9 => ?_) (fun b9 => ?_)
      · obtain rfl : i = len := by omega
        refine px_lload (q := 54) dI_V_shiftUp_52 rfl rfl ?_
        refine px_lret dI_V_shiftUp_54 rfl ?_
        exact hp f e o hd ho hv hk
      · omega
    | succ k ih =>
      intro i o f e hi ho hd hv hk
      have h1 := hx i (by omega)
      have hm := sh_mul hh h1.2
      have hoB : 2 ^ h ≤ 2 ^ 31 := Nat.pow_le_pow_right (by decide) hh
      refine px_iload (q := 8) dI_V_shiftUp_6 rfl rfl ?_
      refine px_iload_n (q := 9) dI_V_shiftUp_8 rfl rfl ?_
      refine px_icmp_geN (q := 12) (tgt := 52) dI_V_shiftUp_9 (by omega) (by omega) (by decide) rfl (fun b9 => ?_) (fun b9 => ?_)
      · omega
      · refine px_aload_n (q := 13) dI_V_shiftUp_12 rfl rfl ?_
        refine px_iload (q := 15) dI_V_shiftUp_13 rfl rfl ?_
        refine px_aload_n (q := 16) dI_V_shiftUp_15 rfl rfl ?_
        refine px_iload (q := 18) dI_V_shiftUp_16 rfl rfl ?_
        refine px_lald (q := 19) dI_V_shiftUp_18 ha (by omega) (by omega) (xn_ hab h1.1) rfl ?_
        refine px_aload_n (q := 20) dI_V_shiftUp_19 rfl rfl ?_
        refine px_getV (q := 23) (j := 4) dI_V_shiftUp_20 wf_V_35 rfl (by decide) rfl rfl ?_
        refine px_ti (hY) ?_
        refine px_lshlN (q := 24) dI_V_shiftUp_23 (by omega) rfl ?_
        refine px_lload (q := 26) dI_V_shiftUp_24 rfl rfl ?_
        refine px_lor (q := 27) dI_V_shiftUp_26 rfl ?_
        refine px_tl (g_or (k := h) rfl ho (by omega)) ?_
        refine px_ldc2 (q := 30) (v2 := lN 4294967295) dI_V_shiftUp_27 wk_V_56 (by decide +kernel) rfl ?_
        refine px_landN (q := 31) dI_V_shiftUp_30 (by omega) rfl ?_
        refine px_last (q := 32) dI_V_shiftUp_31 hb (by omega) (by omega) rfl ?_
        refine px_aload_n (q := 33) dI_V_shiftUp_32 rfl rfl ?_
        refine px_iload (q := 35) dI_V_shiftUp_33 rfl rfl ?_
        refine px_lald (q := 36) dI_V_shiftUp_35 ha (by omega) (by omega) (xn_ hab (xn_ hab h1.1)) rfl ?_
        refine px_bipush (q := 38) (v := nI 32) dI_V_shiftUp_36 (by decide +kernel) rfl ?_
        refine px_aload_n (q := 39) dI_V_shiftUp_38 rfl rfl ?_
        refine px_getV (q := 42) (j := 4) dI_V_shiftUp_39 wf_V_35 rfl (by decide) rfl rfl ?_
        refine px_ti (hY) ?_
        refine px_isubN (q := 43) dI_V_shiftUp_42 (by omega) rfl ?_
        refine px_lushrN (q := 44) dI_V_shiftUp_43 (by omega) (by omega) rfl ?_
        refine px_lstore (q := 46) dI_V_shiftUp_44 (by decide) rfl rfl ?_
        refine px_iinc (q := 49) dI_V_shiftUp_46 rfl (ic_1 _) (by decide) rfl rfl ?_
        refine px_goto (tgt := 6) dI_V_shiftUp_49 (by decide) ?_
        rw [xr_s, xr_xr, ← sh_or hh h1.2 ho]
        refine ih (i + 1) _ _ (du_ e i ((d i * 2 ^ h + o) % 4294967296)) (by omega) (by rw [sh_or hh h1.2 ho]; exact sh_lt hh h1.2) (rw_push hd (Nat.mod_lt _ (by decide))) (vl_shift hh hv rfl) (fun p h4 => ?_)
        rw [pk_uLn (by omega)]
        exact hk p h4
  refine px_XY xr_id.symm rfl (key len 0 0 (X b) (fun _ => 0) (by omega) (Nat.pow_pos (by decide)) (fun i h => absurd h (by omega)) ?_ (fun _ _ => rfl))
  simp [vl_]
/-- the division is given the divisor D -/
def dv_ (X : pw_X) (Y : pw_Y) (s h D : Nat) (e : Nat → Nat) : Prop := Y 12 3 = nI s ∧ Y 12 4 = nI h ∧ 1 ≤ s ∧ s ≤ 4 ∧ h ≤ 31 ∧ 0 < D ∧ rw_ (X 13) s e ∧ vl_ e s = D * 2 ^ h ∧ 2147483648 ≤ e (s - 1)
theorem c_V_setDivisor {a : Nat} {d : Nat → Nat} (ha : ln_J a = some 4) (ha13 : a ≠ 13) (hx : rw_ (X a) 4 d) (h0 : vl_ d 4 ≠ 0)
    (hp : ∀ (f : Nat → Int64) (fy : Nat → Int32) (s h : Nat) (e : Nat → Nat), dv_ (xr_ X 13 f) (yr_ Y 12 fy) s h (vl_ d 4) e → Post none (xr_ X 13 f) (yr_ Y 12 fy)) :
    pw_Met l g mV_setDivisor [.ref (ad_ g 12), .ref (ad_ g a)] X Y Post := by
  refine pw_ofW (by decide +kernel) rfl (Nat.le_of_ble_eq_true rfl) rfl (fun sz => ?_)
  refine px_aload_n (q := 1) dI_V_setDivisor_0 rfl rfl ?_
  refine px_aload_n (q := 2) dI_V_setDivisor_1 rfl rfl ?_
  refine px_callS1 (q := 5) (ν := mU_length) dI_V_setDivisor_2 wl_V_21 ws_U_length wb_U_length wi_U ⟨rfl, rfl⟩ (by decide +kernel) ⟨(Nat.le_of_ble_eq_true rfl), (Nat.le_of_ble_eq_true rfl)⟩ (Nat.le_of_ble_eq_true rfl) rfl (c_U_length ha hx (fun L hL hv hd hz => ?_))
  have hL0 : 0 < L := by
    refine Nat.pos_of_ne_zero (fun q => h0 ?_)
    rw [hv, q]; rfl
  obtain ⟨m, rfl⟩ : ∃ m, L = m + 1 := ⟨L - 1, by omega⟩
  have h1 := hx m (by omega)
  have hne : d m ≠ 0 := hd (by omega)
  refine px_putV3 (q := 8) dI_V_setDivisor_5 wf_V_27 rfl ?_
  refine px_aload_n (q := 9) dI_V_setDivisor_8 rfl rfl ?_
  refine px_bipush (q := 11) (v := nI 32) dI_V_setDivisor_9 (by decide +kernel) rfl ?_
  refine px_aload_n (q := 12) dI_V_setDivisor_11 rfl rfl ?_
  refine px_aload_n (q := 13) dI_V_setDivisor_12 rfl rfl ?_
  refine px_getV (q := 16) (j := 3) dI_V_setDivisor_13 wf_V_27 rfl (by decide) rfl rfl ?_
  refine px_ti ((by rw [yr_s]; simp [upd] : yr_ Y 12 (upd (Y 12) 3 (nI (m + 1))) 12 3 = nI (m + 1))) ?_
  refine px_iconst (q := 17) (v := nI 1) dI_V_setDivisor_16 (by decide +kernel) rfl ?_
  refine px_isubN (q := 18) dI_V_setDivisor_17 (by omega) rfl ?_
  refine px_lald (q := 19) dI_V_setDivisor_18 ha (by omega) (by omega) h1.1 rfl ?_
  refine px_callS1 (q := 22) (ν := mU_bitsOfWord) dI_V_setDivisor_19 wl_V_31 ws_U_bitsOfWord wb_U_bitsOfWord wi_U ⟨rfl, rfl⟩ (by decide +kernel) ⟨(Nat.le_of_ble_eq_true rfl), (Nat.le_of_ble_eq_true rfl)⟩ (Nat.le_of_ble_eq_true rfl) rfl (c_U_bitsOfWord h1.2 (fun t ht h3 h4 => ?_))
  have ht0 : 0 < t := by
    refine Nat.pos_of_ne_zero (fun q => ?_)
    subst q
    omega
  refine px_isubN (q := 23) dI_V_setDivisor_22 (by omega) rfl ?_
  refine px_putV4 (q := 26) dI_V_setDivisor_23 wf_V_35 rfl ?_
  rw [yr_yr, yr_s]
  refine px_aload_n (q := 27) dI_V_setDivisor_26 rfl rfl ?_
  refine px_aload_n (q := 28) dI_V_setDivisor_27 rfl rfl ?_
  refine px_aload_n (q := 29) dI_V_setDivisor_28 rfl rfl ?_
  refine px_getV (q := 32) (j := 3) dI_V_setDivisor_29 wf_V_27 rfl (by decide) rfl rfl ?_
  refine px_ti ((by rw [yr_s]; simp [upd] : yr_ Y 12 (upd (upd (Y 12) 3 (nI (m + 1))) 4 (nI (32 - t))) 12 3 = nI (m + 1))) ?_
  refine px_aload_n (q := 33) dI_V_setDivisor_32 rfl rfl ?_
  refine px_getV (q := 36) (j := 0) dI_V_setDivisor_33 wf_V_9 rfl (by decide) rfl rfl ?_
  refine px_callV3 (q := 39) (ν := mV_shiftUp) dI_V_setDivisor_36 (by decide) rfl rfl wl_V_38 wm_V_shiftUp wv_V_shiftUp wb_V_shiftUp wi_V ⟨rfl, rfl⟩ (by decide +kernel) ⟨(Nat.le_of_ble_eq_true rfl), (Nat.le_of_ble_eq_true rfl)⟩ (Nat.le_of_ble_eq_true rfl) rfl (c_V_shiftUp (len := m + 1) (h := 32 - t) (b := 13) (m := 4) ha rfl ha13 hx (by omega) (by omega) (by omega) (by rw [yr_s]; simp [upd]) (fun f e o hf ho hsv hk => ?_))
  refine px_pop2 (q := 40) dI_V_setDivisor_39 rfl rfl ?_
  refine px_vret dI_V_setDivisor_40 rfl ?_
  have hb := vl_bits (d := d) (m := m) (t := t) (vl_lt m (fun i hi => (hx i (by omega)).2)) h3 (h4 ht0) ht0
  have e1 : 2 ^ (m * 32 + t) * 2 ^ (32 - t) = 4294967296 ^ (m + 1) := by
    rw [B_pow, ← Nat.pow_add]; congr 1; omega
  have hlt : vl_ d (m + 1) * 2 ^ (32 - t) < 4294967296 ^ (m + 1) := by
    rw [← e1]; exact Nat.mul_lt_mul_of_pos_right hb.1 (Nat.pow_pos (by decide))
  have ho0 : o = 0 := by
    refine Nat.eq_zero_of_not_pos (fun q => ?_)
    have : 1 * 4294967296 ^ (m + 1) ≤ o * 4294967296 ^ (m + 1) := Nat.mul_le_mul_right _ q
    omega
  rw [ho0, Nat.zero_mul, Nat.add_zero] at hsv
  refine hp f _ (m + 1) (32 - t) e ⟨by rw [yr_s]; simp [upd], by rw [yr_s]; simp [upd], by omega, by omega, by omega, by omega, by rw [xr_s]; exact hf, by rw [hsv, hv], ?_⟩
  show 2147483648 ≤ e m
  refine Nat.le_of_not_lt (fun q => ?_)
  have h5 : vl_ e (m + 1) < 2147483648 * 4294967296 ^ m := by
    have h6 := vl_lt m (fun i hi => (hf i (by omega)).2)
    have h7 : (e m + 1) * 4294967296 ^ m ≤ 2147483648 * 4294967296 ^ m := Nat.mul_le_mul_right _ q
    rw [Nat.add_mul, Nat.one_mul] at h7
    show vl_ e m + e m * 4294967296 ^ m < _
    omega
  have h8 : 2 ^ (m * 32 + t - 1) * 2 ^ (32 - t) = 2147483648 * 4294967296 ^ m := by
    rw [B_pow, ← Nat.pow_add, show m * 32 + t - 1 + (32 - t) = 31 + m * 32 by omega, Nat.pow_add]
  have h9 : 2 ^ (m * 32 + t - 1) * 2 ^ (32 - t) ≤ vl_ d (m + 1) * 2 ^ (32 - t) := Nat.mul_le_mul_right _ hb.2
  omega
theorem c_V_guessDigit {s j : Nat} {e r : Nat → Nat} (hs : Y 12 3 = nI s) (hs1 : 1 ≤ s) (hs4 : s ≤ 4) (hj : j + s ≤ 8) (he : rw_ (X 13) s e) (hr : rw_ (X 14) 9 r) (htop : 2147483648 ≤ e (s - 1))
    (hp : ∀ q, q ≤ 4294967295 → q * e (s - 1) ≤ r (j + s) * 4294967296 + r (j + s - 1) → (q = (r (j + s) * 4294967296 + r (j + s - 1)) / e (s - 1) ∨ q = 4294967295) → Post (some (.long (lN q))) X Y) :
    pw_Met l g mV_guessDigit [.ref (ad_ g 12), .int (nI j)] X Y Post := by
  have a1 := he (s - 1) (by omega)
  have a2 := hr (j + s) (by omega)
  have a3 := hr (j + s - 1) (by omega)
  refine pw_ofW (by decide +kernel) rfl (Nat.le_of_ble_eq_true rfl) rfl (fun sz => ?_)
  refine px_aload_n (q := 1) dI_V_guessDigit_0 rfl rfl ?_
  refine px_getV (q := 4) (j := 0) dI_V_guessDigit_1 wf_V_9 rfl (by decide) rfl rfl ?_
  refine px_aload_n (q := 5) dI_V_guessDigit_4 rfl rfl ?_
  refine px_getV (q := 8) (j := 3) dI_V_guessDigit_5 wf_V_27 rfl (by decide) rfl rfl ?_
  refine px_ti (hs) ?_
  refine px_iconst (q := 9) (v := nI 1) dI_V_guessDigit_8 (by decide +kernel) rfl ?_
  refine px_isubN (q := 10) dI_V_guessDigit_9 (by omega) rfl ?_
  refine px_lald (q := 11) dI_V_guessDigit_10 rfl (by omega) (by omega) a1.1 rfl ?_
  refine px_lstore_n (q := 12) dI_V_guessDigit_11 rfl (by decide) rfl rfl ?_
  refine px_aload_n (q := 13) dI_V_guessDigit_12 rfl rfl ?_
  refine px_getV (q := 16) (j := 1) dI_V_guessDigit_13 wf_V_15 rfl (by decide) rfl rfl ?_
  refine px_iload_n (q := 17) dI_V_guessDigit_16 rfl rfl ?_
  refine px_aload_n (q := 18) dI_V_guessDigit_17 rfl rfl ?_
  refine px_getV (q := 21) (j := 3) dI_V_guessDigit_18 wf_V_27 rfl (by decide) rfl rfl ?_
  refine px_ti (hs) ?_
  refine px_iaddN (q := 22) dI_V_guessDigit_21 rfl ?_
  refine px_lald (q := 23) dI_V_guessDigit_22 rfl (by omega) (by omega) a2.1 rfl ?_
  refine px_lstore (q := 25) dI_V_guessDigit_23 (by decide) rfl rfl ?_
  refine px_lload (q := 27) dI_V_guessDigit_25 rfl rfl ?_
  refine px_lload_n (q := 28) dI_V_guessDigit_27 rfl rfl ?_
  refine px_lcmp (q := 29) dI_V_guessDigit_28 rfl ?_
  refine px_if_ltC (q := 32) (tgt := 36) dI_V_guessDigit_29 (by omega) (by omega) (by decide) rfl (fun b29 => ?_) (fun b29 => ?_)
  · have hpt : r (j + s) * 4294967296 + r (j + s - 1) < e (s - 1) * 4294967296 := by
      have : (r (j + s) + 1) * 4294967296 ≤ e (s - 1) * 4294967296 := Nat.mul_le_mul_right _ b29
      omega
    have hpB : r (j + s) * 4294967296 + r (j + s - 1) < 18446744073709551616 := by omega
    refine px_lload (q := 38) dI_V_guessDigit_36 rfl rfl ?_
    refine px_bipush (q := 40) (v := nI 32) dI_V_guessDigit_38 (by decide +kernel) rfl ?_
    refine px_lshlN (q := 41) dI_V_guessDigit_40 (by omega) rfl ?_
    refine px_aload_n (q := 42) dI_V_guessDigit_41 rfl rfl ?_
    refine px_getV (q := 45) (j := 1) dI_V_guessDigit_42 wf_V_15 rfl (by decide) rfl rfl ?_
    refine px_iload_n (q := 46) dI_V_guessDigit_45 rfl rfl ?_
    refine px_aload_n (q := 47) dI_V_guessDigit_46 rfl rfl ?_
    refine px_getV (q := 50) (j := 3) dI_V_guessDigit_47 wf_V_27 rfl (by decide) rfl rfl ?_
    refine px_ti (hs) ?_
    refine px_iaddN (q := 51) dI_V_guessDigit_50 rfl ?_
    refine px_iconst (q := 52) (v := nI 1) dI_V_guessDigit_51 (by decide +kernel) rfl ?_
    refine px_isubN (q := 53) dI_V_guessDigit_52 (by omega) rfl ?_
    refine px_lald (q := 54) dI_V_guessDigit_53 rfl (by omega) (by omega) a3.1 rfl ?_
    refine px_lor (q := 55) dI_V_guessDigit_54 rfl ?_
    refine px_tl (g_or (k := 32) (p := 4294967296) (by decide) a3.2 (by omega)) ?_
    generalize r (j + s) * 4294967296 + r (j + s - 1) = p at hp hpt hpB ⊢
    generalize e (s - 1) = t at hp hpt htop a1 ⊢
    have hdv := hf_div (p := p) (t := t) (by omega)
    have hqt : p / t ≤ 4294967295 := by
      have := Nat.div_lt_of_lt_mul hpt
      omega
    refine px_lstore (q := 57) dI_V_guessDigit_55 (by decide) rfl rfl ?_
    refine px_lload (q := 59) dI_V_guessDigit_57 rfl rfl ?_
    refine px_iconst (q := 60) (v := nI 1) dI_V_guessDigit_59 (by decide +kernel) rfl ?_
    refine px_lushrN (q := 61) dI_V_guessDigit_60 (by omega) (by omega) rfl ?_
    rw [Nat.pow_one]
    refine px_lload_n (q := 62) dI_V_guessDigit_61 rfl rfl ?_
    refine px_ldivN (q := 63) dI_V_guessDigit_62 (by omega) (by omega) (by omega) rfl ?_
    refine px_iconst (q := 64) (v := nI 1) dI_V_guessDigit_63 (by decide +kernel) rfl ?_
    refine px_lshlN (q := 65) dI_V_guessDigit_64 (by omega) rfl ?_
    rw [Nat.pow_one]
    refine px_lstore (q := 67) dI_V_guessDigit_65 (by decide) rfl rfl ?_
    refine px_lload (q := 69) dI_V_guessDigit_67 rfl rfl ?_
    refine px_lload (q := 71) dI_V_guessDigit_69 rfl rfl ?_
    refine px_lload_n (q := 72) dI_V_guessDigit_71 rfl rfl ?_
    refine px_lmulN (q := 73) dI_V_guessDigit_72 rfl ?_
    refine px_lsubN (q := 74) dI_V_guessDigit_73 (by omega) rfl ?_
    refine px_lload_n (q := 75) dI_V_guessDigit_74 rfl rfl ?_
    refine px_lcmp (q := 76) dI_V_guessDigit_75 rfl ?_
    refine px_if_ltC (q := 79) (tgt := 86) dI_V_guessDigit_76 (by omega) (by omega) (by decide) rfl (fun b76 => ?_) (fun b76 => ?_)
    · refine px_lload (q := 88) dI_V_guessDigit_86 rfl rfl ?_
      refine px_lret dI_V_guessDigit_88 rfl ?_
      rw [hdv.2.1 b76]
      exact hp (p / t) hqt (Nat.div_mul_le_self _ _) (Or.inl rfl)
    · refine px_lload (q := 81) dI_V_guessDigit_79 rfl rfl ?_
      refine px_lconst (q := 82) (v := lN 1) dI_V_guessDigit_81 rfl rfl ?_
      refine px_laddN (q := 83) dI_V_guessDigit_82 rfl ?_
      refine px_goto (tgt := 88) dI_V_guessDigit_83 (by decide) ?_
      refine px_lret dI_V_guessDigit_88 rfl ?_
      rw [hdv.1 b76]
      exact hp (p / t) hqt (Nat.div_mul_le_self _ _) (Or.inl rfl)
  · refine px_ldc2 (q := 35) (v2 := lN 4294967295) dI_V_guessDigit_32 wk_V_56 (by decide +kernel) rfl ?_
    refine px_lret dI_V_guessDigit_35 rfl ?_
    refine hp 4294967295 (Nat.le_refl _) ?_ (Or.inr rfl)
    have : 4294967295 * e (s - 1) ≤ 4294967296 * r (j + s) := Nat.mul_le_mul (by decide) b29
    omega
theorem c_V_takeAway {s j q : Nat} {e r0 : Nat → Nat} (hs : Y 12 3 = nI s) (hs1 : 1 ≤ s) (hs4 : s ≤ 4) (hj : j + s ≤ 8) (he : rw_ (X 13) s e) (hr : rw_ (X 14) 9 r0) (hq : q ≤ 4294967295)
    (hp : ∀ (f : Nat → Int64) (r : Nat → Nat) (c : Nat), rw_ f 9 r → (∀ p, p < j ∨ j + s < p → r p = r0 p) → c < 2 → vl_ (fun t => r (t + j)) (s + 1) + q * vl_ e s = vl_ (fun t => r0 (t + j)) (s + 1) + c * 4294967296 ^ (s + 1) → Post (some (.int (nI c))) (xr_ X 14 f) Y) :
    pw_Met l g mV_takeAway [.ref (ad_ g 12), .long (lN q), .int (nI j)] X Y Post := by
  refine pw_ofW (by decide +kernel) rfl (Nat.le_of_ble_eq_true rfl) rfl (fun sz => ?_)
  refine px_lconst (q := 1) (v := lN 0) dI_V_takeAway_0 rfl rfl ?_
  refine px_lstore (q := 3) dI_V_takeAway_1 (by decide) rfl rfl ?_
  refine px_lconst (q := 4) (v := lN 0) dI_V_takeAway_3 rfl rfl ?_
  refine px_lstore (q := 6) dI_V_takeAway_4 (by decide) rfl rfl ?_
  refine px_iconst (q := 7) (v := nI 0) dI_V_takeAway_6 (by decide +kernel) rfl ?_
  refine px_istore (q := 9) dI_V_takeAway_7 (by decide) rfl rfl ?_
  have key : ∀ (k i c b : Nat) (f : Nat → Int64) (r : Nat → Nat), i + k = s → c < 4294967296 → b < 2 → rw_ f 9 r → (∀ p, p < j ∨ j + i ≤ p → r p = r0 p) → vl_ (fun t => r (t + j)) i + q * vl_ e i = vl_ (fun t => r0 (t + j)) i + (c + b) * 4294967296 ^ i → pw_W l g mV_takeAway sz (pw_qM g sz Post 0 0) 9 [(0, .ref (ad_ g 12)), (1, .long (lN q)), (3, .int (nI j)), (4, .long (lN c)), (6, .long (lN b)), (8, .int (nI i))] [] (xr_ X 14 f) Y := by
    intro k
    induction k with
    | zero =>
      intro i c b f r hi hc hb hf hk hv
      obtain rfl : i = s := by omega
      have a1 := hf (j + i) (by omega)
      refine px_iload (q := 11) dI_V_takeAway_9 rfl rfl ?_
      refine px_aload_n (q := 12) dI_V_takeAway_11 rfl rfl ?_
      refine px_getV (q := 15) (j := 3) dI_V_takeAway_12 wf_V_27 rfl (by decide) rfl rfl ?_
      refine px_ti (hs) ?_
      refine px_icmp_geN (q := 18) (tgt := 95) dI_V_takeAway_15 (by omega) (by omega) (by decide) rfl (fun b15 => ?_) (fun b15 => ?_)
      · by_cases z : c + b ≤ r (j + i)
        · refine px_aload_n (q := 96) dI_V_takeAway_95 rfl rfl ?_
          refine px_getV (q := 99) (j := 1) dI_V_takeAway_96 wf_V_15 rfl (by decide) rfl rfl ?_
          refine px_iload_n (q := 100) dI_V_takeAway_99 rfl rfl ?_
          refine px_aload_n (q := 101) dI_V_takeAway_100 rfl rfl ?_
          refine px_getV (q := 104) (j := 3) dI_V_takeAway_101 wf_V_27 rfl (by decide) rfl rfl ?_
          refine px_ti (hs) ?_
          refine px_iaddN (q := 105) dI_V_takeAway_104 rfl ?_
          refine px_lald (q := 106) dI_V_takeAway_105 rfl (by omega) (by omega) (xs_ a1.1) rfl ?_
          refine px_lload (q := 108) dI_V_takeAway_106 rfl rfl ?_
          refine px_lsubN (q := 109) dI_V_takeAway_108 (by omega) rfl ?_
          refine px_lload (q := 111) dI_V_takeAway_109 rfl rfl ?_
          refine px_lsubN (q := 112) dI_V_takeAway_111 (by omega) rfl ?_
          refine px_lstore (q := 114) dI_V_takeAway_112 (by decide) rfl rfl ?_
          refine px_aload_n (q := 115) dI_V_takeAway_114 rfl rfl ?_
          refine px_getV (q := 118) (j := 1) dI_V_takeAway_115 wf_V_15 rfl (by decide) rfl rfl ?_
          refine px_iload_n (q := 119) dI_V_takeAway_118 rfl rfl ?_
          refine px_aload_n (q := 120) dI_V_takeAway_119 rfl rfl ?_
          refine px_getV (q := 123) (j := 3) dI_V_takeAway_120 wf_V_27 rfl (by decide) rfl rfl ?_
          refine px_ti (hs) ?_
          refine px_iaddN (q := 124) dI_V_takeAway_123 rfl ?_
          refine px_lload (q := 126) dI_V_takeAway_124 rfl rfl ?_
          refine px_ldc2 (q := 129) (v2 := lN 4294967295) dI_V_takeAway_126 wk_V_56 (by decide +kernel) rfl ?_
          refine px_landN (q := 130) dI_V_takeAway_129 (by omega) rfl ?_
          refine px_last (q := 131) dI_V_takeAway_130 rfl (by omega) (by omega) rfl ?_
          refine px_lload (q := 133) dI_V_takeAway_131 rfl rfl ?_
          refine px_lconst (q := 134) (v := lN 0) dI_V_takeAway_133 rfl rfl ?_
          refine px_lcmp (q := 135) dI_V_takeAway_134 rfl ?_
          refine px_if_geC (q := 138) (tgt := 142) dI_V_takeAway_135 (by omega) (by omega) (by decide) rfl (fun b135 => ?_) (fun b135 => ?_)
          · refine px_iconst (q := 143) (v := nI 0) dI_V_takeAway_142 (by decide +kernel) rfl ?_
            refine px_zret dI_V_takeAway_143 rfl (by decide +kernel) ?_
            rw [xr_s, xr_xr]
            refine hp _ (du_ r (i + j) ((r (j + i) - c - b) % 4294967296)) 0 (by rw [Nat.add_comm i j]; exact rw_set hf (Nat.mod_lt _ (by decide))) (fun p h4 => ?_) (by decide) ?_
            · rw [du_n (by omega)]; exact hk p (by omega)
            · rw [vw_du]
              show _ = vl_ (fun t => r0 (t + j)) i + r0 (i + j) * 4294967296 ^ i + 0 * _
              rw [← hk (i + j) (by omega), Nat.add_comm i j]
              have h5 : ((r (j + i) - c - b) % 4294967296 + (c + b)) * 4294967296 ^ i = r (j + i) * 4294967296 ^ i := by
                congr 1; omega
              rw [Nat.add_mul] at h5
              omega
          · omega
        · refine px_aload_n (q := 96) dI_V_takeAway_95 rfl rfl ?_
          refine px_getV (q := 99) (j := 1) dI_V_takeAway_96 wf_V_15 rfl (by decide) rfl rfl ?_
          refine px_iload_n (q := 100) dI_V_takeAway_99 rfl rfl ?_
          refine px_aload_n (q := 101) dI_V_takeAway_100 rfl rfl ?_
          refine px_getV (q := 104) (j := 3) dI_V_takeAway_101 wf_V_27 rfl (by decide) rfl rfl ?_
          refine px_ti (hs) ?_
          refine px_iaddN (q := 105) dI_V_takeAway_104 rfl ?_
          refine px_lald (q := 106) dI_V_takeAway_105 rfl (by omega) (by omega) (xs_ a1.1) rfl ?_
          refine px_lload (q := 108) dI_V_takeAway_106 rfl rfl ?_
          refine px_lsub (q := 109) dI_V_takeAway_108 rfl ?_
          refine px_lload (q := 111) dI_V_takeAway_109 rfl rfl ?_
          refine px_lsub (q := 112) dI_V_takeAway_111 rfl ?_
          refine px_tl (lN_neg a1.2 hc hb (by omega)) ?_
          refine px_lstore (q := 114) dI_V_takeAway_112 (by decide) rfl rfl ?_
          refine px_aload_n (q := 115) dI_V_takeAway_114 rfl rfl ?_
          refine px_getV (q := 118) (j := 1) dI_V_takeAway_115 wf_V_15 rfl (by decide) rfl rfl ?_
          refine px_iload_n (q := 119) dI_V_takeAway_118 rfl rfl ?_
          refine px_aload_n (q := 120) dI_V_takeAway_119 rfl rfl ?_
          refine px_getV (q := 123) (j := 3) dI_V_takeAway_120 wf_V_27 rfl (by decide) rfl rfl ?_
          refine px_ti (hs) ?_
          refine px_iaddN (q := 124) dI_V_takeAway_123 rfl ?_
          refine px_lload (q := 126) dI_V_takeAway_124 rfl rfl ?_
          refine px_ldc2 (q := 129) (v2 := lN 4294967295) dI_V_takeAway_126 wk_V_56 (by decide +kernel) rfl ?_
          refine px_landN (q := 130) dI_V_takeAway_129 (by omega) rfl ?_
          refine px_last (q := 131) dI_V_takeAway_130 rfl (by omega) (by omega) rfl ?_
          refine px_lload (q := 133) dI_V_takeAway_131 rfl rfl ?_
          refine px_lconst (q := 134) (v := lN 0) dI_V_takeAway_133 rfl rfl ?_
          refine px_lcmp (q := 135) dI_V_takeAway_134 rfl ?_
          refine px_if_ge (q := 138) (tgt := 142) dI_V_takeAway_135 (by decide) rfl (fun b135 => ?_) (fun b135 => ?_)
          · exact absurd b135 (by rw [lg_cmp_ge]; exact Int64.not_le.mpr (lN_n0 (by omega) (by omega)))
          · refine px_iconst (q := 139) (v := nI 1) dI_V_takeAway_138 (by decide +kernel) rfl ?_
            refine px_goto (tgt := 143) dI_V_takeAway_139 (by decide) ?_
            refine px_zret dI_V_takeAway_143 rfl (by decide +kernel) ?_
            rw [xr_s, xr_xr]
            refine hp _ (du_ r (i + j) ((r (j + i) + 18446744073709551616 - c - b) % 4294967296)) 1 (by rw [Nat.add_comm i j]; exact rw_set hf (Nat.mod_lt _ (by decide))) (fun p h4 => ?_) (by decide) ?_
            · rw [du_n (by omega)]; exact hk p (by omega)
            · rw [vw_du]
              show _ = vl_ (fun t => r0 (t + j)) i + r0 (i + j) * 4294967296 ^ i + 1 * _
              rw [← hk (i + j) (by omega), Nat.add_comm i j, Nat.pow_succ]
              have h5 : ((r (j + i) + 18446744073709551616 - c - b) % 4294967296 + (c + b)) * 4294967296 ^ i = (r (j + i) + 4294967296) * 4294967296 ^ i := by
                congr 1; omega
              rw [Nat.add_mul, Nat.add_mul (r (j + i))] at h5
              omega
      · omega
    | succ k ih =>
      intro i c b f r hi hc hb hf hk hv
      have a1 := he i (by omega)
      have a2 := hf (i + j) (by omega)
      have hm : q * e i ≤ 4294967295 * 4294967295 := Nat.mul_le_mul hq (by omega)
      refine px_iload (q := 11) dI_V_takeAway_9 rfl rfl ?_
      refine px_aload_n (q := 12) dI_V_takeAway_11 rfl rfl ?_
      refine px_getV (q := 15) (j := 3) dI_V_takeAway_12 wf_V_27 rfl (by decide) rfl rfl ?_
      refine px_ti (hs) ?_
      refine px_icmp_geN (q := 18) (tgt := 95) dI_V_takeAway_15 (by omega) (by omega) (by decide) rfl (fun b15 => ?_) (fun b15 => ?_)
      · omega
      · by_cases z : (q * e i + c) % 4294967296 + b ≤ r (i + j)
        · refine px_lload_n (q := 19) dI_V_takeAway_18 rfl rfl ?_
          refine px_aload_n (q := 20) dI_V_takeAway_19 rfl rfl ?_
          refine px_getV (q := 23) (j := 0) dI_V_takeAway_20 wf_V_9 rfl (by decide) rfl rfl ?_
          refine px_iload (q := 25) dI_V_takeAway_23 rfl rfl ?_
          refine px_lald (q := 26) dI_V_takeAway_25 rfl (by omega) (by omega) (xn_ (by decide) a1.1) rfl ?_
          refine px_lmulN (q := 27) dI_V_takeAway_26 rfl ?_
          refine px_lload (q := 29) dI_V_takeAway_27 rfl rfl ?_
          refine px_laddN (q := 30) dI_V_takeAway_29 rfl ?_
          refine px_lstore (q := 32) dI_V_takeAway_30 (by decide) rfl rfl ?_
          refine px_lload (q := 34) dI_V_takeAway_32 rfl rfl ?_
          refine px_bipush (q := 36) (v := nI 32) dI_V_takeAway_34 (by decide +kernel) rfl ?_
          refine px_lushrN (q := 37) dI_V_takeAway_36 (by omega) (by omega) rfl ?_
          refine px_lstore (q := 39) dI_V_takeAway_37 (by decide) rfl rfl ?_
          refine px_aload_n (q := 40) dI_V_takeAway_39 rfl rfl ?_
          refine px_getV (q := 43) (j := 1) dI_V_takeAway_40 wf_V_15 rfl (by decide) rfl rfl ?_
          refine px_iload (q := 45) dI_V_takeAway_43 rfl rfl ?_
          refine px_iload_n (q := 46) dI_V_takeAway_45 rfl rfl ?_
          refine px_iaddN (q := 47) dI_V_takeAway_46 rfl ?_
          refine px_lald (q := 48) dI_V_takeAway_47 rfl (by omega) (by omega) (xs_ a2.1) rfl ?_
          refine px_lload (q := 50) dI_V_takeAway_48 rfl rfl ?_
          refine px_ldc2 (q := 53) (v2 := lN 4294967295) dI_V_takeAway_50 wk_V_56 (by decide +kernel) rfl ?_
          refine px_landN (q := 54) dI_V_takeAway_53 (by omega) rfl ?_
          refine px_lsubN (q := 55) dI_V_takeAway_54 (by omega) rfl ?_
          refine px_lload (q := 57) dI_V_takeAway_55 rfl rfl ?_
          refine px_lsubN (q := 58) dI_V_takeAway_57 (by omega) rfl ?_
          refine px_lstore (q := 60) dI_V_takeAway_58 (by decide) rfl rfl ?_
          refine px_aload_n (q := 61) dI_V_takeAway_60 rfl rfl ?_
          refine px_getV (q := 64) (j := 1) dI_V_takeAway_61 wf_V_15 rfl (by decide) rfl rfl ?_
          refine px_iload (q := 66) dI_V_takeAway_64 rfl rfl ?_
          refine px_iload_n (q := 67) dI_V_takeAway_66 rfl rfl ?_
          refine px_iaddN (q := 68) dI_V_takeAway_67 rfl ?_
          refine px_lload (q := 70) dI_V_takeAway_68 rfl rfl ?_
          refine px_ldc2 (q := 73) (v2 := lN 4294967295) dI_V_takeAway_70 wk_V_56 (by decide +kernel) rfl ?_
          refine px_landN (q := 74) dI_V_takeAway_73 (by omega) rfl ?_
          refine px_last (q := 75) dI_V_takeAway_74 rfl (by omega) (by omega) rfl ?_
          refine px_lload (q := 77) dI_V_takeAway_75 rfl rfl ?_
          refine px_lconst (q := 78) (v := lN 0) dI_V_takeAway_77 rfl rfl ?_
          refine px_lcmp (q := 79) dI_V_takeAway_78 rfl ?_
          refine px_if_geC (q := 82) (tgt := 86) dI_V_takeAway_79 (by omega) (by omega) (by decide) rfl (fun b79 => ?_) (fun b79 => ?_)
          · refine px_lconst (q := 87) (v := lN 0) dI_V_takeAway_86 rfl rfl ?_
            refine px_lstore (q := 89) dI_V_takeAway_87 (by decide) rfl rfl ?_
            refine px_iinc (q := 92) dI_V_takeAway_89 rfl (ic_1 _) (by decide) rfl rfl ?_
            refine px_goto (tgt := 9) dI_V_takeAway_92 (by decide) ?_
            rw [xr_s, xr_xr]
            refine px_keep [0, 1, 3, 4, 6, 8] rfl ?_
            refine ih (i + 1) ((q * e i + c) / 4294967296) 0 _ (du_ r (i + j) ((r (i + j) - (q * e i + c) % 4294967296 - b) % 4294967296)) (by omega) (by omega) (by omega) (rw_set hf (Nat.mod_lt _ (by decide))) (fun p h4 => ?_) ?_
            · rw [du_n (by omega)]; exact hk p (by omega)
            · rw [vw_du]
              show _ + q * (vl_ e i + e i * 4294967296 ^ i) = vl_ (fun t => r0 (t + j)) i + r0 (i + j) * 4294967296 ^ i + _
              rw [Nat.pow_succ]
              refine vw_step hv ?_
              rw [← hk (i + j) (by omega)]
              omega
          · omega
        · refine px_lload_n (q := 19) dI_V_takeAway_18 rfl rfl ?_
          refine px_aload_n (q := 20) dI_V_takeAway_19 rfl rfl ?_
          refine px_getV (q := 23) (j := 0) dI_V_takeAway_20 wf_V_9 rfl (by decide) rfl rfl ?_
          refine px_iload (q := 25) dI_V_takeAway_23 rfl rfl ?_
          refine px_lald (q := 26) dI_V_takeAway_25 rfl (by omega) (by omega) (xn_ (by decide) a1.1) rfl ?_
          refine px_lmulN (q := 27) dI_V_takeAway_26 rfl ?_
          refine px_lload (q := 29) dI_V_takeAway_27 rfl rfl ?_
          refine px_laddN (q := 30) dI_V_takeAway_29 rfl ?_
          refine px_lstore (q := 32) dI_V_takeAway_30 (by decide) rfl rfl ?_
          refine px_lload (q := 34) dI_V_takeAway_32 rfl rfl ?_
          refine px_bipush (q := 36) (v := nI 32) dI_V_takeAway_34 (by decide +kernel) rfl ?_
          refine px_lushrN (q := 37) dI_V_takeAway_36 (by omega) (by omega) rfl ?_
          refine px_lstore (q := 39) dI_V_takeAway_37 (by decide) rfl rfl ?_
          refine px_aload_n (q := 40) dI_V_takeAway_39 rfl rfl ?_
          refine px_getV (q := 43) (j := 1) dI_V_takeAway_40 wf_V_15 rfl (by decide) rfl rfl ?_
          refine px_iload (q := 45) dI_V_takeAway_43 rfl rfl ?_
          refine px_iload_n (q := 46) dI_V_takeAway_45 rfl rfl ?_
          refine px_iaddN (q := 47) dI_V_takeAway_46 rfl ?_
          refine px_lald (q := 48) dI_V_takeAway_47 rfl (by omega) (by omega) (xs_ a2.1) rfl ?_
          refine px_lload (q := 50) dI_V_takeAway_48 rfl rfl ?_
          refine px_ldc2 (q := 53) (v2 := lN 4294967295) dI_V_takeAway_50 wk_V_56 (by decide +kernel) rfl ?_
          refine px_landN (q := 54) dI_V_takeAway_53 (by omega) rfl ?_
          refine px_lsub (q := 55) dI_V_takeAway_54 rfl ?_
          refine px_lload (q := 57) dI_V_takeAway_55 rfl rfl ?_
          refine px_lsub (q := 58) dI_V_takeAway_57 rfl ?_
          refine px_tl (lN_neg a2.2 (Nat.mod_lt _ (by decide)) hb (by omega)) ?_
          refine px_lstore (q := 60) dI_V_takeAway_58 (by decide) rfl rfl ?_
          refine px_aload_n (q := 61) dI_V_takeAway_60 rfl rfl ?_
          refine px_getV (q := 64) (j := 1) dI_V_takeAway_61 wf_V_15 rfl (by decide) rfl rfl ?_
          refine px_iload (q := 66) dI_V_takeAway_64 rfl rfl ?_
          refine px_iload_n (q := 67) dI_V_takeAway_66 rfl rfl ?_
          refine px_iaddN (q := 68) dI_V_takeAway_67 rfl ?_
          refine px_lload (q := 70) dI_V_takeAway_68 rfl rfl ?_
          refine px_ldc2 (q := 73) (v2 := lN 4294967295) dI_V_takeAway_70 wk_V_56 (by decide +kernel) rfl ?_
          refine px_landN (q := 74) dI_V_takeAway_73 (by omega) rfl ?_
          refine px_last (q := 75) dI_V_takeAway_74 rfl (by omega) (by omega) rfl ?_
          refine px_lload (q := 77) dI_V_takeAway_75 rfl rfl ?_
          refine px_lconst (q := 78) (v := lN 0) dI_V_takeAway_77 rfl rfl ?_
          refine px_lcmp (q := 79) dI_V_takeAway_78 rfl ?_
          refine px_if_ge (q := 82) (tgt := 86) dI_V_takeAway_79 (by decide) rfl (fun b79 => ?_) (fun b79 => ?_)
          · exact absurd b79 (by rw [lg_cmp_ge]; exact Int64.not_le.mpr (lN_n0 (by omega) (by omega)))
          · refine px_lconst (q := 83) (v := lN 1) dI_V_takeAway_82 rfl rfl ?_
            refine px_goto (tgt := 87) dI_V_takeAway_83 (by decide) ?_
            refine px_lstore (q := 89) dI_V_takeAway_87 (by decide) rfl rfl ?_
            refine px_iinc (q := 92) dI_V_takeAway_89 rfl (ic_1 _) (by decide) rfl rfl ?_
            refine px_goto (tgt := 9) dI_V_takeAway_92 (by decide) ?_
            rw [xr_s, xr_xr]
            refine px_keep [0, 1, 3, 4, 6, 8] rfl ?_
            refine ih (i + 1) ((q * e i + c) / 4294967296) 1 _ (du_ r (i + j) ((r (i + j) + 18446744073709551616 - (q * e i + c) % 4294967296 - b) % 4294967296)) (by omega) (by omega) (by omega) (rw_set hf (Nat.mod_lt _ (by decide))) (fun p h4 => ?_) ?_
            · rw [du_n (by omega)]; exact hk p (by omega)
            · rw [vw_du]
              show _ + q * (vl_ e i + e i * 4294967296 ^ i) = vl_ (fun t => r0 (t + j)) i + r0 (i + j) * 4294967296 ^ i + _
              rw [Nat.pow_succ]
              refine vw_step hv ?_
              rw [← hk (i + j) (by omega)]
              omega
  refine px_XY xr_id.symm rfl (key s 0 0 0 (X 14) r0 (by omega) (by decide) (by decide) hr (fun _ _ => rfl) ?_)
  simp [vl_]
theorem c_V_giveBack {s j : Nat} {e r0 : Nat → Nat} (hs : Y 12 3 = nI s) (hs1 : 1 ≤ s) (hs4 : s ≤ 4) (hj : j + s ≤ 8) (he : rw_ (X 13) s e) (hr : rw_ (X 14) 9 r0)
    (hp : ∀ (f : Nat → Int64) (r : Nat → Nat) (c : Nat), rw_ f 9 r → (∀ p, p < j ∨ j + s < p → r p = r0 p) → c < 2 → vl_ (fun t => r (t + j)) (s + 1) + c * 4294967296 ^ (s + 1) = vl_ (fun t => r0 (t + j)) (s + 1) + vl_ e s → Post (some (.int (nI c))) (xr_ X 14 f) Y) :
    pw_Met l g mV_giveBack [.ref (ad_ g 12), .int (nI j)] X Y Post := by
  refine pw_ofW (by decide +kernel) rfl (Nat.le_of_ble_eq_true rfl) rfl (fun sz => ?_)
  refine px_lconst (q := 1) (v := lN 0) dI_V_giveBack_0 rfl rfl ?_
  refine px_lstore_n (q := 2) dI_V_giveBack_1 rfl (by decide) rfl rfl ?_
  refine px_iconst (q := 3) (v := nI 0) dI_V_giveBack_2 (by decide +kernel) rfl ?_
  refine px_istore (q := 5) dI_V_giveBack_3 (by decide) rfl rfl ?_
  have key : ∀ (k i c : Nat) (f : Nat → Int64) (r : Nat → Nat), i + k = s → c < 2 → rw_ f 9 r → (∀ p, p < j ∨ j + i ≤ p → r p = r0 p) → vl_ (fun t => r (t + j)) i + c * 4294967296 ^ i = vl_ (fun t => r0 (t + j)) i + vl_ e i → pw_W l g mV_giveBack sz (pw_qM g sz Post 0 0) 5 [(0, .ref (ad_ g 12)), (1, .int (nI j)), (2, .long (lN c)), (4, .int (nI i))] [] (xr_ X 14 f) Y := by
    intro k
    induction k with
    | zero =>
      intro i c f r hi hc hf hk hv
      obtain rfl : i = s := by omega
      have a1 := hf (j + i) (by omega)
      refine px_iload (q := 7) dI_V_giveBack_5 rfl rfl ?_
      refine px_aload_n (q := 8) dI_V_giveBack_7 rfl rfl ?_
      refine px_getV (q := 11) (j := 3) dI_V_giveBack_8 wf_V_27 rfl (by decide) rfl rfl ?_
      refine px_ti (hs) ?_
      refine px_icmp_geN (q := 14) (tgt := 62) dI_V_giveBack_11 (by omega) (by omega) (by decide) rfl (fun b11 => ?_) (fun b11 => ?_)
      · refine px_aload_n (q := 63) dI_V_giveBack_62 rfl rfl ?_
        refine px_getV (q := 66) (j := 1) dI_V_giveBack_63 wf_V_15 rfl (by decide) rfl rfl ?_
        refine px_iload_n (q := 67) dI_V_giveBack_66 rfl rfl ?_
        refine px_aload_n (q := 68) dI_V_giveBack_67 rfl rfl ?_
        refine px_getV (q := 71) (j := 3) dI_V_giveBack_68 wf_V_27 rfl (by decide) rfl rfl ?_
        refine px_ti (hs) ?_
        refine px_iaddN (q := 72) dI_V_giveBack_71 rfl ?_
        refine px_lald (q := 73) dI_V_giveBack_72 rfl (by omega) (by omega) (xs_ a1.1) rfl ?_
        refine px_lload_n (q := 74) dI_V_giveBack_73 rfl rfl ?_
        refine px_laddN (q := 75) dI_V_giveBack_74 rfl ?_
        refine px_lstore (q := 77) dI_V_giveBack_75 (by decide) rfl rfl ?_
        refine px_aload_n (q := 78) dI_V_giveBack_77 rfl rfl ?_
        refine px_getV (q := 81) (j := 1) dI_V_giveBack_78 wf_V_15 rfl (by decide) rfl rfl ?_
        refine px_iload_n (q := 82) dI_V_giveBack_81 rfl rfl ?_
        refine px_aload_n (q := 83) dI_V_giveBack_82 rfl rfl ?_
        refine px_getV (q := 86) (j := 3) dI_V_giveBack_83 wf_V_27 rfl (by decide) rfl rfl ?_
        refine px_ti (hs) ?_
        refine px_iaddN (q := 87) dI_V_giveBack_86 rfl ?_
        refine px_lload (q := 89) dI_V_giveBack_87 rfl rfl ?_
        refine px_ldc2 (q := 92) (v2 := lN 4294967295) dI_V_giveBack_89 wk_V_56 (by decide +kernel) rfl ?_
        refine px_landN (q := 93) dI_V_giveBack_92 (by omega) rfl ?_
        refine px_last (q := 94) dI_V_giveBack_93 rfl (by omega) (by omega) rfl ?_
        refine px_lload (q := 96) dI_V_giveBack_94 rfl rfl ?_
        refine px_ldc2 (q := 99) (v2 := lN 4294967295) dI_V_giveBack_96 wk_V_56 (by decide +kernel) rfl ?_
        refine px_lcmp (q := 100) dI_V_giveBack_99 rfl ?_
        refine px_if_leC (q := 103) (tgt := 107) dI_V_giveBack_100 (by omega) (by omega) (by decide) rfl (fun b100 => ?_) (fun b100 => ?_)
        · refine px_iconst (q := 108) (v := nI 0) dI_V_giveBack_107 (by decide +kernel) rfl ?_
          refine px_zret dI_V_giveBack_108 rfl (by decide +kernel) ?_
          rw [xr_s, xr_xr]
          refine hp _ (du_ r (i + j) ((r (j + i) + c) % 4294967296)) 0 (by rw [Nat.add_comm i j]; exact rw_set hf (Nat.mod_lt _ (by decide))) (fun p h4 => ?_) (by decide) ?_
          · rw [du_n (by omega)]; exact hk p (by omega)
          · rw [vw_du]
            show _ = vl_ (fun t => r0 (t + j)) i + r0 (i + j) * 4294967296 ^ i + _
            rw [← hk (i + j) (by omega), Nat.add_comm i j]
            have h5 : ((r (j + i) + c) % 4294967296) * 4294967296 ^ i = (r (j + i) + c) * 4294967296 ^ i := by
              congr 1; omega
            rw [Nat.add_mul] at h5
            omega
        · refine px_iconst (q := 104) (v := nI 1) dI_V_giveBack_103 (by decide +kernel) rfl ?_
          refine px_goto (tgt := 108) dI_V_giveBack_104 (by decide) ?_
          refine px_zret dI_V_giveBack_108 rfl (by decide +kernel) ?_
          rw [xr_s, xr_xr]
          refine hp _ (du_ r (i + j) ((r (j + i) + c) % 4294967296)) 1 (by rw [Nat.add_comm i j]; exact rw_set hf (Nat.mod_lt _ (by decide))) (fun p h4 => ?_) (by decide) ?_
          · rw [du_n (by omega)]; exact hk p (by omega)
          · rw [vw_du]
            show _ = vl_ (fun t => r0 (t + j)) i + r0 (i + j) * 4294967296 ^ i + _
            rw [← hk (i + j) (by omega), Nat.add_comm i j, Nat.pow_succ]
            have h5 : ((r (j + i) + c) % 4294967296 + 4294967296) * 4294967296 ^ i = (r (j + i) + c) * 4294967296 ^ i := by
              congr 1; omega
            rw [Nat.add_mul, Nat.add_mul] at h5
            omega
      · omega
    | succ k ih =>
      intro i c f r hi hc hf hk hv
      have a1 := he i (by omega)
      have a2 := hf (i + j) (by omega)
      refine px_iload (q := 7) dI_V_giveBack_5 rfl rfl ?_
      refine px_aload_n (q := 8) dI_V_giveBack_7 rfl rfl ?_
      refine px_getV (q := 11) (j := 3) dI_V_giveBack_8 wf_V_27 rfl (by decide) rfl rfl ?_
      refine px_ti (hs) ?_
      refine px_icmp_geN (q := 14) (tgt := 62) dI_V_giveBack_11 (by omega) (by omega) (by decide) rfl (fun b11 => ?_) (fun b11 => ?_)
      · omega
      · refine px_aload_n (q := 15) dI_V_giveBack_14 rfl rfl ?_
        refine px_getV (q := 18) (j := 1) dI_V_giveBack_15 wf_V_15 rfl (by decide) rfl rfl ?_
        refine px_iload (q := 20) dI_V_giveBack_18 rfl rfl ?_
        refine px_iload_n (q := 21) dI_V_giveBack_20 rfl rfl ?_
        refine px_iaddN (q := 22) dI_V_giveBack_21 rfl ?_
        refine px_lald (q := 23) dI_V_giveBack_22 rfl (by omega) (by omega) (xs_ a2.1) rfl ?_
        refine px_aload_n (q := 24) dI_V_giveBack_23 rfl rfl ?_
        refine px_getV (q := 27) (j := 0) dI_V_giveBack_24 wf_V_9 rfl (by decide) rfl rfl ?_
        refine px_iload (q := 29) dI_V_giveBack_27 rfl rfl ?_
        refine px_lald (q := 30) dI_V_giveBack_29 rfl (by omega) (by omega) (xn_ (by decide) a1.1) rfl ?_
        refine px_laddN (q := 31) dI_V_giveBack_30 rfl ?_
        refine px_lload_n (q := 32) dI_V_giveBack_31 rfl rfl ?_
        refine px_laddN (q := 33) dI_V_giveBack_32 rfl ?_
        refine px_lstore (q := 35) dI_V_giveBack_33 (by decide) rfl rfl ?_
        refine px_aload_n (q := 36) dI_V_giveBack_35 rfl rfl ?_
        refine px_getV (q := 39) (j := 1) dI_V_giveBack_36 wf_V_15 rfl (by decide) rfl rfl ?_
        refine px_iload (q := 41) dI_V_giveBack_39 rfl rfl ?_
        refine px_iload_n (q := 42) dI_V_giveBack_41 rfl rfl ?_
        refine px_iaddN (q := 43) dI_V_giveBack_42 rfl ?_
        refine px_lload (q := 45) dI_V_giveBack_43 rfl rfl ?_
        refine px_ldc2 (q := 48) (v2 := lN 4294967295) dI_V_giveBack_45 wk_V_56 (by decide +kernel) rfl ?_
        refine px_landN (q := 49) dI_V_giveBack_48 (by omega) rfl ?_
        refine px_last (q := 50) dI_V_giveBack_49 rfl (by omega) (by omega) rfl ?_
        refine px_lload (q := 52) dI_V_giveBack_50 rfl rfl ?_
        refine px_bipush (q := 54) (v := nI 32) dI_V_giveBack_52 (by decide +kernel) rfl ?_
        refine px_lushrN (q := 55) dI_V_giveBack_54 (by omega) (by omega) rfl ?_
        refine px_lstore_n (q := 56) dI_V_giveBack_55 rfl (by decide) rfl rfl ?_
        refine px_iinc (q := 59) dI_V_giveBack_56 rfl (ic_1 _) (by decide) rfl rfl ?_
        refine px_goto (tgt := 5) dI_V_giveBack_59 (by decide) ?_
        rw [xr_s, xr_xr]
        refine px_keep [0, 1, 2, 4] rfl ?_
        refine ih (i + 1) ((r (i + j) + e i + c) / 4294967296) _ (du_ r (i + j) ((r (i + j) + e i + c) % 4294967296)) (by omega) (by omega) (rw_set hf (Nat.mod_lt _ (by decide))) (fun p h4 => ?_) ?_
        · rw [du_n (by omega)]; exact hk p (by omega)
        · rw [vw_du, Nat.pow_succ]
          show _ = vl_ (fun t => r0 (t + j)) i + r0 (i + j) * 4294967296 ^ i + (vl_ e i + e i * 4294967296 ^ i)
          rw [← hk (i + j) (by omega)]
          have h5 : ((r (i + j) + e i + c) % 4294967296 + 4294967296 * ((r (i + j) + e i + c) / 4294967296)) * 4294967296 ^ i = (r (i + j) + e i + c) * 4294967296 ^ i := by rw [Nat.mod_add_div]
          have h6 : (r (i + j) + e i + c) / 4294967296 * (4294967296 ^ i * 4294967296) = 4294967296 * ((r (i + j) + e i + c) / 4294967296) * 4294967296 ^ i := by
            rw [Nat.mul_comm (4294967296 ^ i), ← Nat.mul_assoc, Nat.mul_comm ((r (i + j) + e i + c) / 4294967296)]
          rw [Nat.add_mul, Nat.add_mul, Nat.add_mul] at h5
          omega
  refine px_XY xr_id.symm rfl (key s 0 0 (X 14) r0 (by omega) (by decide) hr (fun _ _ => rfl) ?_)
  simp [vl_]
theorem c_V_nextLoop {s j kq ρ Dn sz : Nat} {e r0 : Nat → Nat} (hs : Y 12 3 = nI s) (hs1 : 1 ≤ s) (hs4 : s ≤ 4) (hj : j + s ≤ 8) (he : rw_ (X 13) s e) (hDe : vl_ e s = Dn) (hrho : ρ < Dn)
    (hp : ∀ (f : Nat → Int64) (r : Nat → Nat), rw_ f 9 r → (∀ p, p < j ∨ j + s < p → r p = r0 p) → vl_ (fun t => r (t + j)) (s + 1) = ρ → Post (some (.long (lN kq))) (xr_ X 14 f) Y) :
    ∀ (ε a : Nat) (f : Nat → Int64) (r : Nat → Nat), a + ε ≤ 2 → rw_ f 9 r → (∀ p, p < j ∨ j + s < p → r p = r0 p) → vl_ (fun t => r (t + j)) (s + 1) + ε * Dn = ρ + (if ε = 0 then 0 else 1) * 4294967296 ^ (s + 1) → pw_W l g mV_nextDigit sz (pw_qM g sz Post 0 0) 17 [(0, .ref (ad_ g 12)), (1, .int (nI j)), (2, .long (lN (kq + ε))), (4, .int (nI (if ε = 0 then 0 else 1))), (5, .int (nI a))] [] (xr_ X 14 f) Y := by
  intro ε
  induction ε with
  | zero =>
    intro a f r ha hf hk hv
    have hend : pw_W l g mV_nextDigit sz (pw_qM g sz Post 0 0) 53 [(0, .ref (ad_ g 12)), (1, .int (nI j)), (2, .long (lN (kq + 0))), (4, .int (nI (if 0 = 0 then 0 else 1))), (5, .int (nI a))] [] (xr_ X 14 f) Y := by
      refine px_lload_n (q := 54) dI_V_nextDigit_53 rfl rfl ?_
      refine px_lret dI_V_nextDigit_54 rfl ?_
      refine hp f r hf hk ?_
      rw [if_pos rfl, Nat.zero_mul, Nat.zero_mul] at hv
      exact hv
    refine px_iload (q := 19) dI_V_nextDigit_17 rfl rfl ?_
    refine px_iconst (q := 20) (v := nI 2) dI_V_nextDigit_19 (by decide +kernel) rfl ?_
    refine px_icmp_geN (q := 23) (tgt := 53) dI_V_nextDigit_20 (by omega) (by omega) (by decide) rfl (fun b20 => ?_) (fun b20 => ?_)
    · exact hend
    · rw [if_pos rfl]
      rw [if_pos rfl] at hend
      refine px_iload (q := 25) dI_V_nextDigit_23 rfl rfl ?_
      refine px_if_eqN (q := 28) (tgt := 53) dI_V_nextDigit_25 (by omega) (by decide) rfl (fun b25 => ?_) (fun b25 => ?_)
      · exact hend
      · exact absurd rfl b25
  | succ ε ih =>
    intro a f r ha hf hk hv
    rw [if_neg (by omega), Nat.one_mul] at hv
    rw [if_neg (by omega)]
    refine px_iload (q := 19) dI_V_nextDigit_17 rfl rfl ?_
    refine px_iconst (q := 20) (v := nI 2) dI_V_nextDigit_19 (by decide +kernel) rfl ?_
    refine px_icmp_geN (q := 23) (tgt := 53) dI_V_nextDigit_20 (by omega) (by omega) (by decide) rfl (fun b20 => ?_) (fun b20 => ?_)
    · omega
    · refine px_iload (q := 25) dI_V_nextDigit_23 rfl rfl ?_
      refine px_if_eqN (q := 28) (tgt := 53) dI_V_nextDigit_25 (by omega) (by decide) rfl (fun b25 => ?_) (fun b25 => ?_)
      · omega
      · refine px_lload_n (q := 29) dI_V_nextDigit_28 rfl rfl ?_
        refine px_lconst (q := 30) (v := lN 1) dI_V_nextDigit_29 rfl rfl ?_
        refine px_lsubN (q := 31) dI_V_nextDigit_30 (by omega) rfl ?_
        refine px_lstore_n (q := 32) dI_V_nextDigit_31 rfl (by decide) rfl rfl ?_
        refine px_aload_n (q := 33) dI_V_nextDigit_32 rfl rfl ?_
        refine px_iload_n (q := 34) dI_V_nextDigit_33 rfl rfl ?_
        refine px_callV1 (q := 37) (ν := mV_giveBack) dI_V_nextDigit_34 (by decide) rfl rfl wl_V_65 wm_V_giveBack wv_V_giveBack wb_V_giveBack wi_V ⟨rfl, rfl⟩ (by decide +kernel) ⟨(Nat.le_of_ble_eq_true rfl), (Nat.le_of_ble_eq_true rfl)⟩ (Nat.le_of_ble_eq_true rfl) rfl (c_V_giveBack hs hs1 hs4 hj (by rw [xr_n (by decide)]; exact he) (by rw [xr_s]; exact hf) (fun f2 r2 c2 hf2 hk2 hc2 hv2 => ?_))
        rw [xr_xr]
        rw [hDe] at hv2
        have hb2 := vl_lt (d := fun t => r2 (t + j)) (s + 1) (fun i hi => (hf2 (i + j) (by omega)).2)
        obtain ⟨hcv, hv3⟩ := nd_c hb2 hrho hc2 hv hv2
        have hk3 : ∀ p, p < j ∨ j + s < p → r2 p = r0 p := fun p h4 => by rw [hk2 p h4, hk p h4]
        rw [show kq + (ε + 1) - 1 = kq + ε by omega]
        have hnx := ih (a + 1) f2 r2 (by omega) hf2 hk3 hv3
        refine px_if_neN (q := 40) (tgt := 44) dI_V_nextDigit_37 (by omega) (by decide) rfl (fun b37 => ?_) (fun b37 => ?_)
        · refine px_iconst (q := 45) (v := nI 0) dI_V_nextDigit_44 (by decide +kernel) rfl ?_
          refine px_istore (q := 47) dI_V_nextDigit_45 (by decide) rfl rfl ?_
          refine px_iinc (q := 50) dI_V_nextDigit_47 rfl (ic_1 _) (by decide) rfl rfl ?_
          refine px_goto (tgt := 17) dI_V_nextDigit_50 (by decide) ?_
          have z : ε = 0 := by
            refine Decidable.byContradiction (fun z => b37 ?_)
            rw [hcv, if_neg z]
          rw [if_pos z] at hnx
          exact hnx
        · refine px_iconst (q := 41) (v := nI 1) dI_V_nextDigit_40 (by decide +kernel) rfl ?_
          refine px_goto (tgt := 45) dI_V_nextDigit_41 (by decide) ?_
          refine px_istore (q := 47) dI_V_nextDigit_45 (by decide) rfl rfl ?_
          refine px_iinc (q := 50) dI_V_nextDigit_47 rfl (ic_1 _) (by decide) rfl rfl ?_
          refine px_goto (tgt := 17) dI_V_nextDigit_50 (by decide) ?_
          have z : ¬ ε = 0 := by
            intro z
            rw [hcv, if_pos z] at b37
            cases b37
          rw [if_neg z] at hnx
          exact hnx
theorem c_V_nextDigit {s h D j : Nat} {e r0 : Nat → Nat} (hdv : dv_ X Y s h D e) (hj : j + s ≤ 8) (hr : rw_ (X 14) 9 r0) (hW : vl_ (fun t => r0 (t + j)) (s + 1) < vl_ e s * 4294967296)
    (hp : ∀ (f : Nat → Int64) (r : Nat → Nat), rw_ f 9 r → (∀ p, p < j ∨ j + s < p → r p = r0 p) → vl_ (fun t => r (t + j)) (s + 1) = vl_ (fun t => r0 (t + j)) (s + 1) % vl_ e s → Post (some (.long (lN (vl_ (fun t => r0 (t + j)) (s + 1) / vl_ e s)))) (xr_ X 14 f) Y) :
    pw_Met l g mV_nextDigit [.ref (ad_ g 12), .int (nI j)] X Y Post := by
  obtain ⟨hs, hh, hs1, hs4, hh31, hD0, he, heD, htop⟩ := hdv
  have hDpos : 0 < vl_ e s := by rw [heD]; exact Nat.mul_pos hD0 (Nat.pow_pos (by decide))
  refine pw_ofW (by decide +kernel) rfl (Nat.le_of_ble_eq_true rfl) rfl (fun sz => ?_)
  refine px_aload_n (q := 1) dI_V_nextDigit_0 rfl rfl ?_
  refine px_iload_n (q := 2) dI_V_nextDigit_1 rfl rfl ?_
  refine px_callV1 (q := 5) (ν := mV_guessDigit) dI_V_nextDigit_2 (by decide) rfl rfl wl_V_58 wm_V_guessDigit wv_V_guessDigit wb_V_guessDigit wi_V ⟨rfl, rfl⟩ (by decide +kernel) ⟨(Nat.le_of_ble_eq_true rfl), (Nat.le_of_ble_eq_true rfl)⟩ (Nat.le_of_ble_eq_true rfl) rfl (c_V_guessDigit hs hs1 hs4 hj he hr htop (fun q hq1 hq2 hq3 => ?_))
  have hg : vl_ (fun t => r0 (t + j)) (s + 1) / vl_ e s ≤ q ∧ q ≤ vl_ (fun t => r0 (t + j)) (s + 1) / vl_ e s + 2 := by
    obtain ⟨m, rfl⟩ : ∃ m, s = m + 1 := ⟨s - 1, by omega⟩
    have hlo := vl_lt m (fun i hi => (he i (by omega)).2)
    have hlw := vl_lt (d := fun t => r0 (t + j)) m (fun i hi => (hr (i + j) (by omega)).2)
    refine kn_guess (top := e m) (dl := vl_ e m) (P := 4294967296 ^ m) (pr := r0 (j + (m + 1)) * 4294967296 + r0 (j + (m + 1) - 1)) (wl := vl_ (fun t => r0 (t + j)) m) rfl hlo ?_ hlw htop hq1 hq2 hq3 hW
    rw [show j + (m + 1) - 1 = m + j by omega, show j + (m + 1) = m + 1 + j by omega, ← nd_W, ← Nat.pow_succ]
    rfl
  have hrho := Nat.mod_lt (vl_ (fun t => r0 (t + j)) (s + 1)) hDpos
  have hWd : vl_ (fun t => r0 (t + j)) (s + 1) = vl_ (fun t => r0 (t + j)) (s + 1) / vl_ e s * vl_ e s + vl_ (fun t => r0 (t + j)) (s + 1) % vl_ e s := by
    have := Nat.mod_add_div (vl_ (fun t => r0 (t + j)) (s + 1)) (vl_ e s)
    rw [Nat.mul_comm] at this
    omega
  refine px_lstore_n (q := 6) dI_V_nextDigit_5 rfl (by decide) rfl rfl ?_
  refine px_aload_n (q := 7) dI_V_nextDigit_6 rfl rfl ?_
  refine px_lload_n (q := 8) dI_V_nextDigit_7 rfl rfl ?_
  refine px_iload_n (q := 9) dI_V_nextDigit_8 rfl rfl ?_
  refine px_callV2 (q := 12) (ν := mV_takeAway) dI_V_nextDigit_9 (by decide) rfl rfl wl_V_61 wm_V_takeAway wv_V_takeAway wb_V_takeAway wi_V ⟨rfl, rfl⟩ (by decide +kernel) ⟨(Nat.le_of_ble_eq_true rfl), (Nat.le_of_ble_eq_true rfl)⟩ (Nat.le_of_ble_eq_true rfl) rfl (c_V_takeAway hs hs1 hs4 hj he hr hq1 (fun f1 r1 c hf1 hk1 hc hv1 => ?_))
  refine px_istore (q := 14) dI_V_nextDigit_12 (by decide) rfl rfl ?_
  refine px_iconst (q := 15) (v := nI 0) dI_V_nextDigit_14 (by decide +kernel) rfl ?_
  refine px_istore (q := 17) dI_V_nextDigit_15 (by decide) rfl rfl ?_
  have hb1 := vl_lt (d := fun t => r1 (t + j)) (s + 1) (fun i hi => (hf1 (i + j) (by omega)).2)
  have key := c_V_nextLoop (l := l) (g := g) (X := X) (Y := Y) (Post := Post) (sz := sz) hs hs1 hs4 hj he rfl hrho hp
  generalize vl_ (fun t => r0 (t + j)) (s + 1) / vl_ e s = kq at hg hWd key
  generalize vl_ (fun t => r0 (t + j)) (s + 1) % vl_ e s = ρ at hrho hWd key
  obtain ⟨ε, rfl⟩ : ∃ ε, q = kq + ε := ⟨q - kq, by omega⟩
  have hv2 : vl_ (fun t => r1 (t + j)) (s + 1) + ε * vl_ e s = ρ + c * 4294967296 ^ (s + 1) := by
    rw [Nat.add_mul] at hv1
    omega
  have hcv := nd_0 hb1 hrho hc hv2
  rw [hcv]
  rw [hcv] at hv2
  exact key ε 0 f1 r1 (by omega) hf1 hk1 hv2
theorem c_V_run {a n s h D : Nat} {e d : Nat → Nat} (ha : ln_J a = some n) (hn8 : n ≤ 8) (ha14 : a ≠ 14) (ha15 : a ≠ 15) (hdv : dv_ X Y s h D e) (hx : rw_ (X a) n d)
    (hp : ∀ (fq fr : Nat → Int64) (q r : Nat → Nat), rw_ fq 8 q → rw_ fr 9 r → vl_ q 8 = vl_ d n / D → vl_ r 9 = vl_ d n % D * 2 ^ h → Post none (xr_ (xr_ X 15 fq) 14 fr) Y) :
    pw_Met l g mV_run [.ref (ad_ g 12), .ref (ad_ g a)] X Y Post := by
  obtain ⟨hs, hh, hs1, hs4, hh31, hD0, he, heD, htop⟩ := id hdv
  have hDlt : vl_ e s < 4294967296 ^ s := rw_lt he
  have hD2 : 0 < vl_ e s := by rw [heD]; exact Nat.mul_pos hD0 (Nat.pow_pos (by decide))
  have hpow : 2 ^ h ≤ 2 ^ 31 := Nat.pow_le_pow_right (by decide) hh31
  refine pw_ofW (by decide +kernel) rfl (Nat.le_of_ble_eq_true rfl) rfl (fun sz => ?_)
  refine px_aload_n (q := 1) dI_V_run_0 rfl rfl ?_
  refine px_getV (q := 4) (j := 2) dI_V_run_1 wf_V_18 rfl (by decide) rfl rfl ?_
  refine px_lconst (q := 5) (v := lN 0) dI_V_run_4 rfl rfl ?_
  refine px_callS2 (q := 8) (ν := mA_fillJ) dI_V_run_5 wl_V_42 ws_A_fillJ wb_A_fillJ wi_A ⟨rfl, rfl⟩ (by decide +kernel) ⟨(Nat.le_of_ble_eq_true rfl), (Nat.le_of_ble_eq_true rfl)⟩ (Nat.le_of_ble_eq_true rfl) rfl (c_A_fillJ (a := 15) (n := 8) rfl (fun fq hfq => ?_))
  refine px_aload_n (q := 9) dI_V_run_8 rfl rfl ?_
  refine px_getV (q := 12) (j := 1) dI_V_run_9 wf_V_15 rfl (by decide) rfl rfl ?_
  refine px_lconst (q := 13) (v := lN 0) dI_V_run_12 rfl rfl ?_
  refine px_callS2 (q := 16) (ν := mA_fillJ) dI_V_run_13 wl_V_42 ws_A_fillJ wb_A_fillJ wi_A ⟨rfl, rfl⟩ (by decide +kernel) ⟨(Nat.le_of_ble_eq_true rfl), (Nat.le_of_ble_eq_true rfl)⟩ (Nat.le_of_ble_eq_true rfl) rfl (c_A_fillJ (a := 14) (n := 9) rfl (fun fr hfr => ?_))
  refine px_aload_n (q := 17) dI_V_run_16 rfl rfl ?_
  refine px_callS1 (q := 20) (ν := mU_length) dI_V_run_17 wl_V_21 ws_U_length wb_U_length wi_U ⟨rfl, rfl⟩ (by decide +kernel) ⟨(Nat.le_of_ble_eq_true rfl), (Nat.le_of_ble_eq_true rfl)⟩ (Nat.le_of_ble_eq_true rfl) rfl (c_U_length ha (by rw [xr_n ha14, xr_n ha15]; exact hx) (fun L hL hv hd hz => ?_))
  refine px_istore_n (q := 21) dI_V_run_20 rfl (by decide) rfl rfl ?_
  refine px_aload_n (q := 22) dI_V_run_21 rfl rfl ?_
  refine px_getV (q := 25) (j := 1) dI_V_run_22 wf_V_15 rfl (by decide) rfl rfl ?_
  refine px_iload_n (q := 26) dI_V_run_25 rfl rfl ?_
  refine px_aload_n (q := 27) dI_V_run_26 rfl rfl ?_
  refine px_aload_n (q := 28) dI_V_run_27 rfl rfl ?_
  refine px_iload_n (q := 29) dI_V_run_28 rfl rfl ?_
  refine px_aload_n (q := 30) dI_V_run_29 rfl rfl ?_
  refine px_getV (q := 33) (j := 1) dI_V_run_30 wf_V_15 rfl (by decide) rfl rfl ?_
  refine px_callV3 (q := 36) (ν := mV_shiftUp) dI_V_run_33 (by decide) rfl rfl wl_V_38 wm_V_shiftUp wv_V_shiftUp wb_V_shiftUp wi_V ⟨rfl, rfl⟩ (by decide +kernel) ⟨(Nat.le_of_ble_eq_true rfl), (Nat.le_of_ble_eq_true rfl)⟩ (Nat.le_of_ble_eq_true rfl) rfl (c_V_shiftUp (b := 14) (m := 9) (len := L) (h := h) ha rfl ha14 (by rw [xr_n ha14, xr_n ha15]; exact hx) hL (by omega) hh31 hh (fun f o_e o hf ho hsv hk => ?_))
  refine px_last (q := 37) dI_V_run_36 rfl (by omega) (by omega) rfl ?_
  rw [xr_s, xr_xr, xr_xr]
  generalize hf' : vp_updL f L (lN o) = fr2
  have hr2 : ∃ r, rw_ fr2 9 r ∧ vl_ r 9 = vl_ d n * 2 ^ h := by
    refine ⟨fun p => if p < L then o_e p else if p = L then o else 0, fun i hi => ?_, ?_⟩
    · subst hf'
      by_cases q1 : i < L
      · simp only [if_pos q1]; rw [pk_uLn (by omega)]; exact hf i q1
      · by_cases q2 : i = L
        · simp only [if_neg q1, if_pos q2]; rw [q2, pk_uLs]; exact ⟨rfl, by omega⟩
        · simp only [if_neg q1, if_neg q2]; rw [pk_uLn q2, hk i (by omega), xr_s, hfr i (by omega)]; exact ⟨rfl, Nat.zero_lt_succ _⟩
    · obtain ⟨k, hk9⟩ : ∃ k, 9 = (L + 1) + k := ⟨9 - (L + 1), by omega⟩
      rw [hk9, vl_up k (fun i h1 h2 => by show (if i < L then _ else _) = 0; rw [if_neg (by omega), if_neg (by omega)])]
      show vl_ _ L + (if L < L then _ else if L = L then o else 0) * _ = _
      rw [if_neg (Nat.lt_irrefl _), if_pos rfl, hv, ← hsv]
      congr 1
      exact vl_congr L (fun i hi => if_pos hi)
  obtain ⟨r, hr, hrv⟩ := hr2
  have key : ∀ (J : Nat) (fq fr : Nat → Int64) (q r : Nat → Nat), J + s ≤ 9 → rw_ fq 8 q → rw_ fr 9 r → (∀ p, p < J → q p = 0) → vl_ q 8 * vl_ e s + vl_ r 9 = vl_ d n * 2 ^ h → vl_ r 9 < vl_ e s * 4294967296 ^ J → pw_W l g mV_run sz (pw_qM g sz Post 0 0) 44 [(0, .ref (ad_ g 12)), (1, .ref (ad_ g a)), (2, .int (nI L)), (3, .int (mI J))] [] (xr_ (xr_ X 15 fq) 14 fr) Y := by
    intro J
    induction J with
    | zero =>
      intro fq fr q r hJ hfq hfr hq0 hsum hlt
      refine px_iload_n (q := 45) dI_V_run_44 rfl rfl ?_
      refine px_if_ltM (q := 48) (tgt := 65) dI_V_run_45 (by omega) (by decide) rfl (fun b45 => ?_) (fun b45 => ?_)
      · refine px_vret dI_V_run_65 rfl ?_
        rw [heD] at hsum hlt
        obtain ⟨e1, e2⟩ := dv_end hD0 hsum (by simpa using hlt)
        exact hp fq fr q r hfq hfr e1 e2
      · omega
    | succ j ih =>
      intro fq fr q r hJ hfq hfr hq0 hsum hlt
      have hWlt := dv_W (r := r) (s := s) (j := j) (by omega) hDlt hlt
      rw [mI_s]
      refine px_iload_n (q := 45) dI_V_run_44 rfl rfl ?_
      refine px_if_ltN (q := 48) (tgt := 65) dI_V_run_45 (by omega) (by decide) rfl (fun b45 => ?_) (fun b45 => ?_)
      · exact b45.elim
      · have hdv2 : dv_ (xr_ (xr_ X 15 fq) 14 fr) Y s h D e := ⟨hs, hh, hs1, hs4, hh31, hD0, by rw [xr_n (by decide), xr_n (by decide)]; exact he, heD, htop⟩
        refine px_aload_n (q := 49) dI_V_run_48 rfl rfl ?_
        refine px_getV (q := 52) (j := 2) dI_V_run_49 wf_V_18 rfl (by decide) rfl rfl ?_
        refine px_iload_n (q := 53) dI_V_run_52 rfl rfl ?_
        refine px_aload_n (q := 54) dI_V_run_53 rfl rfl ?_
        refine px_iload_n (q := 55) dI_V_run_54 rfl rfl ?_
        refine px_callV1 (q := 58) (ν := mV_nextDigit) dI_V_run_55 (by decide) rfl rfl wl_V_48 wm_V_nextDigit wv_V_nextDigit wb_V_nextDigit wi_V ⟨rfl, rfl⟩ (by decide +kernel) ⟨(Nat.le_of_ble_eq_true rfl), (Nat.le_of_ble_eq_true rfl)⟩ (Nat.le_of_ble_eq_true rfl) rfl (c_V_nextDigit hdv2 (by omega) (by rw [xr_s]; exact hfr) hWlt (fun f2 r2 hf2 hk2 hv2 => ?_))
        rw [xr_xr]
        refine px_last (q := 59) dI_V_run_58 rfl (by omega) (by omega) rfl ?_
        refine px_iinc (q := 62) dI_V_run_59 rfl (ic_m _) (by decide) rfl rfl ?_
        refine px_goto (tgt := 44) dI_V_run_62 (by decide) ?_
        rw [xr_n (by decide), xr_s, xr_c (by decide)]
        have hst := dv_step (r' := r2) (by omega) hD2 hDlt hq0 hsum hlt (fun i hi => (hfr i hi).2) rfl hk2 hv2 (by omega)
        exact ih _ f2 (du_ q j _) r2 (by omega) (rw_set hfq (Nat.div_lt_of_lt_mul hWlt)) hf2 (fun p h4 => by rw [du_n (by omega)]; exact hq0 p (by omega)) hst.1 hst.2
  have hq0 : rw_ fq 8 (fun _ => 0) := fun i hi => ⟨hfq i hi, Nat.zero_lt_succ _⟩
  have hV0 : vl_ (fun _ => 0) 8 * vl_ e s + vl_ r 9 = vl_ d n * 2 ^ h := by
    rw [vl_0 8 (fun _ _ => rfl), Nat.zero_mul, Nat.zero_add, hrv]
  by_cases hLs : s ≤ L
  · refine px_iload_n (q := 38) dI_V_run_37 rfl rfl ?_
    refine px_aload_n (q := 39) dI_V_run_38 rfl rfl ?_
    refine px_getV (q := 42) (j := 3) dI_V_run_39 wf_V_27 rfl (by decide) rfl rfl ?_
    refine px_ti (hs) ?_
    refine px_isubN (q := 43) dI_V_run_42 (by omega) rfl ?_
    refine px_istore_n (q := 44) dI_V_run_43 rfl (by decide) rfl rfl ?_
    rw [← mI_s (L - s)]
    refine key (L - s + 1) fq fr2 _ r (by omega) hq0 hr (fun _ _ => rfl) hV0 ?_
    rw [hrv, hv]
    have h1 := vl_lt L (fun i hi => (hx i (by omega)).2)
    have h2 : 4294967296 ^ (s - 1) * 2147483648 ≤ vl_ e s := by
      obtain ⟨m, rfl⟩ : ∃ m, s = m + 1 := ⟨s - 1, by omega⟩
      show _ ≤ vl_ e m + e m * 4294967296 ^ m
      have : 2147483648 * 4294967296 ^ m ≤ e m * 4294967296 ^ m := Nat.mul_le_mul_right _ htop
      show 4294967296 ^ m * 2147483648 ≤ _
      rw [Nat.mul_comm]
      omega
    have h3 : vl_ d L * 2 ^ h < 4294967296 ^ L * 2147483648 := Nat.lt_of_lt_of_le (Nat.mul_lt_mul_of_pos_right h1 (Nat.pow_pos (n := h) (by decide : 0 < 2))) (Nat.mul_le_mul_left _ hpow)
    have h4 : 4294967296 ^ (s - 1) * 2147483648 * 4294967296 ^ (L - s + 1) ≤ vl_ e s * 4294967296 ^ (L - s + 1) := Nat.mul_le_mul_right _ h2
    rw [Nat.mul_assoc, Nat.mul_comm 2147483648, ← Nat.mul_assoc, ← Nat.pow_add, show s - 1 + (L - s + 1) = L by omega] at h4
    omega
  · refine px_iload_n (q := 38) dI_V_run_37 rfl rfl ?_
    refine px_aload_n (q := 39) dI_V_run_38 rfl rfl ?_
    refine px_getV (q := 42) (j := 3) dI_V_run_39 wf_V_27 rfl (by decide) rfl rfl ?_
    refine px_ti (hs) ?_
    refine px_isub (q := 43) dI_V_run_42 rfl ?_
    refine px_istore_n (q := 44) dI_V_run_43 rfl (by decide) rfl rfl ?_
    refine px_iload_n (q := 45) dI_V_run_44 rfl rfl ?_
    refine px_if_lt (q := 48) (tgt := 65) dI_V_run_45 (by decide) rfl (fun b45 => ?_) (fun b45 => absurd (pk_sneg (by omega) (by omega)) b45)
    refine px_vret dI_V_run_65 rfl ?_
    have hlt : vl_ r 9 < D * 2 ^ h := by
      rw [hrv]
      refine Nat.mul_lt_mul_of_pos_right ?_ (Nat.pow_pos (by decide))
      rw [hv]
      have h1 := vl_lt L (fun i hi => (hx i (by omega)).2)
      have h2 : 4294967296 ^ L ≤ 4294967296 ^ (s - 1) := Nat.pow_le_pow_right (by decide) (by omega)
      refine Nat.lt_of_lt_of_le (Nat.lt_of_lt_of_le h1 h2) ?_
      refine Nat.le_of_mul_le_mul_right (c := 2147483648) ?_ (by decide)
      obtain ⟨m, rfl⟩ : ∃ m, s = m + 1 := ⟨s - 1, by omega⟩
      have h3 : 2147483648 * 4294967296 ^ m ≤ e m * 4294967296 ^ m := Nat.mul_le_mul_right _ htop
      have h4 : vl_ e (m + 1) = vl_ e m + e m * 4294967296 ^ m := rfl
      have h5 : D * 2 ^ h ≤ D * 2147483648 := Nat.mul_le_mul_left _ hpow
      show 4294967296 ^ m * 2147483648 ≤ _
      rw [Nat.mul_comm]
      omega
    rw [heD] at hV0
    obtain ⟨e1, e2⟩ := dv_end hD0 hV0 hlt
    exact hp fq fr2 _ r hq0 hr e1 e2
theorem c_V_copyQuotient {b : Nat} (hb : ln_J b = some 4) (hp : ∀ f : Nat → Int64, (∀ i, i < 4 → f i = X 15 i) → Post none (xr_ X b f) Y) : pw_Met l g mV_copyQuotient [.ref (ad_ g 12), .ref (ad_ g b)] X Y Post := by
  refine pw_ofW (by decide +kernel) rfl (Nat.le_of_ble_eq_true rfl) rfl (fun sz => ?_)
  refine px_aload_n (q := 1) dI_V_copyQuotient_0 rfl rfl ?_
  refine px_getV (q := 4) (j := 2) dI_V_copyQuotient_1 wf_V_18 rfl (by decide) rfl rfl ?_
  refine px_aload_n (q := 5) dI_V_copyQuotient_4 rfl rfl ?_
  refine px_callS2 (q := 8) (ν := mU_copy) dI_V_copyQuotient_5 wl_V_52 ws_U_copy wb_U_copy wi_U ⟨rfl, rfl⟩ (by decide +kernel) ⟨(Nat.le_of_ble_eq_true rfl), (Nat.le_of_ble_eq_true rfl)⟩ (Nat.le_of_ble_eq_true rfl) rfl (c_U_copy (n := 8) rfl hb (by decide) (fun f hf => ?_))
  refine px_vret dI_V_copyQuotient_8 rfl ?_
  exact hp f hf
theorem c_V_copyRemainder {b s h R : Nat} {r : Nat → Nat} (hb : ln_J b = some 4) (hb14 : b ≠ 14) (hs : Y 12 3 = nI s) (hs4 : s ≤ 4) (hh : Y 12 4 = nI h) (hh31 : h ≤ 31) (hr : rw_ (X 14) 9 r) (hv : vl_ r 9 = R * 2 ^ h) (hR : R < 4294967296 ^ s)
    (hp : ∀ (f : Nat → Int64) (d : Nat → Nat), rw_ f 4 d → vl_ d 4 = R → Post none (xr_ X b f) Y) : pw_Met l g mV_copyRemainder [.ref (ad_ g 12), .ref (ad_ g b)] X Y Post := by
  refine pw_ofW (by decide +kernel) rfl (Nat.le_of_ble_eq_true rfl) rfl (fun sz => ?_)
  refine px_aload_n (q := 1) dI_V_copyRemainder_0 rfl rfl ?_
  refine px_lconst (q := 2) (v := lN 0) dI_V_copyRemainder_1 rfl rfl ?_
  refine px_callS2 (q := 5) (ν := mA_fillJ) dI_V_copyRemainder_2 wl_V_42 ws_A_fillJ wb_A_fillJ wi_A ⟨rfl, rfl⟩ (by decide +kernel) ⟨(Nat.le_of_ble_eq_true rfl), (Nat.le_of_ble_eq_true rfl)⟩ (Nat.le_of_ble_eq_true rfl) rfl (c_A_fillJ hb (fun f0 hf0 => ?_))
  refine px_iconst (q := 6) (v := nI 0) dI_V_copyRemainder_5 (by decide +kernel) rfl ?_
  refine px_istore_n (q := 7) dI_V_copyRemainder_6 rfl (by decide) rfl rfl ?_
  have hRd : vl_ r 9 / 2 ^ h = R := by rw [hv, Nat.mul_div_cancel _ (Nat.pow_pos (by decide))]
  have key : ∀ (k i : Nat) (f : Nat → Int64), i + k = s → (∀ p, p < i → f p = lN (R / 4294967296 ^ p % 4294967296)) → (∀ p, i ≤ p → p < 4 → f p = lN 0) → pw_W l g mV_copyRemainder sz (pw_qM g sz Post 0 0) 7 [(0, .ref (ad_ g 12)), (1, .ref (ad_ g b)), (2, .int (nI i))] [] (xr_ X b f) Y := by
    intro k
    induction k with
    | zero =>
      intro i f hi h1 h2
      obtain rfl : i = s := by omega
      refine px_iload_n (q := 8) dI_V_copyRemainder_7 rfl rfl ?_
      refine px_aload_n (q := 9) dI_V_copyRemainder_8 rfl rfl ?_
      refine px_getV (q := 12) (j := 3) dI_V_copyRemainder_9 wf_V_27 rfl (by decide) rfl rfl ?_
      refine px_ti (hs) ?_
      refine px_icmp_geN (q := 15) (tgt := 56) dI_V_copyRemainder_12 (by omega) (by omega) (by decide) rfl (fun b12 => ?_) (fun b12 => ?_)
      · refine px_vret dI_V_copyRemainder_56 rfl ?_
        refine hp f (fun p => if p < i then R / 4294967296 ^ p % 4294967296 else 0) (fun p hp4 => ?_) ?_
        · by_cases q : p < i
          · simp only [if_pos q]; exact ⟨h1 p q, Nat.mod_lt _ (by decide)⟩
          · simp only [if_neg q]; exact ⟨h2 p (by omega) hp4, Nat.zero_lt_succ _⟩
        · obtain ⟨k4, hk4⟩ : ∃ k, 4 = i + k := ⟨4 - i, by omega⟩
          rw [hk4, vl_up k4 (fun p a1 a2 => if_neg (by omega)), vl_congr i (fun p a => if_pos a), vl_digs, Nat.mod_eq_of_lt hR]
      · omega
    | succ k ih =>
      intro i f hi h1 h2
      have a1 := hr i (by omega)
      have a2 := hr (i + 1) (by omega)
      have p1 : r i / 2 ^ h < 2 ^ (32 - h) := by
        refine Nat.div_lt_of_lt_mul ?_
        rw [← Nat.pow_add, show h + (32 - h) = 32 by omega]
        exact a1.2
      have p2 : r (i + 1) * 2 ^ (32 - h) ≤ 4294967295 * 4294967296 := by
        have : 2 ^ (32 - h) ≤ 2 ^ 32 := Nat.pow_le_pow_right (by decide) (by omega)
        exact Nat.mul_le_mul (by omega) this
      have p3 : 2 ^ (32 - h) ≤ 2 ^ 32 := Nat.pow_le_pow_right (by decide) (by omega)
      refine px_iload_n (q := 8) dI_V_copyRemainder_7 rfl rfl ?_
      refine px_aload_n (q := 9) dI_V_copyRemainder_8 rfl rfl ?_
      refine px_getV (q := 12) (j := 3) dI_V_copyRemainder_9 wf_V_27 rfl (by decide) rfl rfl ?_
      refine px_ti (hs) ?_
      refine px_icmp_geN (q := 15) (tgt := 56) dI_V_copyRemainder_12 (by omega) (by omega) (by decide) rfl (fun b12 => ?_) (fun b12 => ?_)
      · omega
      · refine px_aload_n (q := 16) dI_V_copyRemainder_15 rfl rfl ?_
        refine px_iload_n (q := 17) dI_V_copyRemainder_16 rfl rfl ?_
        refine px_aload_n (q := 18) dI_V_copyRemainder_17 rfl rfl ?_
        refine px_getV (q := 21) (j := 1) dI_V_copyRemainder_18 wf_V_15 rfl (by decide) rfl rfl ?_
        refine px_iload_n (q := 22) dI_V_copyRemainder_21 rfl rfl ?_
        refine px_lald (q := 23) dI_V_copyRemainder_22 rfl (by omega) (by omega) (xn_ (Ne.symm hb14) a1.1) rfl ?_
        refine px_aload_n (q := 24) dI_V_copyRemainder_23 rfl rfl ?_
        refine px_getV (q := 27) (j := 4) dI_V_copyRemainder_24 wf_V_35 rfl (by decide) rfl rfl ?_
        refine px_ti (hh) ?_
        refine px_lushrN (q := 28) dI_V_copyRemainder_27 (by omega) (by omega) rfl ?_
        refine px_aload_n (q := 29) dI_V_copyRemainder_28 rfl rfl ?_
        refine px_getV (q := 32) (j := 1) dI_V_copyRemainder_29 wf_V_15 rfl (by decide) rfl rfl ?_
        refine px_iload_n (q := 33) dI_V_copyRemainder_32 rfl rfl ?_
        refine px_iconst (q := 34) (v := nI 1) dI_V_copyRemainder_33 (by decide +kernel) rfl ?_
        refine px_iaddN (q := 35) dI_V_copyRemainder_34 rfl ?_
        refine px_lald (q := 36) dI_V_copyRemainder_35 rfl (by omega) (by omega) (xn_ (Ne.symm hb14) a2.1) rfl ?_
        refine px_bipush (q := 38) (v := nI 32) dI_V_copyRemainder_36 (by decide +kernel) rfl ?_
        refine px_aload_n (q := 39) dI_V_copyRemainder_38 rfl rfl ?_
        refine px_getV (q := 42) (j := 4) dI_V_copyRemainder_39 wf_V_35 rfl (by decide) rfl rfl ?_
        refine px_ti (hh) ?_
        refine px_isubN (q := 43) dI_V_copyRemainder_42 (by omega) rfl ?_
        refine px_lshlN (q := 44) dI_V_copyRemainder_43 (by omega) rfl ?_
        refine px_lor (q := 45) dI_V_copyRemainder_44 rfl ?_
        refine px_tl (g_or' (k := 32 - h) rfl p1 (by omega)) ?_
        refine px_ldc2 (q := 48) (v2 := lN 4294967295) dI_V_copyRemainder_45 wk_V_56 (by decide +kernel) rfl ?_
        refine px_landN (q := 49) dI_V_copyRemainder_48 (by omega) rfl ?_
        refine px_last (q := 50) dI_V_copyRemainder_49 hb (by omega) (by omega) rfl ?_
        refine px_iinc (q := 53) dI_V_copyRemainder_50 rfl (ic_1 _) (by decide) rfl rfl ?_
        refine px_goto (tgt := 7) dI_V_copyRemainder_53 (by decide) ?_
        rw [xr_s, xr_xr, dn_dg (by omega) hh31 (fun j hj => (hr j hj).2), hRd]
        refine ih (i + 1) _ (by omega) (fun p h4 => ?_) (fun p h4 h5 => ?_)
        · by_cases q : p = i
          · rw [q, pk_uLs]
          · rw [pk_uLn q]; exact h1 p (by omega)
        · rw [pk_uLn (by omega)]; exact h2 p (by omega) h5
  refine key s 0 f0 (by omega) (fun p h4 => absurd h4 (by omega)) (fun p h4 h5 => hf0 p h5)
end CV
