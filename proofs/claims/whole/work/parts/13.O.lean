/-! Roots, further -/
section CO2
variable {l : Launch} {g : pw_G} {X : pw_X} {Y : pw_Y} {Post : pw_P}
theorem pl_ {a b e : Nat} (h : a ^ e < b ^ e) : a < b := Nat.lt_of_not_le (fun q => by have := Nat.pow_le_pow_left q e; omega)
theorem ov_ {r m e : Nat} (h : 4294967296 ^ 4 ≤ r ^ m * r ^ m) (hm : 2 * m ≤ e) : 4294967296 ^ 4 ≤ r ^ e := by
  have hr : 1 ≤ r := by
    refine Nat.pos_of_ne_zero (fun z => ?_)
    subst z
    cases m with
    | zero => revert h; decide
    | succ m => rw [Nat.zero_pow (by omega), Nat.zero_mul] at h; exact absurd h (by decide)
  rw [← Nat.pow_add] at h
  exact pw_lt_pw hr (by omega) h
theorem c_O_compare {a e : Nat} {dr dx : Nat → Nat} (ha : ln_J a = some 4) (ha18 : a ≠ 18) (ha19 : a ≠ 19) (he2 : 2 ≤ e) (he : e < 128) (hr : rw_ (X 17) 4 dr) (hx : rw_ (X a) 4 dx)
    (h1 : ∀ fw fr : Nat → Int64, vl_ dr 4 ^ e < vl_ dx 4 → Post (some (.int (-1))) (xr_ (xr_ X 19 fw) 18 fr) Y)
    (h2 : ∀ fw fr : Nat → Int64, vl_ dr 4 ^ e = vl_ dx 4 → Post (some (.int (nI 0))) (xr_ (xr_ X 19 fw) 18 fr) Y)
    (h3 : ∀ fw fr : Nat → Int64, vl_ dx 4 < vl_ dr 4 ^ e → Post (some (.int (nI 1))) (xr_ (xr_ X 19 fw) 18 fr) Y) : pw_Met l g mO_compareRaisedRoot [.ref (ad_ g 16), .int (nI e), .ref (ad_ g a)] X Y Post := by
  have hxlt := rw_lt hx
  refine pw_ofW (by decide +kernel) rfl (Nat.le_of_ble_eq_true rfl) rfl (fun sz => ?_)
  refine px_aload_n (q := 1) dI_O_compareRaisedRoot_0 rfl rfl ?_
  refine px_getO (q := 4) (j := 0) dI_O_compareRaisedRoot_1 wf_O_9 rfl (by decide) rfl rfl ?_
  refine px_aload_n (q := 5) dI_O_compareRaisedRoot_4 rfl rfl ?_
  refine px_getO (q := 8) (j := 1) dI_O_compareRaisedRoot_5 wf_O_15 rfl (by decide) rfl rfl ?_
  refine px_callS2 (q := 11) (ν := mU_copy) dI_O_compareRaisedRoot_8 wl_O_49 ws_U_copy wb_U_copy wi_U ⟨rfl, rfl⟩ (by decide +kernel) ⟨(Nat.le_of_ble_eq_true rfl), (Nat.le_of_ble_eq_true rfl)⟩ (Nat.le_of_ble_eq_true rfl) rfl (c_U_copy (a := 17) (b := 18) (n := 4) rfl rfl (by decide) (fun f0 hf0 => ?_))
  refine px_iload_n (q := 12) dI_O_compareRaisedRoot_11 rfl rfl ?_
  refine px_i2lN (q := 13) dI_O_compareRaisedRoot_12 (by omega) rfl ?_
  refine px_callS1 (q := 16) (ν := mU_bitsOfWord) dI_O_compareRaisedRoot_13 wl_O_53 ws_U_bitsOfWord wb_U_bitsOfWord wi_U ⟨rfl, rfl⟩ (by decide +kernel) ⟨(Nat.le_of_ble_eq_true rfl), (Nat.le_of_ble_eq_true rfl)⟩ (Nat.le_of_ble_eq_true rfl) rfl (c_U_bitsOfWord (k := e) (by omega) (fun L hL hL1 hL2 => ?_))
  have hL3 : 2 ≤ L := by
    refine Nat.le_of_not_lt (fun q => ?_)
    have : 2 ^ L ≤ 2 ^ 1 := Nat.pow_le_pow_right (by decide) (by omega)
    omega
  refine px_iconst (q := 17) (v := nI 2) dI_O_compareRaisedRoot_16 (by decide +kernel) rfl ?_
  refine px_isubN (q := 18) dI_O_compareRaisedRoot_17 (by omega) rfl ?_
  refine px_istore_n (q := 19) dI_O_compareRaisedRoot_18 rfl (by decide) rfl rfl ?_
  have key : ∀ (K : Nat) (fw fr : Nat → Int64) (d : Nat → Nat), K < 32 → rw_ fr 4 d → vl_ d 4 = vl_ dr 4 ^ (e / 2 ^ K) → pw_W l g mO_compareRaisedRoot sz (pw_qM g sz Post 0 0) 19 [(0, .ref (ad_ g 16)), (1, .int (nI e)), (2, .ref (ad_ g a)), (3, .int (mI K))] [] (xr_ (xr_ X 19 fw) 18 fr) Y := by
    intro K
    induction K with
    | zero =>
      intro fw fr d hK hd hv
      rw [Nat.pow_zero, Nat.div_one] at hv
      refine px_iload_n (q := 20) dI_O_compareRaisedRoot_19 rfl rfl ?_
      refine px_if_ltM (q := 23) (tgt := 64) dI_O_compareRaisedRoot_20 (by omega) (by decide) rfl (fun b20 => ?_) (fun b20 => ?_)
      · refine px_aload_n (q := 65) dI_O_compareRaisedRoot_64 rfl rfl ?_
        refine px_getO (q := 68) (j := 1) dI_O_compareRaisedRoot_65 wf_O_15 rfl (by decide) rfl rfl ?_
        refine px_aload_n (q := 69) dI_O_compareRaisedRoot_68 rfl rfl ?_
        refine px_callS2 (q := 72) (ν := mU_comparison) dI_O_compareRaisedRoot_69 wl_O_61 ws_U_comparison wb_U_comparison wi_U ⟨rfl, rfl⟩ (by decide +kernel) ⟨(Nat.le_of_ble_eq_true rfl), (Nat.le_of_ble_eq_true rfl)⟩ (Nat.le_of_ble_eq_true rfl) rfl (c_U_comparison (x := 18) (dx := d) (dy := dx) rfl ha (by rw [xr_s]; exact hd) (by rw [xr_n ha18, xr_n ha19]; exact hx) (fun q => ?_) (fun q => ?_) (fun q => ?_))
        · refine px_iret dI_O_compareRaisedRoot_72 rfl ?_
          exact h1 fw fr (by rw [← hv]; exact q)
        · refine px_iret dI_O_compareRaisedRoot_72 rfl ?_
          exact h2 fw fr (by rw [← hv]; exact q)
        · refine px_iret dI_O_compareRaisedRoot_72 rfl ?_
          exact h3 fw fr (by rw [← hv]; exact q)
      · omega
    | succ K ih =>
      intro fw fr d hK hd hv
      have hdv : e / 2 ^ K = 2 * (e / 2 ^ (K + 1)) + e / 2 ^ K % 2 := by
        rw [Nat.pow_succ, ← Nat.div_div_eq_div_mul]; omega
      have hle : e / 2 ^ K ≤ e := Nat.div_le_self _ _
      have hpw : vl_ d 4 * vl_ d 4 = vl_ dr 4 ^ (2 * (e / 2 ^ (K + 1))) := by
        rw [hv, ← Nat.pow_add]; congr 1; omega
      rw [mI_s]
      refine px_iload_n (q := 20) dI_O_compareRaisedRoot_19 rfl rfl ?_
      refine px_if_ltN (q := 23) (tgt := 64) dI_O_compareRaisedRoot_20 (by omega) (by decide) rfl (fun b20 => ?_) (fun b20 => ?_)
      · exact b20.elim
      · refine px_aload_n (q := 24) dI_O_compareRaisedRoot_23 rfl rfl ?_
        refine px_aload_n (q := 25) dI_O_compareRaisedRoot_24 rfl rfl ?_
        refine px_getO (q := 28) (j := 1) dI_O_compareRaisedRoot_25 wf_O_15 rfl (by decide) rfl rfl ?_
        refine px_callV1 (q := 31) (ν := mO_multiplyRaised) dI_O_compareRaisedRoot_28 (by decide) rfl rfl wl_O_57 wm_O_multiplyRaised wv_O_multiplyRaised wb_O_multiplyRaised wi_O ⟨rfl, rfl⟩ (by decide +kernel) ⟨(Nat.le_of_ble_eq_true rfl), (Nat.le_of_ble_eq_true rfl)⟩ (Nat.le_of_ble_eq_true rfl) rfl (c_O_multiplyRaised (a := 18) rfl (by decide) (by rw [xr_s]; exact hd) (by rw [xr_s]; exact hd) (fun fw2 fr2 d2 hd2 hv2 => ?_) (fun fw2 fr2 hov => ?_))
        · rw [xr_c (a := 19) (b := 18) (by decide), xr_xr]
          refine px_if_neN (q := 34) (tgt := 36) dI_O_compareRaisedRoot_31 (by omega) (by decide) rfl (fun b31 => ?_) (fun b31 => ?_)
          · refine px_iload_n (q := 37) dI_O_compareRaisedRoot_36 rfl rfl ?_
            refine px_iload_n (q := 38) dI_O_compareRaisedRoot_37 rfl rfl ?_
            refine px_iushrN (q := 39) dI_O_compareRaisedRoot_38 (by omega) (by omega) rfl ?_
            refine px_iconst (q := 40) (v := nI 1) dI_O_compareRaisedRoot_39 (by decide +kernel) rfl ?_
            refine px_iand1 (q := 41) dI_O_compareRaisedRoot_40 (by omega) rfl ?_
            refine px_iconst (q := 42) (v := nI 1) dI_O_compareRaisedRoot_41 (by decide +kernel) rfl ?_
            refine px_icmp_neN (q := 45) (tgt := 58) dI_O_compareRaisedRoot_42 (by omega) (by omega) (by decide) rfl (fun b42 => ?_) (fun b42 => ?_)
            · refine px_iinc (q := 61) dI_O_compareRaisedRoot_58 rfl (ic_m _) (by decide) rfl rfl ?_
              refine px_goto (tgt := 19) dI_O_compareRaisedRoot_61 (by decide) ?_
              refine ih fw2 fr2 d2 (by omega) hd2 ?_
              rw [hv2, hpw]
              congr 1
              omega
            · refine px_aload_n (q := 46) dI_O_compareRaisedRoot_45 rfl rfl ?_
              refine px_aload_n (q := 47) dI_O_compareRaisedRoot_46 rfl rfl ?_
              refine px_getO (q := 50) (j := 0) dI_O_compareRaisedRoot_47 wf_O_9 rfl (by decide) rfl rfl ?_
              refine px_callV1 (q := 53) (ν := mO_multiplyRaised) dI_O_compareRaisedRoot_50 (by decide) rfl rfl wl_O_57 wm_O_multiplyRaised wv_O_multiplyRaised wb_O_multiplyRaised wi_O ⟨rfl, rfl⟩ (by decide +kernel) ⟨(Nat.le_of_ble_eq_true rfl), (Nat.le_of_ble_eq_true rfl)⟩ (Nat.le_of_ble_eq_true rfl) rfl (c_O_multiplyRaised (a := 17) rfl (by decide) (by rw [xr_s]; exact hd2) (by rw [xr_n (by decide), xr_n (by decide)]; exact hr) (fun fw3 fr3 d3 hd3 hv3 => ?_) (fun fw3 fr3 hov => ?_))
              · rw [xr_c (a := 19) (b := 18) (by decide), xr_xr]
                refine px_if_neN (q := 56) (tgt := 58) dI_O_compareRaisedRoot_53 (by omega) (by decide) rfl (fun b53 => ?_) (fun b53 => ?_)
                · refine px_iinc (q := 61) dI_O_compareRaisedRoot_58 rfl (ic_m _) (by decide) rfl rfl ?_
                  refine px_goto (tgt := 19) dI_O_compareRaisedRoot_61 (by decide) ?_
                  refine ih fw3 fr3 d3 (by omega) hd3 ?_
                  rw [hv3, hv2, hpw, ← Nat.pow_succ]
                  congr 1
                  omega
                · exact absurd b53 (by decide)
              · rw [xr_c (a := 19) (b := 18) (by decide), xr_xr]
                refine px_if_neN (q := 56) (tgt := 58) dI_O_compareRaisedRoot_53 (by omega) (by decide) rfl (fun b53 => ?_) (fun b53 => ?_)
                · exact absurd rfl b53
                · refine px_iconst (q := 57) (v := nI 1) dI_O_compareRaisedRoot_56 (by decide +kernel) rfl ?_
                  refine px_iret dI_O_compareRaisedRoot_57 rfl ?_
                  refine h3 fw3 fr3 (Nat.lt_of_lt_of_le hxlt ?_)
                  rw [hv2, hpw, ← Nat.pow_succ] at hov
                  have hr1 : 1 ≤ vl_ dr 4 := by
                    refine Nat.pos_of_ne_zero (fun z => ?_)
                    rw [z, Nat.zero_pow (by omega)] at hov
                    exact absurd hov (by decide)
                  exact pw_lt_pw hr1 (by omega) hov
          · exact absurd b31 (by decide)
        · rw [xr_c (a := 19) (b := 18) (by decide), xr_xr]
          refine px_if_neN (q := 34) (tgt := 36) dI_O_compareRaisedRoot_31 (by omega) (by decide) rfl (fun b31 => ?_) (fun b31 => ?_)
          · exact absurd rfl b31
          · refine px_iconst (q := 35) (v := nI 1) dI_O_compareRaisedRoot_34 (by decide +kernel) rfl ?_
            refine px_iret dI_O_compareRaisedRoot_35 rfl ?_
            refine h3 fw2 fr2 (Nat.lt_of_lt_of_le hxlt ?_)
            rw [hv] at hov
            exact ov_ hov (by omega)
  have hst : pw_W l g mO_compareRaisedRoot sz (pw_qM g sz Post 0 0) 19 [(0, .ref (ad_ g 16)), (1, .int (nI e)), (2, .ref (ad_ g a)), (3, .int (nI (L - 2)))] [] (xr_ X 18 f0) Y := by
    have h4 := key (L - 1) (X 19) f0 dr (by omega) (fun i hi => by rw [hf0 i hi]; exact hr i hi) (by
      rw [show e / 2 ^ (L - 1) = 1 from ?_, Nat.pow_one]
      rw [Nat.div_eq_iff (Nat.pow_pos (by decide))]
      have h5 := hL2 (by omega)
      have h6 : 2 ^ L = 2 ^ (L - 1) * 2 := by rw [← Nat.pow_succ]; congr 1; omega
      omega)
    rw [xr_id, mI_p (by omega), show L - 1 - 1 = L - 2 by omega] at h4
    exact h4
  exact hst
theorem xr_3 {X : pw_X} {a b c : Nat} {f h k f' : Nat → Int64} (hab : a ≠ b) (hac : a ≠ c) : xr_ (xr_ (xr_ (xr_ X a f) b h) c k) a f' = xr_ (xr_ (xr_ X a f') b h) c k := by
  funext j
  by_cases h1 : j = a
  · subst h1; simp [xr_, hab, hac]
  · by_cases h2 : j = c
    · subst h2; simp [xr_, h1]
    · by_cases h3 : j = b
      · subst h3; simp [xr_, h1, h2]
      · simp [xr_, h1, h2, h3]
theorem c_O_hasRoot {a e T : Nat} {dx : Nat → Nat} (ha : ln_J a = some 4) (ha17 : a ≠ 17) (ha18 : a ≠ 18) (ha19 : a ≠ 19) (he2 : 2 ≤ e) (he : e < T) (hT : T ≤ 128) (hx : rw_ (X a) 4 dx) (hv1 : vl_ dx 4 < 2 ^ T) (hv0 : 0 < vl_ dx 4)
    (h1 : ∀ f fw fr : Nat → Int64, (∃ r, r ^ e = vl_ dx 4) → Post (some (.int (nI 1))) (xr_ (xr_ (xr_ X 17 f) 19 fw) 18 fr) Y)
    (h0 : ∀ f fw fr : Nat → Int64, (¬ ∃ r, r ^ e = vl_ dx 4) → Post (some (.int (nI 0))) (xr_ (xr_ (xr_ X 17 f) 19 fw) 18 fr) Y) : pw_Met l g mO_hasRoot [.ref (ad_ g 16), .ref (ad_ g a), .int (nI T), .int (nI e)] X Y Post := by
  refine pw_ofW (by decide +kernel) rfl (Nat.le_of_ble_eq_true rfl) rfl (fun sz => ?_)
  refine px_aload_n (q := 1) dI_O_hasRoot_0 rfl rfl ?_
  refine px_getO (q := 4) (j := 0) dI_O_hasRoot_1 wf_O_9 rfl (by decide) rfl rfl ?_
  refine px_lconst (q := 5) (v := lN 0) dI_O_hasRoot_4 rfl rfl ?_
  refine px_callS2 (q := 8) (ν := mA_fillJ) dI_O_hasRoot_5 wl_O_35 ws_A_fillJ wb_A_fillJ wi_A ⟨rfl, rfl⟩ (by decide +kernel) ⟨(Nat.le_of_ble_eq_true rfl), (Nat.le_of_ble_eq_true rfl)⟩ (Nat.le_of_ble_eq_true rfl) rfl (c_A_fillJ (a := 17) (n := 4) rfl (fun f0 hf0 => ?_))
  have hdl : (T - 1) / e ≤ 127 := Nat.le_trans (Nat.div_le_self _ _) (by omega)
  generalize hKm : (T - 1) / e = Km at hdl
  have hdr : ∀ r, r ^ e = vl_ dx 4 → r < 2 ^ (Km + 1) := fun r hr => by rw [← hKm]; exact rt_start (by omega) hv1 hr
  refine px_iload_n (q := 9) dI_O_hasRoot_8 rfl rfl ?_
  refine px_iconst (q := 10) (v := nI 1) dI_O_hasRoot_9 (by decide +kernel) rfl ?_
  refine px_isubN (q := 11) dI_O_hasRoot_10 (by omega) rfl ?_
  refine px_iload_n (q := 12) dI_O_hasRoot_11 rfl rfl ?_
  refine px_idivN (q := 13) dI_O_hasRoot_12 (by omega) (by omega) (by omega) rfl ?_
  refine px_istore (q := 15) dI_O_hasRoot_13 (by decide) rfl rfl ?_
  rw [hKm]
  have key : ∀ (K : Nat) (f fw fr : Nat → Int64) (d : Nat → Nat), K ≤ 128 → rw_ f 4 d → vl_ d 4 % 2 ^ K = 0 → vl_ d 4 ^ e < vl_ dx 4 → (∀ r, r ^ e = vl_ dx 4 → vl_ d 4 ≤ r ∧ r < vl_ d 4 + 2 ^ K) → pw_W l g mO_hasRoot sz (pw_qM g sz Post 0 0) 15 [(0, .ref (ad_ g 16)), (1, .ref (ad_ g a)), (2, .int (nI T)), (3, .int (nI e)), (4, .int (mI K))] [] (xr_ (xr_ (xr_ X 17 f) 19 fw) 18 fr) Y := by
    intro K
    induction K with
    | zero =>
      intro f fw fr d hK hd hm hlt hin
      refine px_iload (q := 17) dI_O_hasRoot_15 rfl rfl ?_
      refine px_if_ltM (q := 20) (tgt := 58) dI_O_hasRoot_17 (by omega) (by decide) rfl (fun b17 => ?_) (fun b17 => ?_)
      · refine px_iconst (q := 59) (v := nI 0) dI_O_hasRoot_58 (by decide +kernel) rfl ?_
        refine px_zret dI_O_hasRoot_59 rfl (by decide +kernel) ?_
        refine h0 f fw fr (fun hex => ?_)
        obtain ⟨r, hr⟩ := hex
        obtain ⟨i1, i2⟩ := hin r hr
        obtain rfl : r = vl_ d 4 := by omega
        omega
      · omega
    | succ K ih =>
      intro f fw fr d hK hd hm hlt hin
      have hbit : vl_ d 4 / 2 ^ K % 2 = 0 := by
        rw [Nat.mod_pow_succ] at hm
        have : 0 < 2 ^ K := Nat.pow_pos (by decide)
        rcases (show vl_ d 4 / 2 ^ K % 2 = 0 ∨ vl_ d 4 / 2 ^ K % 2 = 1 by omega) with q | q
        · exact q
        · rw [q] at hm; omega
      have hmK : vl_ d 4 % 2 ^ K = 0 := by
        rw [Nat.mod_pow_succ] at hm
        omega
      have hp2 : 2 ^ (K + 1) = 2 ^ K + 2 ^ K := by rw [Nat.pow_succ]; omega
      rw [mI_s]
      refine px_iload (q := 17) dI_O_hasRoot_15 rfl rfl ?_
      refine px_if_ltN (q := 20) (tgt := 58) dI_O_hasRoot_17 (by omega) (by decide) rfl (fun b17 => ?_) (fun b17 => ?_)
      · exact b17.elim
      · refine px_aload_n (q := 21) dI_O_hasRoot_20 rfl rfl ?_
        refine px_iload (q := 23) dI_O_hasRoot_21 rfl rfl ?_
        refine px_callV1 (q := 26) (ν := mO_flipRootBit) dI_O_hasRoot_23 (by decide) rfl rfl wl_O_41 wm_O_flipRootBit wv_O_flipRootBit wb_O_flipRootBit wi_O ⟨rfl, rfl⟩ (by decide +kernel) ⟨(Nat.le_of_ble_eq_true rfl), (Nat.le_of_ble_eq_true rfl)⟩ (Nat.le_of_ble_eq_true rfl) rfl (c_O_flipUp (d := d) (by omega) (by rw [xr_n (by decide), xr_n (by decide), xr_s]; exact hd) hbit (fun f2 d2 hd2 hv2 => ?_))
        rw [xr_3 (a := 17) (by decide) (by decide)]
        have hm2 : vl_ d2 4 % 2 ^ K = 0 := by rw [hv2, Nat.add_mod_right]; exact hmK
        refine px_aload_n (q := 27) dI_O_hasRoot_26 rfl rfl ?_
        refine px_iload_n (q := 28) dI_O_hasRoot_27 rfl rfl ?_
        refine px_aload_n (q := 29) dI_O_hasRoot_28 rfl rfl ?_
        refine px_callV2 (q := 32) (ν := mO_compareRaisedRoot) dI_O_hasRoot_29 (by decide) rfl rfl wl_O_45 wm_O_compareRaisedRoot wv_O_compareRaisedRoot wb_O_compareRaisedRoot wi_O ⟨rfl, rfl⟩ (by decide +kernel) ⟨(Nat.le_of_ble_eq_true rfl), (Nat.le_of_ble_eq_true rfl)⟩ (Nat.le_of_ble_eq_true rfl) rfl (c_O_compare (dr := d2) (dx := dx) ha ha18 ha19 he2 (by omega) (by rw [xr_n (by decide), xr_n (by decide), xr_s]; exact hd2) (by rw [xr_n ha18, xr_n ha19, xr_n ha17]; exact hx) (fun fw2 fr2 q => ?_) (fun fw2 fr2 q => ?_) (fun fw2 fr2 q => ?_))
        · rw [xr_c (a := 19) (b := 18) (by decide), xr_xr]
          refine px_istore (q := 34) dI_O_hasRoot_32 (by decide) rfl rfl ?_
          refine px_iload (q := 36) dI_O_hasRoot_34 rfl rfl ?_
          refine px_if_ne (q := 39) (tgt := 41) dI_O_hasRoot_36 (by decide) rfl (fun b36 => ?_) (fun b36 => ?_)
          · refine px_iload (q := 43) dI_O_hasRoot_41 rfl rfl ?_
            refine px_if_le (q := 46) (tgt := 52) dI_O_hasRoot_43 (by decide) rfl (fun b43 => ?_) (fun b43 => ?_)
            · refine px_iinc (q := 55) dI_O_hasRoot_52 rfl (ic_m _) (by decide) rfl rfl ?_
              refine px_goto (tgt := 15) dI_O_hasRoot_55 (by decide) ?_
              refine px_keep [0, 1, 2, 3, 4] rfl ?_
              refine ih f2 fw2 fr2 d2 (by omega) hd2 hm2 q (fun r hr => ?_)
              obtain ⟨i1, i2⟩ := hin r hr
              rw [← hr] at q
              have := pl_ q
              omega
            · exact absurd (by decide) b43
          · exact absurd b36 (by decide)
        · rw [xr_c (a := 19) (b := 18) (by decide), xr_xr]
          refine px_istore (q := 34) dI_O_hasRoot_32 (by decide) rfl rfl ?_
          refine px_iload (q := 36) dI_O_hasRoot_34 rfl rfl ?_
          refine px_if_neN (q := 39) (tgt := 41) dI_O_hasRoot_36 (by omega) (by decide) rfl (fun b36 => ?_) (fun b36 => ?_)
          · exact absurd rfl b36
          · refine px_iconst (q := 40) (v := nI 1) dI_O_hasRoot_39 (by decide +kernel) rfl ?_
            refine px_zret dI_O_hasRoot_40 rfl (by decide +kernel) ?_
            exact h1 f2 fw2 fr2 ⟨_, q⟩
        · rw [xr_c (a := 19) (b := 18) (by decide), xr_xr]
          refine px_istore (q := 34) dI_O_hasRoot_32 (by decide) rfl rfl ?_
          refine px_iload (q := 36) dI_O_hasRoot_34 rfl rfl ?_
          refine px_if_neN (q := 39) (tgt := 41) dI_O_hasRoot_36 (by omega) (by decide) rfl (fun b36 => ?_) (fun b36 => ?_)
          · refine px_iload (q := 43) dI_O_hasRoot_41 rfl rfl ?_
            refine px_if_leN (q := 46) (tgt := 52) dI_O_hasRoot_43 (by omega) (by decide) rfl (fun b43 => ?_) (fun b43 => ?_)
            · exact absurd b43 (by decide)
            · refine px_aload_n (q := 47) dI_O_hasRoot_46 rfl rfl ?_
              refine px_iload (q := 49) dI_O_hasRoot_47 rfl rfl ?_
              refine px_callV1 (q := 52) (ν := mO_flipRootBit) dI_O_hasRoot_49 (by decide) rfl rfl wl_O_41 wm_O_flipRootBit wv_O_flipRootBit wb_O_flipRootBit wi_O ⟨rfl, rfl⟩ (by decide +kernel) ⟨(Nat.le_of_ble_eq_true rfl), (Nat.le_of_ble_eq_true rfl)⟩ (Nat.le_of_ble_eq_true rfl) rfl (c_O_flipDown (d := d2) (ρ := vl_ d 4) (by omega) (by rw [xr_n (by decide), xr_n (by decide), xr_s]; exact hd2) hv2 hbit (fun f3 d3 hd3 hv3 => ?_))
              rw [xr_3 (a := 17) (by decide) (by decide)]
              refine px_iinc (q := 55) dI_O_hasRoot_52 rfl (ic_m _) (by decide) rfl rfl ?_
              refine px_goto (tgt := 15) dI_O_hasRoot_55 (by decide) ?_
              refine px_keep [0, 1, 2, 3, 4] rfl ?_
              refine ih f3 fw2 fr2 d3 (by omega) hd3 (by rw [hv3]; exact hmK) (by rw [hv3]; exact hlt) (fun r hr => ?_)
              obtain ⟨i1, i2⟩ := hin r hr
              rw [← hr] at q
              have := pl_ q
              rw [hv3]
              omega
          · exact absurd b36 (by decide)
  have z4 : vl_ (fun _ => 0) 4 = 0 := vl_0 4 (fun _ _ => rfl)
  have hst := key (Km + 1) f0 (X 19) (X 18) (fun _ => 0) (by omega) (fun i hi => ⟨hf0 i hi, Nat.zero_lt_succ _⟩) (by rw [z4, Nat.zero_mod]) (by rw [z4, Nat.zero_pow (by omega)]; exact hv0) (fun r hr => by rw [z4, Nat.zero_add]; exact ⟨Nat.zero_le _, hdr r hr⟩)
  have e1 : xr_ (xr_ (xr_ X 17 f0) 19 (X 19)) 18 (X 18) = xr_ X 17 f0 := by
    have e2 : xr_ (xr_ X 17 f0) 19 (X 19) = xr_ X 17 f0 := by
      conv => lhs; rw [show X 19 = xr_ X 17 f0 19 from (xr_n (by decide)).symm]
      exact xr_id
    rw [e2]
    conv => lhs; rw [show X 18 = xr_ X 17 f0 18 from (xr_n (by decide)).symm]
    exact xr_id
  rw [e1, mI_s] at hst
  exact hst
/-- the least exponent of the table that is less than the number of bits and has a whole root; 0 if none -/
def le_ (v e : Nat) : Prop := ∃ T, T ≤ 128 ∧ v < 2 ^ T ∧ (0 < T → 2 ^ (T - 1) ≤ v) ∧ ((∃ i, i < 31 ∧ e = ex_ i ∧ e < T ∧ (∃ r, r ^ e = v) ∧ ∀ j, j < i → ex_ j < T → ¬ ∃ r, r ^ ex_ j = v) ∨ (e = 0 ∧ ∀ j, j < 31 → ex_ j < T → ¬ ∃ r, r ^ ex_ j = v))
theorem ex_in : ∀ i, i < 31 → 2 ≤ ex_ i ∧ ex_ i < 128 := by decide +kernel
theorem c_O_leastExponent {a : Nat} {dx : Nat → Nat} (hE : xE_ g) (ha : ln_J a = some 4) (ha17 : a ≠ 17) (ha18 : a ≠ 18) (ha19 : a ≠ 19) (hx : rw_ (X a) 4 dx)
    (hp : ∀ (f fw fr : Nat → Int64) (e : Nat), e < 128 → le_ (vl_ dx 4) e → Post (some (.int (nI e))) (xr_ (xr_ (xr_ X 17 f) 19 fw) 18 fr) Y) : pw_Met l g mO_leastExponent [.ref (ad_ g 16), .ref (ad_ g a)] X Y Post := by
  refine pw_ofW (by decide +kernel) rfl (Nat.le_of_ble_eq_true rfl) rfl (fun sz => ?_)
  refine px_aload_n (q := 1) dI_O_leastExponent_0 rfl rfl ?_
  refine px_callS1 (q := 4) (ν := mU_bitLength) dI_O_leastExponent_1 wl_O_21 ws_U_bitLength wb_U_bitLength wi_U ⟨rfl, rfl⟩ (by decide +kernel) ⟨(Nat.le_of_ble_eq_true rfl), (Nat.le_of_ble_eq_true rfl)⟩ (Nat.le_of_ble_eq_true rfl) rfl (c_U_bitLength ha hx (fun T hT hT1 hT2 => ?_))
  refine px_istore_n (q := 5) dI_O_leastExponent_4 rfl (by decide) rfl rfl ?_
  refine px_getE (q := 8) hE dI_O_leastExponent_5 rfl rfl ?_
  refine px_astore_n (q := 9) dI_O_leastExponent_8 rfl (by decide) rfl rfl ?_
  refine px_aload_n (q := 10) dI_O_leastExponent_9 rfl rfl ?_
  refine px_lenE (q := 11) hE dI_O_leastExponent_10 rfl ?_
  refine px_istore (q := 13) dI_O_leastExponent_11 (by decide) rfl rfl ?_
  refine px_iconst (q := 14) (v := nI 0) dI_O_leastExponent_13 (by decide +kernel) rfl ?_
  refine px_istore (q := 16) dI_O_leastExponent_14 (by decide) rfl rfl ?_
  have key : ∀ (c i : Nat) (f fw fr : Nat → Int64), i + c = 31 → (∀ j, j < i → ex_ j < T → ¬ ∃ r, r ^ ex_ j = vl_ dx 4) → pw_W l g mO_leastExponent sz (pw_qM g sz Post 0 0) 16 [(0, .ref (ad_ g 16)), (1, .ref (ad_ g a)), (2, .int (nI T)), (3, .ref (ad_ g 28)), (4, .int (nI 31)), (5, .int (nI i))] [] (xr_ (xr_ (xr_ X 17 f) 19 fw) 18 fr) Y := by
    intro c
    induction c with
    | zero =>
      intro i f fw fr hi hn
      refine px_iload (q := 18) dI_O_leastExponent_16 rfl rfl ?_
      refine px_iload (q := 20) dI_O_leastExponent_18 rfl rfl ?_
      refine px_icmp_geN (q := 23) (tgt := 55) dI_O_leastExponent_20 (by omega) (by omega) (by decide) rfl (fun b20 => ?_) (fun b20 => ?_)
      · refine px_iconst (q := 56) (v := nI 0) dI_O_leastExponent_55 (by decide +kernel) rfl ?_
        refine px_iret dI_O_leastExponent_56 rfl ?_
        exact hp f fw fr 0 (by decide) ⟨T, by omega, hT1, hT2, Or.inr ⟨rfl, fun j hj => hn j (by omega)⟩⟩
      · omega
    | succ c ih =>
      intro i f fw fr hi hn
      have he := ex_in i (by omega)
      refine px_iload (q := 18) dI_O_leastExponent_16 rfl rfl ?_
      refine px_iload (q := 20) dI_O_leastExponent_18 rfl rfl ?_
      refine px_icmp_geN (q := 23) (tgt := 55) dI_O_leastExponent_20 (by omega) (by omega) (by decide) rfl (fun b20 => ?_) (fun b20 => ?_)
      · omega
      · refine px_aload_n (q := 24) dI_O_leastExponent_23 rfl rfl ?_
        refine px_iload (q := 26) dI_O_leastExponent_24 rfl rfl ?_
        refine px_ldE (q := 27) hE dI_O_leastExponent_26 (by omega) rfl ?_
        refine px_istore (q := 29) dI_O_leastExponent_27 (by decide) rfl rfl ?_
        refine px_iload (q := 31) dI_O_leastExponent_29 rfl rfl ?_
        refine px_iload_n (q := 32) dI_O_leastExponent_31 rfl rfl ?_
        refine px_icmp_geN (q := 35) (tgt := 49) dI_O_leastExponent_32 (by omega) (by omega) (by decide) rfl (fun b32 => ?_) (fun b32 => ?_)
        · refine px_iinc (q := 52) dI_O_leastExponent_49 rfl (ic_1 _) (by decide) rfl rfl ?_
          refine px_goto (tgt := 16) dI_O_leastExponent_52 (by decide) ?_
          refine px_keep [0, 1, 2, 3, 4, 5] rfl ?_
          refine ih (i + 1) f fw fr (by omega) (fun j hj hjT => ?_)
          by_cases q : j = i
          · subst q; omega
          · exact hn j (by omega) hjT
        · refine px_aload_n (q := 36) dI_O_leastExponent_35 rfl rfl ?_
          refine px_aload_n (q := 37) dI_O_leastExponent_36 rfl rfl ?_
          refine px_iload_n (q := 38) dI_O_leastExponent_37 rfl rfl ?_
          refine px_iload (q := 40) dI_O_leastExponent_38 rfl rfl ?_
          refine px_callV3 (q := 43) (ν := mO_hasRoot) dI_O_leastExponent_40 (by decide) rfl rfl wl_O_31 wm_O_hasRoot wv_O_hasRoot wb_O_hasRoot wi_O ⟨rfl, rfl⟩ (by decide +kernel) ⟨(Nat.le_of_ble_eq_true rfl), (Nat.le_of_ble_eq_true rfl)⟩ (Nat.le_of_ble_eq_true rfl) rfl (c_O_hasRoot (dx := dx) ha ha17 ha18 ha19 he.1 b32 (by omega) (by rw [xr_n ha18, xr_n ha19, xr_n ha17]; exact hx) hT1 (Nat.lt_of_lt_of_le (Nat.pow_pos (by decide)) (hT2 (by omega))) (fun f2 fw2 fr2 q => ?_) (fun f2 fw2 fr2 q => ?_))
          · rw [xr_3 (a := 17) (by decide) (by decide), xr_c (a := 19) (b := 18) (by decide), xr_xr]
            refine px_if_eqN (q := 46) (tgt := 49) dI_O_leastExponent_43 (by omega) (by decide) rfl (fun b43 => ?_) (fun b43 => ?_)
            · exact absurd b43 (by decide)
            · refine px_iload (q := 48) dI_O_leastExponent_46 rfl rfl ?_
              refine px_iret dI_O_leastExponent_48 rfl ?_
              exact hp f2 fw2 fr2 (ex_ i) he.2 ⟨T, by omega, hT1, hT2, Or.inl ⟨i, by omega, rfl, b32, q, hn⟩⟩
          · rw [xr_3 (a := 17) (by decide) (by decide), xr_c (a := 19) (b := 18) (by decide), xr_xr]
            refine px_if_eqN (q := 46) (tgt := 49) dI_O_leastExponent_43 (by omega) (by decide) rfl (fun b43 => ?_) (fun b43 => ?_)
            · refine px_iinc (q := 52) dI_O_leastExponent_49 rfl (ic_1 _) (by decide) rfl rfl ?_
              refine px_goto (tgt := 16) dI_O_leastExponent_52 (by decide) ?_
              refine px_keep [0, 1, 2, 3, 4, 5] rfl ?_
              refine ih (i + 1) f2 fw2 fr2 (by omega) (fun j hj hjT => ?_)
              by_cases q2 : j = i
              · subst q2; exact q
              · exact hn j (by omega) hjT
            · exact absurd rfl b43
  have hst := key 31 0 (X 17) (X 19) (X 18) rfl (fun j hj => absurd hj (by omega))
  rw [xr_id, xr_id, xr_id] at hst
  exact hst
end CO2
