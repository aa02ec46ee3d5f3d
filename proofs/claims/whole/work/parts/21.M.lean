/-! the reference's own steps: contracts -/
section CM
variable {l : Launch} {g : pw_G} {X : pw_X} {Y : pw_Y} {Post : pw_P} {W v : Nat → Nat}
theorem c_M_none {r : Nat} (hr : r < 2147483648) (h1 : 6 ≤ r → Post (some (.int (nI 1))) X Y) (h0 : r < 6 → Post (some (.int (nI 0))) X Y) : pw_Met l g mM_none [.int (nI r)] X Y Post := by
  refine pw_ofW (by decide +kernel) rfl (Nat.le_of_ble_eq_true rfl) rfl (fun sz => ?_)
  refine px_iload_n (q := 1) dI_M_none_0 rfl rfl ?_
  refine px_if_ltN (q := 4) (tgt := 9) dI_M_none_1 (by omega) (by decide) rfl (fun b1 => ?_) (fun b1 => ?_)
  · exact b1.elim
  · refine px_iload_n (q := 5) dI_M_none_4 rfl rfl ?_
    refine px_iconst (q := 6) (v := nI 5) dI_M_none_5 (by decide +kernel) rfl ?_
    refine px_icmp_leN (q := 9) (tgt := 13) dI_M_none_6 (by omega) (by omega) (by decide) rfl (fun b6 => ?_) (fun b6 => ?_)
    · refine px_iconst (q := 14) (v := nI 0) dI_M_none_13 (by decide +kernel) rfl ?_
      refine px_zret dI_M_none_14 rfl (by decide +kernel) ?_
      exact h0 (by omega)
    · refine px_iconst (q := 10) (v := nI 1) dI_M_none_9 (by decide +kernel) rfl ?_
      refine px_goto (tgt := 14) dI_M_none_10 (by decide) ?_
      refine px_zret dI_M_none_14 rfl (by decide +kernel) ?_
      exact h1 (by omega)
theorem c_M_noneN {r : Int32} (hr : r < 0) (h1 : Post (some (.int (nI 1))) X Y) : pw_Met l g mM_none [.int r] X Y Post := by
  refine pw_ofW (by decide +kernel) rfl (Nat.le_of_ble_eq_true rfl) rfl (fun sz => ?_)
  refine px_iload_n (q := 1) dI_M_none_0 rfl rfl ?_
  refine px_if_lt (q := 4) (tgt := 9) dI_M_none_1 (by decide) rfl (fun b1 => ?_) (fun b1 => ?_)
  · refine px_iconst (q := 10) (v := nI 1) dI_M_none_9 (by decide +kernel) rfl ?_
    refine px_goto (tgt := 14) dI_M_none_10 (by decide) ?_
    refine px_zret dI_M_none_14 rfl (by decide +kernel) ?_
    exact h1
  · exact absurd hr b1
theorem c_M_clear {w : Nat} (hw : w < 6) (hk : wk_ (Y 25) W) (hp : ∀ f, wk_ f (va_up W w 0) → Post none X (yr_ Y 25 f)) : pw_Met l g mM_clear [.ref (ad_ g 23), .int (nI w)] X Y Post := by
  refine pw_ofW (by decide +kernel) rfl (Nat.le_of_ble_eq_true rfl) rfl (fun sz => ?_)
  refine px_iconst (q := 1) (v := nI 0) dI_M_clear_0 (by decide +kernel) rfl ?_
  refine px_istore_n (q := 2) dI_M_clear_1 rfl (by decide) rfl rfl ?_
  have key : ∀ (d i : Nat) (f : Nat → Int32), i + d = 129 → (∀ j, j < i → f (129 * w + j) = nI 0) → (∀ p, p < 129 * w ∨ 129 * w + 129 ≤ p → f p = Y 25 p) → pw_W l g mM_clear sz (pw_qM g sz Post 0 0) 2 [(0, .ref (ad_ g 23)), (1, .int (nI w)), (2, .int (nI i))] [] X (yr_ Y 25 f) := by
    intro d
    induction d with
    | zero =>
      intro i f hi h1 h2
      refine px_iload_n (q := 3) dI_M_clear_2 rfl rfl ?_
      refine px_sipush (q := 6) (v := nI 129) dI_M_clear_3 (by decide +kernel) rfl ?_
      refine px_icmp_geN (q := 9) (tgt := 28) dI_M_clear_6 (by omega) (by omega) (by decide) rfl (fun b6 => ?_) (fun b6 => ?_)
      · refine px_vret dI_M_clear_28 rfl ?_
        refine hp f (wk_put hk (p2_ 129) (fun j hj => ?_) h2)
        rw [h1 j (by omega), Nat.zero_div]
      · omega
    | succ d ih =>
      intro i f hi h1 h2
      refine px_iload_n (q := 3) dI_M_clear_2 rfl rfl ?_
      refine px_sipush (q := 6) (v := nI 129) dI_M_clear_3 (by decide +kernel) rfl ?_
      refine px_icmp_geN (q := 9) (tgt := 28) dI_M_clear_6 (by omega) (by omega) (by decide) rfl (fun b6 => ?_) (fun b6 => ?_)
      · omega
      · refine px_aload_n (q := 10) dI_M_clear_9 rfl rfl ?_
        refine px_getM (q := 13) (j := 1) dI_M_clear_10 wf_M_13 rfl (by decide) rfl rfl ?_
        refine px_sipush (q := 16) (v := nI 129) dI_M_clear_13 (by decide +kernel) rfl ?_
        refine px_iload_n (q := 17) dI_M_clear_16 rfl rfl ?_
        refine px_imulN (q := 18) dI_M_clear_17 rfl ?_
        refine px_iload_n (q := 19) dI_M_clear_18 rfl rfl ?_
        refine px_iaddN (q := 20) dI_M_clear_19 rfl ?_
        refine px_iconst (q := 21) (v := nI 0) dI_M_clear_20 (by decide +kernel) rfl ?_
        refine px_iast (q := 22) dI_M_clear_21 rfl (by omega) (by omega) rfl ?_
        refine px_iinc (q := 25) dI_M_clear_22 rfl (ic_1 _) (by decide) rfl rfl ?_
        refine px_goto (tgt := 2) dI_M_clear_25 (by decide) ?_
        rw [yr_s, yr_yr]
        refine ih (i + 1) _ (by omega) (fun j hj => ?_) (fun p h4 => ?_)
        · by_cases e : j = i
          · subst e; exact pk_us
          · rw [pk_un (by omega)]; exact h1 j (by omega)
        · rw [pk_un (by omega)]; exact h2 p h4
  exact px_XY rfl yr_id.symm (key 129 0 (Y 25) rfl (fun j hj => absurd hj (by omega)) (fun _ _ => rfl))
theorem c_M_load {w r : Nat} (hw : w < 6) (hr : r < 6) (hk : wk_ (Y 25) W) (hg : rg_ (Y 24) v) (hp : ∀ f, wk_ f (va_up W w (v r)) → Post none X (yr_ Y 25 f)) : pw_Met l g mM_load [.ref (ad_ g 23), .int (nI w), .int (nI r)] X Y Post := by
  have hv := hg r hr
  refine pw_ofW (by decide +kernel) rfl (Nat.le_of_ble_eq_true rfl) rfl (fun sz => ?_)
  refine px_iconst (q := 1) (v := nI 0) dI_M_load_0 (by decide +kernel) rfl ?_
  refine px_istore_n (q := 2) dI_M_load_1 rfl (by decide) rfl rfl ?_
  have key : ∀ (d i : Nat) (f : Nat → Int32), i + d = 128 → (∀ j, j < i → f (129 * w + j) = nI (v r / 2 ^ j % 2)) → (∀ p, p < 129 * w ∨ 129 * w + 129 ≤ p → f p = Y 25 p) → pw_W l g mM_load sz (pw_qM g sz Post 0 0) 2 [(0, .ref (ad_ g 23)), (1, .int (nI w)), (2, .int (nI r)), (3, .int (nI i))] [] X (yr_ Y 25 f) := by
    intro d
    induction d with
    | zero =>
      intro i f hi h1 h2
      refine px_iload_n (q := 3) dI_M_load_2 rfl rfl ?_
      refine px_sipush (q := 6) (v := nI 128) dI_M_load_3 (by decide +kernel) rfl ?_
      refine px_icmp_geN (q := 9) (tgt := 39) dI_M_load_6 (by omega) (by omega) (by decide) rfl (fun b6 => ?_) (fun b6 => ?_)
      · refine px_aload_n (q := 40) dI_M_load_39 rfl rfl ?_
        refine px_getM (q := 43) (j := 1) dI_M_load_40 wf_M_13 rfl (by decide) rfl rfl ?_
        refine px_sipush (q := 46) (v := nI 129) dI_M_load_43 (by decide +kernel) rfl ?_
        refine px_iload_n (q := 47) dI_M_load_46 rfl rfl ?_
        refine px_imulN (q := 48) dI_M_load_47 rfl ?_
        refine px_sipush (q := 51) (v := nI 128) dI_M_load_48 (by decide +kernel) rfl ?_
        refine px_iaddN (q := 52) dI_M_load_51 rfl ?_
        refine px_iconst (q := 53) (v := nI 0) dI_M_load_52 (by decide +kernel) rfl ?_
        refine px_iast (q := 54) dI_M_load_53 rfl (by omega) (by omega) rfl ?_
        refine px_vret dI_M_load_54 rfl ?_
        rw [yr_s, yr_yr]
        refine hp _ (wk_put hk (Nat.lt_trans hv.1 (by decide)) (fun j hj => ?_) (fun p h4 => ?_))
        · by_cases e : j = 128
          · subst e; rw [pk_us, hb_0 hv.1]
          · rw [pk_un (by omega)]; exact h1 j (by omega)
        · rw [pk_un (by omega)]; exact h2 p h4
      · omega
    | succ d ih =>
      intro i f hi h1 h2
      refine px_iload_n (q := 3) dI_M_load_2 rfl rfl ?_
      refine px_sipush (q := 6) (v := nI 128) dI_M_load_3 (by decide +kernel) rfl ?_
      refine px_icmp_geN (q := 9) (tgt := 39) dI_M_load_6 (by omega) (by omega) (by decide) rfl (fun b6 => ?_) (fun b6 => ?_)
      · omega
      · refine px_aload_n (q := 10) dI_M_load_9 rfl rfl ?_
        refine px_getM (q := 13) (j := 1) dI_M_load_10 wf_M_13 rfl (by decide) rfl rfl ?_
        refine px_sipush (q := 16) (v := nI 129) dI_M_load_13 (by decide +kernel) rfl ?_
        refine px_iload_n (q := 17) dI_M_load_16 rfl rfl ?_
        refine px_imulN (q := 18) dI_M_load_17 rfl ?_
        refine px_iload_n (q := 19) dI_M_load_18 rfl rfl ?_
        refine px_iaddN (q := 20) dI_M_load_19 rfl ?_
        refine px_aload_n (q := 21) dI_M_load_20 rfl rfl ?_
        refine px_getM (q := 24) (j := 0) dI_M_load_21 wf_M_7 rfl (by decide) rfl rfl ?_
        refine px_sipush (q := 27) (v := nI 128) dI_M_load_24 (by decide +kernel) rfl ?_
        refine px_iload_n (q := 28) dI_M_load_27 rfl rfl ?_
        refine px_imulN (q := 29) dI_M_load_28 rfl ?_
        refine px_iload_n (q := 30) dI_M_load_29 rfl rfl ?_
        refine px_iaddN (q := 31) dI_M_load_30 rfl ?_
        refine px_iald (q := 32) dI_M_load_31 rfl (by omega) (by omega) (yn_ (by decide) (hv.2 i (by omega))) rfl ?_
        refine px_iast (q := 33) dI_M_load_32 rfl (by omega) (by omega) rfl ?_
        refine px_iinc (q := 36) dI_M_load_33 rfl (ic_1 _) (by decide) rfl rfl ?_
        refine px_goto (tgt := 2) dI_M_load_36 (by decide) ?_
        rw [yr_s, yr_yr]
        refine ih (i + 1) _ (by omega) (fun j hj => ?_) (fun p h4 => ?_)
        · by_cases e : j = i
          · subst e; exact pk_us
          · rw [pk_un (by omega)]; exact h1 j (by omega)
        · rw [pk_un (by omega)]; exact h2 p h4
  exact px_XY rfl yr_id.symm (key 128 0 (Y 25) rfl (fun j hj => absurd hj (by omega)) (fun _ _ => rfl))
theorem c_M_copy {w x : Nat} (hw : w < 6) (hx : x < 6) (hwx : w ≠ x) (hk : wk_ (Y 25) W) (hp : ∀ f, wk_ f (va_up W w (W x)) → Post none X (yr_ Y 25 f)) : pw_Met l g mM_copy [.ref (ad_ g 23), .int (nI w), .int (nI x)] X Y Post := by
  have hv := hk x hx
  refine pw_ofW (by decide +kernel) rfl (Nat.le_of_ble_eq_true rfl) rfl (fun sz => ?_)
  refine px_iconst (q := 1) (v := nI 0) dI_M_copy_0 (by decide +kernel) rfl ?_
  refine px_istore_n (q := 2) dI_M_copy_1 rfl (by decide) rfl rfl ?_
  have key : ∀ (d i : Nat) (f : Nat → Int32), i + d = 129 → (∀ j, j < i → f (129 * w + j) = nI (W x / 2 ^ j % 2)) → (∀ p, p < 129 * w ∨ 129 * w + 129 ≤ p → f p = Y 25 p) → pw_W l g mM_copy sz (pw_qM g sz Post 0 0) 2 [(0, .ref (ad_ g 23)), (1, .int (nI w)), (2, .int (nI x)), (3, .int (nI i))] [] X (yr_ Y 25 f) := by
    intro d
    induction d with
    | zero =>
      intro i f hi h1 h2
      refine px_iload_n (q := 3) dI_M_copy_2 rfl rfl ?_
      refine px_sipush (q := 6) (v := nI 129) dI_M_copy_3 (by decide +kernel) rfl ?_
      refine px_icmp_geN (q := 9) (tgt := 39) dI_M_copy_6 (by omega) (by omega) (by decide) rfl (fun b6 => ?_) (fun b6 => ?_)
      · refine px_vret dI_M_copy_39 rfl ?_
        exact hp _ (wk_put hk hv.1 (fun j hj => h1 j (by omega)) h2)
      · omega
    | succ d ih =>
      intro i f hi h1 h2
      refine px_iload_n (q := 3) dI_M_copy_2 rfl rfl ?_
      refine px_sipush (q := 6) (v := nI 129) dI_M_copy_3 (by decide +kernel) rfl ?_
      refine px_icmp_geN (q := 9) (tgt := 39) dI_M_copy_6 (by omega) (by omega) (by decide) rfl (fun b6 => ?_) (fun b6 => ?_)
      · omega
      · refine px_aload_n (q := 10) dI_M_copy_9 rfl rfl ?_
        refine px_getM (q := 13) (j := 1) dI_M_copy_10 wf_M_13 rfl (by decide) rfl rfl ?_
        refine px_sipush (q := 16) (v := nI 129) dI_M_copy_13 (by decide +kernel) rfl ?_
        refine px_iload_n (q := 17) dI_M_copy_16 rfl rfl ?_
        refine px_imulN (q := 18) dI_M_copy_17 rfl ?_
        refine px_iload_n (q := 19) dI_M_copy_18 rfl rfl ?_
        refine px_iaddN (q := 20) dI_M_copy_19 rfl ?_
        refine px_aload_n (q := 21) dI_M_copy_20 rfl rfl ?_
        refine px_getM (q := 24) (j := 1) dI_M_copy_21 wf_M_13 rfl (by decide) rfl rfl ?_
        refine px_sipush (q := 27) (v := nI 129) dI_M_copy_24 (by decide +kernel) rfl ?_
        refine px_iload_n (q := 28) dI_M_copy_27 rfl rfl ?_
        refine px_imulN (q := 29) dI_M_copy_28 rfl ?_
        refine px_iload_n (q := 30) dI_M_copy_29 rfl rfl ?_
        refine px_iaddN (q := 31) dI_M_copy_30 rfl ?_
        refine px_iald (q := 32) dI_M_copy_31 rfl (by omega) (by omega) (ys_ ((h2 (129 * x + i) (by omega)).trans (hv.2 i (by omega)))) rfl ?_
        refine px_iast (q := 33) dI_M_copy_32 rfl (by omega) (by omega) rfl ?_
        refine px_iinc (q := 36) dI_M_copy_33 rfl (ic_1 _) (by decide) rfl rfl ?_
        refine px_goto (tgt := 2) dI_M_copy_36 (by decide) ?_
        rw [yr_s, yr_yr]
        refine ih (i + 1) _ (by omega) (fun j hj => ?_) (fun p h4 => ?_)
        · by_cases e : j = i
          · subst e; exact pk_us
          · rw [pk_un (by omega)]; exact h1 j (by omega)
        · rw [pk_un (by omega)]; exact h2 p h4
  exact px_XY rfl yr_id.symm (key 129 0 (Y 25) rfl (fun j hj => absurd hj (by omega)) (fun _ _ => rfl))
theorem c_M_store {r w : Nat} (hr : r < 6) (hw : w < 6) (hk : wk_ (Y 25) W) (hg : rg_ (Y 24) v) (hlt : W w < 2 ^ 128) (hp : ∀ f, rg_ f (va_up v r (W w)) → Post none X (yr_ Y 24 f)) : pw_Met l g mM_store [.ref (ad_ g 23), .int (nI r), .int (nI w)] X Y Post := by
  have hv := hk w hw
  refine pw_ofW (by decide +kernel) rfl (Nat.le_of_ble_eq_true rfl) rfl (fun sz => ?_)
  refine px_iconst (q := 1) (v := nI 0) dI_M_store_0 (by decide +kernel) rfl ?_
  refine px_istore_n (q := 2) dI_M_store_1 rfl (by decide) rfl rfl ?_
  have key : ∀ (d i : Nat) (f : Nat → Int32), i + d = 128 → (∀ j, j < i → f (128 * r + j) = nI (W w / 2 ^ j % 2)) → (∀ p, p < 128 * r ∨ 128 * r + 128 ≤ p → f p = Y 24 p) → pw_W l g mM_store sz (pw_qM g sz Post 0 0) 2 [(0, .ref (ad_ g 23)), (1, .int (nI r)), (2, .int (nI w)), (3, .int (nI i))] [] X (yr_ Y 24 f) := by
    intro d
    induction d with
    | zero =>
      intro i f hi h1 h2
      refine px_iload_n (q := 3) dI_M_store_2 rfl rfl ?_
      refine px_sipush (q := 6) (v := nI 128) dI_M_store_3 (by decide +kernel) rfl ?_
      refine px_icmp_geN (q := 9) (tgt := 39) dI_M_store_6 (by omega) (by omega) (by decide) rfl (fun b6 => ?_) (fun b6 => ?_)
      · refine px_vret dI_M_store_39 rfl ?_
        exact hp _ (rg_put hg hlt (fun j hj => h1 j (by omega)) h2)
      · omega
    | succ d ih =>
      intro i f hi h1 h2
      refine px_iload_n (q := 3) dI_M_store_2 rfl rfl ?_
      refine px_sipush (q := 6) (v := nI 128) dI_M_store_3 (by decide +kernel) rfl ?_
      refine px_icmp_geN (q := 9) (tgt := 39) dI_M_store_6 (by omega) (by omega) (by decide) rfl (fun b6 => ?_) (fun b6 => ?_)
      · omega
      · refine px_aload_n (q := 10) dI_M_store_9 rfl rfl ?_
        refine px_getM (q := 13) (j := 0) dI_M_store_10 wf_M_7 rfl (by decide) rfl rfl ?_
        refine px_sipush (q := 16) (v := nI 128) dI_M_store_13 (by decide +kernel) rfl ?_
        refine px_iload_n (q := 17) dI_M_store_16 rfl rfl ?_
        refine px_imulN (q := 18) dI_M_store_17 rfl ?_
        refine px_iload_n (q := 19) dI_M_store_18 rfl rfl ?_
        refine px_iaddN (q := 20) dI_M_store_19 rfl ?_
        refine px_aload_n (q := 21) dI_M_store_20 rfl rfl ?_
        refine px_getM (q := 24) (j := 1) dI_M_store_21 wf_M_13 rfl (by decide) rfl rfl ?_
        refine px_sipush (q := 27) (v := nI 129) dI_M_store_24 (by decide +kernel) rfl ?_
        refine px_iload_n (q := 28) dI_M_store_27 rfl rfl ?_
        refine px_imulN (q := 29) dI_M_store_28 rfl ?_
        refine px_iload_n (q := 30) dI_M_store_29 rfl rfl ?_
        refine px_iaddN (q := 31) dI_M_store_30 rfl ?_
        refine px_iald (q := 32) dI_M_store_31 rfl (by omega) (by omega) (yn_ (by decide) (hv.2 i (by omega))) rfl ?_
        refine px_iast (q := 33) dI_M_store_32 rfl (by omega) (by omega) rfl ?_
        refine px_iinc (q := 36) dI_M_store_33 rfl (ic_1 _) (by decide) rfl rfl ?_
        refine px_goto (tgt := 2) dI_M_store_36 (by decide) ?_
        rw [yr_s, yr_yr]
        refine ih (i + 1) _ (by omega) (fun j hj => ?_) (fun p h4 => ?_)
        · by_cases e : j = i
          · subst e; exact pk_us
          · rw [pk_un (by omega)]; exact h1 j (by omega)
        · rw [pk_un (by omega)]; exact h2 p h4
  exact px_XY rfl yr_id.symm (key 128 0 (Y 24) rfl (fun j hj => absurd hj (by omega)) (fun _ _ => rfl))
theorem c_M_isZero {w : Nat} (hw : w < 6) (hk : wk_ (Y 25) W) (h1 : W w = 0 → Post (some (.int (nI 1))) X Y) (h0 : W w ≠ 0 → Post (some (.int (nI 0))) X Y) : pw_Met l g mM_isZero [.ref (ad_ g 23), .int (nI w)] X Y Post := by
  have hv := hk w hw
  refine pw_ofW (by decide +kernel) rfl (Nat.le_of_ble_eq_true rfl) rfl (fun sz => ?_)
  refine px_iconst (q := 1) (v := nI 1) dI_M_isZero_0 (by decide +kernel) rfl ?_
  refine px_istore_n (q := 2) dI_M_isZero_1 rfl (by decide) rfl rfl ?_
  refine px_iconst (q := 3) (v := nI 0) dI_M_isZero_2 (by decide +kernel) rfl ?_
  refine px_istore_n (q := 4) dI_M_isZero_3 rfl (by decide) rfl rfl ?_
  have key : ∀ (d i z : Nat), i + d = 129 → (z = 1 ∧ (∀ j, j < i → W w / 2 ^ j % 2 = 0) ∨ z = 0 ∧ W w ≠ 0) → pw_W l g mM_isZero sz (pw_qM g sz Post 0 0) 4 [(0, .ref (ad_ g 23)), (1, .int (nI w)), (2, .int (nI z)), (3, .int (nI i))] [] X Y := by
    intro d
    induction d with
    | zero =>
      intro i z hi hz
      refine px_iload_n (q := 5) dI_M_isZero_4 rfl rfl ?_
      refine px_sipush (q := 8) (v := nI 129) dI_M_isZero_5 (by decide +kernel) rfl ?_
      refine px_icmp_geN (q := 11) (tgt := 42) dI_M_isZero_8 (by omega) (by omega) (by decide) rfl (fun b8 => ?_) (fun b8 => ?_)
      · rcases hz with ⟨rfl, hz⟩ | ⟨rfl, hz⟩
        · refine px_iload_n (q := 43) dI_M_isZero_42 rfl rfl ?_
          refine px_zret dI_M_isZero_43 rfl (by decide +kernel) ?_
          exact h1 (all0_ hv.1 (fun k hk => hz k (by omega)))
        · refine px_iload_n (q := 43) dI_M_isZero_42 rfl rfl ?_
          refine px_zret dI_M_isZero_43 rfl (by decide +kernel) ?_
          exact h0 hz
      · omega
    | succ d ih =>
      intro i z hi hz
      refine px_iload_n (q := 5) dI_M_isZero_4 rfl rfl ?_
      refine px_sipush (q := 8) (v := nI 129) dI_M_isZero_5 (by decide +kernel) rfl ?_
      refine px_icmp_geN (q := 11) (tgt := 42) dI_M_isZero_8 (by omega) (by omega) (by decide) rfl (fun b8 => ?_) (fun b8 => ?_)
      · omega
      · refine px_iload_n (q := 12) dI_M_isZero_11 rfl rfl ?_
        refine px_if_eqN (q := 15) (tgt := 34) dI_M_isZero_12 (by omega) (by decide) rfl (fun b12 => ?_) (fun b12 => ?_)
        · refine px_iconst (q := 35) (v := nI 0) dI_M_isZero_34 (by decide +kernel) rfl ?_
          refine px_istore_n (q := 36) dI_M_isZero_35 rfl (by decide) rfl rfl ?_
          refine px_iinc (q := 39) dI_M_isZero_36 rfl (ic_1 _) (by decide) rfl rfl ?_
          refine px_goto (tgt := 4) dI_M_isZero_39 (by decide) ?_
          refine ih (i + 1) 0 (by omega) (Or.inr ⟨rfl, ?_⟩)
          rcases hz with ⟨q, -⟩ | ⟨-, q⟩
          · omega
          · exact q
        · have hb := hv.2 i (by omega)
          refine px_aload_n (q := 16) dI_M_isZero_15 rfl rfl ?_
          refine px_getM (q := 19) (j := 1) dI_M_isZero_16 wf_M_13 rfl (by decide) rfl rfl ?_
          refine px_sipush (q := 22) (v := nI 129) dI_M_isZero_19 (by decide +kernel) rfl ?_
          refine px_iload_n (q := 23) dI_M_isZero_22 rfl rfl ?_
          refine px_imulN (q := 24) dI_M_isZero_23 rfl ?_
          refine px_iload_n (q := 25) dI_M_isZero_24 rfl rfl ?_
          refine px_iaddN (q := 26) dI_M_isZero_25 rfl ?_
          refine px_iald (q := 27) dI_M_isZero_26 rfl (by omega) (by omega) hb rfl ?_
          refine px_if_neN (q := 30) (tgt := 34) dI_M_isZero_27 (by omega) (by decide) rfl (fun b27 => ?_) (fun b27 => ?_)
          · refine px_iconst (q := 35) (v := nI 0) dI_M_isZero_34 (by decide +kernel) rfl ?_
            refine px_istore_n (q := 36) dI_M_isZero_35 rfl (by decide) rfl rfl ?_
            refine px_iinc (q := 39) dI_M_isZero_36 rfl (ic_1 _) (by decide) rfl rfl ?_
            refine px_goto (tgt := 4) dI_M_isZero_39 (by decide) ?_
            refine ih (i + 1) 0 (by omega) (Or.inr ⟨rfl, fun q => b27 ?_⟩)
            rw [q, Nat.zero_div]
          · refine px_iconst (q := 31) (v := nI 1) dI_M_isZero_30 (by decide +kernel) rfl ?_
            refine px_goto (tgt := 35) dI_M_isZero_31 (by decide) ?_
            refine px_istore_n (q := 36) dI_M_isZero_35 rfl (by decide) rfl rfl ?_
            refine px_iinc (q := 39) dI_M_isZero_36 rfl (ic_1 _) (by decide) rfl rfl ?_
            refine px_goto (tgt := 4) dI_M_isZero_39 (by decide) ?_
            refine ih (i + 1) 1 (by omega) (Or.inl ⟨rfl, fun j hj => ?_⟩)
            rcases hz with ⟨-, q⟩ | ⟨q, -⟩
            · by_cases e : j = i
              · rw [e]; exact b27
              · exact q j (by omega)
            · omega
  exact key 129 0 1 rfl (Or.inl ⟨rfl, fun j hj => absurd hj (by omega)⟩)
theorem c_M_against {x y : Nat} (hx : x < 6) (hy : y < 6) (hk : wk_ (Y 25) W) (h1 : W x < W y → Post (some (.int (-1))) X Y) (h2 : W x = W y → Post (some (.int (nI 0))) X Y) (h3 : W y < W x → Post (some (.int (nI 1))) X Y) : pw_Met l g mM_against [.ref (ad_ g 23), .int (nI x), .int (nI y)] X Y Post := by
  have hvx := hk x hx
  have hvy := hk y hy
  refine pw_ofW (by decide +kernel) rfl (Nat.le_of_ble_eq_true rfl) rfl (fun sz => ?_)
  refine px_sipush (q := 3) (v := nI 128) dI_M_against_0 (by decide +kernel) rfl ?_
  refine px_istore_n (q := 4) dI_M_against_3 rfl (by decide) rfl rfl ?_
  have key : ∀ K, K ≤ 129 → W x / 2 ^ K = W y / 2 ^ K → pw_W l g mM_against sz (pw_qM g sz Post 0 0) 4 [(0, .ref (ad_ g 23)), (1, .int (nI x)), (2, .int (nI y)), (3, .int (mI K))] [] X Y := by
    intro K
    induction K with
    | zero =>
      intro hK he
      rw [Nat.pow_zero, Nat.div_one, Nat.div_one] at he
      refine px_iload_n (q := 5) dI_M_against_4 rfl rfl ?_
      refine px_if_ltM (q := 8) (tgt := 49) dI_M_against_5 (by omega) (by decide) rfl (fun b5 => ?_) (fun b5 => ?_)
      · refine px_iconst (q := 50) (v := nI 0) dI_M_against_49 (by decide +kernel) rfl ?_
        refine px_iret dI_M_against_50 rfl ?_
        exact h2 he
      · omega
    | succ K ih =>
      intro hK he
      have ha := hvx.2 K (by omega)
      have hb := hvy.2 K (by omega)
      have ea : W x / 2 ^ K = 2 * (W x / 2 ^ (K + 1)) + W x / 2 ^ K % 2 := hi_eq (B := 0)
      have eb : W y / 2 ^ K = 2 * (W y / 2 ^ (K + 1)) + W y / 2 ^ K % 2 := hi_eq (B := 0)
      rw [mI_s]
      refine px_iload_n (q := 5) dI_M_against_4 rfl rfl ?_
      refine px_if_ltN (q := 8) (tgt := 49) dI_M_against_5 (by omega) (by decide) rfl (fun b5 => ?_) (fun b5 => ?_)
      · exact b5.elim
      · refine px_aload_n (q := 9) dI_M_against_8 rfl rfl ?_
        refine px_getM (q := 12) (j := 1) dI_M_against_9 wf_M_13 rfl (by decide) rfl rfl ?_
        refine px_sipush (q := 15) (v := nI 129) dI_M_against_12 (by decide +kernel) rfl ?_
        refine px_iload_n (q := 16) dI_M_against_15 rfl rfl ?_
        refine px_imulN (q := 17) dI_M_against_16 rfl ?_
        refine px_iload_n (q := 18) dI_M_against_17 rfl rfl ?_
        refine px_iaddN (q := 19) dI_M_against_18 rfl ?_
        refine px_iald (q := 20) dI_M_against_19 rfl (by omega) (by omega) ha rfl ?_
        refine px_aload_n (q := 21) dI_M_against_20 rfl rfl ?_
        refine px_getM (q := 24) (j := 1) dI_M_against_21 wf_M_13 rfl (by decide) rfl rfl ?_
        refine px_sipush (q := 27) (v := nI 129) dI_M_against_24 (by decide +kernel) rfl ?_
        refine px_iload_n (q := 28) dI_M_against_27 rfl rfl ?_
        refine px_imulN (q := 29) dI_M_against_28 rfl ?_
        refine px_iload_n (q := 30) dI_M_against_29 rfl rfl ?_
        refine px_iaddN (q := 31) dI_M_against_30 rfl ?_
        refine px_iald (q := 32) dI_M_against_31 rfl (by omega) (by omega) hb rfl ?_
        rcases ms_ (W x) K with qa | qa <;> rcases ms_ (W y) K with qb | qb
        · rw [qa, qb]
          refine px_isubN (q := 33) dI_M_against_32 (by omega) rfl ?_
          refine px_istore (q := 35) dI_M_against_33 (by decide) rfl rfl ?_
          refine px_iload (q := 37) dI_M_against_35 rfl rfl ?_
          refine px_if_eqN (q := 40) (tgt := 43) dI_M_against_37 (by omega) (by decide) rfl (fun b37 => ?_) (fun b37 => ?_)
          · refine px_iinc (q := 46) dI_M_against_43 rfl (ic_m _) (by decide) rfl rfl ?_
            refine px_goto (tgt := 4) dI_M_against_46 (by decide) ?_
            refine px_keep [0, 1, 2, 3] rfl ?_
            exact ih (by omega) (by omega)
          · exact absurd rfl b37
        · rw [qa, qb]
          refine px_isub (q := 33) dI_M_against_32 rfl ?_
          refine px_istore (q := 35) dI_M_against_33 (by decide) rfl rfl ?_
          refine px_iload (q := 37) dI_M_against_35 rfl rfl ?_
          refine px_if_eq (q := 40) (tgt := 43) dI_M_against_37 (by decide) rfl (fun b37 => ?_) (fun b37 => ?_)
          · exact absurd b37 (by decide)
          · refine px_iload (q := 42) dI_M_against_40 rfl rfl ?_
            refine px_iret dI_M_against_42 rfl ?_
            exact h1 (div_lt_ (P := 2 ^ K) (by omega))
        · rw [qa, qb]
          refine px_isubN (q := 33) dI_M_against_32 (by omega) rfl ?_
          refine px_istore (q := 35) dI_M_against_33 (by decide) rfl rfl ?_
          refine px_iload (q := 37) dI_M_against_35 rfl rfl ?_
          refine px_if_eqN (q := 40) (tgt := 43) dI_M_against_37 (by omega) (by decide) rfl (fun b37 => ?_) (fun b37 => ?_)
          · exact absurd b37 (by decide)
          · refine px_iload (q := 42) dI_M_against_40 rfl rfl ?_
            refine px_iret dI_M_against_42 rfl ?_
            exact h3 (div_lt_ (P := 2 ^ K) (by omega))
        · rw [qa, qb]
          refine px_isubN (q := 33) dI_M_against_32 (by omega) rfl ?_
          refine px_istore (q := 35) dI_M_against_33 (by decide) rfl rfl ?_
          refine px_iload (q := 37) dI_M_against_35 rfl rfl ?_
          refine px_if_eqN (q := 40) (tgt := 43) dI_M_against_37 (by omega) (by decide) rfl (fun b37 => ?_) (fun b37 => ?_)
          · refine px_iinc (q := 46) dI_M_against_43 rfl (ic_m _) (by decide) rfl rfl ?_
            refine px_goto (tgt := 4) dI_M_against_46 (by decide) ?_
            refine px_keep [0, 1, 2, 3] rfl ?_
            exact ih (by omega) (by omega)
          · exact absurd rfl b37
  exact key 129 (by omega) (by rw [Nat.div_eq_of_lt hvx.1, Nat.div_eq_of_lt hvy.1])
end CM
