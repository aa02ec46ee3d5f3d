/-! Roots: contracts -/
section CO
variable {l : Launch} {g : pw_G} {X : pw_X} {Y : pw_Y} {Post : pw_P}
theorem c_O_flip {k : Nat} {d : Nat → Nat} (hk : k < 128) (hd : rw_ (X 17) 4 d) (hp : ∀ f : Nat → Int64, rw_ f 4 (du_ d (k / 32) (d (k / 32) ^^^ 2 ^ (k % 32))) → Post none (xr_ X 17 f) Y) : pw_Met l g mO_flipRootBit [.ref (ad_ g 16), .int (nI k)] X Y Post := by
  have a1 := hd (k / 32) (by omega)
  refine pw_ofW (by decide +kernel) rfl (Nat.le_of_ble_eq_true rfl) rfl (fun sz => ?_)
  refine px_aload_n (q := 1) dI_O_flipRootBit_0 rfl rfl ?_
  refine px_getO (q := 4) (j := 0) dI_O_flipRootBit_1 wf_O_9 rfl (by decide) rfl rfl ?_
  refine px_iload_n (q := 5) dI_O_flipRootBit_4 rfl rfl ?_
  refine px_bipush (q := 7) (v := nI 32) dI_O_flipRootBit_5 (by decide +kernel) rfl ?_
  refine px_idivN (q := 8) dI_O_flipRootBit_7 (by omega) (by omega) (by omega) rfl ?_
  refine px_dup2 (q := 9) dI_O_flipRootBit_8 rfl rfl rfl ?_
  refine px_lald (q := 10) dI_O_flipRootBit_9 rfl (by omega) (by omega) a1.1 rfl ?_
  refine px_lconst (q := 11) (v := lN 1) dI_O_flipRootBit_10 rfl rfl ?_
  refine px_iload_n (q := 12) dI_O_flipRootBit_11 rfl rfl ?_
  refine px_bipush (q := 14) (v := nI 32) dI_O_flipRootBit_12 (by decide +kernel) rfl ?_
  refine px_iremN (q := 15) dI_O_flipRootBit_14 (by omega) (by omega) (by omega) rfl ?_
  refine px_lshlN (q := 16) dI_O_flipRootBit_15 (by omega) rfl ?_
  rw [Nat.one_mul]
  refine px_lxor (q := 17) dI_O_flipRootBit_16 rfl ?_
  refine px_tl (lx_ _ _) ?_
  refine px_last (q := 18) dI_O_flipRootBit_17 rfl (by omega) (by omega) rfl ?_
  refine px_vret dI_O_flipRootBit_18 rfl ?_
  refine hp _ (rw_set hd ?_)
  exact Nat.xor_lt_two_pow (n := 32) a1.2 (Nat.pow_lt_pow_right (by decide) (by omega))
theorem c_O_flipUp {k : Nat} {d : Nat → Nat} (hk : k < 128) (hd : rw_ (X 17) 4 d) (h0 : vl_ d 4 / 2 ^ k % 2 = 0) (hp : ∀ (f : Nat → Int64) (d' : Nat → Nat), rw_ f 4 d' → vl_ d' 4 = vl_ d 4 + 2 ^ k → Post none (xr_ X 17 f) Y) : pw_Met l g mO_flipRootBit [.ref (ad_ g 16), .int (nI k)] X Y Post := by
  refine c_O_flip hk hd (fun f hf => hp f _ hf ?_)
  have h1 := vl_bit (d := d) (n := 4) (k := k) (by omega) (fun j hj => (hd j hj).2)
  rw [xo_add (by rw [h1]; exact h0)]
  have h2 := vl_set (d := d) (n := 4) (k := k / 32) (w := d (k / 32) + 2 ^ (k % 32)) (by omega)
  rw [Nat.add_mul, ← k32] at h2
  omega
theorem c_O_flipDown {k ρ : Nat} {d : Nat → Nat} (hk : k < 128) (hd : rw_ (X 17) 4 d) (hv : vl_ d 4 = ρ + 2 ^ k) (h0 : ρ / 2 ^ k % 2 = 0) (hp : ∀ (f : Nat → Int64) (d' : Nat → Nat), rw_ f 4 d' → vl_ d' 4 = ρ → Post none (xr_ X 17 f) Y) : pw_Met l g mO_flipRootBit [.ref (ad_ g 16), .int (nI k)] X Y Post := by
  refine c_O_flip hk hd (fun f hf => hp f _ hf ?_)
  have h1 := vl_bit (d := d) (n := 4) (k := k) (by omega) (fun j hj => (hd j hj).2)
  have h3 : vl_ d 4 / 2 ^ k % 2 = 1 := by
    rw [hv, Nat.add_div_right _ (Nat.pow_pos (by decide))]
    omega
  rw [h3] at h1
  have h4 : 2 ^ (k % 32) ≤ d (k / 32) := by
    refine Nat.le_of_not_lt (fun q => ?_)
    rw [Nat.div_eq_of_lt q] at h1
    omega
  obtain ⟨w, hw⟩ : ∃ w, d (k / 32) = w + 2 ^ (k % 32) := ⟨d (k / 32) - 2 ^ (k % 32), by omega⟩
  have h5 : w / 2 ^ (k % 32) % 2 = 0 := by
    rw [hw, Nat.add_div_right _ (Nat.pow_pos (by decide))] at h1
    omega
  have h2 := vl_set (d := d) (n := 4) (k := k / 32) (w := w) (by omega)
  rw [hw, xo_sub h5]
  rw [hw, Nat.add_mul, ← k32] at h2
  omega
theorem c_O_multiplyRaised {a : Nat} {dr df : Nat → Nat} (ha : ln_J a = some 4) (ha19 : a ≠ 19) (hr : rw_ (X 18) 4 dr) (hf : rw_ (X a) 4 df)
    (h1 : ∀ (fw fr : Nat → Int64) (d : Nat → Nat), rw_ fr 4 d → vl_ d 4 = vl_ dr 4 * vl_ df 4 → Post (some (.int (nI 1))) (xr_ (xr_ X 19 fw) 18 fr) Y)
    (h0 : ∀ fw fr : Nat → Int64, 4294967296 ^ 4 ≤ vl_ dr 4 * vl_ df 4 → Post (some (.int (nI 0))) (xr_ (xr_ X 19 fw) 18 fr) Y) : pw_Met l g mO_multiplyRaised [.ref (ad_ g 16), .ref (ad_ g a)] X Y Post := by
  refine pw_ofW (by decide +kernel) rfl (Nat.le_of_ble_eq_true rfl) rfl (fun sz => ?_)
  refine px_aload_n (q := 1) dI_O_multiplyRaised_0 rfl rfl ?_
  refine px_getO (q := 4) (j := 1) dI_O_multiplyRaised_1 wf_O_15 rfl (by decide) rfl rfl ?_
  refine px_aload_n (q := 5) dI_O_multiplyRaised_4 rfl rfl ?_
  refine px_aload_n (q := 6) dI_O_multiplyRaised_5 rfl rfl ?_
  refine px_getO (q := 9) (j := 2) dI_O_multiplyRaised_6 wf_O_18 rfl (by decide) rfl rfl ?_
  refine px_callS3 (q := 12) (ν := mU_product) dI_O_multiplyRaised_9 wl_O_65 ws_U_product wb_U_product wi_U ⟨rfl, rfl⟩ (by decide +kernel) ⟨(Nat.le_of_ble_eq_true rfl), (Nat.le_of_ble_eq_true rfl)⟩ (Nat.le_of_ble_eq_true rfl) rfl (c_U_product (x := 18) (o := 19) rfl ha rfl (by decide) ha19 hr hf (fun fw dw hfw hv => ?_))
  refine px_aload_n (q := 13) dI_O_multiplyRaised_12 rfl rfl ?_
  refine px_getO (q := 16) (j := 2) dI_O_multiplyRaised_13 wf_O_18 rfl (by decide) rfl rfl ?_
  refine px_aload_n (q := 17) dI_O_multiplyRaised_16 rfl rfl ?_
  refine px_getO (q := 20) (j := 1) dI_O_multiplyRaised_17 wf_O_15 rfl (by decide) rfl rfl ?_
  refine px_callS2 (q := 23) (ν := mU_copy) dI_O_multiplyRaised_20 wl_O_49 ws_U_copy wb_U_copy wi_U ⟨rfl, rfl⟩ (by decide +kernel) ⟨(Nat.le_of_ble_eq_true rfl), (Nat.le_of_ble_eq_true rfl)⟩ (Nat.le_of_ble_eq_true rfl) rfl (c_U_copy (a := 19) (b := 18) (n := 8) rfl rfl (by decide) (fun fr hfr => ?_))
  rw [xr_s] at hfr
  refine px_aload_n (q := 24) dI_O_multiplyRaised_23 rfl rfl ?_
  refine px_getO (q := 27) (j := 2) dI_O_multiplyRaised_24 wf_O_18 rfl (by decide) rfl rfl ?_
  refine px_callS1 (q := 30) (ν := mU_length) dI_O_multiplyRaised_27 wl_O_69 ws_U_length wb_U_length wi_U ⟨rfl, rfl⟩ (by decide +kernel) ⟨(Nat.le_of_ble_eq_true rfl), (Nat.le_of_ble_eq_true rfl)⟩ (Nat.le_of_ble_eq_true rfl) rfl (c_U_length (a := 19) (n := 8) (d := dw) rfl (by rw [xr_n (by decide), xr_s]; exact hfw) (fun L hL hLv hd hz => ?_))
  refine px_iconst (q := 31) (v := nI 4) dI_O_multiplyRaised_30 (by decide +kernel) rfl ?_
  refine px_icmp_gtN (q := 34) (tgt := 38) dI_O_multiplyRaised_31 (by omega) (by omega) (by decide) rfl (fun b31 => ?_) (fun b31 => ?_)
  · refine px_iconst (q := 39) (v := nI 0) dI_O_multiplyRaised_38 (by decide +kernel) rfl ?_
    refine px_zret dI_O_multiplyRaised_39 rfl (by decide +kernel) ?_
    refine h0 fw fr ?_
    rw [← hv, hLv]
    have h2 := vl_ge (n := L) (L := L - 1) (by omega) (hd (by omega))
    have h3 : 4294967296 ^ 4 ≤ 4294967296 ^ (L - 1) := Nat.pow_le_pow_right (by decide) (by omega)
    omega
  · refine px_iconst (q := 35) (v := nI 1) dI_O_multiplyRaised_34 (by decide +kernel) rfl ?_
    refine px_goto (tgt := 39) dI_O_multiplyRaised_35 (by decide) ?_
    refine px_zret dI_O_multiplyRaised_39 rfl (by decide +kernel) ?_
    refine h1 fw fr dw (fun i hi => by rw [hfr i hi]; exact hfw i (by omega)) ?_
    rw [← hv]
    have h2 : vl_ dw 8 < 4294967296 ^ 4 := by
      rw [hLv]
      have h3 := vl_lt L (fun i hi => (hfw i (by omega)).2)
      have h4 : 4294967296 ^ L ≤ 4294967296 ^ 4 := Nat.pow_le_pow_right (by decide) b31
      omega
    exact (vl_cut (by decide) h2).1.symm
end CO
