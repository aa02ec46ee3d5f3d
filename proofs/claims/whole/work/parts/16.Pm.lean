/-! the desk: what its registers hold -/
def dk_ (X : pw_X) (v : Nat → Nat) : Prop := ∀ r, r < 6 → ∃ d, rw_ (X (2 + r)) 4 d ∧ vl_ d 4 = v r
def fr_ (X : pw_X) (Y : pw_Y) (X' : pw_X) (Y' : pw_Y) : Prop := X' 27 = X 27 ∧ ∀ k, 23 ≤ k → Y' k = Y k
theorem fr_0 {X : pw_X} {Y : pw_Y} : fr_ X Y X Y := ⟨rfl, fun _ _ => rfl⟩
theorem fr_x {X X' : pw_X} {Y Y' : pw_Y} {k : Nat} {f : Nat → Int64} (hk : k ≠ 27) (h : fr_ X Y X' Y') : fr_ X Y (xr_ X' k f) Y' := ⟨by rw [xr_n (Ne.symm hk)]; exact h.1, h.2⟩
theorem fr_y {X X' : pw_X} {Y Y' : pw_Y} {k : Nat} {f : Nat → Int32} (hk : k < 23) (h : fr_ X Y X' Y') : fr_ X Y X' (yr_ Y' k f) := ⟨h.1, fun j hj => by rw [yr_n (by omega)]; exact h.2 j hj⟩
theorem dk_x {X : pw_X} {v : Nat → Nat} {k : Nat} {f : Nat → Int64} (hk : 8 ≤ k) (h : dk_ X v) : dk_ (xr_ X k f) v := fun r hr => by rw [xr_n (by omega)]; exact h r hr
theorem dk_s {X : pw_X} {v : Nat → Nat} {r w : Nat} {f : Nat → Int64} {d : Nat → Nat} (hd : rw_ f 4 d) (hv : vl_ d 4 = w) (h : dk_ X v) : dk_ (xr_ X (2 + r) f) (va_up v r w) := by
  intro j hj
  by_cases e : j = r
  · subst e; rw [xr_s, va_up_self]; exact ⟨d, hd, hv⟩
  · rw [xr_n (by omega), va_up_ne _ _ e]; exact h j hj
theorem dk_lt {X : pw_X} {v : Nat → Nat} {r : Nat} (h : dk_ X v) (hr : r < 6) : v r < 4294967296 ^ 4 := by
  obtain ⟨d, hd, hv⟩ := h r hr
  rw [← hv]
  exact rw_lt hd
def ag_ (X X' : pw_X) : Prop := ∀ k, k ≠ 8 → k ≠ 11 → k ≠ 14 → k ≠ 15 → X' k = X k
theorem il_ {u : Nat} (h : u < 4294967296) : (nI u).toInt64 &&& lN 4294967295 = lN u := by
  by_cases q : u < 2147483648
  · rw [nI_l (by omega), g_mask (s := 32) (p := 4294967296) (by decide) (by decide) (by omega), Nat.mod_eq_of_lt h]
  · have e : (nI u).toInt64 = lN (u + 18446744069414584320) := by
      apply Int64.toInt_inj.mp
      rw [Int32.toInt_toInt64]
      have c1 := BitVec.toInt_eq_toNat_cond (nI u).toBitVec
      rw [pk_tn (by omega)] at c1
      have c2 := BitVec.toInt_eq_toNat_cond (lN (u + 18446744069414584320)).toBitVec
      rw [wb_tn (by omega)] at c2
      show (nI u).toBitVec.toInt = (lN (u + 18446744069414584320)).toBitVec.toInt
      rw [c1, c2, if_neg (by omega), if_neg (by omega)]
      omega
    rw [e, g_mask (s := 32) (p := 4294967296) (by decide) (by decide) (by omega), show (u + 18446744069414584320) % 4294967296 = u by omega]
/-- Euclid's steps: enough of them are left -/
def gs_ (x y s : Nat) : Prop := ∃ j, (y < 2 ^ j ∧ 2 * j ≤ s) ∨ (x < 2 ^ j ∧ y < x ∧ 2 * j ≤ s + 1)
theorem gs_0 {x y : Nat} (h : gs_ x y 0) : y = 0 := by
  obtain ⟨j, h | h⟩ := h
  · obtain ⟨h1, h2⟩ := h
    obtain rfl : j = 0 := by omega
    omega
  · obtain ⟨h1, h2, h3⟩ := h
    obtain rfl : j = 0 := by omega
    omega
theorem gs_s {x y s : Nat} (h : gs_ x y (s + 1)) (hy : y ≠ 0) : gs_ y (x % y) s := by
  have hm := Nat.mod_lt x (Nat.pos_of_ne_zero hy)
  obtain ⟨j, h | h⟩ := h
  · exact ⟨j, Or.inr ⟨h.1, hm, by omega⟩⟩
  · obtain ⟨h1, h2, h3⟩ := h
    cases j with
    | zero => omega
    | succ j =>
      refine ⟨j, Or.inl ⟨?_, by omega⟩⟩
      rw [Nat.pow_succ] at h1
      have h4 : x % y + y ≤ x := by
        have h5 := Nat.mod_add_div x y
        have h6 : 0 < x / y := Nat.div_pos (by omega) (Nat.pos_of_ne_zero hy)
        have h7 : y * 1 ≤ y * (x / y) := Nat.mul_le_mul_left _ h6
        omega
      generalize x % y = r at hm h4 ⊢
      omega
theorem gs_i {x y s : Nat} (hy : y < 4294967296 ^ 4) (hs : 256 ≤ s) : gs_ x y s := ⟨128, Or.inl ⟨hy, by omega⟩⟩
/-- the number of bits, by its property -/
def bl_ (v T : Nat) : Prop := v < 2 ^ T ∧ (0 < T → 2 ^ (T - 1) ≤ v)
theorem bl_u {v T S : Nat} (h : bl_ v T) (h' : bl_ v S) : T = S := by
  rcases Nat.lt_trichotomy T S with q | q | q
  · have h1 := h'.2 (by omega)
    have h2 : 2 ^ T ≤ 2 ^ (S - 1) := Nat.pow_le_pow_right (by decide) (by omega)
    have := h.1
    omega
  · exact q
  · have h1 := h.2 (by omega)
    have h2 : 2 ^ S ≤ 2 ^ (T - 1) := Nat.pow_le_pow_right (by decide) (by omega)
    have := h'.1
    omega
theorem c0_ {s c B t : Nat} (h : s + c * B = t) (ht : t < B) : c = 0 ∧ s = t := by
  have hc : c = 0 := by
    refine Nat.eq_zero_of_not_pos (fun q => ?_)
    have : 1 * B ≤ c * B := Nat.mul_le_mul_right _ q
    omega
  subst hc
  exact ⟨rfl, by omega⟩
theorem c0s_ {w x y c B : Nat} (h : w + y = x + c * B) (hy : y ≤ x) (hw : w < B) : c = 0 ∧ w = x - y := by
  have hc : c = 0 := by
    refine Nat.eq_zero_of_not_pos (fun q => ?_)
    have : 1 * B ≤ c * B := Nat.mul_le_mul_right _ q
    omega
  subst hc
  exact ⟨rfl, by omega⟩
