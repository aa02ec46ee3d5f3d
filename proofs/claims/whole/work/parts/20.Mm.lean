/-! the reference: six numbers of 129 bits in one row, six registers of 128 bits in another -/
def wk_ (f : Nat → Int32) (W : Nat → Nat) : Prop := ∀ i, i < 6 → W i < 2 ^ 129 ∧ ∀ k, k < 129 → f (129 * i + k) = nI (W i / 2 ^ k % 2)
def rg_ (f : Nat → Int32) (v : Nat → Nat) : Prop := ∀ i, i < 6 → v i < 2 ^ 128 ∧ ∀ k, k < 128 → f (128 * i + k) = nI (v i / 2 ^ k % 2)
theorem wk_put {f f0 : Nat → Int32} {W : Nat → Nat} {w V : Nat} (h : wk_ f0 W) (hV : V < 2 ^ 129) (h1 : ∀ j, j < 129 → f (129 * w + j) = nI (V / 2 ^ j % 2)) (h2 : ∀ p, p < 129 * w ∨ 129 * w + 129 ≤ p → f p = f0 p) : wk_ f (va_up W w V) := by
  intro i hi
  by_cases e : i = w
  · subst e; rw [va_up_self]; exact ⟨hV, h1⟩
  · rw [va_up_ne _ _ e]
    exact ⟨(h i hi).1, fun k hk => by rw [h2 _ (by omega)]; exact (h i hi).2 k hk⟩
theorem rg_put {f f0 : Nat → Int32} {v : Nat → Nat} {r V : Nat} (h : rg_ f0 v) (hV : V < 2 ^ 128) (h1 : ∀ j, j < 128 → f (128 * r + j) = nI (V / 2 ^ j % 2)) (h2 : ∀ p, p < 128 * r ∨ 128 * r + 128 ≤ p → f p = f0 p) : rg_ f (va_up v r V) := by
  intro i hi
  by_cases e : i = r
  · subst e; rw [va_up_self]; exact ⟨hV, h1⟩
  · rw [va_up_ne _ _ e]
    exact ⟨(h i hi).1, fun k hk => by rw [h2 _ (by omega)]; exact (h i hi).2 k hk⟩
theorem p2_ (k : Nat) : 0 < 2 ^ k := Nat.pow_pos (by decide)
theorem hb_0 {A k : Nat} (h : A < 2 ^ k) : A / 2 ^ k % 2 = 0 := by rw [Nat.div_eq_of_lt h]
/-- the carry into bit k -/
def cy_ (A B k : Nat) : Nat := (A % 2 ^ k + B % 2 ^ k) / 2 ^ k
theorem cy_0 (A B : Nat) : cy_ A B 0 = 0 := by simp [cy_, Nat.mod_one]
theorem cy_lt (A B k : Nat) : cy_ A B k < 2 := by
  have h1 := Nat.mod_lt A (p2_ k)
  have h2 := Nat.mod_lt B (p2_ k)
  refine Nat.div_lt_of_lt_mul ?_
  generalize A % 2 ^ k = x at h1 ⊢
  generalize B % 2 ^ k = y at h2 ⊢
  omega
theorem cy_s (A B k : Nat) : cy_ A B (k + 1) = (A / 2 ^ k % 2 + B / 2 ^ k % 2 + cy_ A B k) / 2 := by
  show (A % 2 ^ (k + 1) + B % 2 ^ (k + 1)) / 2 ^ (k + 1) = (A / 2 ^ k % 2 + B / 2 ^ k % 2 + (A % 2 ^ k + B % 2 ^ k) / 2 ^ k) / 2
  rw [Nat.mod_pow_succ, Nat.mod_pow_succ, Nat.pow_succ, ← Nat.div_div_eq_div_mul]
  congr 1
  rw [show A % 2 ^ k + 2 ^ k * (A / 2 ^ k % 2) + (B % 2 ^ k + 2 ^ k * (B / 2 ^ k % 2)) = 2 ^ k * (A / 2 ^ k % 2 + B / 2 ^ k % 2) + (A % 2 ^ k + B % 2 ^ k) from by rw [Nat.mul_add]; omega, Nat.mul_add_div (p2_ k)]
theorem cy_b (A B k : Nat) : (A + B) / 2 ^ k % 2 = (A / 2 ^ k % 2 + B / 2 ^ k % 2 + cy_ A B k) % 2 := by
  have e : (A + B) / 2 ^ k = A / 2 ^ k + B / 2 ^ k + cy_ A B k := by
    have h1 := Nat.div_add_mod A (2 ^ k)
    have h2 := Nat.div_add_mod B (2 ^ k)
    have h3 : A + B = 2 ^ k * (A / 2 ^ k + B / 2 ^ k) + (A % 2 ^ k + B % 2 ^ k) := by rw [Nat.mul_add]; omega
    have h4 : (2 ^ k * (A / 2 ^ k + B / 2 ^ k) + (A % 2 ^ k + B % 2 ^ k)) / 2 ^ k = A / 2 ^ k + B / 2 ^ k + (A % 2 ^ k + B % 2 ^ k) / 2 ^ k := Nat.mul_add_div (p2_ k) _ _
    rw [← h3] at h4
    exact h4
  rw [e]
  omega
theorem cy_end {A B n : Nat} (ha : A < 2 ^ n) (hb : B < 2 ^ n) : cy_ A B n = (A + B) / 2 ^ n := by
  show (A % 2 ^ n + B % 2 ^ n) / 2 ^ n = _
  rw [Nat.mod_eq_of_lt ha, Nat.mod_eq_of_lt hb]
theorem md_bit {A n k : Nat} (h : k < n) : A % 2 ^ n / 2 ^ k % 2 = A / 2 ^ k % 2 := by
  have e : 2 ^ n = 2 ^ k * (2 * 2 ^ (n - k - 1)) := by
    rw [← Nat.pow_succ', ← Nat.pow_add]; congr 1; omega
  rw [e, Nat.mod_mul_right_div_self, Nat.mod_mul_right_mod]
theorem tw_bit {A low k : Nat} (hl : low < 2) (hk : 0 < k) : (2 * A + low) / 2 ^ k % 2 = A / 2 ^ (k - 1) % 2 := by
  obtain ⟨j, rfl⟩ : ∃ j, k = j + 1 := ⟨k - 1, by omega⟩
  rw [Nat.pow_succ', ← Nat.div_div_eq_div_mul, show (2 * A + low) / 2 = A by omega]
  rfl
theorem hi_eq {A B k : Nat} : A / 2 ^ k = 2 * (A / 2 ^ (k + 1)) + A / 2 ^ k % 2 := by
  rw [Nat.pow_succ, ← Nat.div_div_eq_div_mul]; omega
theorem div_lt_ {A B P : Nat} (h : A / P < B / P) : A < B := Nat.lt_of_not_le (fun q => by have := Nat.div_le_div_right (c := P) q; omega)
theorem lt_s_ {A k : Nat} (h : A < 2 ^ (k + 1)) (hb : A / 2 ^ k % 2 = 0) : A < 2 ^ k := by
  refine (Nat.div_eq_zero_iff_lt (p2_ k)).mp ?_
  rw [Nat.pow_succ] at h
  have h2 := Nat.div_lt_of_lt_mul h
  generalize A / 2 ^ k = q at h2 hb ⊢
  omega
theorem ge_s_ {A k : Nat} (hb : A / 2 ^ k % 2 = 1) : 2 ^ k ≤ A := by
  refine Nat.le_of_not_lt (fun q => ?_)
  rw [Nat.div_eq_of_lt q] at hb
  omega
theorem all0_ {A n : Nat} (h : A < 2 ^ n) (hb : ∀ k, k < n → A / 2 ^ k % 2 = 0) : A = 0 := by
  induction n with
  | zero => rw [Nat.pow_zero] at h; omega
  | succ n ih => exact ih (lt_s_ h (hb n (by omega))) (fun k hk => hb k (by omega))
theorem ms_ (A : Nat) (k : Nat) : A / 2 ^ k % 2 = 0 ∨ A / 2 ^ k % 2 = 1 := by omega
