/-! orders: what the two searches find -/
theorem pg_ : ∀ (n : Nat) (f : Nat → Nat), (∀ i, i < n + 1 → f i < n) → ∃ i j, i < j ∧ j < n + 1 ∧ f i = f j
  | 0, f, h => absurd (h 0 (by omega)) (by omega)
  | n + 1, f, h => by
    by_cases hx : ∃ i, i < n + 1 ∧ f i = f (n + 1)
    · obtain ⟨i, h1, h2⟩ := hx
      exact ⟨i, n + 1, h1, by omega, h2⟩
    · have hne : ∀ i, i < n + 1 → f i ≠ f (n + 1) := fun i hi e => hx ⟨i, hi, e⟩
      have hL := h (n + 1) (by omega)
      obtain ⟨i, j, h1, h2, h3⟩ := pg_ n (fun i => if f (n + 1) < f i then f i - 1 else f i) (fun i hi => by
        have a1 := h i (by omega)
        have a2 := hne i hi
        show (if f (n + 1) < f i then f i - 1 else f i) < n
        split <;> omega)
      refine ⟨i, j, h1, by omega, ?_⟩
      have a1 := hne i (by omega)
      have a2 := hne j (by omega)
      have h4 : (if f (n + 1) < f i then f i - 1 else f i) = (if f (n + 1) < f j then f j - 1 else f j) := h3
      split at h4 <;> split at h4 <;> omega
theorem nz_ {x m i : Nat} (h2 : 2 ≤ m) (hc : Nat.Coprime x m) : x ^ i % m ≠ 0 := by
  intro h
  have h1 : m ∣ x ^ i := Nat.dvd_of_mod_eq_zero h
  have h3 : Nat.Coprime m (x ^ i) := (Nat.Coprime.pow_left i hc).symm
  have := Nat.Coprime.eq_one_of_dvd h3 h1
  omega
theorem od_ex {x m : Nat} (h2 : 2 ≤ m) (hc : Nat.Coprime x m) : ∃ k, 1 ≤ k ∧ k < m ∧ x ^ k % m = 1 := by
  obtain ⟨n, rfl⟩ : ∃ n, m = n + 1 := ⟨m - 1, by omega⟩
  obtain ⟨i, j, h1, h3, h4⟩ := pg_ n (fun i => x ^ i % (n + 1) - 1) (fun i hi => by
    have a1 := nz_ (i := i) h2 hc
    have a2 := Nat.mod_lt (x ^ i) (show 0 < n + 1 by omega)
    show x ^ i % (n + 1) - 1 < n
    omega)
  have a1 := nz_ (i := i) h2 hc
  have a2 := nz_ (i := j) h2 hc
  have h5 : x ^ j % (n + 1) = x ^ i % (n + 1) := by
    have h6 : x ^ i % (n + 1) - 1 = x ^ j % (n + 1) - 1 := h4
    omega
  refine ⟨j - i, by omega, by omega, ?_⟩
  have h6 := Nat.dvd_of_mod_eq_zero (Nat.sub_mod_eq_zero_of_mod_eq h5)
  have h7 : x ^ j - x ^ i = x ^ i * (x ^ (j - i) - 1) := by
    rw [Nat.mul_sub, ← Nat.pow_add, show i + (j - i) = j by omega, Nat.mul_one]
  rw [h7] at h6
  have h8 : (n + 1) ∣ x ^ (j - i) - 1 := Nat.Coprime.dvd_of_dvd_mul_left (Nat.Coprime.pow_left i hc).symm h6
  have h9 : 1 ≤ x ^ (j - i) := by
    refine Nat.pos_of_ne_zero (fun z => ?_)
    have := nz_ (i := j - i) h2 hc
    rw [z, Nat.zero_mod] at this
    exact this rfl
  obtain ⟨q, hq⟩ := h8
  rw [show x ^ (j - i) = 1 + (n + 1) * q by omega, Nat.add_mul_mod_self_left, Nat.mod_eq_of_lt (by omega)]
theorem ap_co {x m : Nat} (h2 : 2 ≤ m) (h : ∀ d, 2 ≤ d → d ≤ m → x % d ≠ 0 ∨ m % d ≠ 0) : Nat.Coprime x m := by
  show Nat.gcd x m = 1
  have h1 : Nat.gcd x m ∣ x := Nat.gcd_dvd_left x m
  have h3 : Nat.gcd x m ∣ m := Nat.gcd_dvd_right x m
  have h4 : Nat.gcd x m ≤ m := Nat.le_of_dvd (by omega) h3
  have h5 : 0 < Nat.gcd x m := Nat.gcd_pos_of_pos_right _ (by omega)
  refine Decidable.byContradiction (fun q => ?_)
  rcases h (Nat.gcd x m) (by omega) h4 with z | z
  · exact z (Nat.mod_eq_zero_of_dvd h1)
  · exact z (Nat.mod_eq_zero_of_dvd h3)
theorem co_ap {x m k d : Nat} (h2 : 2 ≤ m) (hk : 1 ≤ k) (h : x ^ k % m = 1) (hd : 2 ≤ d) (hx : x % d = 0) (hm : m % d = 0) : False := by
  have h1 : d ∣ x := Nat.dvd_of_mod_eq_zero hx
  have h3 : d ∣ m := Nat.dvd_of_mod_eq_zero hm
  have h4 : d ∣ x ^ k := by
    obtain ⟨j, rfl⟩ : ∃ j, k = j + 1 := ⟨k - 1, by omega⟩
    rw [Nat.pow_succ]
    exact Nat.dvd_trans h1 (Nat.dvd_mul_left _ _)
  have h5 := Nat.mod_add_div (x ^ k) m
  rw [h] at h5
  have h6 : d ∣ 1 := by
    have h7 : d ∣ m * (x ^ k / m) := Nat.dvd_trans h3 (Nat.dvd_mul_right _ _)
    rw [← h5] at h4
    exact (Nat.dvd_add_iff_left h7).mpr h4
  have := Nat.le_of_dvd (by decide) h6
  omega
theorem od_tot (n m : Nat) : ∃ k, od_ n m k := by
  by_cases h : ∃ k, 1 ≤ k ∧ k < m ∧ n ^ k % m = 1
  · obtain ⟨k, ⟨h1, h2, h3⟩, h4⟩ := pk_least (fun k => 1 ≤ k ∧ k < m ∧ n ^ k % m = 1) h
    exact ⟨k, Or.inl ⟨h1, h2, h3, fun j a b e => h4 j b ⟨a, by omega, e⟩⟩⟩
  · exact ⟨0, Or.inr ⟨rfl, fun j a b e => h ⟨j, a, b, e⟩⟩⟩
/-- where nothing divides both, the order is what the loop finds -/
theorem od_of {x m k : Nat} (h2 : 2 ≤ m) (hc : Nat.Coprime x m) (h1 : 1 ≤ k) (hkm : k ≤ m) (hk : k < m → x ^ k % m = 1) (hj : ∀ j, 1 ≤ j → j < k → x ^ j % m ≠ 1) : od_ x m k := by
  obtain ⟨e, e1, e2, e3⟩ := od_ex h2 hc
  have : k < m := by
    refine Nat.lt_of_not_le (fun q => ?_)
    exact hj e e1 (by omega) e3
  exact Or.inl ⟨h1, this, hk this, hj⟩
theorem od_co {x m k : Nat} (h2 : 2 ≤ m) (h : od_ x m k) (hk : k ≠ 0) : Nat.Coprime x m := by
  rcases h with ⟨a, b, c, d⟩ | ⟨a, -⟩
  · exact ap_co h2 (fun d hd hdm => by
      by_cases z : x % d = 0
      · exact Or.inr (fun z2 => co_ap h2 a c hd z z2)
      · exact Or.inl z)
  · exact absurd a hk
theorem od_nz {x m k : Nat} (h2 : 2 ≤ m) (hc : Nat.Coprime x m) (h : od_ x m k) : k ≠ 0 := by
  obtain ⟨e, e1, e2, e3⟩ := od_ex h2 hc
  intro z
  rcases h with ⟨a, -⟩ | ⟨-, b⟩
  · omega
  · exact b e e1 e2 e3
theorem co_mod {x m : Nat} : Nat.Coprime (x % m) m ↔ Nat.Coprime x m := by
  show Nat.gcd (x % m) m = 1 ↔ Nat.gcd x m = 1
  rw [Nat.gcd_comm x m, Nat.gcd_rec m x]
/-- a modulus below 1000 is always found -/
def wt_ (n : Nat) : Nat := if n % 167 = 0 ∨ n % 167 = 1 ∨ n % 167 = 166 then 179 else 167
theorem wt_ok : ∀ n, n < 512 → 2 ≤ n → n ^ (wt_ n - 1) % wt_ n = 1 ∧ ∀ j, j < 82 → 1 ≤ j → n ^ j % wt_ n ≠ 1 := by decide +kernel
theorem wt_in (n : Nat) : 2 ≤ wt_ n ∧ wt_ n < 1000 := by
  unfold wt_
  split <;> decide
theorem md_ex {n : Nat} (h2 : 2 ≤ n) (hn : n < 512) : ∃ m k, 2 ≤ m ∧ m < 1000 ∧ od_ (n % m) m k ∧ 81 < k := by
  obtain ⟨h1, h3⟩ := wt_ok n hn h2
  obtain ⟨w1, w2⟩ := wt_in n
  obtain ⟨k, hk⟩ := od_tot (n % wt_ n) (wt_ n)
  refine ⟨wt_ n, k, w1, w2, hk, ?_⟩
  have w3 : 100 < wt_ n := by unfold wt_; split <;> decide
  rcases hk with ⟨a, b, c, -⟩ | ⟨-, b⟩
  · refine Nat.lt_of_not_le (fun q => ?_)
    rw [← Nat.pow_mod] at c
    exact h3 k (by omega) a c
  · exfalso
    refine b (wt_ n - 1) (by omega) (by omega) ?_
    rw [← Nat.pow_mod]
    exact h1
