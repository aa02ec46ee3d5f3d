/-! Long division: the numbers -/
theorem vw_du {r : Nat → Nat} {i j w : Nat} : vl_ (fun t => du_ r (i + j) w (t + j)) (i + 1) = vl_ (fun t => r (t + j)) i + w * 4294967296 ^ i := by
  show vl_ (fun t => du_ r (i + j) w (t + j)) i + du_ r (i + j) w (i + j) * _ = _
  rw [du_s, vl_congr i (fun t ht => du_n (by omega))]
theorem vw_step {A C D P q x w y e e' : Nat} (h : A + q * D = C + e * P) (ht : w + q * x + e = y + e' * 4294967296) : A + w * P + q * (D + x * P) = C + y * P + e' * (P * 4294967296) := by
  have h2 : (w + q * x + e) * P = (y + e' * 4294967296) * P := by rw [ht]
  have h3 : e' * (P * 4294967296) = e' * 4294967296 * P := by rw [Nat.mul_comm P, ← Nat.mul_assoc]
  have h4 : q * (x * P) = q * x * P := (Nat.mul_assoc _ _ _).symm
  rw [Nat.add_mul, Nat.add_mul, Nat.add_mul] at h2
  rw [Nat.mul_add, h3, h4]
  omega
theorem vl_split {d : Nat → Nat} {j : Nat} : ∀ n, vl_ d (j + n) = vl_ d j + 4294967296 ^ j * vl_ (fun t => d (t + j)) n
  | 0 => by simp [vl_]
  | n + 1 => by
    show vl_ d (j + n) + d (j + n) * 4294967296 ^ (j + n) = vl_ d j + 4294967296 ^ j * (vl_ (fun t => d (t + j)) n + d (n + j) * 4294967296 ^ n)
    rw [vl_split n, Nat.mul_add, Nat.pow_add, Nat.add_comm n j]
    rw [Nat.mul_left_comm (d (j + n))]
    omega
/-- the guess is right, or 1 or 2 too great -/
theorem kn_guess {W D top dl pr wl P q : Nat} (hD : D = dl + top * P) (hdl : dl < P) (hW : W = wl + pr * P) (hwl : wl < P) (htop : 2147483648 ≤ top) (hq1 : q ≤ 4294967295) (hq : q * top ≤ pr) (hq2 : q = pr / top ∨ q = 4294967295) (hlt : W < D * 4294967296) : W / D ≤ q ∧ q ≤ W / D + 2 := by
  have hP : 0 < P := by omega
  have htP : 0 < top * P := Nat.mul_pos (by omega) hP
  have hD0 : 0 < D := by omega
  have hk := Nat.div_mul_le_self W D
  have hkB : W / D < 4294967296 := Nat.div_lt_of_lt_mul hlt
  constructor
  · have h1 : W / D * top * P ≤ W / D * D := by
      rw [Nat.mul_assoc]; exact Nat.mul_le_mul_left _ (by omega)
    have h2 : W / D * top * P < (pr + 1) * P := by rw [Nat.add_mul, Nat.one_mul]; omega
    have h3 : W / D * top < pr + 1 := Nat.lt_of_mul_lt_mul_right h2
    rcases hq2 with h | h
    · rw [h]; exact (Nat.le_div_iff_mul_le (by omega)).mpr (by omega)
    · omega
  · have h1 : q * D = q * dl + q * top * P := by rw [hD, Nat.mul_add, Nat.mul_assoc]
    have h2 : q * top * P ≤ pr * P := Nat.mul_le_mul_right _ hq
    have h3 : q * dl ≤ 4294967295 * P := Nat.mul_le_mul hq1 (by omega)
    have h4 : 2147483648 * P ≤ top * P := Nat.mul_le_mul_right _ htop
    have h5 : (q - 2) * D ≤ W := by
      rw [Nat.sub_mul]; omega
    have := (Nat.le_div_iff_mul_le hD0).mpr h5
    omega
/-- shifting up by h: the digits -/
theorem sh_or {x o h : Nat} (hh : h ≤ 31) (hx : x < 4294967296) (ho : o < 2 ^ h) : (x * 2 ^ h + o) / 4294967296 = x / 2 ^ (32 - h) := by
  have e : 4294967296 = 2 ^ h * 2 ^ (32 - h) := by rw [← Nat.pow_add, show h + (32 - h) = 32 by omega]
  rw [e, ← Nat.div_div_eq_div_mul, Nat.mul_comm, Nat.mul_add_div (Nat.pow_pos (by decide)), Nat.div_eq_of_lt ho, Nat.add_zero]
theorem sh_lt {x h : Nat} (hh : h ≤ 31) (hx : x < 4294967296) : x / 2 ^ (32 - h) < 2 ^ h := by
  refine Nat.div_lt_of_lt_mul ?_
  rw [← Nat.pow_add, show 32 - h + h = 32 by omega]
  exact hx
theorem sh_mul {x h : Nat} (hh : h ≤ 31) (hx : x < 4294967296) : x * 2 ^ h < 9223372036854775808 := by
  have h1 : 2 ^ h ≤ 2 ^ 31 := Nat.pow_le_pow_right (by decide) hh
  have h2 : x * 2 ^ h ≤ 4294967295 * 2 ^ 31 := Nat.mul_le_mul (by omega) h1
  omega
theorem vl_shift {e d : Nat → Nat} {i o h t : Nat} (hh : h ≤ 31) (h1 : vl_ e i + o * 4294967296 ^ i = vl_ d i * 2 ^ h) (ht : t = d i * 2 ^ h + o) : vl_ (du_ e i (t % 4294967296)) (i + 1) + t / 4294967296 * 4294967296 ^ (i + 1) = vl_ d (i + 1) * 2 ^ h := by
  rw [vl_du]
  show _ = (vl_ d i + d i * 4294967296 ^ i) * 2 ^ h
  have h2 : (t % 4294967296 + 4294967296 * (t / 4294967296)) * 4294967296 ^ i = (d i * 2 ^ h + o) * 4294967296 ^ i := by rw [Nat.mod_add_div, ht]
  have h3 : t / 4294967296 * 4294967296 ^ (i + 1) = 4294967296 * (t / 4294967296) * 4294967296 ^ i := by
    rw [Nat.pow_succ, Nat.mul_comm (4294967296 ^ i), ← Nat.mul_assoc, Nat.mul_comm (t / 4294967296)]
  have h4 : d i * 4294967296 ^ i * 2 ^ h = d i * 2 ^ h * 4294967296 ^ i := by rw [Nat.mul_assoc, Nat.mul_comm (4294967296 ^ i), ← Nat.mul_assoc]
  rw [Nat.add_mul, Nat.add_mul] at h2
  rw [Nat.add_mul, h3, h4]
  omega
/-- the half of the pair is divided first: the quotient all the same -/
theorem hf_div {p t : Nat} (ht : 0 < t) : (t ≤ p - p / 2 / t * 2 * t → p / 2 / t * 2 + 1 = p / t) ∧ (p - p / 2 / t * 2 * t < t → p / 2 / t * 2 = p / t) ∧ p / 2 / t * 2 * t ≤ p ∧ p - p / 2 / t * 2 * t < 2 * t := by
  have h1 := Nat.div_add_mod (p / 2) t
  have h2 := Nat.mod_lt (p / 2) ht
  have h3 := Nat.div_add_mod p 2
  have h4 : p / 2 / t * 2 * t = 2 * (t * (p / 2 / t)) := by
    rw [Nat.mul_assoc, Nat.mul_comm, Nat.mul_assoc]
  have h5 : p / 2 / t * 2 * t ≤ p := by omega
  have h6 : p - p / 2 / t * 2 * t < 2 * t := by omega
  refine ⟨fun h => ?_, fun h => ?_, h5, h6⟩
  · symm
    rw [Nat.div_eq_iff ht]
    rw [Nat.add_mul, Nat.one_mul]
    omega
  · symm
    rw [Nat.div_eq_iff ht]
    omega
theorem vl_cut {d : Nat → Nat} {n m : Nat} (hm : m ≤ n) (h : vl_ d n < 4294967296 ^ m) : vl_ d n = vl_ d m ∧ ∀ i, m ≤ i → i < n → d i = 0 := by
  have hz : ∀ i, m ≤ i → i < n → d i = 0 := by
    intro i h1 h2
    refine Decidable.byContradiction (fun q => ?_)
    have h3 := vl_ge h2 q
    have h4 : 4294967296 ^ m ≤ 4294967296 ^ i := Nat.pow_le_pow_right (by decide) h1
    omega
  refine ⟨?_, hz⟩
  obtain ⟨k, rfl⟩ : ∃ k, n = m + k := ⟨n - m, by omega⟩
  exact vl_up k (fun i h1 h2 => hz i h1 h2)
theorem xr_c {X : pw_X} {a b : Nat} {f h k : Nat → Int64} (hab : a ≠ b) : xr_ (xr_ (xr_ X a f) b h) a k = xr_ (xr_ X a k) b h := by
  funext j
  by_cases h1 : j = a
  · subst h1; simp [xr_, hab]
  · by_cases h2 : j = b
    · subst h2; simp [xr_, h1]
    · simp [xr_, h1, h2]
/-- one digit of the quotient -/
theorem dv_step {q r r' : Nat → Nat} {D V2 s j W : Nat} (hs : j + s ≤ 8) (hD0 : 0 < D) (hDs : D < 4294967296 ^ s) (hq : ∀ p, p < j + 1 → q p = 0) (hv : vl_ q 8 * D + vl_ r 9 = V2) (hlt : vl_ r 9 < D * 4294967296 ^ (j + 1)) (hrB : ∀ i, i < 9 → r i < 4294967296)
    (hW : W = vl_ (fun t => r (t + j)) (s + 1)) (hk : ∀ p, p < j ∨ j + s < p → r' p = r p) (hr' : vl_ (fun t => r' (t + j)) (s + 1) = W % D) (hj8 : j < 8) :
    vl_ (du_ q j (W / D)) 8 * D + vl_ r' 9 = V2 ∧ vl_ r' 9 < D * 4294967296 ^ j := by
  have hlt2 : vl_ r 9 < 4294967296 ^ (j + s + 1) := by
    have h1 : D * 4294967296 ^ (j + 1) ≤ 4294967296 ^ s * 4294967296 ^ (j + 1) := Nat.mul_le_mul_right _ (Nat.le_of_lt hDs)
    rw [← Nat.pow_add, show s + (j + 1) = j + s + 1 by omega] at h1
    omega
  obtain ⟨c1, c2⟩ := vl_cut (by omega : j + s + 1 ≤ 9) hlt2
  have c3 : vl_ r' 9 = vl_ r' (j + s + 1) := by
    obtain ⟨k, hk9⟩ : ∃ k, 9 = (j + s + 1) + k := ⟨9 - (j + s + 1), by omega⟩
    rw [hk9]
    exact vl_up k (fun i h1 h2 => by rw [hk i (by omega)]; exact c2 i (by omega) (by omega))
  have s1 : vl_ r (j + (s + 1)) = vl_ r j + 4294967296 ^ j * W := by rw [hW]; exact vl_split (s + 1)
  have s2 : vl_ r' (j + (s + 1)) = vl_ r j + 4294967296 ^ j * (W % D) := by
    rw [vl_split (s + 1), hr', vl_congr j (fun i hi => hk i (by omega))]
  have e1 : j + s + 1 = j + (s + 1) := by omega
  rw [e1] at c1 c3
  have h1 := vl_set (d := q) (n := 8) (k := j) (w := W / D) hj8
  rw [hq j (by omega), Nat.zero_mul, Nat.add_zero] at h1
  have h2 := vl_lt j (fun i hi => hrB i (by omega))
  have h3 : 4294967296 ^ j * (W % D) + 4294967296 ^ j ≤ D * 4294967296 ^ j := by
    have := Nat.mod_lt W hD0
    have h4 : 4294967296 ^ j * (W % D + 1) ≤ 4294967296 ^ j * D := Nat.mul_le_mul_left _ this
    rw [Nat.mul_add, Nat.mul_one, Nat.mul_comm _ D] at h4
    exact h4
  have h5 : 4294967296 ^ j * W = 4294967296 ^ j * (W % D) + W / D * 4294967296 ^ j * D := by
    have : W = W % D + D * (W / D) := (Nat.mod_add_div W D).symm
    rw [show 4294967296 ^ j * W = 4294967296 ^ j * (W % D + D * (W / D)) from by rw [← this], Nat.mul_add]
    congr 1
    rw [Nat.mul_comm D, Nat.mul_left_comm, Nat.mul_assoc]
  constructor
  · rw [h1, Nat.add_mul, c3, s2]
    rw [c1, s1] at hv
    omega
  · rw [c3, s2]
    omega
theorem dv_W {r : Nat → Nat} {D s j : Nat} (hs : j + s ≤ 8) (hDs : D < 4294967296 ^ s) (hlt : vl_ r 9 < D * 4294967296 ^ (j + 1)) : vl_ (fun t => r (t + j)) (s + 1) < D * 4294967296 := by
  have hlt2 : vl_ r 9 < 4294967296 ^ (j + s + 1) := by
    have h1 : D * 4294967296 ^ (j + 1) ≤ 4294967296 ^ s * 4294967296 ^ (j + 1) := Nat.mul_le_mul_right _ (Nat.le_of_lt hDs)
    rw [← Nat.pow_add, show s + (j + 1) = j + s + 1 by omega] at h1
    omega
  obtain ⟨c1, -⟩ := vl_cut (by omega : j + s + 1 ≤ 9) hlt2
  have s1 : vl_ r (j + (s + 1)) = vl_ r j + 4294967296 ^ j * vl_ (fun t => r (t + j)) (s + 1) := vl_split (s + 1)
  rw [show j + s + 1 = j + (s + 1) by omega] at c1
  have h2 : 4294967296 ^ j * vl_ (fun t => r (t + j)) (s + 1) < 4294967296 ^ j * (D * 4294967296) := by
    rw [Nat.pow_succ] at hlt
    rw [Nat.mul_left_comm]
    omega
  exact Nat.lt_of_mul_lt_mul_left h2
theorem dv_end {Q R V D h : Nat} (hD : 0 < D) (h1 : Q * (D * 2 ^ h) + R = V * 2 ^ h) (h2 : R < D * 2 ^ h) : Q = V / D ∧ R = V % D * 2 ^ h := by
  have hp : 0 < 2 ^ h := Nat.pow_pos (by decide)
  have e1 : Q * (D * 2 ^ h) = Q * D * 2 ^ h := (Nat.mul_assoc _ _ _).symm
  have h3 : Q * D * 2 ^ h ≤ V * 2 ^ h := by omega
  have h4 : Q * D ≤ V := Nat.le_of_mul_le_mul_right h3 hp
  have h5 : R = (V - Q * D) * 2 ^ h := by rw [Nat.sub_mul]; omega
  have h6 : V - Q * D < D := by
    rw [h5] at h2
    exact Nat.lt_of_mul_lt_mul_right h2
  have h7 : V / D = Q := by
    rw [Nat.div_eq_iff hD]
    omega
  refine ⟨h7.symm, ?_⟩
  rw [h5]
  congr 1
  have := Nat.mod_add_div V D
  rw [h7, Nat.mul_comm] at this
  omega
theorem vl_digs {Z : Nat} : ∀ n, vl_ (fun i => Z / 4294967296 ^ i % 4294967296) n = Z % 4294967296 ^ n
  | 0 => by simp [vl_, Nat.mod_one]
  | n + 1 => by
    show vl_ (fun i => Z / 4294967296 ^ i % 4294967296) n + Z / 4294967296 ^ n % 4294967296 * 4294967296 ^ n = _
    rw [vl_digs n, Nat.pow_succ, Nat.mod_mul, Nat.mul_comm (4294967296 ^ n)]
/-- a word of the value shifted down -/
theorem dn_dg {r : Nat → Nat} {i h : Nat} (hi : i + 1 < 9) (hh : h ≤ 31) (hr : ∀ j, j < 9 → r j < 4294967296) : (r i / 2 ^ h + r (i + 1) * 2 ^ (32 - h)) % 4294967296 = vl_ r 9 / 2 ^ h / 4294967296 ^ i % 4294967296 := by
  have e0 : vl_ r 9 / 4294967296 ^ i = vl_ r 9 / 4294967296 ^ (i + 2) * 4294967296 * 4294967296 + r (i + 1) * 4294967296 + r i := by
    rw [vl_hi (n := 9) (i := i) (by omega) hr, vl_hi (n := 9) (i := i + 1) (by omega) hr, Nat.add_mul]
  have e1 : vl_ r 9 / 2 ^ h / 4294967296 ^ i = vl_ r 9 / 4294967296 ^ i / 2 ^ h := by rw [Nat.div_div_eq_div_mul, Nat.div_div_eq_div_mul, Nat.mul_comm]
  have e2 : 4294967296 = 2 ^ h * 2 ^ (32 - h) := by rw [← Nat.pow_add, show h + (32 - h) = 32 by omega]
  rw [e1, e0]
  generalize vl_ r 9 / 4294967296 ^ (i + 2) = w
  have e3 : w * 4294967296 * 4294967296 + r (i + 1) * 4294967296 + r i = 2 ^ h * (w * 2 ^ (32 - h) * 4294967296 + r (i + 1) * 2 ^ (32 - h)) + r i := by
    have a1 : w * 4294967296 * 4294967296 = 2 ^ h * (w * 2 ^ (32 - h) * 4294967296) := by
      have a0 : 2 ^ h * (w * 2 ^ (32 - h)) = w * 4294967296 := by rw [Nat.mul_left_comm, ← e2]
      rw [← Nat.mul_assoc (2 ^ h), a0]
    have a2 : r (i + 1) * 4294967296 = 2 ^ h * (r (i + 1) * 2 ^ (32 - h)) := by
      rw [Nat.mul_left_comm, ← e2]
    rw [Nat.mul_add, ← a1, ← a2]
  rw [e3, Nat.mul_add_div (Nat.pow_pos (by decide)), Nat.add_assoc, Nat.mul_add_mod_self_right, Nat.add_comm]
theorem nd_c {w w2 c2 ε Dn ρ BB : Nat} (hw2 : w2 < BB) (hρ : ρ < Dn) (hc : c2 < 2) (hv : w + (ε + 1) * Dn = ρ + BB) (hv2 : w2 + c2 * BB = w + Dn) : (c2 = if ε = 0 then 1 else 0) ∧ w2 + ε * Dn = ρ + (if ε = 0 then 0 else 1) * BB := by
  rw [Nat.add_mul, Nat.one_mul] at hv
  by_cases z : ε = 0
  · subst z
    rw [if_pos rfl, if_pos rfl]
    rcases (show c2 = 0 ∨ c2 = 1 by omega) with q | q
    · subst q; omega
    · subst q; omega
  · rw [if_neg z, if_neg z]
    have : 1 * Dn ≤ ε * Dn := Nat.mul_le_mul_right _ (by omega)
    rcases (show c2 = 0 ∨ c2 = 1 by omega) with q | q
    · subst q; omega
    · subst q; omega
theorem nd_0 {w c ε Dn ρ BB : Nat} (hw : w < BB) (hρ : ρ < Dn) (hc : c < 2) (hv : w + ε * Dn = ρ + c * BB) : c = if ε = 0 then 0 else 1 := by
  by_cases z : ε = 0
  · subst z
    rw [if_pos rfl]
    rcases (show c = 0 ∨ c = 1 by omega) with q | q
    · exact q
    · subst q; omega
  · rw [if_neg z]
    have : 1 * Dn ≤ ε * Dn := Nat.mul_le_mul_right _ (by omega)
    rcases (show c = 0 ∨ c = 1 by omega) with q | q
    · subst q; omega
    · exact q
theorem nd_W {lw P a b : Nat} : lw + b * P + a * (P * 4294967296) = lw + (a * 4294967296 + b) * P := by
  rw [Nat.add_mul, Nat.mul_comm P, ← Nat.mul_assoc]
  omega
