/-! sums, polynomials by x^m - 1 and n -/
def sm_ (f : Nat → Nat) : Nat → Nat
  | 0 => 0
  | k + 1 => sm_ f k + f k
theorem sm_congr {f h : Nat → Nat} : ∀ k, (∀ j, j < k → f j = h j) → sm_ f k = sm_ h k
  | 0, _ => rfl
  | k + 1, e => by show sm_ f k + f k = sm_ h k + h k; rw [sm_congr k (fun j hj => e j (by omega)), e k (by omega)]
theorem sm_add {f h : Nat → Nat} : ∀ k, sm_ (fun j => f j + h j) k = sm_ f k + sm_ h k
  | 0 => rfl
  | k + 1 => by show sm_ (fun j => f j + h j) k + (f k + h k) = sm_ f k + f k + (sm_ h k + h k); rw [sm_add k]; omega
theorem sm_mul {f : Nat → Nat} {c : Nat} : ∀ k, sm_ (fun j => c * f j) k = c * sm_ f k
  | 0 => rfl
  | k + 1 => by show sm_ (fun j => c * f j) k + c * f k = c * (sm_ f k + f k); rw [sm_mul k, Nat.mul_add]
theorem sm_mod {f h : Nat → Nat} {n : Nat} : ∀ k, (∀ j, j < k → f j % n = h j % n) → sm_ f k % n = sm_ h k % n
  | 0, _ => rfl
  | k + 1, e => by
    show (sm_ f k + f k) % n = (sm_ h k + h k) % n
    rw [Nat.add_mod, sm_mod k (fun j hj => e j (by omega)), e k (by omega), ← Nat.add_mod]
theorem sm_le {f : Nat → Nat} {M : Nat} : ∀ k, (∀ j, j < k → f j ≤ M) → sm_ f k ≤ k * M
  | 0, _ => by simp [sm_]
  | k + 1, e => by
    show sm_ f k + f k ≤ (k + 1) * M
    have h1 := sm_le k (fun j hj => e j (by omega))
    have h2 := e k (by omega)
    rw [Nat.add_mul, Nat.one_mul]
    omega
theorem sm_one {i v : Nat} : ∀ k, sm_ (fun j => if j = i then v else 0) k = if i < k then v else 0
  | 0 => by simp [sm_]
  | k + 1 => by
    show sm_ (fun j => if j = i then v else 0) k + (if k = i then v else 0) = _
    rw [sm_one k]
    by_cases h1 : i < k
    · rw [if_pos h1, if_neg (by omega), if_pos (by omega)]; omega
    · by_cases h2 : k = i
      · rw [if_neg h1, if_pos h2, if_pos (by omega)]; omega
      · rw [if_neg h1, if_neg h2, if_neg (by omega)]
def pm_ (n m c : Nat) (q : Nat → Nat) : Nat → Nat := fun i => (q ((i + m - 1) % m) + c * q i) % n
def pp_ (n m c : Nat) : Nat → Nat → Nat
  | 0 => fun i => if i = 0 then 1 else 0
  | k + 1 => pm_ n m c (pp_ n m c k)
def cv_ (n m : Nat) (p q : Nat → Nat) : Nat → Nat := fun i => sm_ (fun j => p j * q ((i + m - j) % m)) m % n
theorem pp_lt {n m c : Nat} (hn : 2 ≤ n) (k i : Nat) : pp_ n m c k i < n := by
  cases k with
  | zero => show (if i = 0 then 1 else 0) < n; split <;> omega
  | succ k => exact Nat.mod_lt _ (by omega)
theorem ix_ {i j m : Nat} (hi : i < m) (hj : j < m) : ((i + m - j) % m + m - 1) % m = ((i + m - 1) % m + m - j) % m := by
  rw [show (i + m - j) % m + m - 1 = (i + m - j) % m + (m - 1) by omega, show (i + m - 1) % m + m - j = (i + m - 1) % m + (m - j) by omega, Nat.mod_add_mod, Nat.mod_add_mod]
  congr 1
  omega
theorem mm_ (A B c n : Nat) : (A + c * B) % n = (A % n + c * (B % n)) % n := by
  rw [Nat.add_mod, Nat.mul_mod c B n, Nat.add_mod (A % n) (c * (B % n)) n, Nat.mod_mod, Nat.mul_mod c (B % n) n, Nat.mod_mod]
theorem cv_pm {n m c : Nat} {p q : Nat → Nat} {i : Nat} (hi : i < m) : cv_ n m p (pm_ n m c q) i = pm_ n m c (cv_ n m p q) i := by
  show sm_ (fun j => p j * ((q (((i + m - j) % m + m - 1) % m) + c * q ((i + m - j) % m)) % n)) m % n = (sm_ (fun j => p j * q (((i + m - 1) % m + m - j) % m)) m % n + c * (sm_ (fun j => p j * q ((i + m - j) % m)) m % n)) % n
  have e1 : sm_ (fun j => p j * ((q (((i + m - j) % m + m - 1) % m) + c * q ((i + m - j) % m)) % n)) m % n = sm_ (fun j => p j * q (((i + m - 1) % m + m - j) % m) + c * (p j * q ((i + m - j) % m))) m % n := by
    refine sm_mod m (fun j hj => ?_)
    rw [ix_ hi hj, Nat.mul_mod_mod, Nat.mul_add, Nat.mul_left_comm]
  rw [e1, sm_add, sm_mul, mm_]
theorem cv_pp {n m c a : Nat} (hn : 2 ≤ n) (b : Nat) : ∀ i, i < m → cv_ n m (pp_ n m c a) (pp_ n m c b) i = pp_ n m c (a + b) i := by
  induction b with
  | zero =>
    intro i hi
    show sm_ (fun j => pp_ n m c a j * (if (i + m - j) % m = 0 then 1 else 0)) m % n = pp_ n m c a i
    rw [sm_congr (h := fun j => if j = i then pp_ n m c a i else 0) m (fun j hj => ?_), sm_one, if_pos hi, Nat.mod_eq_of_lt (pp_lt hn _ _)]
    by_cases q : j = i
    · subst q
      rw [if_pos rfl, show j + m - j = m by omega, Nat.mod_self, if_pos rfl, Nat.mul_one]
    · rw [if_neg q, if_neg, Nat.mul_zero]
      intro h
      by_cases q2 : j < i
      · rw [show i + m - j = (i - j) + m by omega, Nat.add_mod_right, Nat.mod_eq_of_lt (by omega)] at h
        omega
      · rw [Nat.mod_eq_of_lt (by omega)] at h
        omega
  | succ b ih =>
    intro i hi
    show cv_ n m (pp_ n m c a) (pm_ n m c (pp_ n m c b)) i = pm_ n m c (pp_ n m c (a + b)) i
    rw [cv_pm hi]
    show (cv_ n m _ _ _ + c * cv_ n m _ _ _) % n = _
    rw [ih _ (Nat.mod_lt _ (by omega)), ih i hi]
    rfl
/-- a row of ints holds a polynomial -/
def pr_ (f : Nat → Int32) (m n : Nat) (p : Nat → Nat) : Prop := ∀ i, i < m → f i = nI (p i) ∧ p i < n
theorem ng_T {w : Nat} (h : w < 2 ^ 31) : (-nI w).toInt = -(w : Int) := sb_negT h
theorem ng_div {a d : Nat} (ha : a < 2 ^ 31) (h0 : 0 < d) (hd : d < 2 ^ 31) : (-nI a) / nI d = -nI (a / d) := by
  apply Int32.toInt_inj.mp
  have h1 : a / d ≤ a := Nat.div_le_self _ _
  have h2 : (a : Int).tdiv (d : Int) = ((a / d : Nat) : Int) := by
    rw [Int.tdiv_eq_ediv_of_nonneg (by omega)]
    rfl
  generalize a / d = k at h1 h2
  rw [Int32.toInt_div, ng_T ha, ng_T (by omega), nI_toInt hd, Int.neg_tdiv, h2, Int.bmod_eq_of_le (by omega) (by omega)]
theorem ng_rem {a d : Nat} (ha : a < 2 ^ 31) (h0 : 0 < d) (hd : d < 2 ^ 31) : (-nI a) - (-nI a) / nI d * nI d = -nI (a % d) := by
  rw [ng_div ha h0 hd, Int32.neg_mul, Int32.sub_eq_add_neg, Int32.neg_neg, pk_mul, Int32.add_comm, ← Int32.sub_eq_add_neg]
  have h1 : a / d * d ≤ a := Nat.div_mul_le_self _ _
  have h2 : a % d = a - a / d * d := by
    have := Nat.mod_add_div a d
    rw [Nat.mul_comm] at this
    omega
  rw [h2, ← pk_sub h1, Int32.neg_sub]
theorem ng_sub {a b : Nat} (h : a ≤ b) : nI a - nI b = -nI (b - a) := by
  rw [← pk_sub h, Int32.neg_sub]
theorem ng_0 {a : Nat} (h : a < 2 ^ 31) : -nI a = 0 ↔ a = 0 := by
  constructor
  · intro e
    have : (-nI a).toInt = (0 : Int32).toInt := by rw [e]
    rw [ng_T h] at this
    have h0 : (0 : Int32).toInt = 0 := by decide
    omega
  · intro e
    subst e
    decide
theorem im_ {i j m : Nat} (h : j ≤ i + m) : nI i - nI j + nI m = nI (i + m - j) := by
  rw [Int32.sub_eq_add_neg, Int32.add_assoc, Int32.add_comm (-nI j), ← Int32.add_assoc, nI_add, ← Int32.sub_eq_add_neg, pk_sub h]
theorem ln_I_774 {k n : Nat} (h : ln_I k = some n) : n ≤ 774 := by
  have h1 : ∀ k, k < 28 → (ln_I k).getD 0 ≤ 774 := by decide +kernel
  have h2 := h1 k (ln_I_lt h)
  rw [h] at h2
  exact h2
