/-! rows of words: digits d below 2^32, their value vl_ d n -/
def vl_ (d : Nat → Nat) : Nat → Nat
  | 0 => 0
  | n + 1 => vl_ d n + d n * 4294967296 ^ n
def rw_ (f : Nat → Int64) (n : Nat) (d : Nat → Nat) : Prop := ∀ i, i < n → f i = lN (d i) ∧ d i < 4294967296
def du_ (d : Nat → Nat) (i w : Nat) : Nat → Nat := fun j => if j = i then w else d j
theorem du_s {d : Nat → Nat} {i w : Nat} : du_ d i w i = w := if_pos rfl
theorem du_n {d : Nat → Nat} {i j w : Nat} (h : j ≠ i) : du_ d i w j = d j := if_neg h
theorem vl_congr {d e : Nat → Nat} : ∀ n, (∀ i, i < n → d i = e i) → vl_ d n = vl_ e n
  | 0, _ => rfl
  | n + 1, h => by
    show vl_ d n + d n * _ = vl_ e n + e n * _
    rw [vl_congr n (fun i hi => h i (by omega)), h n (by omega)]
theorem vl_du {d : Nat → Nat} {i w : Nat} : vl_ (du_ d i w) (i + 1) = vl_ d i + w * 4294967296 ^ i := by
  show vl_ (du_ d i w) i + du_ d i w i * _ = _
  rw [du_s, vl_congr i (fun j hj => du_n (by omega))]
theorem vl_dun {d : Nat → Nat} {n i w : Nat} (h : n ≤ i) : vl_ (du_ d i w) n = vl_ d n := vl_congr n (fun j hj => du_n (by omega))
theorem pw_pos (i : Nat) : 0 < 4294967296 ^ i := Nat.pow_pos (by decide)
theorem vl_lt {d : Nat → Nat} : ∀ n, (∀ i, i < n → d i < 4294967296) → vl_ d n < 4294967296 ^ n
  | 0, _ => by simp [vl_]
  | n + 1, h => by
    have h1 := vl_lt n (fun i hi => h i (by omega))
    have h2 := h n (by omega)
    have h3 : (d n + 1) * 4294967296 ^ n ≤ 4294967296 * 4294967296 ^ n := Nat.mul_le_mul_right _ h2
    rw [Nat.add_mul, Nat.one_mul] at h3
    show vl_ d n + d n * 4294967296 ^ n < 4294967296 ^ (n + 1)
    rw [Nat.pow_succ, Nat.mul_comm (4294967296 ^ n)]
    omega
theorem rw_lt {f : Nat → Int64} {n : Nat} {d : Nat → Nat} (h : rw_ f n d) : vl_ d n < 4294967296 ^ n := vl_lt n (fun i hi => (h i hi).2)
theorem rw_mono {f : Nat → Int64} {n m : Nat} {d : Nat → Nat} (h : rw_ f n d) (hm : m ≤ n) : rw_ f m d := fun i hi => h i (by omega)
theorem rw_push {f : Nat → Int64} {i w : Nat} {d : Nat → Nat} (h : rw_ f i d) (hw : w < 4294967296) : rw_ (vp_updL f i (lN w)) (i + 1) (du_ d i w) := by
  intro j hj
  by_cases e : j = i
  · subst e; rw [pk_uLs, du_s]; exact ⟨rfl, hw⟩
  · rw [pk_uLn e, du_n e]; exact h j (by omega)
theorem rw_set {f : Nat → Int64} {n i w : Nat} {d : Nat → Nat} (h : rw_ f n d) (hw : w < 4294967296) : rw_ (vp_updL f i (lN w)) n (du_ d i w) := by
  intro j hj
  by_cases e : j = i
  · subst e; rw [pk_uLs, du_s]; exact ⟨rfl, hw⟩
  · rw [pk_uLn e, du_n e]; exact h j (by omega)
theorem rw_congr {f f' : Nat → Int64} {n : Nat} {d d' : Nat → Nat} (h : rw_ f n d) (hf : ∀ i, i < n → f' i = f i) (hd : ∀ i, i < n → d' i = d i) : rw_ f' n d' := fun i hi => by rw [hf i hi, hd i hi]; exact h i hi
/-- a row of zeros -/
theorem vl_0 {d : Nat → Nat} : ∀ n, (∀ i, i < n → d i = 0) → vl_ d n = 0
  | 0, _ => rfl
  | n + 1, h => by
    show vl_ d n + d n * _ = 0
    rw [vl_0 n (fun i hi => h i (by omega)), h n (by omega), Nat.zero_mul]
theorem vl_up {d : Nat → Nat} {L : Nat} : ∀ k, (∀ i, L ≤ i → i < L + k → d i = 0) → vl_ d (L + k) = vl_ d L
  | 0, _ => rfl
  | k + 1, h => by
    show vl_ d (L + k) + d (L + k) * _ = vl_ d L
    rw [vl_up k (fun i h1 h2 => h i h1 (by omega)), h (L + k) (by omega) (by omega), Nat.zero_mul, Nat.add_zero]
theorem vl_ge {d : Nat → Nat} {n L : Nat} (h : L < n) (hd : d L ≠ 0) : 4294967296 ^ L ≤ vl_ d n := by
  induction n with
  | zero => omega
  | succ n ih =>
    show _ ≤ vl_ d n + d n * 4294967296 ^ n
    by_cases e : L = n
    · subst e
      have : 1 * 4294967296 ^ L ≤ d L * 4294967296 ^ L := Nat.mul_le_mul_right _ (by omega)
      omega
    · have := ih (by omega)
      omega
/-- the digits are those of the value -/
theorem vl_dg {d : Nat → Nat} {n i : Nat} (hi : i < n) (h : ∀ j, j < n → d j < 4294967296) : vl_ d n / 4294967296 ^ i % 4294967296 = d i := by
  induction n with
  | zero => omega
  | succ n ih =>
    show (vl_ d n + d n * 4294967296 ^ n) / 4294967296 ^ i % 4294967296 = d i
    by_cases e : i = n
    · subst e
      rw [Nat.add_mul_div_right _ _ (pw_pos i), Nat.div_eq_of_lt (vl_lt i (fun j hj => h j (by omega))), Nat.zero_add, Nat.mod_eq_of_lt (h i (by omega))]
    · have e1 : d n * 4294967296 ^ n = (d n * 4294967296 ^ (n - i - 1) * 4294967296) * 4294967296 ^ i := by
        rw [Nat.mul_assoc, Nat.mul_assoc, ← Nat.pow_succ', Nat.succ_eq_add_one, ← Nat.pow_add]
        congr 2; omega
      rw [e1, Nat.add_mul_div_right _ _ (pw_pos i), Nat.add_mul_mod_self_right]
      exact ih (by omega) (fun j hj => h j (by omega))
theorem vl_inj {d e : Nat → Nat} {n i : Nat} (hi : i < n) (hd : ∀ j, j < n → d j < 4294967296) (he : ∀ j, j < n → e j < 4294967296) (h : vl_ d n = vl_ e n) : d i = e i := by
  rw [← vl_dg hi hd, h, vl_dg hi he]
/-- one step of a sum, a difference -/
theorem vl_sum {d x y : Nat → Nat} {i c t P : Nat} (hP : P = 4294967296 ^ i) (h : vl_ d i + c * P = vl_ x i + vl_ y i) (ht : t = x i + y i + c) : vl_ (du_ d i (t % 4294967296)) (i + 1) + t / 4294967296 * 4294967296 ^ (i + 1) = vl_ x (i + 1) + vl_ y (i + 1) := by
  rw [vl_du]
  show _ = vl_ x i + x i * 4294967296 ^ i + (vl_ y i + y i * 4294967296 ^ i)
  rw [Nat.pow_succ, ← hP]
  have h1 : (t % 4294967296 + 4294967296 * (t / 4294967296)) * P = (x i + y i + c) * P := by rw [Nat.mod_add_div, ht]
  have h2 : t / 4294967296 * (P * 4294967296) = 4294967296 * (t / 4294967296) * P := by
    rw [Nat.mul_comm P, ← Nat.mul_assoc, Nat.mul_comm (t / 4294967296)]
  rw [Nat.add_mul, Nat.add_mul, Nat.add_mul] at h1
  omega
theorem ln_J_9 {k n : Nat} (h : ln_J k = some n) : n ≤ 9 := by
  have h1 : ∀ k, k < 28 → (ln_J k).getD 0 ≤ 9 := by decide +kernel
  have h2 := h1 k (ln_J_lt h)
  rw [h] at h2
  exact h2
def kl_ : List Nat → List (Nat × Value) → List (Nat × Value)
  | _, [] => []
  | is, (j, v) :: t => bif is.any (fun i => Nat.beq i j) then (j, v) :: kl_ is t else kl_ is t
theorem kl_mem {is : List Nat} {ls : List (Nat × Value)} {z : Nat × Value} (h : z ∈ kl_ is ls) : z ∈ ls := by
  induction ls with
  | nil => cases h
  | cons a t ih =>
    obtain ⟨j, v⟩ := a
    cases hb : is.any (fun i => Nat.beq i j) with
    | true =>
      simp only [kl_, hb, cond_true] at h
      rcases List.mem_cons.mp h with h | h
      · exact List.mem_cons.mpr (Or.inl h)
      · exact List.mem_cons_of_mem _ (ih h)
    | false =>
      simp only [kl_, hb, cond_false] at h
      exact List.mem_cons_of_mem _ (ih h)
theorem px_keep {l : Launch} {g : pw_G} {μ : pw_M} {sz : Nat} {Qf : pw_F} {pc : Nat} {ls ls' : List (Nat × Value)} {st : List Value} {X : pw_X} {Y : pw_Y} (is : List Nat) (h : kl_ is ls = ls') (k : pw_W l g μ sz Qf pc ls' st X Y) : pw_W l g μ sz Qf pc ls st X Y :=
  px_sub (fun z hz => kl_mem (is := is) (by rw [h]; exact hz)) k
theorem B_pow (m : Nat) : 4294967296 ^ m = 2 ^ (m * 32) := by
  rw [Nat.mul_comm, Nat.pow_mul]
/-- the value by its highest word -/
theorem vl_bits {d : Nat → Nat} {m t : Nat} (h0 : vl_ d m < 4294967296 ^ m) (h1 : d m < 2 ^ t) (h2 : 2 ^ (t - 1) ≤ d m) (ht : 0 < t) : vl_ d (m + 1) < 2 ^ (m * 32 + t) ∧ 2 ^ (m * 32 + t - 1) ≤ vl_ d (m + 1) := by
  have e1 : 2 ^ (m * 32 + t) = 2 ^ t * 4294967296 ^ m := by rw [B_pow, Nat.pow_add, Nat.mul_comm]
  have e2 : 2 ^ (m * 32 + t - 1) = 2 ^ (t - 1) * 4294967296 ^ m := by
    rw [B_pow, Nat.mul_comm, ← Nat.pow_add]; congr 1; omega
  have h3 : (d m + 1) * 4294967296 ^ m ≤ 2 ^ t * 4294967296 ^ m := Nat.mul_le_mul_right _ h1
  have h4 : 2 ^ (t - 1) * 4294967296 ^ m ≤ d m * 4294967296 ^ m := Nat.mul_le_mul_right _ h2
  rw [Nat.add_mul, Nat.one_mul] at h3
  rw [e1, e2]
  show vl_ d m + d m * 4294967296 ^ m < _ ∧ _ ≤ vl_ d m + d m * 4294967296 ^ m
  omega
/-- one bit of a word is one bit of the value -/
theorem bit_dg {v i r : Nat} (hr : r < 32) : v / 4294967296 ^ i % 4294967296 / 2 ^ r % 2 = v / 2 ^ (i * 32 + r) % 2 := by
  have e1 : 2 ^ (i * 32 + r) = 4294967296 ^ i * 2 ^ r := by rw [B_pow, Nat.pow_add]
  rw [e1, ← Nat.div_div_eq_div_mul]
  generalize v / 4294967296 ^ i = w
  have e2 : 4294967296 = 2 ^ r * (2 * 2 ^ (31 - r)) := by
    rw [← Nat.mul_assoc, Nat.mul_comm (2 ^ r) 2, ← Nat.pow_succ', Nat.succ_eq_add_one, ← Nat.pow_add, show r + 1 + (31 - r) = 32 by omega]
  rw [e2, Nat.mod_mul_right_div_self, Nat.mod_mul_right_mod]
theorem vl_cmp {d e : Nat → Nat} {n i : Nat} (hi : i < n) (hd : ∀ j, j < n → d j < 4294967296) (he : ∀ j, j < n → e j < 4294967296) (h : ∀ j, i < j → j < n → d j = e j) (hl : d i < e i) : vl_ d n < vl_ e n := by
  induction n with
  | zero => omega
  | succ n ih =>
    show vl_ d n + d n * 4294967296 ^ n < vl_ e n + e n * 4294967296 ^ n
    by_cases q : i = n
    · subst q
      have h1 := vl_lt i (fun j hj => hd j (by omega))
      have h2 : (d i + 1) * 4294967296 ^ i ≤ e i * 4294967296 ^ i := Nat.mul_le_mul_right _ hl
      rw [Nat.add_mul, Nat.one_mul] at h2
      omega
    · have h1 := ih (by omega) (fun j hj => hd j (by omega)) (fun j hj => he j (by omega)) (fun j h1 h2 => h j h1 (by omega))
      rw [h n (by omega) (by omega)]
      omega
theorem vl_set {d : Nat → Nat} {n k w : Nat} (hk : k < n) : vl_ (du_ d k w) n + d k * 4294967296 ^ k = vl_ d n + w * 4294967296 ^ k := by
  induction n with
  | zero => omega
  | succ n ih =>
    show vl_ (du_ d k w) n + du_ d k w n * 4294967296 ^ n + _ = vl_ d n + d n * 4294967296 ^ n + _
    by_cases e : k = n
    · subst e
      rw [du_s, vl_dun (Nat.le_refl _)]
      omega
    · rw [du_n (Ne.symm e)]
      have := ih (by omega)
      omega
theorem vl_sub {d x y : Nat → Nat} {i c c' w P : Nat} (hP : P = 4294967296 ^ i) (h : vl_ d i + vl_ y i = vl_ x i + c * P) (ht : w + y i + c = x i + c' * 4294967296) : vl_ (du_ d i w) (i + 1) + vl_ y (i + 1) = vl_ x (i + 1) + c' * 4294967296 ^ (i + 1) := by
  rw [vl_du]
  show _ + (vl_ y i + y i * 4294967296 ^ i) = vl_ x i + x i * 4294967296 ^ i + _
  rw [Nat.pow_succ, ← hP]
  have h1 : (w + y i + c) * P = (x i + c' * 4294967296) * P := by rw [ht]
  have h2 : c' * (P * 4294967296) = c' * 4294967296 * P := by rw [Nat.mul_comm P, ← Nat.mul_assoc]
  rw [Nat.add_mul, Nat.add_mul, Nat.add_mul] at h1
  omega
theorem vl_hi {d : Nat → Nat} {n i : Nat} (hi : i < n) (h : ∀ j, j < n → d j < 4294967296) : vl_ d n / 4294967296 ^ i = vl_ d n / 4294967296 ^ (i + 1) * 4294967296 + d i := by
  rw [← vl_dg hi h, Nat.pow_succ, ← Nat.div_div_eq_div_mul]
  omega
theorem lN_neg {a b c : Nat} (ha : a < 4294967296) (hb : b < 4294967296) (hc : c < 2) (h : a < b + c) : lN a - lN b - lN c = lN (a + 18446744073709551616 - b - c) := by
  have e : lN (a + 18446744073709551616 - b - c) = lN (a + 18446744073709551616) - lN b - lN c := by
    rw [lN_sub (by omega), lN_sub (by omega)]
  have e2 : lN (a + 18446744073709551616) = lN a := by
    rw [wb_mod (a + 18446744073709551616), show (a + 18446744073709551616) % 2 ^ 64 = a by omega]
  rw [e, e2]
theorem lN_n0 {t : Nat} (h1 : 9223372036854775808 ≤ t) (h2 : t < 18446744073709551616) : lN t < lN 0 := by
  rw [Int64.lt_iff_toInt_lt]
  have e : (lN t).toInt = (t : Int) - 2 ^ 64 := by
    have c := BitVec.toInt_eq_toNat_cond (lN t).toBitVec
    rw [wb_tn (by omega)] at c
    show (lN t).toBitVec.toInt = _
    rw [c]
    split <;> omega
  have e0 : (lN 0).toInt = 0 := by decide
  rw [e, e0]
  omega
theorem vl_prod {d y : Nat → Nat} {i j c x t V : Nat} (hk : i + j < 8) (h : vl_ d 8 + c * 4294967296 ^ (i + j) = V + x * vl_ y j * 4294967296 ^ i) (ht : t = x * y j + d (i + j) + c) : vl_ (du_ d (i + j) (t % 4294967296)) 8 + t / 4294967296 * 4294967296 ^ (i + j + 1) = V + x * vl_ y (j + 1) * 4294967296 ^ i := by
  have h1 := vl_set (d := d) (w := t % 4294967296) hk
  have h2 : (t % 4294967296 + 4294967296 * (t / 4294967296)) * 4294967296 ^ (i + j) = (x * y j + d (i + j) + c) * 4294967296 ^ (i + j) := by rw [Nat.mod_add_div, ht]
  have h3 : t / 4294967296 * 4294967296 ^ (i + j + 1) = 4294967296 * (t / 4294967296) * 4294967296 ^ (i + j) := by
    rw [Nat.pow_succ, Nat.mul_comm (4294967296 ^ (i + j)), ← Nat.mul_assoc, Nat.mul_comm (t / 4294967296)]
  have h4 : x * vl_ y (j + 1) * 4294967296 ^ i = x * vl_ y j * 4294967296 ^ i + x * y j * 4294967296 ^ (i + j) := by
    show x * (vl_ y j + y j * 4294967296 ^ j) * 4294967296 ^ i = _
    rw [Nat.mul_add, Nat.add_mul, Nat.pow_add, Nat.mul_comm (4294967296 ^ i), ← Nat.mul_assoc, ← Nat.mul_assoc]
  rw [Nat.add_mul, Nat.add_mul, Nat.add_mul] at h2
  rw [h3, h4]
  omega
theorem xn_ {X : pw_X} {k j i : Nat} {f : Nat → Int64} {v : Int64} (h : j ≠ k) (e : X j i = v) : xr_ X k f j i = v := by rw [xr_n h]; exact e
theorem xs_ {X : pw_X} {k i : Nat} {f : Nat → Int64} {v : Int64} (e : f i = v) : xr_ X k f k i = v := by rw [xr_s]; exact e
theorem yn_ {Y : pw_Y} {k j i : Nat} {f : Nat → Int32} {v : Int32} (h : j ≠ k) (e : Y j i = v) : yr_ Y k f j i = v := by rw [yr_n h]; exact e
theorem ys_ {Y : pw_Y} {k i : Nat} {f : Nat → Int32} {v : Int32} (e : f i = v) : yr_ Y k f k i = v := by rw [yr_s]; exact e
