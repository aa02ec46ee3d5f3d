/-! rows for the table of exponents and for bits of ints; the numbers of Roots -/
def ex_ (j : Nat) : Nat := ([2, 3, 5, 7, 11, 13, 17, 19, 23, 29, 31, 37, 41, 43, 47, 53, 59, 61, 67, 71, 73, 79, 83, 89, 97, 101, 103, 107, 109, 113, 127] : List Nat).getD j 0
def xE_ (g : pw_G) : Prop := ∀ (A : Nat → Prop) (U : State) (H : Heap), g.2.2.2 A U H → va_Z rC_O "EXPONENTS" "[I" (.ref (ad_ g 28)) A U H ∧ va_T .int (ad_ g 28) 31 (fun j => .int (nI (ex_ j))) A U H
section PX2
variable {l : Launch} {g : pw_G} {μ : pw_M} {sz : Nat} {Qf : pw_F} {pc q : Nat} {ls : List (Nat × Value)} {st : List Value} {X : pw_X} {Y : pw_Y} {a b : Nat}
theorem px_getE (hE : xE_ g) (hd : decode μ.2.1 pc = .ok (.getstatic 27, 3)) (ho : μ.2.2.2.2.1 = rC_O) (hq : pc + 3 = q) (k : pw_W l g μ sz Qf q ls (.ref (ad_ g 28) :: st) X Y) : pw_W l g μ sz Qf pc ls st X Y := by
  intro p e s m args below meth c H locs la hC hl hP hD hS hZ
  subst hq
  exact va_gets hC.1 hC.2.1 (hE _ _ _ hC.2.2.2.2.2.2.2.2.2.2).1 hS (by rw [← ho]; exact hC.2.2.2.2.1) (hC.2.2.2.1 _ wf_O_27) (fun x h => h) hd (k p e s m args below meth c H locs la hC hl hP hD hS hZ)
theorem px_lenE (hE : xE_ g) (hd : decode μ.2.1 pc = .ok (.arraylength, 1)) (hq : pc + 1 = q) (k : pw_W l g μ sz Qf q ls (.int (nI 31) :: st) X Y) : pw_W l g μ sz Qf pc ls (.ref (ad_ g 28) :: st) X Y := by
  intro p e s m args below meth c H locs la hC hl hP hD hS hZ
  subst hq
  exact va_tlen hC.1 hC.2.1 (hE _ _ _ hC.2.2.2.2.2.2.2.2.2.2).2 hS rfl hd (k p e s m args below meth c H locs la hC hl hP hD hS hZ)
theorem px_ldE {i : Nat} (hE : xE_ g) (hd : decode μ.2.1 pc = .ok (.iaload, 1)) (hi : i < 31) (hq : pc + 1 = q) (k : pw_W l g μ sz Qf q ls (.int (nI (ex_ i)) :: st) X Y) : pw_W l g μ sz Qf pc ls (.int (nI i) :: .ref (ad_ g 28) :: st) X Y := by
  intro p e s m args below meth c H locs la hC hl hP hD hS hZ
  subst hq
  refine va_ti hC.1 hC.2.1 (hE _ _ _ hC.2.2.2.2.2.2.2.2.2.2).2 hS (vp_in_nI hi (by decide)) (v := .int (nI (ex_ i))) ?_ hd (k p e s m args below meth c H locs la hC hl hP hD hS hZ)
  rw [nI_clamp (Nat.lt_trans hi (by decide))]
theorem us_ : ∀ n, n < 32 → (((nI n).toUInt32 &&& Int32.toUInt32 31).toBitVec % 32).toNat = n := by decide +kernel
theorem px_iushrN (hd : decode μ.2.1 pc = .ok (.iushr, 1)) (ha : a < 2 ^ 32) (hb : b < 32) (hq : pc + 1 = q) (k : pw_W l g μ sz Qf q ls (.int (nI (a / 2 ^ b)) :: st) X Y) : pw_W l g μ sz Qf pc ls (.int (nI b) :: .int (nI a) :: st) X Y := px_iushr hd (pk_ushrN ha (nI b) b (us_ b hb)) hq k
theorem px_iand1 (hd : decode μ.2.1 pc = .ok (.iand, 1)) (ha : a < 2 ^ 32) (hq : pc + 1 = q) (k : pw_W l g μ sz Qf q ls (.int (nI (a % 2)) :: st) X Y) : pw_W l g μ sz Qf pc ls (.int (nI 1) :: .int (nI a) :: st) X Y := px_iand hd hq (px_ti (pk_andN (m := nI 1) ha 1 (by decide)) k)
end PX2
theorem xo_add {a j : Nat} (h : a / 2 ^ j % 2 = 0) : a ^^^ 2 ^ j = a + 2 ^ j := by
  have e1 : a % 2 ^ (j + 1) = a % 2 ^ j := by rw [Nat.mod_pow_succ, h, Nat.mul_zero, Nat.add_zero]
  have hlt : a % 2 ^ j < 2 ^ j := Nat.mod_lt _ (Nat.pow_pos (by decide))
  have e2 : a = 2 ^ (j + 1) * (a / 2 ^ (j + 1)) + a % 2 ^ j := by rw [← e1]; exact (Nat.div_add_mod a _).symm
  generalize a / 2 ^ (j + 1) = u at e2
  generalize a % 2 ^ j = lo at e2 hlt
  have hp : 2 ^ (j + 1) = 2 ^ j * 2 := Nat.pow_succ 2 j
  apply Nat.eq_of_testBit_eq
  intro i
  rw [Nat.testBit_xor, Nat.testBit_two_pow, e2, show 2 ^ (j + 1) * u + lo + 2 ^ j = 2 ^ (j + 1) * u + (2 ^ j + lo) by omega, Nat.testBit_two_pow_mul_add u (by omega : lo < 2 ^ (j + 1)), Nat.testBit_two_pow_mul_add u (by omega : 2 ^ j + lo < 2 ^ (j + 1))]
  by_cases hi : i < j + 1
  · rw [if_pos hi, if_pos hi]
    by_cases q : i = j
    · subst q
      rw [Nat.testBit_two_pow_add_eq, Nat.testBit_lt_two_pow hlt]
      simp
    · rw [Nat.testBit_two_pow_add_gt (by omega)]
      simp [show ¬ j = i by omega]
  · rw [if_neg hi, if_neg hi]
    simp [show ¬ j = i by omega]
theorem xo_sub {a j : Nat} (h : a / 2 ^ j % 2 = 0) : (a + 2 ^ j) ^^^ 2 ^ j = a := by
  rw [← xo_add h, Nat.xor_assoc, Nat.xor_self, Nat.xor_zero]
theorem lx_ (a b : Nat) : lN a ^^^ lN b = lN (a ^^^ b) := by
  apply Int64.toBitVec_inj.mp
  rw [Int64.toBitVec_xor, wb_tb, wb_tb, wb_tb]
  apply BitVec.eq_of_getLsbD_eq
  intro i hi
  simp [BitVec.getLsbD_ofNat, Nat.testBit_xor, hi]
theorem k32 (k : Nat) : 2 ^ k = 2 ^ (k % 32) * 4294967296 ^ (k / 32) := by
  rw [B_pow, ← Nat.pow_add]
  congr 1
  omega
theorem vl_bit {d : Nat → Nat} {n k : Nat} (hk : k / 32 < n) (hd : ∀ j, j < n → d j < 4294967296) : d (k / 32) / 2 ^ (k % 32) % 2 = vl_ d n / 2 ^ k % 2 := by
  rw [← vl_dg (d := d) (n := n) (i := k / 32) hk hd, bit_dg (by omega)]
  congr 3
  omega
theorem pw_lt_pw {r e f V : Nat} (hr : 1 ≤ r) (h : e ≤ f) (hv : V ≤ r ^ e) : V ≤ r ^ f := Nat.le_trans hv (Nat.pow_le_pow_right hr h)
/-- the search of a root: what is left of it -/
theorem rt_start {v T e r : Nat} (he : 0 < e) (hv : v < 2 ^ T) (hr : r ^ e = v) : r < 2 ^ ((T - 1) / e + 1) := by
  refine Nat.lt_of_not_le (fun q => ?_)
  have h1 := Nat.pow_le_pow_left q e
  rw [← Nat.pow_mul] at h1
  have h2 : T ≤ ((T - 1) / e + 1) * e := by
    have := Nat.div_add_mod (T - 1) e
    have h3 := Nat.mod_lt (T - 1) he
    rw [Nat.add_mul, Nat.one_mul, Nat.mul_comm]
    omega
  have h3 : 2 ^ T ≤ 2 ^ (((T - 1) / e + 1) * e) := Nat.pow_le_pow_right (by decide) h2
  omega
