/-! ===== lN n to 2^64: shifts, and, or, masks, one bit ===== -/
theorem wb_tb (n : Nat) : (lN n).toBitVec = BitVec.ofNat 64 n := rfl
theorem wb_inj {a b : Int64} (h : a.toBitVec = b.toBitVec) : a = b := Int64.toBitVec_inj.mp h
theorem wb_tn {n : Nat} (h : n < 2 ^ 64) : (lN n).toBitVec.toNat = n := by rw [wb_tb, BitVec.toNat_ofNat, Nat.mod_eq_of_lt h]
theorem wb_of (x : Int64) : ∃ n, n < 2 ^ 64 ∧ x = lN n := ⟨x.toBitVec.toNat, x.toBitVec.isLt, wb_inj (by rw [wb_tb]; simp)⟩
theorem wb_of32 (x : Int32) : ∃ n, n < 2 ^ 32 ∧ x = nI n := ⟨x.toBitVec.toNat, x.toBitVec.isLt, Int32.toBitVec_inj.mp (by show _ = BitVec.ofNat 32 _; simp)⟩
theorem wb_c : ∀ k, k < 64 → ((nI k).toInt64 &&& 63) = lN k := by decide +kernel
theorem wb_cu : ∀ k, k < 64 → ((nI k).toInt64.toUInt64 &&& Int64.toUInt64 63) = UInt64.ofNat k := by decide +kernel
theorem wb_sm : ∀ k, k < 64 → (BitVec.ofNat 64 k).smod 64 = BitVec.ofNat 64 k := by decide +kernel
theorem wb_pw {a b : Nat} (h : a ≤ b) : 2 ^ b = 2 ^ a * 2 ^ (b - a) := by rw [← Nat.pow_add]; congr 1; omega
theorem wb_lt2 {a b : Nat} (h : a < b) : 2 ^ a < 2 ^ b := Nat.pow_lt_pow_right (by decide) h
theorem wb_mod (n : Nat) : lN n = lN (n % 2 ^ 64) := wb_inj (by rw [wb_tb, wb_tb]; apply BitVec.eq_of_toNat_eq; rw [BitVec.toNat_ofNat, BitVec.toNat_ofNat, Nat.mod_mod])
theorem wb_shr {n k : Nat} (hn : n < 2 ^ 64) (hk : k < 64) : ((lN n).toUInt64 >>> ((nI k).toInt64.toUInt64 &&& Int64.toUInt64 63)).toInt64 = lN (n / 2 ^ k) := by
  rw [wb_cu k hk]
  apply wb_inj
  apply BitVec.eq_of_toNat_eq
  show ((lN n).toUInt64 >>> UInt64.ofNat k).toNat = (BitVec.ofNat 64 _).toNat
  have h1 : (UInt64.ofNat k).toNat = k := by
    show (BitVec.ofNat 64 k).toNat = k
    rw [BitVec.toNat_ofNat, Nat.mod_eq_of_lt (by omega)]
  have h2 : (lN n).toUInt64.toNat = n := wb_tn hn
  rw [UInt64.toNat_shiftRight, h1, h2, Nat.mod_eq_of_lt hk, Nat.shiftRight_eq_div_pow, BitVec.toNat_ofNat, Nat.mod_eq_of_lt (Nat.lt_of_le_of_lt (Nat.div_le_self _ _) hn)]
theorem wb_shl (n : Nat) {k : Nat} (hk : k < 64) : lN n <<< ((nI k).toInt64 &&& 63) = lN (n * 2 ^ k) := by
  rw [wb_c k hk]
  apply wb_inj
  rw [Int64.toBitVec_shiftLeft, wb_tb, wb_tb, wb_tb, wb_sm k hk]
  apply BitVec.eq_of_toNat_eq
  rw [BitVec.shiftLeft_eq', BitVec.toNat_shiftLeft, BitVec.toNat_ofNat, BitVec.toNat_ofNat, BitVec.toNat_ofNat, Nat.mod_eq_of_lt (show k < 2 ^ 64 by omega), Nat.shiftLeft_eq, Nat.mul_mod, Nat.mod_mod, ← Nat.mul_mod]
theorem wb_and {a b : Nat} (ha : a < 2 ^ 64) (hb : b < 2 ^ 64) : lN a &&& lN b = lN (a &&& b) := by
  apply wb_inj
  rw [Int64.toBitVec_and, wb_tb, wb_tb, wb_tb]
  apply BitVec.eq_of_toNat_eq
  rw [BitVec.toNat_and, BitVec.toNat_ofNat, BitVec.toNat_ofNat, BitVec.toNat_ofNat, Nat.mod_eq_of_lt ha, Nat.mod_eq_of_lt hb, Nat.mod_eq_of_lt (Nat.and_lt_two_pow _ hb)]
theorem wb_or {a b : Nat} (ha : a < 2 ^ 64) (hb : b < 2 ^ 64) : lN a ||| lN b = lN (a ||| b) := by
  apply wb_inj
  rw [Int64.toBitVec_or, wb_tb, wb_tb, wb_tb]
  apply BitVec.eq_of_toNat_eq
  rw [BitVec.toNat_or, BitVec.toNat_ofNat, BitVec.toNat_ofNat, BitVec.toNat_ofNat, Nat.mod_eq_of_lt ha, Nat.mod_eq_of_lt hb, Nat.mod_eq_of_lt (Nat.or_lt_two_pow ha hb)]
theorem wb_mask {n k : Nat} (hn : n < 2 ^ 64) (hk : k < 64) : lN n &&& lN (2 ^ k - 1) = lN (n % 2 ^ k) := by
  rw [wb_and hn (by have := wb_lt2 hk; omega), Nat.and_two_pow_sub_one_eq_mod]
theorem wb_a1 {n : Nat} (hn : n < 2 ^ 64) : lN n &&& 1 = lN (n % 2) := wb_mask (k := 1) hn (by decide)
theorem wb_bit {n k : Nat} (hn : n < 2 ^ 64) (hk : k < 64) : ((lN n).toUInt64 >>> ((nI k).toInt64.toUInt64 &&& Int64.toUInt64 63)).toInt64 &&& 1 = lN (n / 2 ^ k % 2) := by
  rw [wb_shr hn hk, wb_a1 (Nat.lt_of_le_of_lt (Nat.div_le_self _ _) hn)]
theorem wb_xor {q k : Nat} (hk : k < 63) (h : 2 ^ k ≤ q) (h2 : q < 2 ^ (k + 1)) : lN q ^^^ lN (2 ^ k) = lN (q - 2 ^ k) := by
  obtain ⟨r, rfl⟩ : ∃ r, q = 2 ^ k + r := ⟨q - 2 ^ k, by omega⟩
  have hr : r < 2 ^ k := by rw [Nat.pow_succ] at h2; omega
  have hx : (2 ^ k + r) ^^^ 2 ^ k = r := by
    apply Nat.eq_of_testBit_eq
    intro i
    rw [Nat.testBit_xor, Nat.testBit_two_pow]
    rcases Nat.lt_trichotomy i k with h | h | h
    · rw [Nat.testBit_two_pow_add_gt h]
      simp [show ¬ k = i by omega]
    · subst h
      rw [Nat.testBit_two_pow_add_eq]
      simp
    · have a1 : 2 ^ (k + 1) ≤ 2 ^ i := Nat.pow_le_pow_right (by decide) h
      rw [Nat.testBit_lt_two_pow (show 2 ^ k + r < 2 ^ i by omega), Nat.testBit_lt_two_pow (show r < 2 ^ i by omega)]
      simp [show ¬ k = i by omega]
  have b1 := wb_lt2 (show k + 1 < 64 by omega)
  have b2 := wb_lt2 (show k < 64 by omega)
  apply wb_inj
  rw [Int64.toBitVec_xor, wb_tb, wb_tb, wb_tb]
  apply BitVec.eq_of_toNat_eq
  rw [BitVec.toNat_xor, BitVec.toNat_ofNat, BitVec.toNat_ofNat, BitVec.toNat_ofNat, Nat.mod_eq_of_lt (by omega : 2 ^ k + r < 2 ^ 64), Nat.mod_eq_of_lt b2, hx, Nat.add_sub_cancel_left, Nat.mod_eq_of_lt (by omega)]
/-! ===== lN: masks, 'or' of parts that don't overlap is a sum ===== -/
theorem u_tn {n : Nat} (h : n < 2 ^ 64) : (UInt64.ofNat n).toNat = n := Nat.mod_eq_of_lt h
theorem g_and {a b c : Nat} (ha : a < 2 ^ 64) (hb : b < 2 ^ 64) (hc : a &&& b = c) : lN a &&& lN b = lN c := by
  subst hc
  have h : UInt64.ofNat a &&& UInt64.ofNat b = UInt64.ofNat (a &&& b) := UInt64.toNat_inj.mp (by rw [UInt64.toNat_and, u_tn ha, u_tn hb, u_tn (Nat.and_lt_two_pow a hb)])
  have h2 := congrArg UInt64.toInt64 h
  exact h2
theorem g_and1 {a : Nat} (ha : a < 2 ^ 64) : lN a &&& 1 = lN (a % 2) := g_and (b := 1) ha (by decide) (Nat.and_two_pow_sub_one_eq_mod a 1)
theorem g_mask {a s p : Nat} (hp : 2 ^ s = p) (hs : s < 64) (ha : a < 2 ^ 64) : lN a &&& lN (p - 1) = lN (a % p) := by
  subst hp
  have := Nat.pow_lt_pow_right (show 1 < 2 by decide) hs
  exact g_and ha (by omega) (Nat.and_two_pow_sub_one_eq_mod a s)
theorem g_or {k p a b : Nat} (hp : 2 ^ k = p) (ha : a < p) (h : b * p + a < 2 ^ 64) : lN (b * p) ||| lN a = lN (b * p + a) := by
  subst hp
  have h1 : b * 2 ^ k ||| a = b * 2 ^ k + a := by rw [← Nat.shiftLeft_eq, Nat.shiftLeft_add_eq_or_of_lt ha]
  have h3 : UInt64.ofNat (b * 2 ^ k) ||| UInt64.ofNat a = UInt64.ofNat (b * 2 ^ k + a) := UInt64.toNat_inj.mp (by rw [UInt64.toNat_or, u_tn (by omega), u_tn (by omega), u_tn h, h1])
  have h2 := congrArg UInt64.toInt64 h3
  exact h2
theorem g_or' {k p a b : Nat} (hp : 2 ^ k = p) (ha : a < p) (h : a + b * p < 2 ^ 64) : lN a ||| lN (b * p) = lN (a + b * p) := by
  rw [Int64.or_comm, g_or hp ha (by omega), Nat.add_comm]
theorem g_ushr {a k p : Nat} {y : UInt64} (hy : y = UInt64.ofNat k) (hk : k < 64) (hp : 2 ^ k = p) (ha : a < 2 ^ 64) : ((lN a).toUInt64 >>> y).toInt64 = lN (a / p) := by
  subst hy hp
  have h : UInt64.ofNat a >>> UInt64.ofNat k = UInt64.ofNat (a / 2 ^ k) := UInt64.toNat_inj.mp (by rw [UInt64.toNat_shiftRight, u_tn ha, u_tn (by omega), u_tn (Nat.lt_of_le_of_lt (Nat.div_le_self _ _) ha), Nat.mod_eq_of_lt hk, Nat.shiftRight_eq_div_pow])
  have h2 := congrArg UInt64.toInt64 h
  exact h2
theorem g_shl {a k p : Nat} {y : Int64} (hy : y.toBitVec.smod 64 = BitVec.ofNat 64 k) (hk : k < 64) (hp : 2 ^ k = p) (ha : a < 2 ^ 64) : lN a <<< y = lN (a * p) := by
  subst hp
  apply Int64.toBitVec_inj.mp
  rw [Int64.toBitVec_shiftLeft, hy]
  apply BitVec.eq_of_toNat_eq
  have hb : (lN a).toBitVec.toNat = a := Nat.mod_eq_of_lt ha
  have hk' : (BitVec.ofNat 64 k).toNat = k := Nat.mod_eq_of_lt (by omega)
  have h : ((lN a).toBitVec <<< BitVec.ofNat 64 k).toNat = (a * 2 ^ k) % 2 ^ 64 := by simp only [BitVec.shiftLeft_eq', BitVec.toNat_shiftLeft, hb, hk', Nat.shiftLeft_eq]
  exact h
def mI (n : Nat) : Int32 := nI n - 1
theorem mI_s (n : Nat) : mI (n + 1) = nI n := nI_pred n
theorem mI_p {n : Nat} (h : 0 < n) : mI n = nI (n - 1) := by obtain ⟨k, rfl⟩ : ∃ k, n = k + 1 := ⟨n - 1, by omega⟩; exact mI_s k
theorem mI_T {n : Nat} (h : n < 2 ^ 30) : (mI n).toInt = (n : Int) - 1 := pk_sub_toInt (b := 1) h (by decide)
theorem ic_1 (a : Nat) : nI a + Int32.ofInt 1 = nI (a + 1) := by rw [show Int32.ofInt 1 = (1 : Int32) from by decide +kernel]; exact nI_1 a
theorem ic_5 (a : Nat) : nI a + Int32.ofInt 5 = nI (a + 5) := by rw [show Int32.ofInt 5 = nI 5 from by decide +kernel]; exact nI_add a 5
theorem ic_m (a : Nat) : nI a + Int32.ofInt (-1) = mI a := by rw [show Int32.ofInt (-1) = (-1 : Int32) from by decide +kernel]; exact (Int32.sub_eq_add_neg _ _).symm
theorem ic_d {a : Nat} (h : 0 < a) : nI a + Int32.ofInt (-1) = nI (a - 1) := by rw [ic_m, mI_p h]
theorem is_m (a : Nat) : nI a - nI 1 = mI a := rfl
theorem lc_lt {a b : Nat} (ha : a < 2 ^ 63) (hb : b < 2 ^ 63) : lg_cmp (lN a) (lN b) < 0 ↔ a < b := (lg_cmp_lt _ _).trans (pk_lLT ha hb)
theorem lc_ge {a b : Nat} (ha : a < 2 ^ 63) (hb : b < 2 ^ 63) : 0 ≤ lg_cmp (lN a) (lN b) ↔ b ≤ a := (lg_cmp_ge _ _).trans (pk_lLE hb ha)
theorem lc_gt {a b : Nat} (ha : a < 2 ^ 63) (hb : b < 2 ^ 63) : 0 < lg_cmp (lN a) (lN b) ↔ b < a := (lg_cmp_gt _ _).trans (pk_lLT hb ha)
theorem lc_le {a b : Nat} (ha : a < 2 ^ 63) (hb : b < 2 ^ 63) : lg_cmp (lN a) (lN b) ≤ 0 ↔ a ≤ b := (lg_cmp_le _ _).trans (pk_lLE ha hb)
theorem lc_eq {a b : Nat} (ha : a < 2 ^ 63) (hb : b < 2 ^ 63) : lg_cmp (lN a) (lN b) = 0 ↔ a = b := (lg_cmp_eq _ _).trans (pk_lEQ ha hb)
theorem nI_z {a : Nat} (h : a < 2 ^ 31) : nI a = 0 ↔ a = 0 := nI_eq (b := 0) h (by decide)
section PXN
variable {l : Launch} {g : pw_G} {μ : pw_M} {sz : Nat} {Qf : pw_F} {pc q : Nat} {ls : List (Nat × Value)} {st : List Value} {X : pw_X} {Y : pw_Y} {a b : Nat}
theorem px_iaddN (hd : decode μ.2.1 pc = .ok (.iadd, 1))  (hq : pc + 1 = q) (k : pw_W l g μ sz Qf q ls (.int (nI (a + b)) :: st) X Y) : pw_W l g μ sz Qf pc ls (.int (nI b) :: .int (nI a) :: st) X Y := px_iadd hd  hq (px_ti (nI_add a b) k)
theorem px_isubN (hd : decode μ.2.1 pc = .ok (.isub, 1)) (h : b ≤ a) (hq : pc + 1 = q) (k : pw_W l g μ sz Qf q ls (.int (nI (a - b)) :: st) X Y) : pw_W l g μ sz Qf pc ls (.int (nI b) :: .int (nI a) :: st) X Y := px_isub hd  hq (px_ti (pk_sub h) k)
theorem px_imulN (hd : decode μ.2.1 pc = .ok (.imul, 1))  (hq : pc + 1 = q) (k : pw_W l g μ sz Qf q ls (.int (nI (a * b)) :: st) X Y) : pw_W l g μ sz Qf pc ls (.int (nI b) :: .int (nI a) :: st) X Y := px_imul hd  hq (px_ti (pk_mul a b) k)
theorem px_idivN (hd : decode μ.2.1 pc = .ok (.idiv, 1)) (ha : a < 2 ^ 31) (h0 : 0 < b) (hb : b < 2 ^ 31) (hq : pc + 1 = q) (k : pw_W l g μ sz Qf q ls (.int (nI (a / b)) :: st) X Y) : pw_W l g μ sz Qf pc ls (.int (nI b) :: .int (nI a) :: st) X Y := px_idiv hd (nI_ne0 h0 hb) hq (px_ti (pk_div ha h0 hb) k)
theorem px_iremN (hd : decode μ.2.1 pc = .ok (.irem, 1)) (ha : a < 2 ^ 31) (h0 : 0 < b) (hb : b < 2 ^ 31) (hq : pc + 1 = q) (k : pw_W l g μ sz Qf q ls (.int (nI (a % b)) :: st) X Y) : pw_W l g μ sz Qf pc ls (.int (nI b) :: .int (nI a) :: st) X Y := px_irem hd (nI_ne0 h0 hb) hq (px_ti (pk_rem ha h0 hb) k)
theorem px_laddN (hd : decode μ.2.1 pc = .ok (.ladd, 1))  (hq : pc + 1 = q) (k : pw_W l g μ sz Qf q ls (.long (lN (a + b)) :: st) X Y) : pw_W l g μ sz Qf pc ls (.long (lN b) :: .long (lN a) :: st) X Y := px_ladd hd  hq (px_tl (lN_add a b) k)
theorem px_lsubN (hd : decode μ.2.1 pc = .ok (.lsub, 1)) (h : b ≤ a) (hq : pc + 1 = q) (k : pw_W l g μ sz Qf q ls (.long (lN (a - b)) :: st) X Y) : pw_W l g μ sz Qf pc ls (.long (lN b) :: .long (lN a) :: st) X Y := px_lsub hd  hq (px_tl (lN_sub h) k)
theorem px_lmulN (hd : decode μ.2.1 pc = .ok (.lmul, 1))  (hq : pc + 1 = q) (k : pw_W l g μ sz Qf q ls (.long (lN (a * b)) :: st) X Y) : pw_W l g μ sz Qf pc ls (.long (lN b) :: .long (lN a) :: st) X Y := px_lmul hd  hq (px_tl (lN_mul a b) k)
theorem lN_ne0 {b : Nat} (h0 : 0 < b) (hb : b < 2 ^ 63) : ¬ lN b = 0 := fun h => by have := (pk_lEQ (b := 0) hb (by decide)).mp h; omega
theorem px_ldivN (hd : decode μ.2.1 pc = .ok (.ldiv, 1)) (ha : a < 2 ^ 63) (h0 : 0 < b) (hb : b < 2 ^ 63) (hq : pc + 1 = q) (k : pw_W l g μ sz Qf q ls (.long (lN (a / b)) :: st) X Y) : pw_W l g μ sz Qf pc ls (.long (lN b) :: .long (lN a) :: st) X Y := px_ldiv hd (lN_ne0 h0 hb) hq (px_tl (pk_lDiv ha h0 hb) k)
theorem px_lremN (hd : decode μ.2.1 pc = .ok (.lrem, 1)) (ha : a < 2 ^ 63) (h0 : 0 < b) (hb : b < 2 ^ 63) (hq : pc + 1 = q) (k : pw_W l g μ sz Qf q ls (.long (lN (a % b)) :: st) X Y) : pw_W l g μ sz Qf pc ls (.long (lN b) :: .long (lN a) :: st) X Y := px_lrem hd (lN_ne0 h0 hb) hq (px_tl (pk_lRem ha h0 hb) k)
theorem px_landN (hd : decode μ.2.1 pc = .ok (.land, 1)) (ha : a < 2 ^ 64) (hq : pc + 1 = q) (k : pw_W l g μ sz Qf q ls (.long (lN (a % 4294967296)) :: st) X Y) : pw_W l g μ sz Qf pc ls (.long (lN 4294967295) :: .long (lN a) :: st) X Y := px_land hd hq (px_tl (g_mask (s := 32) (p := 4294967296) (by decide) (by decide) ha) k)
theorem px_land1 (hd : decode μ.2.1 pc = .ok (.land, 1)) (ha : a < 2 ^ 64) (hq : pc + 1 = q) (k : pw_W l g μ sz Qf q ls (.long (lN (a % 2)) :: st) X Y) : pw_W l g μ sz Qf pc ls (.long (lN 1) :: .long (lN a) :: st) X Y := px_land hd hq (px_tl (g_and1 ha) k)
theorem px_lushrN (hd : decode μ.2.1 pc = .ok (.lushr, 1)) (ha : a < 2 ^ 64) (hb : b < 64) (hq : pc + 1 = q) (k : pw_W l g μ sz Qf q ls (.long (lN (a / 2 ^ b)) :: st) X Y) : pw_W l g μ sz Qf pc ls (.int (nI b) :: .long (lN a) :: st) X Y := px_lushr hd (wb_shr ha hb) hq k
theorem px_lshlN (hd : decode μ.2.1 pc = .ok (.lshl, 1)) (hb : b < 64) (hq : pc + 1 = q) (k : pw_W l g μ sz Qf q ls (.long (lN (a * 2 ^ b)) :: st) X Y) : pw_W l g μ sz Qf pc ls (.int (nI b) :: .long (lN a) :: st) X Y := px_lshl hd (wb_shl a hb) hq k
theorem px_i2lN (hd : decode μ.2.1 pc = .ok (.i2l, 1)) (ha : a < 2 ^ 31) (hq : pc + 1 = q) (k : pw_W l g μ sz Qf q ls (.long (lN a) :: st) X Y) : pw_W l g μ sz Qf pc ls (.int (nI a) :: st) X Y := px_i2l hd (nI_l ha) hq k
theorem px_l2iN (hd : decode μ.2.1 pc = .ok (.l2i, 1)) (hq : pc + 1 = q) (k : pw_W l g μ sz Qf q ls (.int (nI a) :: st) X Y) : pw_W l g μ sz Qf pc ls (.long (lN a) :: st) X Y := px_l2i hd (lN_i a) hq k
theorem px_icmp_ltN {off : Int} {tgt : Nat} (hd : decode μ.2.1 pc = .ok (.if_icmp .lt off, 3)) (ha : a < 2 ^ 31) (hb : b < 2 ^ 31) (ht : (pc : Int) + off = (tgt : Int)) (hq : pc + 3 = q) (kt : a < b → pw_W l g μ sz Qf tgt ls st X Y) (kf : b ≤ a → pw_W l g μ sz Qf q ls st X Y) : pw_W l g μ sz Qf pc ls (.int (nI b) :: .int (nI a) :: st) X Y := px_icmp_lt hd ht hq (fun h => kt ((nI_ltI ha hb).mp h)) (fun h => kf (Nat.le_of_not_lt (fun z => h ((nI_ltI ha hb).mpr z))))
theorem px_icmp_geN {off : Int} {tgt : Nat} (hd : decode μ.2.1 pc = .ok (.if_icmp .ge off, 3)) (ha : a < 2 ^ 31) (hb : b < 2 ^ 31) (ht : (pc : Int) + off = (tgt : Int)) (hq : pc + 3 = q) (kt : b ≤ a → pw_W l g μ sz Qf tgt ls st X Y) (kf : a < b → pw_W l g μ sz Qf q ls st X Y) : pw_W l g μ sz Qf pc ls (.int (nI b) :: .int (nI a) :: st) X Y := px_icmp_ge hd ht hq (fun h => kt ((nI_leI hb ha).mp h)) (fun h => kf (Nat.lt_of_not_le (fun z => h ((nI_leI hb ha).mpr z))))
theorem px_icmp_gtN {off : Int} {tgt : Nat} (hd : decode μ.2.1 pc = .ok (.if_icmp .gt off, 3)) (ha : a < 2 ^ 31) (hb : b < 2 ^ 31) (ht : (pc : Int) + off = (tgt : Int)) (hq : pc + 3 = q) (kt : b < a → pw_W l g μ sz Qf tgt ls st X Y) (kf : a ≤ b → pw_W l g μ sz Qf q ls st X Y) : pw_W l g μ sz Qf pc ls (.int (nI b) :: .int (nI a) :: st) X Y := px_icmp_gt hd ht hq (fun h => kt ((nI_ltI hb ha).mp h)) (fun h => kf (Nat.le_of_not_lt (fun z => h ((nI_ltI hb ha).mpr z))))
theorem px_icmp_leN {off : Int} {tgt : Nat} (hd : decode μ.2.1 pc = .ok (.if_icmp .le off, 3)) (ha : a < 2 ^ 31) (hb : b < 2 ^ 31) (ht : (pc : Int) + off = (tgt : Int)) (hq : pc + 3 = q) (kt : a ≤ b → pw_W l g μ sz Qf tgt ls st X Y) (kf : b < a → pw_W l g μ sz Qf q ls st X Y) : pw_W l g μ sz Qf pc ls (.int (nI b) :: .int (nI a) :: st) X Y := px_icmp_le hd ht hq (fun h => kt ((nI_leI ha hb).mp h)) (fun h => kf (Nat.lt_of_not_le (fun z => h ((nI_leI ha hb).mpr z))))
theorem px_icmp_eqN {off : Int} {tgt : Nat} (hd : decode μ.2.1 pc = .ok (.if_icmp .eq off, 3)) (ha : a < 2 ^ 31) (hb : b < 2 ^ 31) (ht : (pc : Int) + off = (tgt : Int)) (hq : pc + 3 = q) (kt : a = b → pw_W l g μ sz Qf tgt ls st X Y) (kf : a ≠ b → pw_W l g μ sz Qf q ls st X Y) : pw_W l g μ sz Qf pc ls (.int (nI b) :: .int (nI a) :: st) X Y := px_icmp_eq hd ht hq (fun h => kt ((nI_eq ha hb).mp h)) (fun h => kf (fun z => h ((nI_eq ha hb).mpr z)))
theorem px_icmp_neN {off : Int} {tgt : Nat} (hd : decode μ.2.1 pc = .ok (.if_icmp .ne off, 3)) (ha : a < 2 ^ 31) (hb : b < 2 ^ 31) (ht : (pc : Int) + off = (tgt : Int)) (hq : pc + 3 = q) (kt : a ≠ b → pw_W l g μ sz Qf tgt ls st X Y) (kf : a = b → pw_W l g μ sz Qf q ls st X Y) : pw_W l g μ sz Qf pc ls (.int (nI b) :: .int (nI a) :: st) X Y := px_icmp_ne hd ht hq (fun h => kt (fun z => h ((nI_eq ha hb).mpr z))) (fun h => kf ((nI_eq ha hb).mp h))
theorem px_if_eqN {off : Int} {tgt : Nat} (hd : decode μ.2.1 pc = .ok (.ifCond .eq off, 3)) (ha : a < 2 ^ 31) (ht : (pc : Int) + off = (tgt : Int)) (hq : pc + 3 = q) (kt : a = 0 → pw_W l g μ sz Qf tgt ls st X Y) (kf : a ≠ 0 → pw_W l g μ sz Qf q ls st X Y) : pw_W l g μ sz Qf pc ls (.int (nI a) :: st) X Y := px_if_eq hd ht hq (fun h => kt ((nI_z ha).mp h)) (fun h => kf (fun z => h ((nI_z ha).mpr z)))
theorem px_if_neN {off : Int} {tgt : Nat} (hd : decode μ.2.1 pc = .ok (.ifCond .ne off, 3)) (ha : a < 2 ^ 31) (ht : (pc : Int) + off = (tgt : Int)) (hq : pc + 3 = q) (kt : a ≠ 0 → pw_W l g μ sz Qf tgt ls st X Y) (kf : a = 0 → pw_W l g μ sz Qf q ls st X Y) : pw_W l g μ sz Qf pc ls (.int (nI a) :: st) X Y := px_if_ne hd ht hq (fun h => kt (fun z => h ((nI_z ha).mpr z))) (fun h => kf ((nI_z ha).mp h))
theorem px_if_leN {off : Int} {tgt : Nat} (hd : decode μ.2.1 pc = .ok (.ifCond .le off, 3)) (ha : a < 2 ^ 31) (ht : (pc : Int) + off = (tgt : Int)) (hq : pc + 3 = q) (kt : a = 0 → pw_W l g μ sz Qf tgt ls st X Y) (kf : 0 < a → pw_W l g μ sz Qf q ls st X Y) : pw_W l g μ sz Qf pc ls (.int (nI a) :: st) X Y := px_if_le hd ht hq (fun h => kt (Nat.le_zero.mp ((nI_leI (b := 0) ha (by decide)).mp h))) (fun h => kf (Nat.pos_of_ne_zero (fun z => h (by rw [z]; decide))))
theorem px_if_gtN {off : Int} {tgt : Nat} (hd : decode μ.2.1 pc = .ok (.ifCond .gt off, 3)) (ha : a < 2 ^ 31) (ht : (pc : Int) + off = (tgt : Int)) (hq : pc + 3 = q) (kt : 0 < a → pw_W l g μ sz Qf tgt ls st X Y) (kf : a = 0 → pw_W l g μ sz Qf q ls st X Y) : pw_W l g μ sz Qf pc ls (.int (nI a) :: st) X Y := px_if_gt hd ht hq (fun h => kt ((nI_ltI (a := 0) (by decide) ha).mp h)) (fun h => kf (Nat.eq_zero_of_not_pos (fun z => h ((nI_ltI (a := 0) (by decide) ha).mpr z))))
theorem px_if_ltN {off : Int} {tgt : Nat} (hd : decode μ.2.1 pc = .ok (.ifCond .lt off, 3)) (ha : a < 2 ^ 31) (ht : (pc : Int) + off = (tgt : Int)) (hq : pc + 3 = q) (kt : False → pw_W l g μ sz Qf tgt ls st X Y) (kf : True → pw_W l g μ sz Qf q ls st X Y) : pw_W l g μ sz Qf pc ls (.int (nI a) :: st) X Y := px_if_lt hd ht hq (fun h => kt (absurd h (nI_pos ha))) (fun h => kf (trivial))
theorem px_if_geN {off : Int} {tgt : Nat} (hd : decode μ.2.1 pc = .ok (.ifCond .ge off, 3)) (ha : a < 2 ^ 31) (ht : (pc : Int) + off = (tgt : Int)) (hq : pc + 3 = q) (kt : True → pw_W l g μ sz Qf tgt ls st X Y) (kf : False → pw_W l g μ sz Qf q ls st X Y) : pw_W l g μ sz Qf pc ls (.int (nI a) :: st) X Y := px_if_ge hd ht hq (fun h => kt (trivial)) (fun h => kf (absurd (nI_pos' ha) h))
theorem mI_lt {a : Nat} (ha : a < 2 ^ 30) : mI a < 0 ↔ a = 0 := by rw [Int32.lt_iff_toInt_lt, mI_T ha]; show (a : Int) - 1 < 0 ↔ a = 0; omega
theorem mI_ge {a : Nat} (ha : a < 2 ^ 30) : 0 ≤ mI a ↔ 0 < a := by rw [Int32.le_iff_toInt_le, mI_T ha]; show (0 : Int) ≤ (a : Int) - 1 ↔ 0 < a; omega
theorem px_if_ltM {off : Int} {tgt : Nat} (hd : decode μ.2.1 pc = .ok (.ifCond .lt off, 3)) (ha : a < 2 ^ 30) (ht : (pc : Int) + off = (tgt : Int)) (hq : pc + 3 = q) (kt : a = 0 → pw_W l g μ sz Qf tgt ls st X Y) (kf : 0 < a → pw_W l g μ sz Qf q ls st X Y) : pw_W l g μ sz Qf pc ls (.int (mI a) :: st) X Y := px_if_lt hd ht hq (fun h => kt ((mI_lt ha).mp h)) (fun h => kf (Nat.pos_of_ne_zero (fun z => h ((mI_lt ha).mpr z))))
theorem px_if_geM {off : Int} {tgt : Nat} (hd : decode μ.2.1 pc = .ok (.ifCond .ge off, 3)) (ha : a < 2 ^ 30) (ht : (pc : Int) + off = (tgt : Int)) (hq : pc + 3 = q) (kt : 0 < a → pw_W l g μ sz Qf tgt ls st X Y) (kf : a = 0 → pw_W l g μ sz Qf q ls st X Y) : pw_W l g μ sz Qf pc ls (.int (mI a) :: st) X Y := px_if_ge hd ht hq (fun h => kt ((mI_ge ha).mp h)) (fun h => kf (Nat.eq_zero_of_not_pos (fun z => h ((mI_ge ha).mpr z))))
theorem px_if_ltC {off : Int} {tgt : Nat} (hd : decode μ.2.1 pc = .ok (.ifCond .lt off, 3)) (ha : a < 2 ^ 63) (hb : b < 2 ^ 63) (ht : (pc : Int) + off = (tgt : Int)) (hq : pc + 3 = q) (kt : a < b → pw_W l g μ sz Qf tgt ls st X Y) (kf : b ≤ a → pw_W l g μ sz Qf q ls st X Y) : pw_W l g μ sz Qf pc ls (.int (lg_cmp (lN a) (lN b)) :: st) X Y := px_if_lt hd ht hq (fun h => kt ((lc_lt ha hb).mp h)) (fun h => kf (Nat.le_of_not_lt (fun z => h ((lc_lt ha hb).mpr z))))
theorem px_if_geC {off : Int} {tgt : Nat} (hd : decode μ.2.1 pc = .ok (.ifCond .ge off, 3)) (ha : a < 2 ^ 63) (hb : b < 2 ^ 63) (ht : (pc : Int) + off = (tgt : Int)) (hq : pc + 3 = q) (kt : b ≤ a → pw_W l g μ sz Qf tgt ls st X Y) (kf : a < b → pw_W l g μ sz Qf q ls st X Y) : pw_W l g μ sz Qf pc ls (.int (lg_cmp (lN a) (lN b)) :: st) X Y := px_if_ge hd ht hq (fun h => kt ((lc_ge ha hb).mp h)) (fun h => kf (Nat.lt_of_not_le (fun z => h ((lc_ge ha hb).mpr z))))
theorem px_if_gtC {off : Int} {tgt : Nat} (hd : decode μ.2.1 pc = .ok (.ifCond .gt off, 3)) (ha : a < 2 ^ 63) (hb : b < 2 ^ 63) (ht : (pc : Int) + off = (tgt : Int)) (hq : pc + 3 = q) (kt : b < a → pw_W l g μ sz Qf tgt ls st X Y) (kf : a ≤ b → pw_W l g μ sz Qf q ls st X Y) : pw_W l g μ sz Qf pc ls (.int (lg_cmp (lN a) (lN b)) :: st) X Y := px_if_gt hd ht hq (fun h => kt ((lc_gt ha hb).mp h)) (fun h => kf (Nat.le_of_not_lt (fun z => h ((lc_gt ha hb).mpr z))))
theorem px_if_leC {off : Int} {tgt : Nat} (hd : decode μ.2.1 pc = .ok (.ifCond .le off, 3)) (ha : a < 2 ^ 63) (hb : b < 2 ^ 63) (ht : (pc : Int) + off = (tgt : Int)) (hq : pc + 3 = q) (kt : a ≤ b → pw_W l g μ sz Qf tgt ls st X Y) (kf : b < a → pw_W l g μ sz Qf q ls st X Y) : pw_W l g μ sz Qf pc ls (.int (lg_cmp (lN a) (lN b)) :: st) X Y := px_if_le hd ht hq (fun h => kt ((lc_le ha hb).mp h)) (fun h => kf (Nat.lt_of_not_le (fun z => h ((lc_le ha hb).mpr z))))
theorem px_if_eqC {off : Int} {tgt : Nat} (hd : decode μ.2.1 pc = .ok (.ifCond .eq off, 3)) (ha : a < 2 ^ 63) (hb : b < 2 ^ 63) (ht : (pc : Int) + off = (tgt : Int)) (hq : pc + 3 = q) (kt : a = b → pw_W l g μ sz Qf tgt ls st X Y) (kf : a ≠ b → pw_W l g μ sz Qf q ls st X Y) : pw_W l g μ sz Qf pc ls (.int (lg_cmp (lN a) (lN b)) :: st) X Y := px_if_eq hd ht hq (fun h => kt ((lc_eq ha hb).mp h)) (fun h => kf (fun z => h ((lc_eq ha hb).mpr z)))
theorem px_if_neC {off : Int} {tgt : Nat} (hd : decode μ.2.1 pc = .ok (.ifCond .ne off, 3)) (ha : a < 2 ^ 63) (hb : b < 2 ^ 63) (ht : (pc : Int) + off = (tgt : Int)) (hq : pc + 3 = q) (kt : a ≠ b → pw_W l g μ sz Qf tgt ls st X Y) (kf : a = b → pw_W l g μ sz Qf q ls st X Y) : pw_W l g μ sz Qf pc ls (.int (lg_cmp (lN a) (lN b)) :: st) X Y := px_if_ne hd ht hq (fun h => kt (fun z => h ((lc_eq ha hb).mpr z))) (fun h => kf ((lc_eq ha hb).mp h))
variable {ν : pw_M} {i : Nat}
theorem px_callV0 {o ci : Nat} {fs : List Value} {r : vw_C} (hd : decode μ.2.1 pc = .ok (.invokevirtual i, 3)) (hk : o < 28) (hce : ce_of g X Y o = .inr (ci, fs)) (hcl : clS[ci]? = some r) (hw : (.methodLink μ.2.2.2.2.1 i ν.1 : Cond) ∈ wG) (hs : (.instanceMethod ν.1 : Cond) ∈ wG) (hv : (.selects r.1 ν.1 ν.1 : Cond) ∈ wG) (hc : (.code ν.1 ν.2.1 ν.2.2.1 ν.2.2.2.1 : Cond) ∈ wG) (hi : (.initialized ν.1.cls : Cond) ∈ wG) (hz : ν.2.2.2.2.2.cells = 0 ∧ ν.2.2.2.2.2.slots = 0) (hn : ν.1.cls ≠ "java/lang/invoke/MethodHandle" ∧ ν.1.cls ≠ "java/lang/invoke/VarHandle" ∧ (parseMethodDescriptor ν.1.desc).map (fun d => d.parameters.length) = some 0) (hR : ν.2.2.2.2.2.frames + 1 ≤ μ.2.2.2.2.2.frames ∧ 8 + (ν.2.2.1 + 11) + ν.2.2.2.2.2.locals ≤ μ.2.2.2.2.2.locals) (hst : (st.map fun v => v.category).sum ≤ 8) (hq : pc + 3 = q) (hM : pw_Met l g ν (.ref (ad_ g o) :: []) X Y (fun o X' Y' => pw_W l g μ sz Qf q ls (rv_ o st) X' Y')) : pw_W l g μ sz Qf pc ls (.ref (ad_ g o) :: st) X Y := px_callV (As := []) hd hk hce hcl hw hs hv hc hi hz hn rfl hR hst hq hM
theorem px_callS1 {v1 : Value} (hd : decode μ.2.1 pc = .ok (.invokestatic i, 3)) (hw : (.methodLink μ.2.2.2.2.1 i ν.1 : Cond) ∈ wG) (hs : (.static ν.1 : Cond) ∈ wG) (hc : (.code ν.1 ν.2.1 ν.2.2.1 ν.2.2.2.1 : Cond) ∈ wG) (hi : (.initialized ν.1.cls : Cond) ∈ wG) (hz : ν.2.2.2.2.2.cells = 0 ∧ ν.2.2.2.2.2.slots = 0) (hn : ν.1.cls ≠ "java/lang/invoke/MethodHandle" ∧ ν.1.cls ≠ "java/lang/invoke/VarHandle" ∧ (parseMethodDescriptor ν.1.desc).map (fun d => d.parameters.length) = some 1) (hR : ν.2.2.2.2.2.frames + 1 ≤ μ.2.2.2.2.2.frames ∧ 8 + (ν.2.2.1 + 11) + ν.2.2.2.2.2.locals ≤ μ.2.2.2.2.2.locals) (hst : (st.map fun v => v.category).sum ≤ 8) (hq : pc + 3 = q) (hM : pw_Met l g ν [v1] X Y (fun o X' Y' => pw_W l g μ sz Qf q ls (rv_ o st) X' Y')) : pw_W l g μ sz Qf pc ls (v1 :: st) X Y := px_callS (As := [v1]) hd hw hs hc hi hz hn rfl hR hst hq hM
theorem px_callV1 {v1 : Value} {o ci : Nat} {fs : List Value} {r : vw_C} (hd : decode μ.2.1 pc = .ok (.invokevirtual i, 3)) (hk : o < 28) (hce : ce_of g X Y o = .inr (ci, fs)) (hcl : clS[ci]? = some r) (hw : (.methodLink μ.2.2.2.2.1 i ν.1 : Cond) ∈ wG) (hs : (.instanceMethod ν.1 : Cond) ∈ wG) (hv : (.selects r.1 ν.1 ν.1 : Cond) ∈ wG) (hc : (.code ν.1 ν.2.1 ν.2.2.1 ν.2.2.2.1 : Cond) ∈ wG) (hi : (.initialized ν.1.cls : Cond) ∈ wG) (hz : ν.2.2.2.2.2.cells = 0 ∧ ν.2.2.2.2.2.slots = 0) (hn : ν.1.cls ≠ "java/lang/invoke/MethodHandle" ∧ ν.1.cls ≠ "java/lang/invoke/VarHandle" ∧ (parseMethodDescriptor ν.1.desc).map (fun d => d.parameters.length) = some 1) (hR : ν.2.2.2.2.2.frames + 1 ≤ μ.2.2.2.2.2.frames ∧ 8 + (ν.2.2.1 + 11) + ν.2.2.2.2.2.locals ≤ μ.2.2.2.2.2.locals) (hst : (st.map fun v => v.category).sum ≤ 8) (hq : pc + 3 = q) (hM : pw_Met l g ν (.ref (ad_ g o) :: [v1]) X Y (fun o X' Y' => pw_W l g μ sz Qf q ls (rv_ o st) X' Y')) : pw_W l g μ sz Qf pc ls (v1 :: .ref (ad_ g o) :: st) X Y := px_callV (As := [v1]) hd hk hce hcl hw hs hv hc hi hz hn rfl hR hst hq hM
theorem px_callS2 {v1 v2 : Value} (hd : decode μ.2.1 pc = .ok (.invokestatic i, 3)) (hw : (.methodLink μ.2.2.2.2.1 i ν.1 : Cond) ∈ wG) (hs : (.static ν.1 : Cond) ∈ wG) (hc : (.code ν.1 ν.2.1 ν.2.2.1 ν.2.2.2.1 : Cond) ∈ wG) (hi : (.initialized ν.1.cls : Cond) ∈ wG) (hz : ν.2.2.2.2.2.cells = 0 ∧ ν.2.2.2.2.2.slots = 0) (hn : ν.1.cls ≠ "java/lang/invoke/MethodHandle" ∧ ν.1.cls ≠ "java/lang/invoke/VarHandle" ∧ (parseMethodDescriptor ν.1.desc).map (fun d => d.parameters.length) = some 2) (hR : ν.2.2.2.2.2.frames + 1 ≤ μ.2.2.2.2.2.frames ∧ 8 + (ν.2.2.1 + 11) + ν.2.2.2.2.2.locals ≤ μ.2.2.2.2.2.locals) (hst : (st.map fun v => v.category).sum ≤ 8) (hq : pc + 3 = q) (hM : pw_Met l g ν [v1, v2] X Y (fun o X' Y' => pw_W l g μ sz Qf q ls (rv_ o st) X' Y')) : pw_W l g μ sz Qf pc ls (v2 :: v1 :: st) X Y := px_callS (As := [v1, v2]) hd hw hs hc hi hz hn rfl hR hst hq hM
theorem px_callV2 {v1 v2 : Value} {o ci : Nat} {fs : List Value} {r : vw_C} (hd : decode μ.2.1 pc = .ok (.invokevirtual i, 3)) (hk : o < 28) (hce : ce_of g X Y o = .inr (ci, fs)) (hcl : clS[ci]? = some r) (hw : (.methodLink μ.2.2.2.2.1 i ν.1 : Cond) ∈ wG) (hs : (.instanceMethod ν.1 : Cond) ∈ wG) (hv : (.selects r.1 ν.1 ν.1 : Cond) ∈ wG) (hc : (.code ν.1 ν.2.1 ν.2.2.1 ν.2.2.2.1 : Cond) ∈ wG) (hi : (.initialized ν.1.cls : Cond) ∈ wG) (hz : ν.2.2.2.2.2.cells = 0 ∧ ν.2.2.2.2.2.slots = 0) (hn : ν.1.cls ≠ "java/lang/invoke/MethodHandle" ∧ ν.1.cls ≠ "java/lang/invoke/VarHandle" ∧ (parseMethodDescriptor ν.1.desc).map (fun d => d.parameters.length) = some 2) (hR : ν.2.2.2.2.2.frames + 1 ≤ μ.2.2.2.2.2.frames ∧ 8 + (ν.2.2.1 + 11) + ν.2.2.2.2.2.locals ≤ μ.2.2.2.2.2.locals) (hst : (st.map fun v => v.category).sum ≤ 8) (hq : pc + 3 = q) (hM : pw_Met l g ν (.ref (ad_ g o) :: [v1, v2]) X Y (fun o X' Y' => pw_W l g μ sz Qf q ls (rv_ o st) X' Y')) : pw_W l g μ sz Qf pc ls (v2 :: v1 :: .ref (ad_ g o) :: st) X Y := px_callV (As := [v1, v2]) hd hk hce hcl hw hs hv hc hi hz hn rfl hR hst hq hM
theorem px_callS3 {v1 v2 v3 : Value} (hd : decode μ.2.1 pc = .ok (.invokestatic i, 3)) (hw : (.methodLink μ.2.2.2.2.1 i ν.1 : Cond) ∈ wG) (hs : (.static ν.1 : Cond) ∈ wG) (hc : (.code ν.1 ν.2.1 ν.2.2.1 ν.2.2.2.1 : Cond) ∈ wG) (hi : (.initialized ν.1.cls : Cond) ∈ wG) (hz : ν.2.2.2.2.2.cells = 0 ∧ ν.2.2.2.2.2.slots = 0) (hn : ν.1.cls ≠ "java/lang/invoke/MethodHandle" ∧ ν.1.cls ≠ "java/lang/invoke/VarHandle" ∧ (parseMethodDescriptor ν.1.desc).map (fun d => d.parameters.length) = some 3) (hR : ν.2.2.2.2.2.frames + 1 ≤ μ.2.2.2.2.2.frames ∧ 8 + (ν.2.2.1 + 11) + ν.2.2.2.2.2.locals ≤ μ.2.2.2.2.2.locals) (hst : (st.map fun v => v.category).sum ≤ 8) (hq : pc + 3 = q) (hM : pw_Met l g ν [v1, v2, v3] X Y (fun o X' Y' => pw_W l g μ sz Qf q ls (rv_ o st) X' Y')) : pw_W l g μ sz Qf pc ls (v3 :: v2 :: v1 :: st) X Y := px_callS (As := [v1, v2, v3]) hd hw hs hc hi hz hn rfl hR hst hq hM
theorem px_callV3 {v1 v2 v3 : Value} {o ci : Nat} {fs : List Value} {r : vw_C} (hd : decode μ.2.1 pc = .ok (.invokevirtual i, 3)) (hk : o < 28) (hce : ce_of g X Y o = .inr (ci, fs)) (hcl : clS[ci]? = some r) (hw : (.methodLink μ.2.2.2.2.1 i ν.1 : Cond) ∈ wG) (hs : (.instanceMethod ν.1 : Cond) ∈ wG) (hv : (.selects r.1 ν.1 ν.1 : Cond) ∈ wG) (hc : (.code ν.1 ν.2.1 ν.2.2.1 ν.2.2.2.1 : Cond) ∈ wG) (hi : (.initialized ν.1.cls : Cond) ∈ wG) (hz : ν.2.2.2.2.2.cells = 0 ∧ ν.2.2.2.2.2.slots = 0) (hn : ν.1.cls ≠ "java/lang/invoke/MethodHandle" ∧ ν.1.cls ≠ "java/lang/invoke/VarHandle" ∧ (parseMethodDescriptor ν.1.desc).map (fun d => d.parameters.length) = some 3) (hR : ν.2.2.2.2.2.frames + 1 ≤ μ.2.2.2.2.2.frames ∧ 8 + (ν.2.2.1 + 11) + ν.2.2.2.2.2.locals ≤ μ.2.2.2.2.2.locals) (hst : (st.map fun v => v.category).sum ≤ 8) (hq : pc + 3 = q) (hM : pw_Met l g ν (.ref (ad_ g o) :: [v1, v2, v3]) X Y (fun o X' Y' => pw_W l g μ sz Qf q ls (rv_ o st) X' Y')) : pw_W l g μ sz Qf pc ls (v3 :: v2 :: v1 :: .ref (ad_ g o) :: st) X Y := px_callV (As := [v1, v2, v3]) hd hk hce hcl hw hs hv hc hi hz hn rfl hR hst hq hM
theorem px_callS4 {v1 v2 v3 v4 : Value} (hd : decode μ.2.1 pc = .ok (.invokestatic i, 3)) (hw : (.methodLink μ.2.2.2.2.1 i ν.1 : Cond) ∈ wG) (hs : (.static ν.1 : Cond) ∈ wG) (hc : (.code ν.1 ν.2.1 ν.2.2.1 ν.2.2.2.1 : Cond) ∈ wG) (hi : (.initialized ν.1.cls : Cond) ∈ wG) (hz : ν.2.2.2.2.2.cells = 0 ∧ ν.2.2.2.2.2.slots = 0) (hn : ν.1.cls ≠ "java/lang/invoke/MethodHandle" ∧ ν.1.cls ≠ "java/lang/invoke/VarHandle" ∧ (parseMethodDescriptor ν.1.desc).map (fun d => d.parameters.length) = some 4) (hR : ν.2.2.2.2.2.frames + 1 ≤ μ.2.2.2.2.2.frames ∧ 8 + (ν.2.2.1 + 11) + ν.2.2.2.2.2.locals ≤ μ.2.2.2.2.2.locals) (hst : (st.map fun v => v.category).sum ≤ 8) (hq : pc + 3 = q) (hM : pw_Met l g ν [v1, v2, v3, v4] X Y (fun o X' Y' => pw_W l g μ sz Qf q ls (rv_ o st) X' Y')) : pw_W l g μ sz Qf pc ls (v4 :: v3 :: v2 :: v1 :: st) X Y := px_callS (As := [v1, v2, v3, v4]) hd hw hs hc hi hz hn rfl hR hst hq hM
theorem px_callV4 {v1 v2 v3 v4 : Value} {o ci : Nat} {fs : List Value} {r : vw_C} (hd : decode μ.2.1 pc = .ok (.invokevirtual i, 3)) (hk : o < 28) (hce : ce_of g X Y o = .inr (ci, fs)) (hcl : clS[ci]? = some r) (hw : (.methodLink μ.2.2.2.2.1 i ν.1 : Cond) ∈ wG) (hs : (.instanceMethod ν.1 : Cond) ∈ wG) (hv : (.selects r.1 ν.1 ν.1 : Cond) ∈ wG) (hc : (.code ν.1 ν.2.1 ν.2.2.1 ν.2.2.2.1 : Cond) ∈ wG) (hi : (.initialized ν.1.cls : Cond) ∈ wG) (hz : ν.2.2.2.2.2.cells = 0 ∧ ν.2.2.2.2.2.slots = 0) (hn : ν.1.cls ≠ "java/lang/invoke/MethodHandle" ∧ ν.1.cls ≠ "java/lang/invoke/VarHandle" ∧ (parseMethodDescriptor ν.1.desc).map (fun d => d.parameters.length) = some 4) (hR : ν.2.2.2.2.2.frames + 1 ≤ μ.2.2.2.2.2.frames ∧ 8 + (ν.2.2.1 + 11) + ν.2.2.2.2.2.locals ≤ μ.2.2.2.2.2.locals) (hst : (st.map fun v => v.category).sum ≤ 8) (hq : pc + 3 = q) (hM : pw_Met l g ν (.ref (ad_ g o) :: [v1, v2, v3, v4]) X Y (fun o X' Y' => pw_W l g μ sz Qf q ls (rv_ o st) X' Y')) : pw_W l g μ sz Qf pc ls (v4 :: v3 :: v2 :: v1 :: .ref (ad_ g o) :: st) X Y := px_callV (As := [v1, v2, v3, v4]) hd hk hce hcl hw hs hv hc hi hz hn rfl hR hst hq hM
theorem px_callS5 {v1 v2 v3 v4 v5 : Value} (hd : decode μ.2.1 pc = .ok (.invokestatic i, 3)) (hw : (.methodLink μ.2.2.2.2.1 i ν.1 : Cond) ∈ wG) (hs : (.static ν.1 : Cond) ∈ wG) (hc : (.code ν.1 ν.2.1 ν.2.2.1 ν.2.2.2.1 : Cond) ∈ wG) (hi : (.initialized ν.1.cls : Cond) ∈ wG) (hz : ν.2.2.2.2.2.cells = 0 ∧ ν.2.2.2.2.2.slots = 0) (hn : ν.1.cls ≠ "java/lang/invoke/MethodHandle" ∧ ν.1.cls ≠ "java/lang/invoke/VarHandle" ∧ (parseMethodDescriptor ν.1.desc).map (fun d => d.parameters.length) = some 5) (hR : ν.2.2.2.2.2.frames + 1 ≤ μ.2.2.2.2.2.frames ∧ 8 + (ν.2.2.1 + 11) + ν.2.2.2.2.2.locals ≤ μ.2.2.2.2.2.locals) (hst : (st.map fun v => v.category).sum ≤ 8) (hq : pc + 3 = q) (hM : pw_Met l g ν [v1, v2, v3, v4, v5] X Y (fun o X' Y' => pw_W l g μ sz Qf q ls (rv_ o st) X' Y')) : pw_W l g μ sz Qf pc ls (v5 :: v4 :: v3 :: v2 :: v1 :: st) X Y := px_callS (As := [v1, v2, v3, v4, v5]) hd hw hs hc hi hz hn rfl hR hst hq hM
theorem px_callV5 {v1 v2 v3 v4 v5 : Value} {o ci : Nat} {fs : List Value} {r : vw_C} (hd : decode μ.2.1 pc = .ok (.invokevirtual i, 3)) (hk : o < 28) (hce : ce_of g X Y o = .inr (ci, fs)) (hcl : clS[ci]? = some r) (hw : (.methodLink μ.2.2.2.2.1 i ν.1 : Cond) ∈ wG) (hs : (.instanceMethod ν.1 : Cond) ∈ wG) (hv : (.selects r.1 ν.1 ν.1 : Cond) ∈ wG) (hc : (.code ν.1 ν.2.1 ν.2.2.1 ν.2.2.2.1 : Cond) ∈ wG) (hi : (.initialized ν.1.cls : Cond) ∈ wG) (hz : ν.2.2.2.2.2.cells = 0 ∧ ν.2.2.2.2.2.slots = 0) (hn : ν.1.cls ≠ "java/lang/invoke/MethodHandle" ∧ ν.1.cls ≠ "java/lang/invoke/VarHandle" ∧ (parseMethodDescriptor ν.1.desc).map (fun d => d.parameters.length) = some 5) (hR : ν.2.2.2.2.2.frames + 1 ≤ μ.2.2.2.2.2.frames ∧ 8 + (ν.2.2.1 + 11) + ν.2.2.2.2.2.locals ≤ μ.2.2.2.2.2.locals) (hst : (st.map fun v => v.category).sum ≤ 8) (hq : pc + 3 = q) (hM : pw_Met l g ν (.ref (ad_ g o) :: [v1, v2, v3, v4, v5]) X Y (fun o X' Y' => pw_W l g μ sz Qf q ls (rv_ o st) X' Y')) : pw_W l g μ sz Qf pc ls (v5 :: v4 :: v3 :: v2 :: v1 :: .ref (ad_ g o) :: st) X Y := px_callV (As := [v1, v2, v3, v4, v5]) hd hk hce hcl hw hs hv hc hi hz hn rfl hR hst hq hM
end PXN
def mA_fillI : pw_M := (yM_A_fillI, bC_A_fillI, 4, none, rC_A, { frames := 0, cells := 0, slots := 0, locals := 0 })
def mA_fillJ : pw_M := (yM_A_fillJ, bC_A_fillJ, 5, none, rC_A, { frames := 0, cells := 0, slots := 0, locals := 0 })
def tL_add : pw_M := (yM_L_add, bC_L_add, 5, (some .int), rC_L, { frames := 10, cells := 1, slots := 6, locals := 168 })
def mL_add : pw_M := (yM_L_add, bC_L_add, 5, (some .int), rC_L, { frames := 10, cells := 0, slots := 0, locals := 168 })
def tL_append : pw_M := (yM_L_append, bC_L_append, 4, (some .int), rC_L, { frames := 9, cells := 1, slots := 6, locals := 147 })
def mL_append : pw_M := (yM_L_append, bC_L_append, 4, (some .int), rC_L, { frames := 9, cells := 0, slots := 0, locals := 147 })
def tL_bits : pw_M := (yM_L_bits, bC_L_bits, 4, (some .int), rC_L, { frames := 9, cells := 1, slots := 6, locals := 144 })
def mL_bits : pw_M := (yM_L_bits, bC_L_bits, 4, (some .int), rC_L, { frames := 9, cells := 0, slots := 0, locals := 144 })
def tL_compare : pw_M := (yM_L_compare, bC_L_compare, 5, (some .int), rC_L, { frames := 9, cells := 1, slots := 6, locals := 145 })
def mL_compare : pw_M := (yM_L_compare, bC_L_compare, 5, (some .int), rC_L, { frames := 9, cells := 0, slots := 0, locals := 145 })
def tL_congruent : pw_M := (yM_L_congruent, bC_L_congruent, 6, (some .int), rC_L, { frames := 9, cells := 1, slots := 6, locals := 147 })
def mL_congruent : pw_M := (yM_L_congruent, bC_L_congruent, 6, (some .int), rC_L, { frames := 9, cells := 0, slots := 0, locals := 147 })
def tL_divide : pw_M := (yM_L_divide, bC_L_divide, 6, (some .int), rC_L, { frames := 10, cells := 1, slots := 6, locals := 169 })
def mL_divide : pw_M := (yM_L_divide, bC_L_divide, 6, (some .int), rC_L, { frames := 10, cells := 0, slots := 0, locals := 169 })
def tL_gcd : pw_M := (yM_L_gcd, bC_L_gcd, 5, (some .int), rC_L, { frames := 10, cells := 1, slots := 6, locals := 170 })
def mL_gcd : pw_M := (yM_L_gcd, bC_L_gcd, 5, (some .int), rC_L, { frames := 10, cells := 0, slots := 0, locals := 170 })
def tL_law : pw_M := (yM_L_law, bC_L_law, 8, (some .boolean), rC_L, { frames := 11, cells := 1, slots := 6, locals := 194 })
def mL_law : pw_M := (yM_L_law, bC_L_law, 8, (some .boolean), rC_L, { frames := 11, cells := 0, slots := 0, locals := 194 })
def tL_modulus : pw_M := (yM_L_modulus, bC_L_modulus, 4, (some .int), rC_L, { frames := 9, cells := 1, slots := 6, locals := 146 })
def mL_modulus : pw_M := (yM_L_modulus, bC_L_modulus, 4, (some .int), rC_L, { frames := 9, cells := 0, slots := 0, locals := 146 })
def tL_multiply : pw_M := (yM_L_multiply, bC_L_multiply, 5, (some .int), rC_L, { frames := 10, cells := 1, slots := 6, locals := 168 })
def mL_multiply : pw_M := (yM_L_multiply, bC_L_multiply, 5, (some .int), rC_L, { frames := 10, cells := 0, slots := 0, locals := 168 })
def tL_order : pw_M := (yM_L_order, bC_L_order, 5, (some .int), rC_L, { frames := 9, cells := 1, slots := 6, locals := 146 })
def mL_order : pw_M := (yM_L_order, bC_L_order, 5, (some .int), rC_L, { frames := 9, cells := 0, slots := 0, locals := 146 })
def tL_perfect : pw_M := (yM_L_perfect, bC_L_perfect, 4, (some .int), rC_L, { frames := 9, cells := 1, slots := 6, locals := 168 })
def mL_perfect : pw_M := (yM_L_perfect, bC_L_perfect, 4, (some .int), rC_L, { frames := 9, cells := 0, slots := 0, locals := 168 })
def tL_power : pw_M := (yM_L_power, bC_L_power, 6, (some .int), rC_L, { frames := 10, cells := 1, slots := 6, locals := 169 })
def mL_power : pw_M := (yM_L_power, bC_L_power, 6, (some .int), rC_L, { frames := 10, cells := 0, slots := 0, locals := 169 })
def tL_prime : pw_M := (yM_L_prime, bC_L_prime, 4, (some .int), rC_L, { frames := 9, cells := 1, slots := 6, locals := 145 })
def mL_prime : pw_M := (yM_L_prime, bC_L_prime, 4, (some .int), rC_L, { frames := 9, cells := 0, slots := 0, locals := 145 })
def tL_put : pw_M := (yM_L_put, bC_L_put, 5, (some .int), rC_L, { frames := 9, cells := 1, slots := 6, locals := 146 })
def mL_put : pw_M := (yM_L_put, bC_L_put, 5, (some .int), rC_L, { frames := 9, cells := 0, slots := 0, locals := 146 })
def tL_subtract : pw_M := (yM_L_subtract, bC_L_subtract, 5, (some .int), rC_L, { frames := 10, cells := 1, slots := 6, locals := 168 })
def mL_subtract : pw_M := (yM_L_subtract, bC_L_subtract, 5, (some .int), rC_L, { frames := 10, cells := 0, slots := 0, locals := 168 })
def tL_word : pw_M := (yM_L_word, bC_L_word, 5, (some .int), rC_L, { frames := 9, cells := 1, slots := 6, locals := 145 })
def mL_word : pw_M := (yM_L_word, bC_L_word, 5, (some .int), rC_L, { frames := 9, cells := 0, slots := 0, locals := 145 })
def mM_add : pw_M := (yM_M_add, bC_M_add, 5, none, rC_M, { frames := 1, cells := 0, slots := 0, locals := 25 })
def mM_against : pw_M := (yM_M_against, bC_M_against, 5, (some .int), rC_M, { frames := 0, cells := 0, slots := 0, locals := 0 })
def mM_apart : pw_M := (yM_M_apart, bC_M_apart, 4, (some .boolean), rC_M, { frames := 0, cells := 0, slots := 0, locals := 0 })
def mM_append : pw_M := (yM_M_append, bC_M_append, 5, none, rC_M, { frames := 1, cells := 0, slots := 0, locals := 22 })
def mM_bits : pw_M := (yM_M_bits, bC_M_bits, 2, (some .int), rC_M, { frames := 1, cells := 0, slots := 0, locals := 22 })
def mM_bitsOf : pw_M := (yM_M_bitsOf, bC_M_bitsOf, 3, (some .int), rC_M, { frames := 0, cells := 0, slots := 0, locals := 0 })
def mM_clear : pw_M := (yM_M_clear, bC_M_clear, 3, none, rC_M, { frames := 0, cells := 0, slots := 0, locals := 0 })
def mM_compare : pw_M := (yM_M_compare, bC_M_compare, 3, (some .int), rC_M, { frames := 1, cells := 0, slots := 0, locals := 24 })
def mM_congruent : pw_M := (yM_M_congruent, bC_M_congruent, 7, (some .boolean), rC_M, { frames := 1, cells := 0, slots := 0, locals := 25 })
def mM_copy : pw_M := (yM_M_copy, bC_M_copy, 4, none, rC_M, { frames := 0, cells := 0, slots := 0, locals := 0 })
def mM_divide : pw_M := (yM_M_divide, bC_M_divide, 5, none, rC_M, { frames := 2, cells := 0, slots := 0, locals := 50 })
def mM_gcd : pw_M := (yM_M_gcd, bC_M_gcd, 5, none, rC_M, { frames := 2, cells := 0, slots := 0, locals := 50 })
def mM_grow : pw_M := (yM_M_grow, bC_M_grow, 4, (some .boolean), rC_M, { frames := 1, cells := 0, slots := 0, locals := 25 })
def mM_init : pw_M := (yM_M_init, bC_M_init, 1, none, rC_M, { frames := 1, cells := 0, slots := 0, locals := 20 })
def mM_isLong : pw_M := (yM_M_isLong, bC_M_isLong, 2, (some .boolean), rC_M, { frames := 0, cells := 0, slots := 0, locals := 0 })
def mM_isPower : pw_M := (yM_M_isPower, bC_M_isPower, 4, (some .boolean), rC_M, { frames := 3, cells := 0, slots := 0, locals := 70 })
def mM_isZero : pw_M := (yM_M_isZero, bC_M_isZero, 4, (some .boolean), rC_M, { frames := 0, cells := 0, slots := 0, locals := 0 })
def mM_load : pw_M := (yM_M_load, bC_M_load, 4, none, rC_M, { frames := 0, cells := 0, slots := 0, locals := 0 })
def mM_minus : pw_M := (yM_M_minus, bC_M_minus, 6, none, rC_M, { frames := 0, cells := 0, slots := 0, locals := 0 })
def mM_modulus : pw_M := (yM_M_modulus, bC_M_modulus, 5, (some .int), rC_M, { frames := 1, cells := 0, slots := 0, locals := 24 })
def mM_multiply : pw_M := (yM_M_multiply, bC_M_multiply, 6, none, rC_M, { frames := 1, cells := 0, slots := 0, locals := 25 })
def mM_none : pw_M := (yM_M_none, bC_M_none, 1, (some .boolean), rC_M, { frames := 0, cells := 0, slots := 0, locals := 0 })
def mM_order : pw_M := (yM_M_order, bC_M_order, 4, (some .int), rC_M, { frames := 1, cells := 0, slots := 0, locals := 24 })
def mM_orderOf : pw_M := (yM_M_orderOf, bC_M_orderOf, 4, (some .int), rC_M, { frames := 0, cells := 0, slots := 0, locals := 0 })
def mM_perfect : pw_M := (yM_M_perfect, bC_M_perfect, 4, (some .int), rC_M, { frames := 4, cells := 0, slots := 0, locals := 93 })
def mM_plus : pw_M := (yM_M_plus, bC_M_plus, 6, (some .boolean), rC_M, { frames := 0, cells := 0, slots := 0, locals := 0 })
def mM_power : pw_M := (yM_M_power, bC_M_power, 6, none, rC_M, { frames := 2, cells := 0, slots := 0, locals := 50 })
def mM_powerAgainst : pw_M := (yM_M_powerAgainst, bC_M_powerAgainst, 3, (some .int), rC_M, { frames := 2, cells := 0, slots := 0, locals := 48 })
def mM_prime : pw_M := (yM_M_prime, bC_M_prime, 5, (some .boolean), rC_M, { frames := 1, cells := 0, slots := 0, locals := 24 })
def mM_put : pw_M := (yM_M_put, bC_M_put, 5, none, rC_M, { frames := 1, cells := 0, slots := 0, locals := 22 })
def mM_raise : pw_M := (yM_M_raise, bC_M_raise, 6, none, rC_M, { frames := 0, cells := 0, slots := 0, locals := 0 })
def mM_refused : pw_M := (yM_M_refused, bC_M_refused, 3, (some .boolean), rC_M, { frames := 0, cells := 0, slots := 0, locals := 0 })
def mM_small : pw_M := (yM_M_small, bC_M_small, 5, (some .int), rC_M, { frames := 0, cells := 0, slots := 0, locals := 0 })
def mM_split : pw_M := (yM_M_split, bC_M_split, 6, none, rC_M, { frames := 1, cells := 0, slots := 0, locals := 25 })
def mM_store : pw_M := (yM_M_store, bC_M_store, 4, none, rC_M, { frames := 0, cells := 0, slots := 0, locals := 0 })
def mM_subtract : pw_M := (yM_M_subtract, bC_M_subtract, 4, none, rC_M, { frames := 1, cells := 0, slots := 0, locals := 25 })
def mM_thrown : pw_M := (yM_M_thrown, bC_M_thrown, 1, (some .int), rC_M, { frames := 0, cells := 0, slots := 0, locals := 0 })
def mM_times : pw_M := (yM_M_times, bC_M_times, 5, none, rC_M, { frames := 1, cells := 0, slots := 0, locals := 25 })
def mM_top : pw_M := (yM_M_top, bC_M_top, 3, (some .int), rC_M, { frames := 0, cells := 0, slots := 0, locals := 0 })
def mM_twice : pw_M := (yM_M_twice, bC_M_twice, 5, (some .boolean), rC_M, { frames := 0, cells := 0, slots := 0, locals := 0 })
def mM_value : pw_M := (yM_M_value, bC_M_value, 5, (some .int), rC_M, { frames := 0, cells := 0, slots := 0, locals := 0 })
def mM_word : pw_M := (yM_M_word, bC_M_word, 6, (some .long), rC_M, { frames := 1, cells := 0, slots := 0, locals := 22 })
def mO_compareRaisedRoot : pw_M := (yM_O_compareRaisedRoot, bC_O_compareRaisedRoot, 4, (some .int), rC_O, { frames := 3, cells := 0, slots := 0, locals := 73 })
def mO_flipRootBit : pw_M := (yM_O_flipRootBit, bC_O_flipRootBit, 2, none, rC_O, { frames := 0, cells := 0, slots := 0, locals := 0 })
def mO_hasRoot : pw_M := (yM_O_hasRoot, bC_O_hasRoot, 6, (some .boolean), rC_O, { frames := 4, cells := 0, slots := 0, locals := 96 })
def mO_init : pw_M := (yM_O_init, bC_O_init, 1, none, rC_O, { frames := 1, cells := 0, slots := 0, locals := 20 })
def mO_leastExponent : pw_M := (yM_O_leastExponent, bC_O_leastExponent, 7, (some .int), rC_O, { frames := 5, cells := 0, slots := 0, locals := 121 })
def mO_multiplyRaised : pw_M := (yM_O_multiplyRaised, bC_O_multiplyRaised, 2, (some .boolean), rC_O, { frames := 2, cells := 0, slots := 0, locals := 52 })
def tP_add : pw_M := (yM_P_add, bC_P_add, 4, none, rC_P, { frames := 9, cells := 1, slots := 6, locals := 145 })
def mP_add : pw_M := (yM_P_add, bC_P_add, 4, none, rC_P, { frames := 9, cells := 0, slots := 0, locals := 145 })
def tP_append : pw_M := (yM_P_append, bC_P_append, 5, none, rC_P, { frames := 8, cells := 1, slots := 6, locals := 123 })
def mP_append : pw_M := (yM_P_append, bC_P_append, 5, none, rC_P, { frames := 8, cells := 0, slots := 0, locals := 123 })
def tP_bits : pw_M := (yM_P_bits, bC_P_bits, 2, (some .int), rC_P, { frames := 8, cells := 1, slots := 6, locals := 123 })
def mP_bits : pw_M := (yM_P_bits, bC_P_bits, 2, (some .int), rC_P, { frames := 8, cells := 0, slots := 0, locals := 123 })
def tP_checkRegister : pw_M := (yM_P_checkRegister, bC_P_checkRegister, 1, none, rC_P, { frames := 7, cells := 1, slots := 6, locals := 103 })
def mP_checkRegister : pw_M := (yM_P_checkRegister, bC_P_checkRegister, 1, none, rC_P, { frames := 7, cells := 0, slots := 0, locals := 103 })
def tP_checkRegisters : pw_M := (yM_P_checkRegisters, bC_P_checkRegisters, 3, none, rC_P, { frames := 8, cells := 1, slots := 6, locals := 123 })
def mP_checkRegisters : pw_M := (yM_P_checkRegisters, bC_P_checkRegisters, 3, none, rC_P, { frames := 8, cells := 0, slots := 0, locals := 123 })
def tP_compare : pw_M := (yM_P_compare, bC_P_compare, 3, (some .int), rC_P, { frames := 8, cells := 1, slots := 6, locals := 123 })
def mP_compare : pw_M := (yM_P_compare, bC_P_compare, 3, (some .int), rC_P, { frames := 8, cells := 0, slots := 0, locals := 123 })
def tP_congruent : pw_M := (yM_P_congruent, bC_P_congruent, 5, (some .boolean), rC_P, { frames := 8, cells := 1, slots := 6, locals := 123 })
def mP_congruent : pw_M := (yM_P_congruent, bC_P_congruent, 5, (some .boolean), rC_P, { frames := 8, cells := 0, slots := 0, locals := 123 })
def tP_divide : pw_M := (yM_P_divide, bC_P_divide, 5, none, rC_P, { frames := 9, cells := 1, slots := 6, locals := 145 })
def mP_divide : pw_M := (yM_P_divide, bC_P_divide, 5, none, rC_P, { frames := 9, cells := 0, slots := 0, locals := 145 })
def tP_gcd : pw_M := (yM_P_gcd, bC_P_gcd, 6, none, rC_P, { frames := 9, cells := 1, slots := 6, locals := 145 })
def mP_gcd : pw_M := (yM_P_gcd, bC_P_gcd, 6, none, rC_P, { frames := 9, cells := 0, slots := 0, locals := 145 })
def mP_init : pw_M := (yM_P_init, bC_P_init, 1, none, rC_P, { frames := 7, cells := 0, slots := 0, locals := 103 })
def tP_modulus : pw_M := (yM_P_modulus, bC_P_modulus, 4, (some .int), rC_P, { frames := 8, cells := 1, slots := 6, locals := 123 })
def mP_modulus : pw_M := (yM_P_modulus, bC_P_modulus, 4, (some .int), rC_P, { frames := 8, cells := 0, slots := 0, locals := 123 })
def tP_multiply : pw_M := (yM_P_multiply, bC_P_multiply, 4, none, rC_P, { frames := 9, cells := 1, slots := 6, locals := 145 })
def mP_multiply : pw_M := (yM_P_multiply, bC_P_multiply, 4, none, rC_P, { frames := 9, cells := 0, slots := 0, locals := 145 })
def mP_multiplyResult : pw_M := (yM_P_multiplyResult, bC_P_multiplyResult, 2, none, rC_P, { frames := 3, cells := 0, slots := 0, locals := 80 })
def tP_order : pw_M := (yM_P_order, bC_P_order, 4, (some .int), rC_P, { frames := 8, cells := 1, slots := 6, locals := 123 })
def mP_order : pw_M := (yM_P_order, bC_P_order, 4, (some .int), rC_P, { frames := 8, cells := 0, slots := 0, locals := 123 })
def tP_perfect : pw_M := (yM_P_perfect, bC_P_perfect, 2, (some .int), rC_P, { frames := 8, cells := 1, slots := 6, locals := 147 })
def mP_perfect : pw_M := (yM_P_perfect, bC_P_perfect, 2, (some .int), rC_P, { frames := 8, cells := 0, slots := 0, locals := 147 })
def tP_power : pw_M := (yM_P_power, bC_P_power, 5, none, rC_P, { frames := 9, cells := 1, slots := 6, locals := 145 })
def mP_power : pw_M := (yM_P_power, bC_P_power, 5, none, rC_P, { frames := 9, cells := 0, slots := 0, locals := 145 })
def tP_prime : pw_M := (yM_P_prime, bC_P_prime, 3, (some .boolean), rC_P, { frames := 8, cells := 1, slots := 6, locals := 123 })
def mP_prime : pw_M := (yM_P_prime, bC_P_prime, 3, (some .boolean), rC_P, { frames := 8, cells := 0, slots := 0, locals := 123 })
def tP_put : pw_M := (yM_P_put, bC_P_put, 4, none, rC_P, { frames := 8, cells := 1, slots := 6, locals := 123 })
def mP_put : pw_M := (yM_P_put, bC_P_put, 4, none, rC_P, { frames := 8, cells := 0, slots := 0, locals := 123 })
def mP_raiseToRemainder : pw_M := (yM_P_raiseToRemainder, bC_P_raiseToRemainder, 4, none, rC_P, { frames := 4, cells := 0, slots := 0, locals := 101 })
def tP_subtract : pw_M := (yM_P_subtract, bC_P_subtract, 4, none, rC_P, { frames := 9, cells := 1, slots := 6, locals := 145 })
def mP_subtract : pw_M := (yM_P_subtract, bC_P_subtract, 4, none, rC_P, { frames := 9, cells := 0, slots := 0, locals := 145 })
def tP_word : pw_M := (yM_P_word, bC_P_word, 3, (some .long), rC_P, { frames := 8, cells := 1, slots := 6, locals := 123 })
def mP_word : pw_M := (yM_P_word, bC_P_word, 3, (some .long), rC_P, { frames := 8, cells := 0, slots := 0, locals := 123 })
def mS_isPrime : pw_M := (yM_S_isPrime, bC_S_isPrime, 2, (some .boolean), rC_S, { frames := 0, cells := 0, slots := 0, locals := 0 })
def mS_leastModulus : pw_M := (yM_S_leastModulus, bC_S_leastModulus, 3, (some .int), rC_S, { frames := 1, cells := 0, slots := 0, locals := 23 })
def mS_orderOrZero : pw_M := (yM_S_orderOrZero, bC_S_orderOrZero, 4, (some .int), rC_S, { frames := 0, cells := 0, slots := 0, locals := 0 })
def mU_assign : pw_M := (yM_U_assign, bC_U_assign, 3, none, rC_U, { frames := 1, cells := 0, slots := 0, locals := 24 })
def mU_bitLength : pw_M := (yM_U_bitLength, bC_U_bitLength, 2, (some .int), rC_U, { frames := 1, cells := 0, slots := 0, locals := 22 })
def mU_bitsOfWord : pw_M := (yM_U_bitsOfWord, bC_U_bitsOfWord, 3, (some .int), rC_U, { frames := 0, cells := 0, slots := 0, locals := 0 })
def mU_comparison : pw_M := (yM_U_comparison, bC_U_comparison, 3, (some .int), rC_U, { frames := 0, cells := 0, slots := 0, locals := 0 })
def mU_copy : pw_M := (yM_U_copy, bC_U_copy, 2, none, rC_U, { frames := 1, cells := 0, slots := 0, locals := 26 })
def mU_difference : pw_M := (yM_U_difference, bC_U_difference, 8, (some .long), rC_U, { frames := 0, cells := 0, slots := 0, locals := 0 })
def mU_hasBit : pw_M := (yM_U_hasBit, bC_U_hasBit, 2, (some .boolean), rC_U, { frames := 0, cells := 0, slots := 0, locals := 0 })
def mU_isZero : pw_M := (yM_U_isZero, bC_U_isZero, 1, (some .boolean), rC_U, { frames := 1, cells := 0, slots := 0, locals := 21 })
def mU_length : pw_M := (yM_U_length, bC_U_length, 2, (some .int), rC_U, { frames := 0, cells := 0, slots := 0, locals := 0 })
def mU_product : pw_M := (yM_U_product, bC_U_product, 9, none, rC_U, { frames := 1, cells := 0, slots := 0, locals := 24 })
def mU_remainderBy : pw_M := (yM_U_remainderBy, bC_U_remainderBy, 5, (some .int), rC_U, { frames := 0, cells := 0, slots := 0, locals := 0 })
def mU_sum : pw_M := (yM_U_sum, bC_U_sum, 8, (some .long), rC_U, { frames := 0, cells := 0, slots := 0, locals := 0 })
def mU_valueUpTo : pw_M := (yM_U_valueUpTo, bC_U_valueUpTo, 2, (some .int), rC_U, { frames := 1, cells := 0, slots := 0, locals := 21 })
def mV_copyQuotient : pw_M := (yM_V_copyQuotient, bC_V_copyQuotient, 2, none, rC_V, { frames := 2, cells := 0, slots := 0, locals := 47 })
def mV_copyRemainder : pw_M := (yM_V_copyRemainder, bC_V_copyRemainder, 3, none, rC_V, { frames := 1, cells := 0, slots := 0, locals := 24 })
def mV_giveBack : pw_M := (yM_V_giveBack, bC_V_giveBack, 7, (some .boolean), rC_V, { frames := 0, cells := 0, slots := 0, locals := 0 })
def mV_guessDigit : pw_M := (yM_V_guessDigit, bC_V_guessDigit, 10, (some .long), rC_V, { frames := 0, cells := 0, slots := 0, locals := 0 })
def mV_init : pw_M := (yM_V_init, bC_V_init, 1, none, rC_V, { frames := 1, cells := 0, slots := 0, locals := 20 })
def mV_nextDigit : pw_M := (yM_V_nextDigit, bC_V_nextDigit, 6, (some .long), rC_V, { frames := 1, cells := 0, slots := 0, locals := 32 })
def mV_run : pw_M := (yM_V_run, bC_V_run, 4, none, rC_V, { frames := 2, cells := 0, slots := 0, locals := 57 })
def mV_setDivisor : pw_M := (yM_V_setDivisor, bC_V_setDivisor, 2, none, rC_V, { frames := 1, cells := 0, slots := 0, locals := 26 })
def mV_shiftUp : pw_M := (yM_V_shiftUp, bC_V_shiftUp, 7, (some .long), rC_V, { frames := 0, cells := 0, slots := 0, locals := 0 })
def mV_takeAway : pw_M := (yM_V_takeAway, bC_V_takeAway, 13, (some .boolean), rC_V, { frames := 0, cells := 0, slots := 0, locals := 0 })
def mY_init : pw_M := (yM_Y_init, bC_Y_init, 1, none, rC_Y, { frames := 1, cells := 0, slots := 0, locals := 20 })
def mY_isCongruent : pw_M := (yM_Y_isCongruent, bC_Y_isCongruent, 5, (some .boolean), rC_Y, { frames := 3, cells := 0, slots := 0, locals := 73 })
def mY_multiplyByBinomial : pw_M := (yM_Y_multiplyByBinomial, bC_Y_multiplyByBinomial, 6, none, rC_Y, { frames := 0, cells := 0, slots := 0, locals := 0 })
def mY_raiseBinomial : pw_M := (yM_Y_raiseBinomial, bC_Y_raiseBinomial, 5, none, rC_Y, { frames := 2, cells := 0, slots := 0, locals := 49 })
def mY_squareBy : pw_M := (yM_Y_squareBy, bC_Y_squareBy, 4, none, rC_Y, { frames := 1, cells := 0, slots := 0, locals := 26 })
def mY_squareCoefficient : pw_M := (yM_Y_squareCoefficient, bC_Y_squareCoefficient, 6, (some .int), rC_Y, { frames := 0, cells := 0, slots := 0, locals := 0 })
