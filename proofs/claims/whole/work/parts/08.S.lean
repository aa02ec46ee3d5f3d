/-! SmallNumbers: contracts -/
section CS
variable {l : Launch} {g : pw_G} {X : pw_X} {Y : pw_Y} {Post : pw_P}
/-- the order of n by m by its search: the least k, 1 .. m - 1, with n^k = 1 by m; 0 if none -/
def od_ (n m k : Nat) : Prop := (1 ≤ k ∧ k < m ∧ n ^ k % m = 1 ∧ ∀ j, 1 ≤ j → j < k → n ^ j % m ≠ 1) ∨ (k = 0 ∧ ∀ j, 1 ≤ j → j < m → n ^ j % m ≠ 1)
theorem od_uniq {n m k k' : Nat} (h : od_ n m k) (h' : od_ n m k') : k = k' := by
  rcases h with ⟨a, b, c, d⟩ | ⟨a, b⟩ <;> rcases h' with ⟨a', b', c', d'⟩ | ⟨a', b'⟩
  · rcases Nat.lt_trichotomy k k' with q | q | q
    · exact absurd c (d' k a q)
    · exact q
    · exact absurd c' (d k' a' q)
  · exact absurd c (b' k a b)
  · exact absurd c' (b k' a' b')
  · rw [a, a']
theorem c_S_orderOrZero {n m : Nat} (h2 : 2 ≤ m) (hm : m ≤ 1000) (hn : n < m) (hp : ∀ k, k < m → od_ n m k → Post (some (.int (nI k))) X Y) : pw_Met l g mS_orderOrZero [.int (nI n), .int (nI m)] X Y Post := by
  refine pw_ofW (by decide +kernel) rfl (Nat.le_of_ble_eq_true rfl) rfl (fun sz => ?_)
  refine px_iload_n (q := 1) dI_S_orderOrZero_0 rfl rfl ?_
  refine px_istore_n (q := 2) dI_S_orderOrZero_1 rfl (by decide) rfl rfl ?_
  refine px_iconst (q := 3) (v := nI 1) dI_S_orderOrZero_2 (by decide +kernel) rfl ?_
  refine px_istore_n (q := 4) dI_S_orderOrZero_3 rfl (by decide) rfl rfl ?_
  have key : ∀ (c k p : Nat), k + c = m → 1 ≤ k → p = n ^ k % m → (∀ j, 1 ≤ j → j < k → n ^ j % m ≠ 1) → pw_W l g mS_orderOrZero sz (pw_qM g sz Post 0 0) 4 [(0, .int (nI n)), (1, .int (nI m)), (2, .int (nI p)), (3, .int (nI k))] [] X Y := by
    intro c
    induction c with
    | zero =>
      intro k p hk h1 hpw hj
      refine px_iload_n (q := 5) dI_S_orderOrZero_4 rfl rfl ?_
      refine px_iload_n (q := 6) dI_S_orderOrZero_5 rfl rfl ?_
      refine px_icmp_geN (q := 9) (tgt := 28) dI_S_orderOrZero_6 (by omega) (by omega) (by decide) rfl (fun b6 => ?_) (fun b6 => ?_)
      · refine px_iconst (q := 29) (v := nI 0) dI_S_orderOrZero_28 (by decide +kernel) rfl ?_
        refine px_iret dI_S_orderOrZero_29 rfl ?_
        exact hp 0 (by omega) (Or.inr ⟨rfl, fun j a b => hj j a (by omega)⟩)
      · omega
    | succ c ih =>
      intro k p hk h1 hpw hj
      have hpm : p < m := by rw [hpw]; exact Nat.mod_lt _ (by omega)
      refine px_iload_n (q := 5) dI_S_orderOrZero_4 rfl rfl ?_
      refine px_iload_n (q := 6) dI_S_orderOrZero_5 rfl rfl ?_
      refine px_icmp_geN (q := 9) (tgt := 28) dI_S_orderOrZero_6 (by omega) (by omega) (by decide) rfl (fun b6 => ?_) (fun b6 => ?_)
      · omega
      · refine px_iload_n (q := 10) dI_S_orderOrZero_9 rfl rfl ?_
        refine px_iconst (q := 11) (v := nI 1) dI_S_orderOrZero_10 (by decide +kernel) rfl ?_
        refine px_icmp_neN (q := 14) (tgt := 16) dI_S_orderOrZero_11 (by omega) (by omega) (by decide) rfl (fun b11 => ?_) (fun b11 => ?_)
        · have hmul : p * n ≤ 1000 * 1000 := Nat.mul_le_mul (by omega) (by omega)
          refine px_iload_n (q := 17) dI_S_orderOrZero_16 rfl rfl ?_
          refine px_iload_n (q := 18) dI_S_orderOrZero_17 rfl rfl ?_
          refine px_imulN (q := 19) dI_S_orderOrZero_18 rfl ?_
          refine px_iload_n (q := 20) dI_S_orderOrZero_19 rfl rfl ?_
          refine px_iremN (q := 21) dI_S_orderOrZero_20 (by omega) (by omega) (by omega) rfl ?_
          refine px_istore_n (q := 22) dI_S_orderOrZero_21 rfl (by decide) rfl rfl ?_
          refine px_iinc (q := 25) dI_S_orderOrZero_22 rfl (ic_1 _) (by decide) rfl rfl ?_
          refine px_goto (tgt := 4) dI_S_orderOrZero_25 (by decide) ?_
          refine ih (k + 1) _ (by omega) (by omega) ?_ (fun j a b => ?_)
          · rw [hpw, Nat.pow_succ, Nat.mod_mul_mod]
          · by_cases e : j = k
            · rw [e, ← hpw]; exact b11
            · exact hj j a (by omega)
        · refine px_iload_n (q := 15) dI_S_orderOrZero_14 rfl rfl ?_
          refine px_iret dI_S_orderOrZero_15 rfl ?_
          exact hp k (by omega) (Or.inl ⟨h1, by omega, by rw [← hpw]; exact b11, hj⟩)
  exact key (m - 1) 1 n (by omega) (by omega) (by rw [Nat.pow_one, Nat.mod_eq_of_lt hn]) (fun j a b => absurd a (by omega))
theorem c_S_leastModulus {n t : Nat} (hn : n < 512) (ht : t < 1000) (hp : ∀ m k, 2 ≤ m → m < 1000 → od_ (n % m) m k → t < k → (∀ m', 2 ≤ m' → m' < m → ∀ k', od_ (n % m') m' k' → k' ≤ t) → Post (some (.int (nI m))) X Y) (h0 : (∀ m', 2 ≤ m' → m' < 1000 → ∃ k', od_ (n % m') m' k' ∧ k' ≤ t) → Post (some (.int (nI 0))) X Y) : pw_Met l g mS_leastModulus [.int (nI n), .int (nI t)] X Y Post := by
  refine pw_ofW (by decide +kernel) rfl (Nat.le_of_ble_eq_true rfl) rfl (fun sz => ?_)
  refine px_iconst (q := 1) (v := nI 2) dI_S_leastModulus_0 (by decide +kernel) rfl ?_
  refine px_istore_n (q := 2) dI_S_leastModulus_1 rfl (by decide) rfl rfl ?_
  have key : ∀ (c m : Nat), m + c = 1000 → 2 ≤ m → (∀ m', 2 ≤ m' → m' < m → ∃ k', od_ (n % m') m' k' ∧ k' ≤ t) → pw_W l g mS_leastModulus sz (pw_qM g sz Post 0 0) 2 [(0, .int (nI n)), (1, .int (nI t)), (2, .int (nI m))] [] X Y := by
    intro c
    induction c with
    | zero =>
      intro m hm h2 hj
      refine px_iload_n (q := 3) dI_S_leastModulus_2 rfl rfl ?_
      refine px_sipush (q := 6) (v := nI 1000) dI_S_leastModulus_3 (by decide +kernel) rfl ?_
      refine px_icmp_geN (q := 9) (tgt := 28) dI_S_leastModulus_6 (by omega) (by omega) (by decide) rfl (fun b6 => ?_) (fun b6 => ?_)
      · refine px_iconst (q := 29) (v := nI 0) dI_S_leastModulus_28 (by decide +kernel) rfl ?_
        refine px_iret dI_S_leastModulus_29 rfl ?_
        exact h0 (fun m' a b => hj m' a (by omega))
      · omega
    | succ c ih =>
      intro m hm h2 hj
      have hmod : n % m < m := Nat.mod_lt _ (by omega)
      refine px_iload_n (q := 3) dI_S_leastModulus_2 rfl rfl ?_
      refine px_sipush (q := 6) (v := nI 1000) dI_S_leastModulus_3 (by decide +kernel) rfl ?_
      refine px_icmp_geN (q := 9) (tgt := 28) dI_S_leastModulus_6 (by omega) (by omega) (by decide) rfl (fun b6 => ?_) (fun b6 => ?_)
      · omega
      · refine px_iload_n (q := 10) dI_S_leastModulus_9 rfl rfl ?_
        refine px_iload_n (q := 11) dI_S_leastModulus_10 rfl rfl ?_
        refine px_iremN (q := 12) dI_S_leastModulus_11 (by omega) (by omega) (by omega) rfl ?_
        refine px_iload_n (q := 13) dI_S_leastModulus_12 rfl rfl ?_
        refine px_callS2 (q := 16) (ν := mS_orderOrZero) dI_S_leastModulus_13 wl_S_9 ws_S_orderOrZero wb_S_orderOrZero wi_S ⟨rfl, rfl⟩ (by decide +kernel) ⟨(Nat.le_of_ble_eq_true rfl), (Nat.le_of_ble_eq_true rfl)⟩ (Nat.le_of_ble_eq_true rfl) rfl (c_S_orderOrZero h2 (by omega) hmod (fun k hk hod => ?_))
        refine px_iload_n (q := 17) dI_S_leastModulus_16 rfl rfl ?_
        refine px_icmp_leN (q := 20) (tgt := 22) dI_S_leastModulus_17 (by omega) (by omega) (by decide) rfl (fun b17 => ?_) (fun b17 => ?_)
        · refine px_iinc (q := 25) dI_S_leastModulus_22 rfl (ic_1 _) (by decide) rfl rfl ?_
          refine px_goto (tgt := 2) dI_S_leastModulus_25 (by decide) ?_
          refine ih (m + 1) (by omega) (by omega) (fun m' a b => ?_)
          by_cases e : m' = m
          · subst e; exact ⟨k, hod, b17⟩
          · exact hj m' a (by omega)
        · refine px_iload_n (q := 21) dI_S_leastModulus_20 rfl rfl ?_
          refine px_iret dI_S_leastModulus_21 rfl ?_
          refine hp m k h2 (by omega) hod b17 (fun m' a b k' hk' => ?_)
          obtain ⟨k2, q1, q2⟩ := hj m' a b
          rw [od_uniq hk' q1]
          exact q2
  exact key 998 2 rfl (by omega) (fun m' a b => absurd a (by omega))
theorem c_S_isPrime {n : Nat} (hn : n < 512) (h1 : 2 ≤ n → (∀ d, 2 ≤ d → d * d ≤ n → n % d ≠ 0) → Post (some (.int (nI 1))) X Y) (h0 : (n < 2 ∨ ∃ d, 2 ≤ d ∧ d * d ≤ n ∧ n % d = 0) → Post (some (.int (nI 0))) X Y) : pw_Met l g mS_isPrime [.int (nI n)] X Y Post := by
  refine pw_ofW (by decide +kernel) rfl (Nat.le_of_ble_eq_true rfl) rfl (fun sz => ?_)
  refine px_iconst (q := 1) (v := nI 2) dI_S_isPrime_0 (by decide +kernel) rfl ?_
  refine px_istore_n (q := 2) dI_S_isPrime_1 rfl (by decide) rfl rfl ?_
  have key : ∀ (c d : Nat), d + c = 600 → 2 ≤ d → (d = 2 ∨ (d - 1) * (d - 1) ≤ n) → (∀ j, 2 ≤ j → j < d → n % j ≠ 0) → pw_W l g mS_isPrime sz (pw_qM g sz Post 0 0) 2 [(0, .int (nI n)), (1, .int (nI d))] [] X Y := by
    intro c
    induction c with
    | zero =>
      intro d hd h2 hle hj
      exfalso
      obtain rfl : d = 600 := by omega
      omega
    | succ c ih =>
      intro d hd h2 hle hj
      have hdd : d * d ≤ 600 * 600 := Nat.mul_le_mul (by omega) (by omega)
      refine px_iload_n (q := 3) dI_S_isPrime_2 rfl rfl ?_
      refine px_iload_n (q := 4) dI_S_isPrime_3 rfl rfl ?_
      refine px_imulN (q := 5) dI_S_isPrime_4 rfl ?_
      refine px_iload_n (q := 6) dI_S_isPrime_5 rfl rfl ?_
      refine px_icmp_gtN (q := 9) (tgt := 23) dI_S_isPrime_6 (by omega) (by omega) (by decide) rfl (fun b6 => ?_) (fun b6 => ?_)
      · refine px_iload_n (q := 24) dI_S_isPrime_23 rfl rfl ?_
        refine px_iconst (q := 25) (v := nI 2) dI_S_isPrime_24 (by decide +kernel) rfl ?_
        refine px_icmp_ltN (q := 28) (tgt := 32) dI_S_isPrime_25 (by omega) (by omega) (by decide) rfl (fun b25 => ?_) (fun b25 => ?_)
        · refine px_iconst (q := 33) (v := nI 0) dI_S_isPrime_32 (by decide +kernel) rfl ?_
          refine px_zret dI_S_isPrime_33 rfl (by decide +kernel) ?_
          exact h0 (Or.inl b25)
        · refine px_iconst (q := 29) (v := nI 1) dI_S_isPrime_28 (by decide +kernel) rfl ?_
          refine px_goto (tgt := 33) dI_S_isPrime_29 (by decide) ?_
          refine px_zret dI_S_isPrime_33 rfl (by decide +kernel) ?_
          refine h1 b25 (fun j a b => hj j a (Nat.lt_of_not_le (fun q => ?_)))
          have := Nat.mul_le_mul q q
          omega
      · have hmd : n % d < d := Nat.mod_lt _ (by omega)
        refine px_iload_n (q := 10) dI_S_isPrime_9 rfl rfl ?_
        refine px_iload_n (q := 11) dI_S_isPrime_10 rfl rfl ?_
        refine px_iremN (q := 12) dI_S_isPrime_11 (by omega) (by omega) (by omega) rfl ?_
        refine px_if_neN (q := 15) (tgt := 17) dI_S_isPrime_12 (by omega) (by decide) rfl (fun b12 => ?_) (fun b12 => ?_)
        · refine px_iinc (q := 20) dI_S_isPrime_17 rfl (ic_1 _) (by decide) rfl rfl ?_
          refine px_goto (tgt := 2) dI_S_isPrime_20 (by decide) ?_
          refine ih (d + 1) (by omega) (by omega) (Or.inr ?_) (fun j a b => ?_)
          · show d * d ≤ n; exact b6
          · by_cases e : j = d
            · rw [e]; exact b12
            · exact hj j a (by omega)
        · refine px_iconst (q := 16) (v := nI 0) dI_S_isPrime_15 (by decide +kernel) rfl ?_
          refine px_zret dI_S_isPrime_16 rfl (by decide +kernel) ?_
          exact h0 (Or.inr ⟨d, h2, b6, b12⟩)
  exact key 598 2 rfl (by omega) (Or.inl rfl) (fun j a b => absurd a (by omega))
end CS
