/-! the law's loop -/
section LP
variable {l : Launch} {g : pw_G} {sz L : Nat} {xs : Nat → Int32} {F : List Frame → Array Value → State → State → Prop}
theorem an15 (x : Int32) : ∃ n, n < 16 ∧ x &&& nI 15 = nI n := by
  obtain ⟨k, hk, rfl⟩ := wb_of32 x
  exact ⟨k % 2 ^ 4, Nat.mod_lt _ (by decide), pk_andN (m := nI 15) hk 4 (by decide)⟩
theorem lw_loop (hX : xX_ g L xs) (hL : L ≤ 2560) (hE : xE_ g) (hT : xT_ g) (hC4 : xC_ g) (hS0 : l.stackTraces = false)
    (hF : ∀ (C S : Nat) (ls : List (Nat × Value)) (X : pw_X) (Y : pw_Y), C ≤ room_1.cells → S ≤ room_1.slots → pw_W l g μL_ sz (C, S, F) 1155 ls [] X Y) :
    ∀ (d i C S : Nat) (X : pw_X) (Y : pw_Y) (v : Nat → Nat), L ≤ i + 5 * d → i ≤ 2600 → C + d ≤ room_1.cells → S + 6 * d ≤ room_1.slots → dk_ X v → mz_ Y v → pw_W l g μL_ sz (C, S, F) 23 [(0, .ref (ad_ g 29)), (1, .ref (ad_ g 0)), (2, .ref (ad_ g 23)), (3, .ref (ad_ g 27)), (4, .int (nI i))] [] X Y := by
  intro d
  have tI : ∀ i, i ≤ 2600 → (nI L - nI 5 < nI i ↔ L < i + 5) := by
    intro i hi
    rw [Int32.lt_iff_toInt_lt, pk_sub_toInt (a := L) (b := 5) (by omega) (by omega), nI_toInt (by omega)]
    omega
  induction d with
  | zero =>
    intro i C S X Y v hd hi hc hs hdk hm
    refine px_iload (q := 25) dI_L_law_23 rfl rfl ?_
    refine px_aload_n (q := 26) dI_L_law_25 rfl rfl ?_
    refine px_lenX (q := 27) hX dI_L_law_26 rfl ?_
    refine px_iconst (q := 28) (v := nI 5) dI_L_law_27 (by decide +kernel) rfl ?_
    refine px_isub (q := 29) dI_L_law_28 rfl ?_
    refine px_icmp_gt (q := 32) (tgt := 1155) dI_L_law_29 (by decide) rfl (fun b29 => ?_) (fun b29 => ?_)
    · exact hF C S _ X Y (by omega) (by omega)
    · exact absurd ((tI i hi).mpr (by omega)) b29
  | succ d ih =>
    intro i C S X Y v hd hi hc hs hdk hm
    refine px_iload (q := 25) dI_L_law_23 rfl rfl ?_
    refine px_aload_n (q := 26) dI_L_law_25 rfl rfl ?_
    refine px_lenX (q := 27) hX dI_L_law_26 rfl ?_
    refine px_iconst (q := 28) (v := nI 5) dI_L_law_27 (by decide +kernel) rfl ?_
    refine px_isub (q := 29) dI_L_law_28 rfl ?_
    refine px_icmp_gt (q := 32) (tgt := 1155) dI_L_law_29 (by decide) rfl (fun b29 => ?_) (fun b29 => ?_)
    · exact hF C S _ X Y (by omega) (by omega)
    · have hi4 : i + 4 < L := by
        refine Nat.lt_of_not_le (fun q => b29 ((tI i hi).mpr (by omega)))
      have e0 : xs i = xs i := rfl
      refine px_aload_n (q := 33) dI_L_law_32 rfl rfl ?_
      refine px_iload (q := 35) dI_L_law_33 rfl rfl ?_
      refine px_ldX (q := 36) hX hL dI_L_law_35 (by omega) e0 rfl ?_
      refine px_bipush (q := 38) (v := nI 15) dI_L_law_36 (by decide +kernel) rfl ?_
      refine px_iand (q := 39) dI_L_law_38 rfl ?_
      obtain ⟨n, hn, en⟩ := an15 (xs i)
      refine px_ti en ?_
      have kx : ∀ X' Y' v', dk_ X' v' → mz_ Y' v' → pw_W l g μL_ sz (C + 1, S + 6, F) 1149 [(0, .ref (ad_ g 29)), (1, .ref (ad_ g 0)), (2, .ref (ad_ g 23)), (3, .ref (ad_ g 27)), (4, .int (nI i))] [] X' Y' := by
        intro X' Y' v' d1 m1
        refine px_iinc (q := 1152) dI_L_law_1149 rfl (ic_5 _) (by decide) rfl rfl ?_
        refine px_goto (tgt := 23) dI_L_law_1152 (by decide) ?_
        exact ih (i + 5) (C + 1) (S + 6) X' Y' v' (by omega) (by omega) (by omega) (by omega) d1 m1
      have hcz : C + 1 ≤ room_1.cells ∧ S + 6 ≤ room_1.slots := ⟨by omega, by omega⟩
      rcases (show n = 0 ∨ n = 1 ∨ n = 2 ∨ n = 3 ∨ n = 4 ∨ n = 5 ∨ n = 6 ∨ n = 7 ∨ n = 8 ∨ n = 9 ∨ n = 10 ∨ n = 11 ∨ n = 12 ∨ n = 13 ∨ n = 14 ∨ n = 15 by omega) with rfl | rfl | rfl | rfl | rfl | rfl | rfl | rfl | rfl | rfl | rfl | rfl | rfl | rfl | rfl | rfl
      · exact px_table (tgt := 116) dI_L_law_39 (by decide) (by decide) (off := 77) (by decide) (by decide) (ls_put hX hL hE hT hC4 hS0 hi4 rfl rfl rfl rfl hcz hdk hm kx)
      · exact px_table (tgt := 196) dI_L_law_39 (by decide) (by decide) (off := 157) (by decide) (by decide) (ls_append hX hL hE hT hC4 hS0 hi4 rfl rfl rfl rfl hcz hdk hm kx)
      · exact px_table (tgt := 244) dI_L_law_39 (by decide) (by decide) (off := 205) (by decide) (by decide) (ls_add hX hL hE hT hC4 hS0 hi4 rfl rfl rfl rfl hcz hdk hm kx)
      · exact px_table (tgt := 304) dI_L_law_39 (by decide) (by decide) (off := 265) (by decide) (by decide) (ls_subtract hX hL hE hT hC4 hS0 hi4 rfl rfl rfl rfl hcz hdk hm kx)
      · exact px_table (tgt := 364) dI_L_law_39 (by decide) (by decide) (off := 325) (by decide) (by decide) (ls_multiply hX hL hE hT hC4 hS0 hi4 rfl rfl rfl rfl hcz hdk hm kx)
      · exact px_table (tgt := 424) dI_L_law_39 (by decide) (by decide) (off := 385) (by decide) (by decide) (ls_divide hX hL hE hT hC4 hS0 hi4 rfl rfl rfl rfl hcz hdk hm kx)
      · exact px_table (tgt := 496) dI_L_law_39 (by decide) (by decide) (off := 457) (by decide) (by decide) (ls_power hX hL hE hT hC4 hS0 hi4 rfl rfl rfl rfl hcz hdk hm kx)
      · exact px_table (tgt := 568) dI_L_law_39 (by decide) (by decide) (off := 529) (by decide) (by decide) (ls_gcd hX hL hE hT hC4 hS0 hi4 rfl rfl rfl rfl hcz hdk hm kx)
      · exact px_table (tgt := 628) dI_L_law_39 (by decide) (by decide) (off := 589) (by decide) (by decide) (ls_compare hX hL hE hT hC4 hS0 hi4 rfl rfl rfl rfl hcz hdk hm kx)
      · exact px_table (tgt := 696) dI_L_law_39 (by decide) (by decide) (off := 657) (by decide) (by decide) (ls_bits hX hL hE hT hC4 hS0 hi4 rfl rfl rfl rfl hcz hdk hm kx)
      · exact px_table (tgt := 752) dI_L_law_39 (by decide) (by decide) (off := 713) (by decide) (by decide) (ls_word hX hL hE hT hC4 hS0 hi4 rfl rfl rfl rfl hcz hdk hm kx)
      · exact px_table (tgt := 819) dI_L_law_39 (by decide) (by decide) (off := 780) (by decide) (by decide) (ls_perfect hX hL hE hT hC4 hS0 hi4 rfl rfl rfl rfl hcz hdk hm kx)
      · exact px_table (tgt := 875) dI_L_law_39 (by decide) (by decide) (off := 836) (by decide) (by decide) (ls_order hX hL hE hT hC4 hS0 hi4 rfl rfl rfl rfl hcz hdk hm kx)
      · exact px_table (tgt := 943) dI_L_law_39 (by decide) (by decide) (off := 904) (by decide) (by decide) (ls_modulus hX hL hE hT hC4 hS0 hi4 rfl rfl rfl rfl hcz hdk hm kx)
      · exact px_table (tgt := 999) dI_L_law_39 (by decide) (by decide) (off := 960) (by decide) (by decide) (ls_congruent hX hL hE hT hC4 hS0 hi4 rfl rfl rfl rfl hcz hdk hm kx)
      · exact px_table (tgt := 1086) dI_L_law_39 (by decide) (by decide) (off := 1047) (by decide) (by decide) (ls_prime hX hL hE hT hC4 hS0 hi4 rfl rfl rfl rfl hcz hdk hm kx)
end LP
