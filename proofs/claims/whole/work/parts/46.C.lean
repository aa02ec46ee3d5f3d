/-! the constructors -/
def nV_ : pw_M := (yM_V_init, bC_V_init, 1, none, rC_V, { frames := 1, cells := 3, slots := 21, locals := 20 })
def nO_ : pw_M := (yM_O_init, bC_O_init, 1, none, rC_O, { frames := 1, cells := 3, slots := 16, locals := 20 })
def nY_ : pw_M := (yM_Y_init, bC_Y_init, 1, none, rC_Y, { frames := 1, cells := 2, slots := 128, locals := 20 })
def nM_ : pw_M := (yM_M_init, bC_M_init, 1, none, rC_M, { frames := 1, cells := 3, slots := 1606, locals := 20 })
def nP_ : pw_M := (yM_P_init, bC_P_init, 1, none, rC_P, { frames := 2, cells := 22, slots := 225, locals := 60 })
section NC
variable {l : Launch} {k : nw_K} {a : Nat}
def rV_ (k : nw_K) (a : Nat) : nw_R := fun ws ts => ∃ b1 b2 b3 : Nat, ws = [(a, .inr (0, [.ref b1, .ref b2, .ref b3, .int 0, .int 0])), (b1, .inl (k.2.1, 4, .inr (.inl (fun _ => 0)))), (b2, .inl (k.2.1, 9, .inr (.inl (fun _ => 0)))), (b3, .inl (k.2.1, 8, .inr (.inl (fun _ => 0))))] ∧ ((k.2.1, .long) : ClassId × FieldType) ∈ ts
def rO_ (k : nw_K) (a : Nat) : nw_R := fun ws ts => ∃ b1 b2 b3 : Nat, ws = [(a, .inr (2, [.ref b1, .ref b2, .ref b3])), (b1, .inl (k.2.1, 4, .inr (.inl (fun _ => 0)))), (b2, .inl (k.2.1, 4, .inr (.inl (fun _ => 0)))), (b3, .inl (k.2.1, 8, .inr (.inl (fun _ => 0))))] ∧ ((k.2.1, .long) : ClassId × FieldType) ∈ ts
def rY_ (k : nw_K) (a : Nat) : nw_R := fun ws ts => ∃ b1 b2 : Nat, ws = [(a, .inr (1, [.ref b1, .ref b2])), (b1, .inl (k.2.2, 64, .inl (fun _ => 0))), (b2, .inl (k.2.2, 64, .inl (fun _ => 0)))] ∧ ((k.2.2, .int) : ClassId × FieldType) ∈ ts
def rM_ (k : nw_K) (a : Nat) : nw_R := fun ws ts => ∃ b1 b2 b3 : Nat, ws = [(a, .inr (4, [.ref b1, .ref b2, .ref b3, .int 0])), (b1, .inl (k.2.2, 768, .inl (fun _ => 0))), (b2, .inl (k.2.2, 774, .inl (fun _ => 0))), (b3, .inl (k.2.2, 64, .inl (fun _ => 0)))] ∧ ((k.2.2, .int) : ClassId × FieldType) ∈ ts
theorem c_V_init : nw_Met l k nV_ a 0 [.null, .null, .null, .int 0, .int 0] (rV_ k a) := by
  refine nw_ofW (by decide +kernel) rfl (Nat.le_of_ble_eq_true rfl) rfl (fun sz => ?_)
  refine nx_aload_n (q := 1) dI_V_init_0 rfl rfl ?_
  refine nx_obj (q := 4) dI_V_init_1 wl_V_3 (Nat.le_of_ble_eq_true rfl) (Nat.le_of_ble_eq_true rfl) rfl ?_
  refine nx_aload_n (q := 5) dI_V_init_4 rfl rfl ?_
  refine nx_iconst (v := nI 4) (q := 6) dI_V_init_5 (by decide +kernel) rfl ?_
  refine nx_newJ (q := 8) dI_V_init_6 wa_long (by decide) (Nat.le_of_ble_eq_true rfl) (Nat.le_of_ble_eq_true rfl) rfl (fun a1 => ?_)
  refine nx_put (q := 11) (q0 := 0) (ci := 0) (C := rC_V) (T := tF_V) (N := 5) (ty := ty_V) (j := 0) dI_V_init_8 wf_V_9 wU_V ty_V_ok nm_V rfl rfl (by decide) rfl rfl rfl rfl rfl rfl (Nat.le_of_ble_eq_true rfl) rfl rfl ?_
  refine nx_aload_n (q := 12) dI_V_init_11 rfl rfl ?_
  refine nx_bipush (v := nI 9) (q := 14) dI_V_init_12 (by decide +kernel) rfl ?_
  refine nx_newJ (q := 16) dI_V_init_14 wa_long (by decide) (Nat.le_of_ble_eq_true rfl) (Nat.le_of_ble_eq_true rfl) rfl (fun a2 => ?_)
  refine nx_put (q := 19) (q0 := 0) (ci := 0) (C := rC_V) (T := tF_V) (N := 5) (ty := ty_V) (j := 1) dI_V_init_16 wf_V_15 wU_V ty_V_ok nm_V rfl rfl (by decide) rfl rfl rfl rfl rfl rfl (Nat.le_of_ble_eq_true rfl) rfl rfl ?_
  refine nx_aload_n (q := 20) dI_V_init_19 rfl rfl ?_
  refine nx_bipush (v := nI 8) (q := 22) dI_V_init_20 (by decide +kernel) rfl ?_
  refine nx_newJ (q := 24) dI_V_init_22 wa_long (by decide) (Nat.le_of_ble_eq_true rfl) (Nat.le_of_ble_eq_true rfl) rfl (fun a3 => ?_)
  refine nx_put (q := 27) (q0 := 0) (ci := 0) (C := rC_V) (T := tF_V) (N := 5) (ty := ty_V) (j := 2) dI_V_init_24 wf_V_18 wU_V ty_V_ok nm_V rfl rfl (by decide) rfl rfl rfl rfl rfl rfl (Nat.le_of_ble_eq_true rfl) rfl rfl ?_
  exact nx_ret (Nat.le_of_ble_eq_true rfl) (Nat.le_of_ble_eq_true rfl) dI_V_init_27 rfl ⟨a1, a2, a3, rfl, by simp⟩
theorem c_O_init : nw_Met l k nO_ a 2 [.null, .null, .null] (rO_ k a) := by
  refine nw_ofW (by decide +kernel) rfl (Nat.le_of_ble_eq_true rfl) rfl (fun sz => ?_)
  refine nx_aload_n (q := 1) dI_O_init_0 rfl rfl ?_
  refine nx_obj (q := 4) dI_O_init_1 wl_O_3 (Nat.le_of_ble_eq_true rfl) (Nat.le_of_ble_eq_true rfl) rfl ?_
  refine nx_aload_n (q := 5) dI_O_init_4 rfl rfl ?_
  refine nx_iconst (v := nI 4) (q := 6) dI_O_init_5 (by decide +kernel) rfl ?_
  refine nx_newJ (q := 8) dI_O_init_6 wa_long (by decide) (Nat.le_of_ble_eq_true rfl) (Nat.le_of_ble_eq_true rfl) rfl (fun a1 => ?_)
  refine nx_put (q := 11) (q0 := 0) (ci := 2) (C := rC_O) (T := tF_O) (N := 3) (ty := ty_O) (j := 0) dI_O_init_8 wf_O_9 wU_O ty_O_ok nm_O rfl rfl (by decide) rfl rfl rfl rfl rfl rfl (Nat.le_of_ble_eq_true rfl) rfl rfl ?_
  refine nx_aload_n (q := 12) dI_O_init_11 rfl rfl ?_
  refine nx_iconst (v := nI 4) (q := 13) dI_O_init_12 (by decide +kernel) rfl ?_
  refine nx_newJ (q := 15) dI_O_init_13 wa_long (by decide) (Nat.le_of_ble_eq_true rfl) (Nat.le_of_ble_eq_true rfl) rfl (fun a2 => ?_)
  refine nx_put (q := 18) (q0 := 0) (ci := 2) (C := rC_O) (T := tF_O) (N := 3) (ty := ty_O) (j := 1) dI_O_init_15 wf_O_15 wU_O ty_O_ok nm_O rfl rfl (by decide) rfl rfl rfl rfl rfl rfl (Nat.le_of_ble_eq_true rfl) rfl rfl ?_
  refine nx_aload_n (q := 19) dI_O_init_18 rfl rfl ?_
  refine nx_bipush (v := nI 8) (q := 21) dI_O_init_19 (by decide +kernel) rfl ?_
  refine nx_newJ (q := 23) dI_O_init_21 wa_long (by decide) (Nat.le_of_ble_eq_true rfl) (Nat.le_of_ble_eq_true rfl) rfl (fun a3 => ?_)
  refine nx_put (q := 26) (q0 := 0) (ci := 2) (C := rC_O) (T := tF_O) (N := 3) (ty := ty_O) (j := 2) dI_O_init_23 wf_O_18 wU_O ty_O_ok nm_O rfl rfl (by decide) rfl rfl rfl rfl rfl rfl (Nat.le_of_ble_eq_true rfl) rfl rfl ?_
  exact nx_ret (Nat.le_of_ble_eq_true rfl) (Nat.le_of_ble_eq_true rfl) dI_O_init_26 rfl ⟨a1, a2, a3, rfl, by simp⟩
theorem c_Y_init : nw_Met l k nY_ a 1 [.null, .null] (rY_ k a) := by
  refine nw_ofW (by decide +kernel) rfl (Nat.le_of_ble_eq_true rfl) rfl (fun sz => ?_)
  refine nx_aload_n (q := 1) dI_Y_init_0 rfl rfl ?_
  refine nx_obj (q := 4) dI_Y_init_1 wl_Y_3 (Nat.le_of_ble_eq_true rfl) (Nat.le_of_ble_eq_true rfl) rfl ?_
  refine nx_aload_n (q := 5) dI_Y_init_4 rfl rfl ?_
  refine nx_bipush (v := nI 64) (q := 7) dI_Y_init_5 (by decide +kernel) rfl ?_
  refine nx_newI (q := 9) dI_Y_init_7 wa_int (by decide) (Nat.le_of_ble_eq_true rfl) (Nat.le_of_ble_eq_true rfl) rfl (fun a1 => ?_)
  refine nx_put (q := 12) (q0 := 0) (ci := 1) (C := rC_Y) (T := tF_Y) (N := 2) (ty := ty_Y) (j := 0) dI_Y_init_9 wf_Y_9 wU_Y ty_Y_ok nm_Y rfl rfl (by decide) rfl rfl rfl rfl rfl rfl (Nat.le_of_ble_eq_true rfl) rfl rfl ?_
  refine nx_aload_n (q := 13) dI_Y_init_12 rfl rfl ?_
  refine nx_bipush (v := nI 64) (q := 15) dI_Y_init_13 (by decide +kernel) rfl ?_
  refine nx_newI (q := 17) dI_Y_init_15 wa_int (by decide) (Nat.le_of_ble_eq_true rfl) (Nat.le_of_ble_eq_true rfl) rfl (fun a2 => ?_)
  refine nx_put (q := 20) (q0 := 0) (ci := 1) (C := rC_Y) (T := tF_Y) (N := 2) (ty := ty_Y) (j := 1) dI_Y_init_17 wf_Y_15 wU_Y ty_Y_ok nm_Y rfl rfl (by decide) rfl rfl rfl rfl rfl rfl (Nat.le_of_ble_eq_true rfl) rfl rfl ?_
  exact nx_ret (Nat.le_of_ble_eq_true rfl) (Nat.le_of_ble_eq_true rfl) dI_Y_init_20 rfl ⟨a1, a2, rfl, by simp⟩
theorem c_M_init : nw_Met l k nM_ a 4 [.null, .null, .null, .int 0] (rM_ k a) := by
  refine nw_ofW (by decide +kernel) rfl (Nat.le_of_ble_eq_true rfl) rfl (fun sz => ?_)
  refine nx_aload_n (q := 1) dI_M_init_0 rfl rfl ?_
  refine nx_obj (q := 4) dI_M_init_1 wl_M_1 (Nat.le_of_ble_eq_true rfl) (Nat.le_of_ble_eq_true rfl) rfl ?_
  refine nx_aload_n (q := 5) dI_M_init_4 rfl rfl ?_
  refine nx_sipush (v := nI 768) (q := 8) dI_M_init_5 (by decide +kernel) rfl ?_
  refine nx_newI (q := 10) dI_M_init_8 wa_int (by decide) (Nat.le_of_ble_eq_true rfl) (by show (768 : Nat) ≤ 1606; decide) rfl (fun a1 => ?_)
  refine nx_put (q := 13) (q0 := 0) (ci := 4) (C := rC_M) (T := tF_M) (N := 4) (ty := ty_M) (j := 0) dI_M_init_10 wf_M_7 wU_M ty_M_ok nm_M rfl rfl (by decide) rfl rfl rfl rfl rfl rfl (Nat.le_of_ble_eq_true rfl) rfl rfl ?_
  refine nx_aload_n (q := 14) dI_M_init_13 rfl rfl ?_
  refine nx_sipush (v := nI 774) (q := 17) dI_M_init_14 (by decide +kernel) rfl ?_
  refine nx_newI (q := 19) dI_M_init_17 wa_int (by decide) (Nat.le_of_ble_eq_true rfl) (by show (1542 : Nat) ≤ 1606; decide) rfl (fun a2 => ?_)
  refine nx_put (q := 22) (q0 := 0) (ci := 4) (C := rC_M) (T := tF_M) (N := 4) (ty := ty_M) (j := 1) dI_M_init_19 wf_M_13 wU_M ty_M_ok nm_M rfl rfl (by decide) rfl rfl rfl rfl rfl rfl (Nat.le_of_ble_eq_true rfl) rfl rfl ?_
  refine nx_aload_n (q := 23) dI_M_init_22 rfl rfl ?_
  refine nx_bipush (v := nI 64) (q := 25) dI_M_init_23 (by decide +kernel) rfl ?_
  refine nx_newI (q := 27) dI_M_init_25 wa_int (by decide) (Nat.le_of_ble_eq_true rfl) (by show (1606 : Nat) ≤ 1606; decide) rfl (fun a3 => ?_)
  refine nx_put (q := 30) (q0 := 0) (ci := 4) (C := rC_M) (T := tF_M) (N := 4) (ty := ty_M) (j := 2) dI_M_init_27 wf_M_16 wU_M ty_M_ok nm_M rfl rfl (by decide) rfl rfl rfl rfl rfl rfl (Nat.le_of_ble_eq_true rfl) rfl rfl ?_
  exact nx_ret (Nat.le_of_ble_eq_true rfl) (by show (1606 : Nat) ≤ 1606; decide) dI_M_init_30 rfl ⟨a1, a2, a3, rfl, by simp⟩
def rP_ (k : nw_K) (a : Nat) : nw_R := fun ws ts => ∃ (r : Nat → Nat) (cA : ClassId) (q1 q8 q9 q10 q11 q12 q13 q14 q15 q16 q17 q18 q19 q20 q21 q22 : Nat), ws = [(a, .inr (3, [.ref q1, .ref q8, .ref q9, .ref q10, .ref q11, .ref q12, .ref q16, .ref q20])), (q1, .inl (cA, 6, .inr (.inr (.inr (.inr (fun i => if i < 6 then some (r i) else none)))))), (r 0, .inl (k.2.1, 4, .inr (.inl (fun _ => 0)))), (r 1, .inl (k.2.1, 4, .inr (.inl (fun _ => 0)))), (r 2, .inl (k.2.1, 4, .inr (.inl (fun _ => 0)))), (r 3, .inl (k.2.1, 4, .inr (.inl (fun _ => 0)))), (r 4, .inl (k.2.1, 4, .inr (.inl (fun _ => 0)))), (r 5, .inl (k.2.1, 4, .inr (.inl (fun _ => 0)))), (q8, .inl (k.2.1, 4, .inr (.inl (fun _ => 0)))), (q9, .inl (k.2.1, 4, .inr (.inl (fun _ => 0)))), (q10, .inl (k.2.1, 4, .inr (.inl (fun _ => 0)))), (q11, .inl (k.2.1, 8, .inr (.inl (fun _ => 0)))), (q12, .inr (0, [.ref q13, .ref q14, .ref q15, .int 0, .int 0])), (q13, .inl (k.2.1, 4, .inr (.inl (fun _ => 0)))), (q14, .inl (k.2.1, 9, .inr (.inl (fun _ => 0)))), (q15, .inl (k.2.1, 8, .inr (.inl (fun _ => 0)))), (q16, .inr (2, [.ref q17, .ref q18, .ref q19])), (q17, .inl (k.2.1, 4, .inr (.inl (fun _ => 0)))), (q18, .inl (k.2.1, 4, .inr (.inl (fun _ => 0)))), (q19, .inl (k.2.1, 8, .inr (.inl (fun _ => 0)))), (q20, .inr (1, [.ref q21, .ref q22])), (q21, .inl (k.2.2, 64, .inl (fun _ => 0))), (q22, .inl (k.2.2, 64, .inl (fun _ => 0)))] ∧ ((cA, .array .long) : ClassId × FieldType) ∈ ts ∧ ((k.2.1, .long) : ClassId × FieldType) ∈ ts ∧ ((k.2.2, .int) : ClassId × FieldType) ∈ ts
theorem c_P_init : nw_Met l k nP_ a 3 [.null, .null, .null, .null, .null, .null, .null, .null] (rP_ k a) := by
  refine nw_ofW (by decide +kernel) rfl (Nat.le_of_ble_eq_true rfl) rfl (fun sz => ?_)
  refine nx_aload_n (q := 1) dI_P_init_0 rfl rfl ?_
  refine nx_obj (q := 4) dI_P_init_1 wl_P_1 (Nat.le_of_ble_eq_true rfl) (Nat.le_of_ble_eq_true rfl) rfl ?_
  refine nx_aload_n (q := 5) dI_P_init_4 rfl rfl ?_
  refine nx_bipush (v := nI 6) (q := 7) dI_P_init_5 (by decide +kernel) rfl ?_
  refine nx_iconst (v := nI 4) (q := 8) dI_P_init_7 (by decide +kernel) rfl ?_
  refine nx_mna (q := 12) dI_P_init_8 wc_P_9 wa_long (Nat.le_of_ble_eq_true rfl) (Nat.le_of_ble_eq_true rfl) rfl (fun ar r cA => ?_)
  refine nx_put (q := 15) (q0 := 0) (ci := 3) (C := rC_P) (T := tF_P) (N := 8) (ty := ty_P) (j := 0) dI_P_init_12 wf_P_11 wU_P ty_P_ok nm_P rfl rfl (by decide) rfl rfl rfl rfl rfl rfl (Nat.le_of_ble_eq_true rfl) rfl rfl ?_
  refine nx_aload_n (q := 16) dI_P_init_15 rfl rfl ?_
  refine nx_iconst (v := nI 4) (q := 17) dI_P_init_16 (by decide +kernel) rfl ?_
  refine nx_newJ (q := 19) dI_P_init_17 wa_long (by decide) (Nat.le_of_ble_eq_true rfl) (Nat.le_of_ble_eq_true rfl) rfl (fun a1 => ?_)
  refine nx_put (q := 22) (q0 := 0) (ci := 3) (C := rC_P) (T := tF_P) (N := 8) (ty := ty_P) (j := 1) dI_P_init_19 wf_P_14 wU_P ty_P_ok nm_P rfl rfl (by decide) rfl rfl rfl rfl rfl rfl (Nat.le_of_ble_eq_true rfl) rfl rfl ?_
  refine nx_aload_n (q := 23) dI_P_init_22 rfl rfl ?_
  refine nx_iconst (v := nI 4) (q := 24) dI_P_init_23 (by decide +kernel) rfl ?_
  refine nx_newJ (q := 26) dI_P_init_24 wa_long (by decide) (Nat.le_of_ble_eq_true rfl) (Nat.le_of_ble_eq_true rfl) rfl (fun a2 => ?_)
  refine nx_put (q := 29) (q0 := 0) (ci := 3) (C := rC_P) (T := tF_P) (N := 8) (ty := ty_P) (j := 2) dI_P_init_26 wf_P_18 wU_P ty_P_ok nm_P rfl rfl (by decide) rfl rfl rfl rfl rfl rfl (Nat.le_of_ble_eq_true rfl) rfl rfl ?_
  refine nx_aload_n (q := 30) dI_P_init_29 rfl rfl ?_
  refine nx_iconst (v := nI 4) (q := 31) dI_P_init_30 (by decide +kernel) rfl ?_
  refine nx_newJ (q := 33) dI_P_init_31 wa_long (by decide) (Nat.le_of_ble_eq_true rfl) (Nat.le_of_ble_eq_true rfl) rfl (fun a3 => ?_)
  refine nx_put (q := 36) (q0 := 0) (ci := 3) (C := rC_P) (T := tF_P) (N := 8) (ty := ty_P) (j := 3) dI_P_init_33 wf_P_21 wU_P ty_P_ok nm_P rfl rfl (by decide) rfl rfl rfl rfl rfl rfl (Nat.le_of_ble_eq_true rfl) rfl rfl ?_
  refine nx_aload_n (q := 37) dI_P_init_36 rfl rfl ?_
  refine nx_bipush (v := nI 8) (q := 39) dI_P_init_37 (by decide +kernel) rfl ?_
  refine nx_newJ (q := 41) dI_P_init_39 wa_long (by decide) (Nat.le_of_ble_eq_true rfl) (Nat.le_of_ble_eq_true rfl) rfl (fun a4 => ?_)
  refine nx_put (q := 44) (q0 := 0) (ci := 3) (C := rC_P) (T := tF_P) (N := 8) (ty := ty_P) (j := 4) dI_P_init_41 wf_P_24 wU_P ty_P_ok nm_P rfl rfl (by decide) rfl rfl rfl rfl rfl rfl (Nat.le_of_ble_eq_true rfl) rfl rfl ?_
  refine nx_aload_n (q := 45) dI_P_init_44 rfl rfl ?_
  refine nx_new (q := 48) (ci := 0) (ty := ty_V) (fs := [.null, .null, .null, .int 0, .int 0]) dI_P_init_45 wc_P_27 wn_V wi_V wU_V ty_V_ok rfl (by decide +kernel) (Nat.le_of_ble_eq_true rfl) (Nat.le_of_ble_eq_true rfl) rfl (fun oV => ?_)
  refine nx_dup (q := 49) dI_P_init_48 rfl rfl ?_
  refine nx_callIN (q := 52) (ν := nV_) dI_P_init_49 (fun U h => h.2.2.2.2.1) wm_V_init wb_V_init wi_V rfl rfl (by decide +kernel) ⟨(Nat.le_of_ble_eq_true rfl), (Nat.le_of_ble_eq_true rfl)⟩ (Nat.le_of_ble_eq_true rfl) ⟨(Nat.le_of_ble_eq_true rfl), (Nat.le_of_ble_eq_true rfl)⟩ rfl (c_V_init) (fun wV tV hV => ?_)
  obtain ⟨vb1, vb2, vb3, rfl, mV⟩ := hV
  refine nx_put (q := 55) (q0 := 0) (ci := 3) (C := rC_P) (T := tF_P) (N := 8) (ty := ty_P) (j := 5) dI_P_init_52 wf_P_30 wU_P ty_P_ok nm_P rfl rfl (by decide) rfl rfl rfl rfl rfl rfl (Nat.le_of_ble_eq_true rfl) rfl rfl ?_
  refine nx_aload_n (q := 56) dI_P_init_55 rfl rfl ?_
  refine nx_new (q := 59) (ci := 2) (ty := ty_O) (fs := [.null, .null, .null]) dI_P_init_56 wc_P_34 wn_O wi_O wU_O ty_O_ok rfl (by decide +kernel) (Nat.le_of_ble_eq_true rfl) (Nat.le_of_ble_eq_true rfl) rfl (fun oO => ?_)
  refine nx_dup (q := 60) dI_P_init_59 rfl rfl ?_
  refine nx_callIN (q := 63) (ν := nO_) dI_P_init_60 (fun U h => h.2.2.2.2.2.1) wm_O_init wb_O_init wi_O rfl rfl (by decide +kernel) ⟨(Nat.le_of_ble_eq_true rfl), (Nat.le_of_ble_eq_true rfl)⟩ (Nat.le_of_ble_eq_true rfl) ⟨(Nat.le_of_ble_eq_true rfl), (Nat.le_of_ble_eq_true rfl)⟩ rfl (c_O_init) (fun wO tO hO => ?_)
  obtain ⟨ob1, ob2, ob3, rfl, mO⟩ := hO
  refine nx_put (q := 66) (q0 := 0) (ci := 3) (C := rC_P) (T := tF_P) (N := 8) (ty := ty_P) (j := 6) dI_P_init_63 wf_P_37 wU_P ty_P_ok nm_P rfl rfl (by decide) rfl rfl rfl rfl rfl rfl (Nat.le_of_ble_eq_true rfl) rfl rfl ?_
  refine nx_aload_n (q := 67) dI_P_init_66 rfl rfl ?_
  refine nx_new (q := 70) (ci := 1) (ty := ty_Y) (fs := [.null, .null]) dI_P_init_67 wc_P_41 wn_Y wi_Y wU_Y ty_Y_ok rfl (by decide +kernel) (Nat.le_of_ble_eq_true rfl) (Nat.le_of_ble_eq_true rfl) rfl (fun oY => ?_)
  refine nx_dup (q := 71) dI_P_init_70 rfl rfl ?_
  refine nx_callIN (q := 74) (ν := nY_) dI_P_init_71 (fun U h => h.2.2.2.2.2.2) wm_Y_init wb_Y_init wi_Y rfl rfl (by decide +kernel) ⟨(Nat.le_of_ble_eq_true rfl), (Nat.le_of_ble_eq_true rfl)⟩ (Nat.le_of_ble_eq_true rfl) ⟨(Nat.le_of_ble_eq_true rfl), (Nat.le_of_ble_eq_true rfl)⟩ rfl (c_Y_init) (fun wY tY hY => ?_)
  obtain ⟨yb1, yb2, rfl, mY⟩ := hY
  refine nx_put (q := 77) (q0 := 0) (ci := 3) (C := rC_P) (T := tF_P) (N := 8) (ty := ty_P) (j := 7) dI_P_init_74 wf_P_44 wU_P ty_P_ok nm_P rfl rfl (by decide) rfl rfl rfl rfl rfl rfl (Nat.le_of_ble_eq_true rfl) rfl rfl ?_
  exact nx_ret (Nat.le_of_ble_eq_true rfl) (Nat.le_of_ble_eq_true rfl) dI_P_init_77 rfl ⟨r, cA, ar, a1, a2, a3, a4, oV, vb1, vb2, vb3, oO, ob1, ob2, ob3, oY, yb1, yb2, rfl, by simp, by simp [mV], by simp [mY]⟩
end NC
