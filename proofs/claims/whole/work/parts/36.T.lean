/-! the desk's own methods where they throw -/
section CT
variable {l : Launch} {g : pw_G} {μ ν : pw_M} {sz : Nat} {Qf : pw_F} {pc : Nat} {ls : List (Nat × Value)} {st : List Value} {X : pw_X} {Y : pw_Y} {PX : pw_PX} {v : Nat → Nat}
theorem px_tcallS1 {i : Nat} {v1 : Value} (hd : decode μ.2.1 pc = .ok (.invokestatic i, 3)) (hw : (.methodLink μ.2.2.2.2.1 i ν.1 : Cond) ∈ wG) (hs : (.static ν.1 : Cond) ∈ wG) (hc : (.code ν.1 ν.2.1 ν.2.2.1 ν.2.2.2.1 : Cond) ∈ wG) (hi : (.initialized ν.1.cls : Cond) ∈ wG)
    (hz : ν.2.2.2.2.2.cells = 1 ∧ ν.2.2.2.2.2.slots = 6) (hn : ν.1.cls ≠ "java/lang/invoke/MethodHandle" ∧ ν.1.cls ≠ "java/lang/invoke/VarHandle" ∧ (parseMethodDescriptor ν.1.desc).map (fun d => d.parameters.length) = some 1)
    (hR : ν.2.2.2.2.2.frames + 1 ≤ μ.2.2.2.2.2.frames ∧ 8 + (ν.2.2.1 + 11) + ν.2.2.2.2.2.locals ≤ μ.2.2.2.2.2.locals) (hst : (st.map fun v => v.category).sum ≤ 8) (hc1 : 1 ≤ μ.2.2.2.2.2.cells) (hs6 : 6 ≤ μ.2.2.2.2.2.slots)
    (hM : pw_Thr l g ν [v1] X Y PX) : pw_W l g μ sz (pw_qT g sz PX) pc ls (v1 :: st) X Y := px_tcallS (As := [v1]) hd hw hs hc hi hz hn rfl hR hst hc1 hs6 hM
theorem px_tcallS3 {i : Nat} {v1 v2 v3 : Value} (hd : decode μ.2.1 pc = .ok (.invokestatic i, 3)) (hw : (.methodLink μ.2.2.2.2.1 i ν.1 : Cond) ∈ wG) (hs : (.static ν.1 : Cond) ∈ wG) (hc : (.code ν.1 ν.2.1 ν.2.2.1 ν.2.2.2.1 : Cond) ∈ wG) (hi : (.initialized ν.1.cls : Cond) ∈ wG)
    (hz : ν.2.2.2.2.2.cells = 1 ∧ ν.2.2.2.2.2.slots = 6) (hn : ν.1.cls ≠ "java/lang/invoke/MethodHandle" ∧ ν.1.cls ≠ "java/lang/invoke/VarHandle" ∧ (parseMethodDescriptor ν.1.desc).map (fun d => d.parameters.length) = some 3)
    (hR : ν.2.2.2.2.2.frames + 1 ≤ μ.2.2.2.2.2.frames ∧ 8 + (ν.2.2.1 + 11) + ν.2.2.2.2.2.locals ≤ μ.2.2.2.2.2.locals) (hst : (st.map fun v => v.category).sum ≤ 8) (hc1 : 1 ≤ μ.2.2.2.2.2.cells) (hs6 : 6 ≤ μ.2.2.2.2.2.slots)
    (hM : pw_Thr l g ν [v1, v2, v3] X Y PX) : pw_W l g μ sz (pw_qT g sz PX) pc ls (v3 :: v2 :: v1 :: st) X Y := px_tcallS (As := [v1, v2, v3]) hd hw hs hc hi hz hn rfl hR hst hc1 hs6 hM
theorem nI_lt2 {r : Int32} {n : Nat} (hn : n < 1000) (h0 : ¬ r < 0) (h : r < nI (n + 1)) : ∃ k, k ≤ n ∧ r = nI k := by
  have e0 : (0 : Int32).toInt = 0 := by decide
  rw [Int32.lt_iff_toInt_lt, e0] at h0
  rw [Int32.lt_iff_toInt_lt, nI_toInt (by omega)] at h
  refine ⟨r.toInt.toNat, by omega, ?_⟩
  apply Int32.toInt_inj.mp
  rw [nI_toInt (by omega)]
  omega
theorem t_P_check {a : Int32} (hT : xT_ g) (hS0 : l.stackTraces = false) (ha : bd_ a) (hp : PX xI_ X Y) : pw_Thr l g tP_checkRegister [.int a] X Y PX := by
  refine pt_ofW (by decide +kernel) rfl (Nat.le_of_ble_eq_true rfl) rfl (fun sz => ?_)
  refine px_iload_n (q := 1) dI_P_checkRegister_0 rfl rfl ?_
  refine px_if_lt (q := 4) (tgt := 10) dI_P_checkRegister_1 (by decide) rfl (fun b1 => ?_) (fun b1 => ?_)
  · refine px_throw hT hS0 rfl tgI tx_183 dI_P_checkRegister_10 dI_P_checkRegister_13 dI_P_checkRegister_14 dI_P_checkRegister_16 dI_P_checkRegister_19 (Nat.le_of_ble_eq_true rfl) (Nat.le_of_ble_eq_true rfl) (Nat.le_of_ble_eq_true rfl) (Nat.le_of_ble_eq_true rfl) ?_
    exact hp
  · refine px_iload_n (q := 5) dI_P_checkRegister_4 rfl rfl ?_
    refine px_bipush (q := 7) (v := nI 6) dI_P_checkRegister_5 (by decide +kernel) rfl ?_
    refine px_icmp_lt (q := 10) (tgt := 20) dI_P_checkRegister_7 (by decide) rfl (fun b7 => ?_) (fun b7 => ?_)
    · exfalso
      obtain ⟨k, hk, e⟩ := nI_lt2 (n := 5) (by decide) b1 b7
      exact ha ⟨k, by omega, e⟩
    · refine px_throw hT hS0 rfl tgI tx_183 dI_P_checkRegister_10 dI_P_checkRegister_13 dI_P_checkRegister_14 dI_P_checkRegister_16 dI_P_checkRegister_19 (Nat.le_of_ble_eq_true rfl) (Nat.le_of_ble_eq_true rfl) (Nat.le_of_ble_eq_true rfl) (Nat.le_of_ble_eq_true rfl) ?_
      exact hp
theorem t_P_checks {a b c : Int32} (hT : xT_ g) (hS0 : l.stackTraces = false) (hbad : bd_ a ∨ bd_ b ∨ bd_ c) (hp : PX xI_ X Y) : pw_Thr l g tP_checkRegisters [.int a, .int b, .int c] X Y PX := by
  refine pt_ofW (by decide +kernel) rfl (Nat.le_of_ble_eq_true rfl) rfl (fun sz => ?_)
  by_cases ha : bd_ a
  · refine px_iload_n (q := 1) dI_P_checkRegisters_0 rfl rfl ?_
    refine px_tcallS1 (ν := tP_checkRegister) dI_P_checkRegisters_1 wl_P_48 ws_P_checkRegister wb_P_checkRegister wi_P ⟨rfl, rfl⟩ (by decide +kernel) ⟨(Nat.le_of_ble_eq_true rfl), (Nat.le_of_ble_eq_true rfl)⟩ (Nat.le_of_ble_eq_true rfl) (Nat.le_of_ble_eq_true rfl) (Nat.le_of_ble_eq_true rfl) (t_P_check hT hS0 ha hp)
  · obtain ⟨ka, hka, rfl⟩ := Decidable.not_not.mp ha
    refine px_iload_n (q := 1) dI_P_checkRegisters_0 rfl rfl ?_
    refine px_callS1 (q := 4) (ν := mP_checkRegister) dI_P_checkRegisters_1 wl_P_48 ws_P_checkRegister wb_P_checkRegister wi_P ⟨rfl, rfl⟩ (by decide +kernel) ⟨(Nat.le_of_ble_eq_true rfl), (Nat.le_of_ble_eq_true rfl)⟩ (Nat.le_of_ble_eq_true rfl) rfl (c_P_check hka ?_)
    by_cases hb : bd_ b
    · refine px_iload_n (q := 5) dI_P_checkRegisters_4 rfl rfl ?_
      refine px_tcallS1 (ν := tP_checkRegister) dI_P_checkRegisters_5 wl_P_48 ws_P_checkRegister wb_P_checkRegister wi_P ⟨rfl, rfl⟩ (by decide +kernel) ⟨(Nat.le_of_ble_eq_true rfl), (Nat.le_of_ble_eq_true rfl)⟩ (Nat.le_of_ble_eq_true rfl) (Nat.le_of_ble_eq_true rfl) (Nat.le_of_ble_eq_true rfl) (t_P_check hT hS0 hb hp)
    · obtain ⟨kb, hkb, rfl⟩ := Decidable.not_not.mp hb
      have hc : bd_ c := hbad.elim (fun q => absurd q ha) (fun q => q.elim (fun q => absurd q hb) id)
      refine px_iload_n (q := 5) dI_P_checkRegisters_4 rfl rfl ?_
      refine px_callS1 (q := 8) (ν := mP_checkRegister) dI_P_checkRegisters_5 wl_P_48 ws_P_checkRegister wb_P_checkRegister wi_P ⟨rfl, rfl⟩ (by decide +kernel) ⟨(Nat.le_of_ble_eq_true rfl), (Nat.le_of_ble_eq_true rfl)⟩ (Nat.le_of_ble_eq_true rfl) rfl (c_P_check hkb ?_)
      refine px_iload_n (q := 9) dI_P_checkRegisters_8 rfl rfl ?_
      refine px_tcallS1 (ν := tP_checkRegister) dI_P_checkRegisters_9 wl_P_48 ws_P_checkRegister wb_P_checkRegister wi_P ⟨rfl, rfl⟩ (by decide +kernel) ⟨(Nat.le_of_ble_eq_true rfl), (Nat.le_of_ble_eq_true rfl)⟩ (Nat.le_of_ble_eq_true rfl) (Nat.le_of_ble_eq_true rfl) (Nat.le_of_ble_eq_true rfl) (t_P_check hT hS0 hc hp)
theorem t_P_add_bad {a b t : Int32} (hT : xT_ g) (hS0 : l.stackTraces = false) (hbad : bd_ a ∨ bd_ b ∨ bd_ t) (hp : PX xI_ X Y) : pw_Thr l g tP_add [.ref (ad_ g 0), .int a, .int b, .int t] X Y PX := by
  refine pt_ofW (by decide +kernel) rfl (Nat.le_of_ble_eq_true rfl) rfl (fun sz => ?_)
  refine px_iload_n (q := 1) dI_P_add_0 rfl rfl ?_
  refine px_iload_n (q := 2) dI_P_add_1 rfl rfl ?_
  refine px_iload_n (q := 3) dI_P_add_2 rfl rfl ?_
  refine px_tcallS3 (ν := tP_checkRegisters) dI_P_add_3 wl_P_72 ws_P_checkRegisters wb_P_checkRegisters wi_P ⟨rfl, rfl⟩ (by decide +kernel) ⟨(Nat.le_of_ble_eq_true rfl), (Nat.le_of_ble_eq_true rfl)⟩ (Nat.le_of_ble_eq_true rfl) (Nat.le_of_ble_eq_true rfl) (Nat.le_of_ble_eq_true rfl) (t_P_checks hT hS0 hbad hp)
theorem t_P_subtract_bad {a b t : Int32} (hT : xT_ g) (hS0 : l.stackTraces = false) (hbad : bd_ a ∨ bd_ b ∨ bd_ t) (hp : PX xI_ X Y) : pw_Thr l g tP_subtract [.ref (ad_ g 0), .int a, .int b, .int t] X Y PX := by
  refine pt_ofW (by decide +kernel) rfl (Nat.le_of_ble_eq_true rfl) rfl (fun sz => ?_)
  refine px_iload_n (q := 1) dI_P_subtract_0 rfl rfl ?_
  refine px_iload_n (q := 2) dI_P_subtract_1 rfl rfl ?_
  refine px_iload_n (q := 3) dI_P_subtract_2 rfl rfl ?_
  refine px_tcallS3 (ν := tP_checkRegisters) dI_P_subtract_3 wl_P_72 ws_P_checkRegisters wb_P_checkRegisters wi_P ⟨rfl, rfl⟩ (by decide +kernel) ⟨(Nat.le_of_ble_eq_true rfl), (Nat.le_of_ble_eq_true rfl)⟩ (Nat.le_of_ble_eq_true rfl) (Nat.le_of_ble_eq_true rfl) (Nat.le_of_ble_eq_true rfl) (t_P_checks hT hS0 hbad hp)
theorem t_P_multiply_bad {a b t : Int32} (hT : xT_ g) (hS0 : l.stackTraces = false) (hbad : bd_ a ∨ bd_ b ∨ bd_ t) (hp : PX xI_ X Y) : pw_Thr l g tP_multiply [.ref (ad_ g 0), .int a, .int b, .int t] X Y PX := by
  refine pt_ofW (by decide +kernel) rfl (Nat.le_of_ble_eq_true rfl) rfl (fun sz => ?_)
  refine px_iload_n (q := 1) dI_P_multiply_0 rfl rfl ?_
  refine px_iload_n (q := 2) dI_P_multiply_1 rfl rfl ?_
  refine px_iload_n (q := 3) dI_P_multiply_2 rfl rfl ?_
  refine px_tcallS3 (ν := tP_checkRegisters) dI_P_multiply_3 wl_P_72 ws_P_checkRegisters wb_P_checkRegisters wi_P ⟨rfl, rfl⟩ (by decide +kernel) ⟨(Nat.le_of_ble_eq_true rfl), (Nat.le_of_ble_eq_true rfl)⟩ (Nat.le_of_ble_eq_true rfl) (Nat.le_of_ble_eq_true rfl) (Nat.le_of_ble_eq_true rfl) (t_P_checks hT hS0 hbad hp)
theorem t_P_gcd_bad {a b t : Int32} (hT : xT_ g) (hS0 : l.stackTraces = false) (hbad : bd_ a ∨ bd_ b ∨ bd_ t) (hp : PX xI_ X Y) : pw_Thr l g tP_gcd [.ref (ad_ g 0), .int a, .int b, .int t] X Y PX := by
  refine pt_ofW (by decide +kernel) rfl (Nat.le_of_ble_eq_true rfl) rfl (fun sz => ?_)
  refine px_iload_n (q := 1) dI_P_gcd_0 rfl rfl ?_
  refine px_iload_n (q := 2) dI_P_gcd_1 rfl rfl ?_
  refine px_iload_n (q := 3) dI_P_gcd_2 rfl rfl ?_
  refine px_tcallS3 (ν := tP_checkRegisters) dI_P_gcd_3 wl_P_72 ws_P_checkRegisters wb_P_checkRegisters wi_P ⟨rfl, rfl⟩ (by decide +kernel) ⟨(Nat.le_of_ble_eq_true rfl), (Nat.le_of_ble_eq_true rfl)⟩ (Nat.le_of_ble_eq_true rfl) (Nat.le_of_ble_eq_true rfl) (Nat.le_of_ble_eq_true rfl) (t_P_checks hT hS0 hbad hp)
theorem t_P_divide_bad {a b q r : Int32} (hT : xT_ g) (hS0 : l.stackTraces = false) (hbad : bd_ a ∨ bd_ b ∨ bd_ q ∨ bd_ r) (hp : PX xI_ X Y) : pw_Thr l g tP_divide [.ref (ad_ g 0), .int a, .int b, .int q, .int r] X Y PX := by
  refine pt_ofW (by decide +kernel) rfl (Nat.le_of_ble_eq_true rfl) rfl (fun sz => ?_)
  by_cases h3 : bd_ a ∨ bd_ b ∨ bd_ q
  · refine px_iload_n (q := 1) dI_P_divide_0 rfl rfl ?_
    refine px_iload_n (q := 2) dI_P_divide_1 rfl rfl ?_
    refine px_iload_n (q := 3) dI_P_divide_2 rfl rfl ?_
    refine px_tcallS3 (ν := tP_checkRegisters) dI_P_divide_3 wl_P_72 ws_P_checkRegisters wb_P_checkRegisters wi_P ⟨rfl, rfl⟩ (by decide +kernel) ⟨(Nat.le_of_ble_eq_true rfl), (Nat.le_of_ble_eq_true rfl)⟩ (Nat.le_of_ble_eq_true rfl) (Nat.le_of_ble_eq_true rfl) (Nat.le_of_ble_eq_true rfl) (t_P_checks hT hS0 h3 hp)
  · obtain ⟨ka, hka, rfl⟩ := Decidable.not_not.mp (fun z => h3 (Or.inl z))
    obtain ⟨kb, hkb, rfl⟩ := Decidable.not_not.mp (fun z => h3 (Or.inr (Or.inl z)))
    obtain ⟨kq, hkq, rfl⟩ := Decidable.not_not.mp (fun z => h3 (Or.inr (Or.inr z)))
    have hr : bd_ r := by
      rcases hbad with z | z | z | z
      · exact absurd (Or.inl z) h3
      · exact absurd (Or.inr (Or.inl z)) h3
      · exact absurd (Or.inr (Or.inr z)) h3
      · exact z
    refine px_iload_n (q := 1) dI_P_divide_0 rfl rfl ?_
    refine px_iload_n (q := 2) dI_P_divide_1 rfl rfl ?_
    refine px_iload_n (q := 3) dI_P_divide_2 rfl rfl ?_
    refine px_callS3 (q := 6) (ν := mP_checkRegisters) dI_P_divide_3 wl_P_72 ws_P_checkRegisters wb_P_checkRegisters wi_P ⟨rfl, rfl⟩ (by decide +kernel) ⟨(Nat.le_of_ble_eq_true rfl), (Nat.le_of_ble_eq_true rfl)⟩ (Nat.le_of_ble_eq_true rfl) rfl (c_P_checks hka hkb hkq ?_)
    refine px_iload (q := 8) dI_P_divide_6 rfl rfl ?_
    refine px_tcallS1 (ν := tP_checkRegister) dI_P_divide_8 wl_P_48 ws_P_checkRegister wb_P_checkRegister wi_P ⟨rfl, rfl⟩ (by decide +kernel) ⟨(Nat.le_of_ble_eq_true rfl), (Nat.le_of_ble_eq_true rfl)⟩ (Nat.le_of_ble_eq_true rfl) (Nat.le_of_ble_eq_true rfl) (Nat.le_of_ble_eq_true rfl) (t_P_check hT hS0 hr hp)
theorem t_P_power_bad {a b q r : Int32} (hT : xT_ g) (hS0 : l.stackTraces = false) (hbad : bd_ a ∨ bd_ b ∨ bd_ q ∨ bd_ r) (hp : PX xI_ X Y) : pw_Thr l g tP_power [.ref (ad_ g 0), .int a, .int b, .int q, .int r] X Y PX := by
  refine pt_ofW (by decide +kernel) rfl (Nat.le_of_ble_eq_true rfl) rfl (fun sz => ?_)
  by_cases h3 : bd_ a ∨ bd_ b ∨ bd_ q
  · refine px_iload_n (q := 1) dI_P_power_0 rfl rfl ?_
    refine px_iload_n (q := 2) dI_P_power_1 rfl rfl ?_
    refine px_iload_n (q := 3) dI_P_power_2 rfl rfl ?_
    refine px_tcallS3 (ν := tP_checkRegisters) dI_P_power_3 wl_P_72 ws_P_checkRegisters wb_P_checkRegisters wi_P ⟨rfl, rfl⟩ (by decide +kernel) ⟨(Nat.le_of_ble_eq_true rfl), (Nat.le_of_ble_eq_true rfl)⟩ (Nat.le_of_ble_eq_true rfl) (Nat.le_of_ble_eq_true rfl) (Nat.le_of_ble_eq_true rfl) (t_P_checks hT hS0 h3 hp)
  · obtain ⟨ka, hka, rfl⟩ := Decidable.not_not.mp (fun z => h3 (Or.inl z))
    obtain ⟨kb, hkb, rfl⟩ := Decidable.not_not.mp (fun z => h3 (Or.inr (Or.inl z)))
    obtain ⟨kq, hkq, rfl⟩ := Decidable.not_not.mp (fun z => h3 (Or.inr (Or.inr z)))
    have hr : bd_ r := by
      rcases hbad with z | z | z | z
      · exact absurd (Or.inl z) h3
      · exact absurd (Or.inr (Or.inl z)) h3
      · exact absurd (Or.inr (Or.inr z)) h3
      · exact z
    refine px_iload_n (q := 1) dI_P_power_0 rfl rfl ?_
    refine px_iload_n (q := 2) dI_P_power_1 rfl rfl ?_
    refine px_iload_n (q := 3) dI_P_power_2 rfl rfl ?_
    refine px_callS3 (q := 6) (ν := mP_checkRegisters) dI_P_power_3 wl_P_72 ws_P_checkRegisters wb_P_checkRegisters wi_P ⟨rfl, rfl⟩ (by decide +kernel) ⟨(Nat.le_of_ble_eq_true rfl), (Nat.le_of_ble_eq_true rfl)⟩ (Nat.le_of_ble_eq_true rfl) rfl (c_P_checks hka hkb hkq ?_)
    refine px_iload (q := 8) dI_P_power_6 rfl rfl ?_
    refine px_tcallS1 (ν := tP_checkRegister) dI_P_power_8 wl_P_48 ws_P_checkRegister wb_P_checkRegister wi_P ⟨rfl, rfl⟩ (by decide +kernel) ⟨(Nat.le_of_ble_eq_true rfl), (Nat.le_of_ble_eq_true rfl)⟩ (Nat.le_of_ble_eq_true rfl) (Nat.le_of_ble_eq_true rfl) (Nat.le_of_ble_eq_true rfl) (t_P_check hT hS0 hr hp)
theorem t_P_put_bad {a : Int32} {x : Int64} (hT : xT_ g) (hS0 : l.stackTraces = false) (hbad : bd_ a) (hp : PX xI_ X Y) : pw_Thr l g tP_put [.ref (ad_ g 0), .int a, .long x] X Y PX := by
  refine pt_ofW (by decide +kernel) rfl (Nat.le_of_ble_eq_true rfl) rfl (fun sz => ?_)
  refine px_iload_n (q := 1) dI_P_put_0 rfl rfl ?_
  refine px_tcallS1 (ν := tP_checkRegister) dI_P_put_1 wl_P_48 ws_P_checkRegister wb_P_checkRegister wi_P ⟨rfl, rfl⟩ (by decide +kernel) ⟨(Nat.le_of_ble_eq_true rfl), (Nat.le_of_ble_eq_true rfl)⟩ (Nat.le_of_ble_eq_true rfl) (Nat.le_of_ble_eq_true rfl) (Nat.le_of_ble_eq_true rfl) (t_P_check hT hS0 hbad hp)
theorem t_P_append_bad {a : Int32} {x : Int32} (hT : xT_ g) (hS0 : l.stackTraces = false) (hbad : bd_ a) (hp : PX xI_ X Y) : pw_Thr l g tP_append [.ref (ad_ g 0), .int a, .int x] X Y PX := by
  refine pt_ofW (by decide +kernel) rfl (Nat.le_of_ble_eq_true rfl) rfl (fun sz => ?_)
  refine px_iload_n (q := 1) dI_P_append_0 rfl rfl ?_
  refine px_tcallS1 (ν := tP_checkRegister) dI_P_append_1 wl_P_48 ws_P_checkRegister wb_P_checkRegister wi_P ⟨rfl, rfl⟩ (by decide +kernel) ⟨(Nat.le_of_ble_eq_true rfl), (Nat.le_of_ble_eq_true rfl)⟩ (Nat.le_of_ble_eq_true rfl) (Nat.le_of_ble_eq_true rfl) (Nat.le_of_ble_eq_true rfl) (t_P_check hT hS0 hbad hp)
theorem t_P_bits_bad {a : Int32} (hT : xT_ g) (hS0 : l.stackTraces = false) (hbad : bd_ a) (hp : PX xI_ X Y) : pw_Thr l g tP_bits [.ref (ad_ g 0), .int a] X Y PX := by
  refine pt_ofW (by decide +kernel) rfl (Nat.le_of_ble_eq_true rfl) rfl (fun sz => ?_)
  refine px_iload_n (q := 1) dI_P_bits_0 rfl rfl ?_
  refine px_tcallS1 (ν := tP_checkRegister) dI_P_bits_1 wl_P_48 ws_P_checkRegister wb_P_checkRegister wi_P ⟨rfl, rfl⟩ (by decide +kernel) ⟨(Nat.le_of_ble_eq_true rfl), (Nat.le_of_ble_eq_true rfl)⟩ (Nat.le_of_ble_eq_true rfl) (Nat.le_of_ble_eq_true rfl) (Nat.le_of_ble_eq_true rfl) (t_P_check hT hS0 hbad hp)
theorem t_P_perfect_bad {a : Int32} (hT : xT_ g) (hS0 : l.stackTraces = false) (hbad : bd_ a) (hp : PX xI_ X Y) : pw_Thr l g tP_perfect [.ref (ad_ g 0), .int a] X Y PX := by
  refine pt_ofW (by decide +kernel) rfl (Nat.le_of_ble_eq_true rfl) rfl (fun sz => ?_)
  refine px_iload_n (q := 1) dI_P_perfect_0 rfl rfl ?_
  refine px_tcallS1 (ν := tP_checkRegister) dI_P_perfect_1 wl_P_48 ws_P_checkRegister wb_P_checkRegister wi_P ⟨rfl, rfl⟩ (by decide +kernel) ⟨(Nat.le_of_ble_eq_true rfl), (Nat.le_of_ble_eq_true rfl)⟩ (Nat.le_of_ble_eq_true rfl) (Nat.le_of_ble_eq_true rfl) (Nat.le_of_ble_eq_true rfl) (t_P_check hT hS0 hbad hp)
theorem t_P_modulus_bad {a : Int32} (hT : xT_ g) (hS0 : l.stackTraces = false) (hbad : bd_ a) (hp : PX xI_ X Y) : pw_Thr l g tP_modulus [.ref (ad_ g 0), .int a] X Y PX := by
  refine pt_ofW (by decide +kernel) rfl (Nat.le_of_ble_eq_true rfl) rfl (fun sz => ?_)
  refine px_iload_n (q := 1) dI_P_modulus_0 rfl rfl ?_
  refine px_tcallS1 (ν := tP_checkRegister) dI_P_modulus_1 wl_P_48 ws_P_checkRegister wb_P_checkRegister wi_P ⟨rfl, rfl⟩ (by decide +kernel) ⟨(Nat.le_of_ble_eq_true rfl), (Nat.le_of_ble_eq_true rfl)⟩ (Nat.le_of_ble_eq_true rfl) (Nat.le_of_ble_eq_true rfl) (Nat.le_of_ble_eq_true rfl) (t_P_check hT hS0 hbad hp)
theorem t_P_prime_bad {a : Int32} (hT : xT_ g) (hS0 : l.stackTraces = false) (hbad : bd_ a) (hp : PX xI_ X Y) : pw_Thr l g tP_prime [.ref (ad_ g 0), .int a] X Y PX := by
  refine pt_ofW (by decide +kernel) rfl (Nat.le_of_ble_eq_true rfl) rfl (fun sz => ?_)
  refine px_iload_n (q := 1) dI_P_prime_0 rfl rfl ?_
  refine px_tcallS1 (ν := tP_checkRegister) dI_P_prime_1 wl_P_48 ws_P_checkRegister wb_P_checkRegister wi_P ⟨rfl, rfl⟩ (by decide +kernel) ⟨(Nat.le_of_ble_eq_true rfl), (Nat.le_of_ble_eq_true rfl)⟩ (Nat.le_of_ble_eq_true rfl) (Nat.le_of_ble_eq_true rfl) (Nat.le_of_ble_eq_true rfl) (t_P_check hT hS0 hbad hp)
theorem t_P_order_bad {a : Int32} {m : Int32} (hT : xT_ g) (hS0 : l.stackTraces = false) (hbad : bd_ a) (hp : PX xI_ X Y) : pw_Thr l g tP_order [.ref (ad_ g 0), .int a, .int m] X Y PX := by
  refine pt_ofW (by decide +kernel) rfl (Nat.le_of_ble_eq_true rfl) rfl (fun sz => ?_)
  refine px_iload_n (q := 1) dI_P_order_0 rfl rfl ?_
  refine px_tcallS1 (ν := tP_checkRegister) dI_P_order_1 wl_P_48 ws_P_checkRegister wb_P_checkRegister wi_P ⟨rfl, rfl⟩ (by decide +kernel) ⟨(Nat.le_of_ble_eq_true rfl), (Nat.le_of_ble_eq_true rfl)⟩ (Nat.le_of_ble_eq_true rfl) (Nat.le_of_ble_eq_true rfl) (Nat.le_of_ble_eq_true rfl) (t_P_check hT hS0 hbad hp)
theorem t_P_congruent_bad {a : Int32} {m c : Int32} (hT : xT_ g) (hS0 : l.stackTraces = false) (hbad : bd_ a) (hp : PX xI_ X Y) : pw_Thr l g tP_congruent [.ref (ad_ g 0), .int a, .int m, .int c] X Y PX := by
  refine pt_ofW (by decide +kernel) rfl (Nat.le_of_ble_eq_true rfl) rfl (fun sz => ?_)
  refine px_iload_n (q := 1) dI_P_congruent_0 rfl rfl ?_
  refine px_tcallS1 (ν := tP_checkRegister) dI_P_congruent_1 wl_P_48 ws_P_checkRegister wb_P_checkRegister wi_P ⟨rfl, rfl⟩ (by decide +kernel) ⟨(Nat.le_of_ble_eq_true rfl), (Nat.le_of_ble_eq_true rfl)⟩ (Nat.le_of_ble_eq_true rfl) (Nat.le_of_ble_eq_true rfl) (Nat.le_of_ble_eq_true rfl) (t_P_check hT hS0 hbad hp)
theorem t_P_compare_bad {a b : Int32} (hT : xT_ g) (hS0 : l.stackTraces = false) (hbad : bd_ a ∨ bd_ b) (hp : PX xI_ X Y) : pw_Thr l g tP_compare [.ref (ad_ g 0), .int a, .int b] X Y PX := by
  refine pt_ofW (by decide +kernel) rfl (Nat.le_of_ble_eq_true rfl) rfl (fun sz => ?_)
  by_cases ha : bd_ a
  · refine px_iload_n (q := 1) dI_P_compare_0 rfl rfl ?_
    refine px_tcallS1 (ν := tP_checkRegister) dI_P_compare_1 wl_P_48 ws_P_checkRegister wb_P_checkRegister wi_P ⟨rfl, rfl⟩ (by decide +kernel) ⟨(Nat.le_of_ble_eq_true rfl), (Nat.le_of_ble_eq_true rfl)⟩ (Nat.le_of_ble_eq_true rfl) (Nat.le_of_ble_eq_true rfl) (Nat.le_of_ble_eq_true rfl) (t_P_check hT hS0 ha hp)
  · obtain ⟨ka, hka, rfl⟩ := Decidable.not_not.mp ha
    refine px_iload_n (q := 1) dI_P_compare_0 rfl rfl ?_
    refine px_callS1 (q := 4) (ν := mP_checkRegister) dI_P_compare_1 wl_P_48 ws_P_checkRegister wb_P_checkRegister wi_P ⟨rfl, rfl⟩ (by decide +kernel) ⟨(Nat.le_of_ble_eq_true rfl), (Nat.le_of_ble_eq_true rfl)⟩ (Nat.le_of_ble_eq_true rfl) rfl (c_P_check hka ?_)
    refine px_iload_n (q := 5) dI_P_compare_4 rfl rfl ?_
    refine px_tcallS1 (ν := tP_checkRegister) dI_P_compare_5 wl_P_48 ws_P_checkRegister wb_P_checkRegister wi_P ⟨rfl, rfl⟩ (by decide +kernel) ⟨(Nat.le_of_ble_eq_true rfl), (Nat.le_of_ble_eq_true rfl)⟩ (Nat.le_of_ble_eq_true rfl) (Nat.le_of_ble_eq_true rfl) (Nat.le_of_ble_eq_true rfl) (t_P_check hT hS0 (hbad.elim (fun q => absurd q ha) id) hp)
theorem t_P_word_bad {a k : Int32} (hT : xT_ g) (hS0 : l.stackTraces = false) (hbad : bd_ a ∨ ¬ ∃ j, j < 4 ∧ k = nI j) (hp : PX xI_ X Y) : pw_Thr l g tP_word [.ref (ad_ g 0), .int a, .int k] X Y PX := by
  refine pt_ofW (by decide +kernel) rfl (Nat.le_of_ble_eq_true rfl) rfl (fun sz => ?_)
  by_cases ha : bd_ a
  · refine px_iload_n (q := 1) dI_P_word_0 rfl rfl ?_
    refine px_tcallS1 (ν := tP_checkRegister) dI_P_word_1 wl_P_48 ws_P_checkRegister wb_P_checkRegister wi_P ⟨rfl, rfl⟩ (by decide +kernel) ⟨(Nat.le_of_ble_eq_true rfl), (Nat.le_of_ble_eq_true rfl)⟩ (Nat.le_of_ble_eq_true rfl) (Nat.le_of_ble_eq_true rfl) (Nat.le_of_ble_eq_true rfl) (t_P_check hT hS0 ha hp)
  · obtain ⟨ka, hka, rfl⟩ := Decidable.not_not.mp ha
    have hk : ¬ ∃ j, j < 4 ∧ k = nI j := hbad.elim (fun q => absurd q ha) id
    refine px_iload_n (q := 1) dI_P_word_0 rfl rfl ?_
    refine px_callS1 (q := 4) (ν := mP_checkRegister) dI_P_word_1 wl_P_48 ws_P_checkRegister wb_P_checkRegister wi_P ⟨rfl, rfl⟩ (by decide +kernel) ⟨(Nat.le_of_ble_eq_true rfl), (Nat.le_of_ble_eq_true rfl)⟩ (Nat.le_of_ble_eq_true rfl) rfl (c_P_check hka ?_)
    refine px_iload_n (q := 5) dI_P_word_4 rfl rfl ?_
    refine px_if_lt (q := 8) (tgt := 13) dI_P_word_5 (by decide) rfl (fun b5 => ?_) (fun b5 => ?_)
    · refine px_throw hT hS0 rfl tgI tx_136 dI_P_word_13 dI_P_word_16 dI_P_word_17 dI_P_word_19 dI_P_word_22 (Nat.le_of_ble_eq_true rfl) (Nat.le_of_ble_eq_true rfl) (Nat.le_of_ble_eq_true rfl) (Nat.le_of_ble_eq_true rfl) ?_
      exact hp
    · refine px_iload_n (q := 9) dI_P_word_8 rfl rfl ?_
      refine px_iconst (q := 10) (v := nI 4) dI_P_word_9 (by decide +kernel) rfl ?_
      refine px_icmp_lt (q := 13) (tgt := 23) dI_P_word_10 (by decide) rfl (fun b10 => ?_) (fun b10 => ?_)
      · exfalso
        obtain ⟨j, hj, e⟩ := nI_lt2 (n := 3) (by decide) b5 b10
        exact hk ⟨j, by omega, e⟩
      · refine px_throw hT hS0 rfl tgI tx_136 dI_P_word_13 dI_P_word_16 dI_P_word_17 dI_P_word_19 dI_P_word_22 (Nat.le_of_ble_eq_true rfl) (Nat.le_of_ble_eq_true rfl) (Nat.le_of_ble_eq_true rfl) (Nat.le_of_ble_eq_true rfl) ?_
        exact hp
theorem t_P_put_neg {t : Nat} {x : Int64} (hT : xT_ g) (hS0 : l.stackTraces = false) (ht : t < 6) (hx : x < 0) (hp : PX xA_ X Y) : pw_Thr l g tP_put [.ref (ad_ g 0), .int (nI t), .long x] X Y PX := by
  refine pt_ofW (by decide +kernel) rfl (Nat.le_of_ble_eq_true rfl) rfl (fun sz => ?_)
  refine px_iload_n (q := 1) dI_P_put_0 rfl rfl ?_
  refine px_callS1 (q := 4) (ν := mP_checkRegister) dI_P_put_1 wl_P_48 ws_P_checkRegister wb_P_checkRegister wi_P ⟨rfl, rfl⟩ (by decide +kernel) ⟨(Nat.le_of_ble_eq_true rfl), (Nat.le_of_ble_eq_true rfl)⟩ (Nat.le_of_ble_eq_true rfl) rfl (c_P_check ht ?_)
  refine px_lload_n (q := 5) dI_P_put_4 rfl rfl ?_
  refine px_lconst (q := 6) (v := lN 0) dI_P_put_5 rfl rfl ?_
  refine px_lcmp (q := 7) dI_P_put_6 rfl ?_
  refine px_if_ge (q := 10) (tgt := 20) dI_P_put_7 (by decide) rfl (fun b7 => ?_) (fun b7 => ?_)
  · exact absurd ((lg_cmp_ge _ _).mp b7) (Int64.not_le.mpr hx)
  · refine px_throw hT hS0 rfl tgA tx_54 dI_P_put_10 dI_P_put_13 dI_P_put_14 dI_P_put_16 dI_P_put_19 (Nat.le_of_ble_eq_true rfl) (Nat.le_of_ble_eq_true rfl) (Nat.le_of_ble_eq_true rfl) (Nat.le_of_ble_eq_true rfl) ?_
    exact hp
theorem t_P_append_over {t : Nat} {x : Int32} (hT : xT_ g) (hS0 : l.stackTraces = false) (ht : t < 6) (hv : 4294967296 ^ 3 ≤ v t) (hdk : dk_ X v) (hp : PX xM_ X Y) : pw_Thr l g tP_append [.ref (ad_ g 0), .int (nI t), .int x] X Y PX := by
  obtain ⟨d, hd, hdv⟩ := hdk t ht
  have h3 := hd 3 (by decide)
  have hne : d 3 ≠ 0 := by
    intro z
    have h4 : vl_ d 3 < 4294967296 ^ 3 := rw_lt (rw_mono hd (by decide))
    have h5 : vl_ d (3 + 1) = vl_ d 3 := vl_up 1 (fun i h1 h2 => by
      obtain rfl : i = 3 := by omega
      exact z)
    rw [← h5] at h4
    have h6 : vl_ d (3 + 1) = v t := hdv
    rw [h6] at h4
    exact absurd h4 (Nat.not_lt.mpr hv)
  refine pt_ofW (by decide +kernel) rfl (Nat.le_of_ble_eq_true rfl) rfl (fun sz => ?_)
  refine px_iload_n (q := 1) dI_P_append_0 rfl rfl ?_
  refine px_callS1 (q := 4) (ν := mP_checkRegister) dI_P_append_1 wl_P_48 ws_P_checkRegister wb_P_checkRegister wi_P ⟨rfl, rfl⟩ (by decide +kernel) ⟨(Nat.le_of_ble_eq_true rfl), (Nat.le_of_ble_eq_true rfl)⟩ (Nat.le_of_ble_eq_true rfl) rfl (c_P_check ht ?_)
  refine px_aload_n (q := 5) dI_P_append_4 rfl rfl ?_
  refine px_getP (q := 8) (j := 0) dI_P_append_5 wf_P_11 rfl (by decide) rfl rfl ?_
  refine px_iload_n (q := 9) dI_P_append_8 rfl rfl ?_
  refine px_aald (q := 10) dI_P_append_9 (by omega) rfl ?_
  refine px_astore_n (q := 11) dI_P_append_10 rfl (by decide) rfl rfl ?_
  refine px_aload_n (q := 12) dI_P_append_11 rfl rfl ?_
  refine px_iconst (q := 13) (v := nI 3) dI_P_append_12 (by decide +kernel) rfl ?_
  refine px_lald (q := 14) dI_P_append_13 (ln_J_r t ht) (by omega) (by omega) h3.1 rfl ?_
  refine px_lconst (q := 15) (v := lN 0) dI_P_append_14 rfl rfl ?_
  refine px_lcmp (q := 16) dI_P_append_15 rfl ?_
  refine px_if_eqC (q := 19) (tgt := 29) dI_P_append_16 (by omega) (by omega) (by decide) rfl (fun b16 => ?_) (fun b16 => ?_)
  · exact absurd b16 hne
  · refine px_throw hT hS0 rfl tgM tx_67 dI_P_append_19 dI_P_append_22 dI_P_append_23 dI_P_append_25 dI_P_append_28 (Nat.le_of_ble_eq_true rfl) (Nat.le_of_ble_eq_true rfl) (Nat.le_of_ble_eq_true rfl) (Nat.le_of_ble_eq_true rfl) ?_
    exact hp
theorem t_P_add_over {a b t : Nat} (hT : xT_ g) (hS0 : l.stackTraces = false) (ha : a < 6) (hb : b < 6) (ht : t < 6) (hs : 4294967296 ^ 4 ≤ v a + v b) (hdk : dk_ X v) (hp : ∀ X', dk_ X' v → fr_ X Y X' Y → PX xM_ X' Y) : pw_Thr l g tP_add [.ref (ad_ g 0), .int (nI a), .int (nI b), .int (nI t)] X Y PX := by
  obtain ⟨da, hda, hva⟩ := hdk a ha
  obtain ⟨db, hdb, hvb⟩ := hdk b hb
  refine pt_ofW (by decide +kernel) rfl (Nat.le_of_ble_eq_true rfl) rfl (fun sz => ?_)
  refine px_iload_n (q := 1) dI_P_add_0 rfl rfl ?_
  refine px_iload_n (q := 2) dI_P_add_1 rfl rfl ?_
  refine px_iload_n (q := 3) dI_P_add_2 rfl rfl ?_
  refine px_callS3 (q := 6) (ν := mP_checkRegisters) dI_P_add_3 wl_P_72 ws_P_checkRegisters wb_P_checkRegisters wi_P ⟨rfl, rfl⟩ (by decide +kernel) ⟨(Nat.le_of_ble_eq_true rfl), (Nat.le_of_ble_eq_true rfl)⟩ (Nat.le_of_ble_eq_true rfl) rfl (c_P_checks ha hb ht ?_)
  refine px_aload_n (q := 7) dI_P_add_6 rfl rfl ?_
  refine px_getP (q := 10) (j := 0) dI_P_add_7 wf_P_11 rfl (by decide) rfl rfl ?_
  refine px_iload_n (q := 11) dI_P_add_10 rfl rfl ?_
  refine px_aald (q := 12) dI_P_add_11 (by omega) rfl ?_
  refine px_aload_n (q := 13) dI_P_add_12 rfl rfl ?_
  refine px_getP (q := 16) (j := 0) dI_P_add_13 wf_P_11 rfl (by decide) rfl rfl ?_
  refine px_iload_n (q := 17) dI_P_add_16 rfl rfl ?_
  refine px_aald (q := 18) dI_P_add_17 (by omega) rfl ?_
  refine px_aload_n (q := 19) dI_P_add_18 rfl rfl ?_
  refine px_getP (q := 22) (j := 1) dI_P_add_19 wf_P_14 rfl (by decide) rfl rfl ?_
  refine px_callS3 (q := 25) (ν := mU_sum) dI_P_add_22 wl_P_76 ws_U_sum wb_U_sum wi_U ⟨rfl, rfl⟩ (by decide +kernel) ⟨(Nat.le_of_ble_eq_true rfl), (Nat.le_of_ble_eq_true rfl)⟩ (Nat.le_of_ble_eq_true rfl) rfl (c_U_sum (o := 8) (ln_J_r a ha) (ln_J_r b hb) rfl (by omega) (by omega) hda hdb (fun f d c hd hc hv => ?_))
  rw [hva, hvb] at hv
  have hne : c ≠ 0 := by
    intro z
    rw [z, Nat.zero_mul, Nat.add_zero] at hv
    have h4 := rw_lt hd
    rw [hv] at h4
    exact absurd h4 (Nat.not_lt.mpr hs)
  clear hv hs
  refine px_lconst (q := 26) (v := lN 0) dI_P_add_25 rfl rfl ?_
  refine px_lcmp (q := 27) dI_P_add_26 rfl ?_
  refine px_if_eqC (q := 30) (tgt := 40) dI_P_add_27 (by omega) (by omega) (by decide) rfl (fun b27 => ?_) (fun b27 => ?_)
  · exact absurd b27 hne
  · refine px_throw hT hS0 rfl tgM tx_80 dI_P_add_30 dI_P_add_33 dI_P_add_34 dI_P_add_36 dI_P_add_39 (Nat.le_of_ble_eq_true rfl) (Nat.le_of_ble_eq_true rfl) (Nat.le_of_ble_eq_true rfl) (Nat.le_of_ble_eq_true rfl) ?_
    exact hp _ (dk_x (by decide) hdk) (fr_x (by decide) fr_0)
theorem t_P_subtract_under {a b t : Nat} (hT : xT_ g) (hS0 : l.stackTraces = false) (ha : a < 6) (hb : b < 6) (ht : t < 6) (hs : v a < v b) (hdk : dk_ X v) (hp : ∀ X', dk_ X' v → fr_ X Y X' Y → PX xM_ X' Y) : pw_Thr l g tP_subtract [.ref (ad_ g 0), .int (nI a), .int (nI b), .int (nI t)] X Y PX := by
  obtain ⟨da, hda, hva⟩ := hdk a ha
  obtain ⟨db, hdb, hvb⟩ := hdk b hb
  refine pt_ofW (by decide +kernel) rfl (Nat.le_of_ble_eq_true rfl) rfl (fun sz => ?_)
  refine px_iload_n (q := 1) dI_P_subtract_0 rfl rfl ?_
  refine px_iload_n (q := 2) dI_P_subtract_1 rfl rfl ?_
  refine px_iload_n (q := 3) dI_P_subtract_2 rfl rfl ?_
  refine px_callS3 (q := 6) (ν := mP_checkRegisters) dI_P_subtract_3 wl_P_72 ws_P_checkRegisters wb_P_checkRegisters wi_P ⟨rfl, rfl⟩ (by decide +kernel) ⟨(Nat.le_of_ble_eq_true rfl), (Nat.le_of_ble_eq_true rfl)⟩ (Nat.le_of_ble_eq_true rfl) rfl (c_P_checks ha hb ht ?_)
  refine px_aload_n (q := 7) dI_P_subtract_6 rfl rfl ?_
  refine px_getP (q := 10) (j := 0) dI_P_subtract_7 wf_P_11 rfl (by decide) rfl rfl ?_
  refine px_iload_n (q := 11) dI_P_subtract_10 rfl rfl ?_
  refine px_aald (q := 12) dI_P_subtract_11 (by omega) rfl ?_
  refine px_aload_n (q := 13) dI_P_subtract_12 rfl rfl ?_
  refine px_getP (q := 16) (j := 0) dI_P_subtract_13 wf_P_11 rfl (by decide) rfl rfl ?_
  refine px_iload_n (q := 17) dI_P_subtract_16 rfl rfl ?_
  refine px_aald (q := 18) dI_P_subtract_17 (by omega) rfl ?_
  refine px_aload_n (q := 19) dI_P_subtract_18 rfl rfl ?_
  refine px_getP (q := 22) (j := 1) dI_P_subtract_19 wf_P_14 rfl (by decide) rfl rfl ?_
  refine px_callS3 (q := 25) (ν := mU_difference) dI_P_subtract_22 wl_P_86 ws_U_difference wb_U_difference wi_U ⟨rfl, rfl⟩ (by decide +kernel) ⟨(Nat.le_of_ble_eq_true rfl), (Nat.le_of_ble_eq_true rfl)⟩ (Nat.le_of_ble_eq_true rfl) rfl (c_U_difference (o := 8) (ln_J_r a ha) (ln_J_r b hb) rfl (by omega) (by omega) hda hdb (fun f d c hd hc hv => ?_))
  rw [hva, hvb] at hv
  have hne : c ≠ 0 := by
    intro z
    rw [z, Nat.zero_mul, Nat.add_zero] at hv
    have : v b ≤ v a := by rw [← hv]; exact Nat.le_add_left _ _
    exact absurd hs (Nat.not_lt.mpr this)
  clear hv hs
  refine px_lconst (q := 26) (v := lN 0) dI_P_subtract_25 rfl rfl ?_
  refine px_lcmp (q := 27) dI_P_subtract_26 rfl ?_
  refine px_if_eqC (q := 30) (tgt := 40) dI_P_subtract_27 (by omega) (by omega) (by decide) rfl (fun b27 => ?_) (fun b27 => ?_)
  · exact absurd b27 hne
  · refine px_throw hT hS0 rfl tgM tx_89 dI_P_subtract_30 dI_P_subtract_33 dI_P_subtract_34 dI_P_subtract_36 dI_P_subtract_39 (Nat.le_of_ble_eq_true rfl) (Nat.le_of_ble_eq_true rfl) (Nat.le_of_ble_eq_true rfl) (Nat.le_of_ble_eq_true rfl) ?_
    exact hp _ (dk_x (by decide) hdk) (fr_x (by decide) fr_0)
theorem t_P_multiply_over {a b t : Nat} (hT : xT_ g) (hS0 : l.stackTraces = false) (ha : a < 6) (hb : b < 6) (ht : t < 6) (hs : 4294967296 ^ 4 ≤ v a * v b) (hdk : dk_ X v) (hp : ∀ X', dk_ X' v → fr_ X Y X' Y → PX xM_ X' Y) : pw_Thr l g tP_multiply [.ref (ad_ g 0), .int (nI a), .int (nI b), .int (nI t)] X Y PX := by
  obtain ⟨da, hda, hva⟩ := hdk a ha
  obtain ⟨db, hdb, hvb⟩ := hdk b hb
  refine pt_ofW (by decide +kernel) rfl (Nat.le_of_ble_eq_true rfl) rfl (fun sz => ?_)
  refine px_iload_n (q := 1) dI_P_multiply_0 rfl rfl ?_
  refine px_iload_n (q := 2) dI_P_multiply_1 rfl rfl ?_
  refine px_iload_n (q := 3) dI_P_multiply_2 rfl rfl ?_
  refine px_callS3 (q := 6) (ν := mP_checkRegisters) dI_P_multiply_3 wl_P_72 ws_P_checkRegisters wb_P_checkRegisters wi_P ⟨rfl, rfl⟩ (by decide +kernel) ⟨(Nat.le_of_ble_eq_true rfl), (Nat.le_of_ble_eq_true rfl)⟩ (Nat.le_of_ble_eq_true rfl) rfl (c_P_checks ha hb ht ?_)
  refine px_aload_n (q := 7) dI_P_multiply_6 rfl rfl ?_
  refine px_getP (q := 10) (j := 0) dI_P_multiply_7 wf_P_11 rfl (by decide) rfl rfl ?_
  refine px_iload_n (q := 11) dI_P_multiply_10 rfl rfl ?_
  refine px_aald (q := 12) dI_P_multiply_11 (by omega) rfl ?_
  refine px_aload_n (q := 13) dI_P_multiply_12 rfl rfl ?_
  refine px_getP (q := 16) (j := 0) dI_P_multiply_13 wf_P_11 rfl (by decide) rfl rfl ?_
  refine px_iload_n (q := 17) dI_P_multiply_16 rfl rfl ?_
  refine px_aald (q := 18) dI_P_multiply_17 (by omega) rfl ?_
  refine px_aload_n (q := 19) dI_P_multiply_18 rfl rfl ?_
  refine px_getP (q := 22) (j := 4) dI_P_multiply_19 wf_P_24 rfl (by decide) rfl rfl ?_
  refine px_callS3 (q := 25) (ν := mU_product) dI_P_multiply_22 wl_P_91 ws_U_product wb_U_product wi_U ⟨rfl, rfl⟩ (by decide +kernel) ⟨(Nat.le_of_ble_eq_true rfl), (Nat.le_of_ble_eq_true rfl)⟩ (Nat.le_of_ble_eq_true rfl) rfl (c_U_product (o := 11) (ln_J_r a ha) (ln_J_r b hb) rfl (by omega) (by omega) hda hdb (fun f d hd hv => ?_))
  rw [hva, hvb] at hv
  refine px_aload_n (q := 26) dI_P_multiply_25 rfl rfl ?_
  refine px_getP (q := 29) (j := 4) dI_P_multiply_26 wf_P_24 rfl (by decide) rfl rfl ?_
  refine px_callS1 (q := 32) (ν := mU_length) dI_P_multiply_29 wl_P_95 ws_U_length wb_U_length wi_U ⟨rfl, rfl⟩ (by decide +kernel) ⟨(Nat.le_of_ble_eq_true rfl), (Nat.le_of_ble_eq_true rfl)⟩ (Nat.le_of_ble_eq_true rfl) rfl (c_U_length (a := 11) (n := 8) rfl (by rw [xr_s]; exact hd) (fun L hL hLv hLd hz => ?_))
  have hL4 : 4 < L := by
    refine Nat.lt_of_not_le (fun q => ?_)
    have h4 : vl_ d L < 4294967296 ^ L := rw_lt (rw_mono hd hL)
    have h5 : 4294967296 ^ L ≤ 4294967296 ^ 4 := Nat.pow_le_pow_right (by decide) q
    rw [← hLv, hv] at h4
    exact absurd (Nat.lt_of_lt_of_le h4 h5) (Nat.not_lt.mpr hs)
  refine px_iconst (q := 33) (v := nI 4) dI_P_multiply_32 (by decide +kernel) rfl ?_
  refine px_icmp_leN (q := 36) (tgt := 46) dI_P_multiply_33 (by omega) (by omega) (by decide) rfl (fun b33 => ?_) (fun b33 => ?_)
  · omega
  · refine px_throw hT hS0 rfl tgM tx_99 dI_P_multiply_36 dI_P_multiply_39 dI_P_multiply_40 dI_P_multiply_42 dI_P_multiply_45 (Nat.le_of_ble_eq_true rfl) (Nat.le_of_ble_eq_true rfl) (Nat.le_of_ble_eq_true rfl) (Nat.le_of_ble_eq_true rfl) ?_
    exact hp _ (dk_x (by decide) hdk) (fr_x (by decide) fr_0)
theorem t_P_divide_same {a b q : Nat} (hT : xT_ g) (hS0 : l.stackTraces = false) (ha : a < 6) (hb : b < 6) (hq : q < 6) (hp : PX xA_ X Y) : pw_Thr l g tP_divide [.ref (ad_ g 0), .int (nI a), .int (nI b), .int (nI q), .int (nI q)] X Y PX := by
  refine pt_ofW (by decide +kernel) rfl (Nat.le_of_ble_eq_true rfl) rfl (fun sz => ?_)
  refine px_iload_n (q := 1) dI_P_divide_0 rfl rfl ?_
  refine px_iload_n (q := 2) dI_P_divide_1 rfl rfl ?_
  refine px_iload_n (q := 3) dI_P_divide_2 rfl rfl ?_
  refine px_callS3 (q := 6) (ν := mP_checkRegisters) dI_P_divide_3 wl_P_72 ws_P_checkRegisters wb_P_checkRegisters wi_P ⟨rfl, rfl⟩ (by decide +kernel) ⟨(Nat.le_of_ble_eq_true rfl), (Nat.le_of_ble_eq_true rfl)⟩ (Nat.le_of_ble_eq_true rfl) rfl (c_P_checks ha hb hq ?_)
  refine px_iload (q := 8) dI_P_divide_6 rfl rfl ?_
  refine px_callS1 (q := 11) (ν := mP_checkRegister) dI_P_divide_8 wl_P_48 ws_P_checkRegister wb_P_checkRegister wi_P ⟨rfl, rfl⟩ (by decide +kernel) ⟨(Nat.le_of_ble_eq_true rfl), (Nat.le_of_ble_eq_true rfl)⟩ (Nat.le_of_ble_eq_true rfl) rfl (c_P_check hq ?_)
  refine px_iload_n (q := 12) dI_P_divide_11 rfl rfl ?_
  refine px_iload (q := 14) dI_P_divide_12 rfl rfl ?_
  refine px_icmp_neN (q := 17) (tgt := 27) dI_P_divide_14 (by omega) (by omega) (by decide) rfl (fun b14 => ?_) (fun b14 => ?_)
  · exact absurd rfl b14
  · refine px_throw hT hS0 rfl tgA tx_101 dI_P_divide_17 dI_P_divide_20 dI_P_divide_21 dI_P_divide_23 dI_P_divide_26 (Nat.le_of_ble_eq_true rfl) (Nat.le_of_ble_eq_true rfl) (Nat.le_of_ble_eq_true rfl) (Nat.le_of_ble_eq_true rfl) ?_
    exact hp
theorem t_P_divide_0 {a b q r : Nat} (hT : xT_ g) (hS0 : l.stackTraces = false) (ha : a < 6) (hb : b < 6) (hq : q < 6) (hr : r < 6) (hqr : q ≠ r) (h0 : v b = 0) (hdk : dk_ X v) (hp : PX xM_ X Y) : pw_Thr l g tP_divide [.ref (ad_ g 0), .int (nI a), .int (nI b), .int (nI q), .int (nI r)] X Y PX := by
  obtain ⟨db, hdb, hvb⟩ := hdk b hb
  refine pt_ofW (by decide +kernel) rfl (Nat.le_of_ble_eq_true rfl) rfl (fun sz => ?_)
  refine px_iload_n (q := 1) dI_P_divide_0 rfl rfl ?_
  refine px_iload_n (q := 2) dI_P_divide_1 rfl rfl ?_
  refine px_iload_n (q := 3) dI_P_divide_2 rfl rfl ?_
  refine px_callS3 (q := 6) (ν := mP_checkRegisters) dI_P_divide_3 wl_P_72 ws_P_checkRegisters wb_P_checkRegisters wi_P ⟨rfl, rfl⟩ (by decide +kernel) ⟨(Nat.le_of_ble_eq_true rfl), (Nat.le_of_ble_eq_true rfl)⟩ (Nat.le_of_ble_eq_true rfl) rfl (c_P_checks ha hb hq ?_)
  refine px_iload (q := 8) dI_P_divide_6 rfl rfl ?_
  refine px_callS1 (q := 11) (ν := mP_checkRegister) dI_P_divide_8 wl_P_48 ws_P_checkRegister wb_P_checkRegister wi_P ⟨rfl, rfl⟩ (by decide +kernel) ⟨(Nat.le_of_ble_eq_true rfl), (Nat.le_of_ble_eq_true rfl)⟩ (Nat.le_of_ble_eq_true rfl) rfl (c_P_check hr ?_)
  refine px_iload_n (q := 12) dI_P_divide_11 rfl rfl ?_
  refine px_iload (q := 14) dI_P_divide_12 rfl rfl ?_
  refine px_icmp_neN (q := 17) (tgt := 27) dI_P_divide_14 (by omega) (by omega) (by decide) rfl (fun b14 => ?_) (fun b14 => ?_)
  · refine px_aload_n (q := 28) dI_P_divide_27 rfl rfl ?_
    refine px_getP (q := 31) (j := 0) dI_P_divide_28 wf_P_11 rfl (by decide) rfl rfl ?_
    refine px_iload_n (q := 32) dI_P_divide_31 rfl rfl ?_
    refine px_aald (q := 33) dI_P_divide_32 (by omega) rfl ?_
    refine px_callS1 (q := 36) (ν := mU_isZero) dI_P_divide_33 wl_P_103 ws_U_isZero wb_U_isZero wi_U ⟨rfl, rfl⟩ (by decide +kernel) ⟨(Nat.le_of_ble_eq_true rfl), (Nat.le_of_ble_eq_true rfl)⟩ (Nat.le_of_ble_eq_true rfl) rfl (c_U_isZero (ln_J_r b hb) hdb (fun z => ?_) (fun z => absurd (hvb.trans h0) z))
    refine px_if_eqN (q := 39) (tgt := 49) dI_P_divide_36 (by omega) (by decide) rfl (fun b36 => ?_) (fun b36 => ?_)
    · exact absurd b36 (by decide)
    · refine px_throw hT hS0 rfl tgM tx_107 dI_P_divide_39 dI_P_divide_42 dI_P_divide_43 dI_P_divide_45 dI_P_divide_48 (Nat.le_of_ble_eq_true rfl) (Nat.le_of_ble_eq_true rfl) (Nat.le_of_ble_eq_true rfl) (Nat.le_of_ble_eq_true rfl) ?_
      exact hp
  · exact absurd b14 hqr
theorem t_P_power_0 {a b q r : Nat} (hT : xT_ g) (hS0 : l.stackTraces = false) (ha : a < 6) (hb : b < 6) (hq : q < 6) (hr : r < 6) (h0 : v q = 0) (hdk : dk_ X v) (hp : PX xM_ X Y) : pw_Thr l g tP_power [.ref (ad_ g 0), .int (nI a), .int (nI b), .int (nI q), .int (nI r)] X Y PX := by
  obtain ⟨dq, hdq, hvq⟩ := hdk q hq
  refine pt_ofW (by decide +kernel) rfl (Nat.le_of_ble_eq_true rfl) rfl (fun sz => ?_)
  refine px_iload_n (q := 1) dI_P_power_0 rfl rfl ?_
  refine px_iload_n (q := 2) dI_P_power_1 rfl rfl ?_
  refine px_iload_n (q := 3) dI_P_power_2 rfl rfl ?_
  refine px_callS3 (q := 6) (ν := mP_checkRegisters) dI_P_power_3 wl_P_72 ws_P_checkRegisters wb_P_checkRegisters wi_P ⟨rfl, rfl⟩ (by decide +kernel) ⟨(Nat.le_of_ble_eq_true rfl), (Nat.le_of_ble_eq_true rfl)⟩ (Nat.le_of_ble_eq_true rfl) rfl (c_P_checks ha hb hq ?_)
  refine px_iload (q := 8) dI_P_power_6 rfl rfl ?_
  refine px_callS1 (q := 11) (ν := mP_checkRegister) dI_P_power_8 wl_P_48 ws_P_checkRegister wb_P_checkRegister wi_P ⟨rfl, rfl⟩ (by decide +kernel) ⟨(Nat.le_of_ble_eq_true rfl), (Nat.le_of_ble_eq_true rfl)⟩ (Nat.le_of_ble_eq_true rfl) rfl (c_P_check hr ?_)
  refine px_aload_n (q := 12) dI_P_power_11 rfl rfl ?_
  refine px_getP (q := 15) (j := 0) dI_P_power_12 wf_P_11 rfl (by decide) rfl rfl ?_
  refine px_iload_n (q := 16) dI_P_power_15 rfl rfl ?_
  refine px_aald (q := 17) dI_P_power_16 (by omega) rfl ?_
  refine px_callS1 (q := 20) (ν := mU_isZero) dI_P_power_17 wl_P_103 ws_U_isZero wb_U_isZero wi_U ⟨rfl, rfl⟩ (by decide +kernel) ⟨(Nat.le_of_ble_eq_true rfl), (Nat.le_of_ble_eq_true rfl)⟩ (Nat.le_of_ble_eq_true rfl) rfl (c_U_isZero (ln_J_r q hq) hdq (fun z => ?_) (fun z => absurd (hvq.trans h0) z))
  refine px_if_eqN (q := 23) (tgt := 33) dI_P_power_20 (by omega) (by decide) rfl (fun b20 => ?_) (fun b20 => ?_)
  · exact absurd b20 (by decide)
  · refine px_throw hT hS0 rfl tgM tx_122 dI_P_power_23 dI_P_power_26 dI_P_power_27 dI_P_power_29 dI_P_power_32 (Nat.le_of_ble_eq_true rfl) (Nat.le_of_ble_eq_true rfl) (Nat.le_of_ble_eq_true rfl) (Nat.le_of_ble_eq_true rfl) ?_
    exact hp
theorem t_P_order_m {a : Nat} {m : Int32} (hT : xT_ g) (hS0 : l.stackTraces = false) (ha : a < 6) (hbad : ¬ ∃ k, 2 ≤ k ∧ k ≤ 1000 ∧ m = nI k) (hp : PX xA_ X Y) : pw_Thr l g tP_order [.ref (ad_ g 0), .int (nI a), .int m] X Y PX := by
  refine pt_ofW (by decide +kernel) rfl (Nat.le_of_ble_eq_true rfl) rfl (fun sz => ?_)
  refine px_iload_n (q := 1) dI_P_order_0 rfl rfl ?_
  refine px_callS1 (q := 4) (ν := mP_checkRegister) dI_P_order_1 wl_P_48 ws_P_checkRegister wb_P_checkRegister wi_P ⟨rfl, rfl⟩ (by decide +kernel) ⟨(Nat.le_of_ble_eq_true rfl), (Nat.le_of_ble_eq_true rfl)⟩ (Nat.le_of_ble_eq_true rfl) rfl (c_P_check ha ?_)
  refine px_iload_n (q := 5) dI_P_order_4 rfl rfl ?_
  refine px_iconst (q := 6) (v := nI 2) dI_P_order_5 (by decide +kernel) rfl ?_
  refine px_icmp_lt (q := 9) (tgt := 16) dI_P_order_6 (by decide) rfl (fun b6 => ?_) (fun b6 => ?_)
  · refine px_throw hT hS0 rfl tgA tx_142 dI_P_order_16 dI_P_order_19 dI_P_order_20 dI_P_order_22 dI_P_order_25 (Nat.le_of_ble_eq_true rfl) (Nat.le_of_ble_eq_true rfl) (Nat.le_of_ble_eq_true rfl) (Nat.le_of_ble_eq_true rfl) ?_
    exact hp
  · refine px_iload_n (q := 10) dI_P_order_9 rfl rfl ?_
    refine px_sipush (q := 13) (v := nI 1000) dI_P_order_10 (by decide +kernel) rfl ?_
    refine px_icmp_le (q := 16) (tgt := 26) dI_P_order_13 (by decide) rfl (fun b13 => ?_) (fun b13 => ?_)
    · exfalso
      have h0 : ¬ m < 0 := fun q => b6 (by
        rw [Int32.lt_iff_toInt_lt] at q ⊢
        have e1 : (0 : Int32).toInt = 0 := by decide
        have e2 : (nI 2).toInt = 2 := by decide
        omega)
      obtain ⟨k, hk, e⟩ := nI_of2 (M := nI 1000) (n := 1000) (by decide) h0 b13
      refine hbad ⟨k, ?_, hk, e⟩
      subst e
      exact Nat.le_of_not_lt (fun q => b6 (nI_lt q (by decide)))
    · refine px_throw hT hS0 rfl tgA tx_142 dI_P_order_16 dI_P_order_19 dI_P_order_20 dI_P_order_22 dI_P_order_25 (Nat.le_of_ble_eq_true rfl) (Nat.le_of_ble_eq_true rfl) (Nat.le_of_ble_eq_true rfl) (Nat.le_of_ble_eq_true rfl) ?_
      exact hp
theorem t_P_order_0 {a m : Nat} (hT : xT_ g) (hS0 : l.stackTraces = false) (ha : a < 6) (h2 : 2 ≤ m) (hm : m ≤ 1000) (hod : od_ (v a % m) m 0) (hdk : dk_ X v) (hp : PX xM_ X Y) : pw_Thr l g tP_order [.ref (ad_ g 0), .int (nI a), .int (nI m)] X Y PX := by
  obtain ⟨da, hda, hva⟩ := hdk a ha
  refine pt_ofW (by decide +kernel) rfl (Nat.le_of_ble_eq_true rfl) rfl (fun sz => ?_)
  refine px_iload_n (q := 1) dI_P_order_0 rfl rfl ?_
  refine px_callS1 (q := 4) (ν := mP_checkRegister) dI_P_order_1 wl_P_48 ws_P_checkRegister wb_P_checkRegister wi_P ⟨rfl, rfl⟩ (by decide +kernel) ⟨(Nat.le_of_ble_eq_true rfl), (Nat.le_of_ble_eq_true rfl)⟩ (Nat.le_of_ble_eq_true rfl) rfl (c_P_check ha ?_)
  refine px_iload_n (q := 5) dI_P_order_4 rfl rfl ?_
  refine px_iconst (q := 6) (v := nI 2) dI_P_order_5 (by decide +kernel) rfl ?_
  refine px_icmp_ltN (q := 9) (tgt := 16) dI_P_order_6 (by omega) (by omega) (by decide) rfl (fun b6 => ?_) (fun b6 => ?_)
  · omega
  · refine px_iload_n (q := 10) dI_P_order_9 rfl rfl ?_
    refine px_sipush (q := 13) (v := nI 1000) dI_P_order_10 (by decide +kernel) rfl ?_
    refine px_icmp_leN (q := 16) (tgt := 26) dI_P_order_13 (by omega) (by omega) (by decide) rfl (fun b13 => ?_) (fun b13 => ?_)
    · refine px_aload_n (q := 27) dI_P_order_26 rfl rfl ?_
      refine px_getP (q := 30) (j := 0) dI_P_order_27 wf_P_11 rfl (by decide) rfl rfl ?_
      refine px_iload_n (q := 31) dI_P_order_30 rfl rfl ?_
      refine px_aald (q := 32) dI_P_order_31 (by omega) rfl ?_
      refine px_iload_n (q := 33) dI_P_order_32 rfl rfl ?_
      refine px_callS2 (q := 36) (ν := mU_remainderBy) dI_P_order_33 wl_P_144 ws_U_remainderBy wb_U_remainderBy wi_U ⟨rfl, rfl⟩ (by decide +kernel) ⟨(Nat.le_of_ble_eq_true rfl), (Nat.le_of_ble_eq_true rfl)⟩ (Nat.le_of_ble_eq_true rfl) rfl (c_U_remainderBy (ln_J_r a ha) hda h2 hm ?_)
      rw [hva]
      refine px_iload_n (q := 37) dI_P_order_36 rfl rfl ?_
      refine px_callS2 (q := 40) (ν := mS_orderOrZero) dI_P_order_37 wl_P_148 ws_S_orderOrZero wb_S_orderOrZero wi_S ⟨rfl, rfl⟩ (by decide +kernel) ⟨(Nat.le_of_ble_eq_true rfl), (Nat.le_of_ble_eq_true rfl)⟩ (Nat.le_of_ble_eq_true rfl) rfl (c_S_orderOrZero h2 hm (Nat.mod_lt _ (by omega)) (fun k' hk' hod' => ?_))
      rw [od_uniq hod' hod]
      refine px_istore_n (q := 41) dI_P_order_40 rfl (by decide) rfl rfl ?_
      refine px_iload_n (q := 42) dI_P_order_41 rfl rfl ?_
      refine px_if_neN (q := 45) (tgt := 55) dI_P_order_42 (by omega) (by decide) rfl (fun b42 => ?_) (fun b42 => ?_)
      · exact absurd rfl b42
      · refine px_throw hT hS0 rfl tgM tx_154 dI_P_order_45 dI_P_order_48 dI_P_order_49 dI_P_order_51 dI_P_order_54 (Nat.le_of_ble_eq_true rfl) (Nat.le_of_ble_eq_true rfl) (Nat.le_of_ble_eq_true rfl) (Nat.le_of_ble_eq_true rfl) ?_
        exact hp
    · omega
theorem t_P_modulus_n {a : Nat} (hT : xT_ g) (hS0 : l.stackTraces = false) (ha : a < 6) (hv : v a < 2 ∨ 511 < v a) (hdk : dk_ X v) (hp : PX xU_ X Y) : pw_Thr l g tP_modulus [.ref (ad_ g 0), .int (nI a)] X Y PX := by
  obtain ⟨da, hda, hva⟩ := hdk a ha
  refine pt_ofW (by decide +kernel) rfl (Nat.le_of_ble_eq_true rfl) rfl (fun sz => ?_)
  refine px_iload_n (q := 1) dI_P_modulus_0 rfl rfl ?_
  refine px_callS1 (q := 4) (ν := mP_checkRegister) dI_P_modulus_1 wl_P_48 ws_P_checkRegister wb_P_checkRegister wi_P ⟨rfl, rfl⟩ (by decide +kernel) ⟨(Nat.le_of_ble_eq_true rfl), (Nat.le_of_ble_eq_true rfl)⟩ (Nat.le_of_ble_eq_true rfl) rfl (c_P_check ha ?_)
  refine px_aload_n (q := 5) dI_P_modulus_4 rfl rfl ?_
  refine px_getP (q := 8) (j := 0) dI_P_modulus_5 wf_P_11 rfl (by decide) rfl rfl ?_
  refine px_iload_n (q := 9) dI_P_modulus_8 rfl rfl ?_
  refine px_aald (q := 10) dI_P_modulus_9 (by omega) rfl ?_
  refine px_sipush (q := 13) (v := nI 511) dI_P_modulus_10 (by decide +kernel) rfl ?_
  refine px_callS2 (q := 16) (ν := mU_valueUpTo) dI_P_modulus_13 wl_P_156 ws_U_valueUpTo wb_U_valueUpTo wi_U ⟨rfl, rfl⟩ (by decide +kernel) ⟨(Nat.le_of_ble_eq_true rfl), (Nat.le_of_ble_eq_true rfl)⟩ (Nat.le_of_ble_eq_true rfl) rfl (c_U_valueUpTo (ln_J_r a ha) hda (by decide) ?_)
  rw [hva]
  have hw : (if v a ≤ 511 then v a else 511 + 1) < 2 ∨ 511 < (if v a ≤ 511 then v a else 511 + 1) := by split <;> omega
  have hwl : (if v a ≤ 511 then v a else 511 + 1) ≤ 512 := by split <;> omega
  generalize (if v a ≤ 511 then v a else 511 + 1) = w at hw hwl
  refine px_istore_n (q := 17) dI_P_modulus_16 rfl (by decide) rfl rfl ?_
  refine px_iload_n (q := 18) dI_P_modulus_17 rfl rfl ?_
  refine px_iconst (q := 19) (v := nI 2) dI_P_modulus_18 (by decide +kernel) rfl ?_
  refine px_icmp_ltN (q := 22) (tgt := 29) dI_P_modulus_19 (by omega) (by omega) (by decide) rfl (fun b19 => ?_) (fun b19 => ?_)
  · refine px_throw hT hS0 rfl tgU tx_161 dI_P_modulus_29 dI_P_modulus_32 dI_P_modulus_33 dI_P_modulus_35 dI_P_modulus_38 (Nat.le_of_ble_eq_true rfl) (Nat.le_of_ble_eq_true rfl) (Nat.le_of_ble_eq_true rfl) (Nat.le_of_ble_eq_true rfl) ?_
    exact hp
  · refine px_iload_n (q := 23) dI_P_modulus_22 rfl rfl ?_
    refine px_sipush (q := 26) (v := nI 511) dI_P_modulus_23 (by decide +kernel) rfl ?_
    refine px_icmp_leN (q := 29) (tgt := 39) dI_P_modulus_26 (by omega) (by omega) (by decide) rfl (fun b26 => ?_) (fun b26 => ?_)
    · omega
    · refine px_throw hT hS0 rfl tgU tx_161 dI_P_modulus_29 dI_P_modulus_32 dI_P_modulus_33 dI_P_modulus_35 dI_P_modulus_38 (Nat.le_of_ble_eq_true rfl) (Nat.le_of_ble_eq_true rfl) (Nat.le_of_ble_eq_true rfl) (Nat.le_of_ble_eq_true rfl) ?_
      exact hp
theorem t_P_prime_n {a : Nat} (hT : xT_ g) (hS0 : l.stackTraces = false) (ha : a < 6) (hv : 511 < v a) (hdk : dk_ X v) (hp : PX xU_ X Y) : pw_Thr l g tP_prime [.ref (ad_ g 0), .int (nI a)] X Y PX := by
  obtain ⟨da, hda, hva⟩ := hdk a ha
  refine pt_ofW (by decide +kernel) rfl (Nat.le_of_ble_eq_true rfl) rfl (fun sz => ?_)
  refine px_iload_n (q := 1) dI_P_prime_0 rfl rfl ?_
  refine px_callS1 (q := 4) (ν := mP_checkRegister) dI_P_prime_1 wl_P_48 ws_P_checkRegister wb_P_checkRegister wi_P ⟨rfl, rfl⟩ (by decide +kernel) ⟨(Nat.le_of_ble_eq_true rfl), (Nat.le_of_ble_eq_true rfl)⟩ (Nat.le_of_ble_eq_true rfl) rfl (c_P_check ha ?_)
  refine px_aload_n (q := 5) dI_P_prime_4 rfl rfl ?_
  refine px_getP (q := 8) (j := 0) dI_P_prime_5 wf_P_11 rfl (by decide) rfl rfl ?_
  refine px_iload_n (q := 9) dI_P_prime_8 rfl rfl ?_
  refine px_aald (q := 10) dI_P_prime_9 (by omega) rfl ?_
  refine px_sipush (q := 13) (v := nI 511) dI_P_prime_10 (by decide +kernel) rfl ?_
  refine px_callS2 (q := 16) (ν := mU_valueUpTo) dI_P_prime_13 wl_P_156 ws_U_valueUpTo wb_U_valueUpTo wi_U ⟨rfl, rfl⟩ (by decide +kernel) ⟨(Nat.le_of_ble_eq_true rfl), (Nat.le_of_ble_eq_true rfl)⟩ (Nat.le_of_ble_eq_true rfl) rfl (c_U_valueUpTo (ln_J_r a ha) hda (by decide) ?_)
  rw [hva, if_neg (Nat.not_le.mpr hv)]
  refine px_istore_n (q := 17) dI_P_prime_16 rfl (by decide) rfl rfl ?_
  refine px_iload_n (q := 18) dI_P_prime_17 rfl rfl ?_
  refine px_sipush (q := 21) (v := nI 511) dI_P_prime_18 (by decide +kernel) rfl ?_
  refine px_icmp_leN (q := 24) (tgt := 34) dI_P_prime_21 (by omega) (by omega) (by decide) rfl (fun b21 => ?_) (fun b21 => ?_)
  · omega
  · refine px_throw hT hS0 rfl tgU tx_177 dI_P_prime_24 dI_P_prime_27 dI_P_prime_28 dI_P_prime_30 dI_P_prime_33 (Nat.le_of_ble_eq_true rfl) (Nat.le_of_ble_eq_true rfl) (Nat.le_of_ble_eq_true rfl) (Nat.le_of_ble_eq_true rfl) ?_
    exact hp
theorem rg_nI {m : Int32} {lo hi : Nat} (hlo : lo < 1000) (hhi : hi < 10000) (h1 : ¬ m < nI lo) (h2 : m ≤ nI hi) : ∃ k, lo ≤ k ∧ k ≤ hi ∧ m = nI k := by
  rw [Int32.lt_iff_toInt_lt, nI_toInt (by omega)] at h1
  rw [Int32.le_iff_toInt_le, nI_toInt (by omega)] at h2
  refine ⟨m.toInt.toNat, by omega, by omega, ?_⟩
  apply Int32.toInt_inj.mp
  rw [nI_toInt (by omega)]
  omega
theorem t_P_congruent_m {a : Nat} {m c : Int32} (hT : xT_ g) (hS0 : l.stackTraces = false) (ha : a < 6) (hbad : (¬ ∃ k, 1 ≤ k ∧ k ≤ 64 ∧ m = nI k) ∨ ¬ ∃ k, k ≤ 4095 ∧ c = nI k) (hp : PX xA_ X Y) : pw_Thr l g tP_congruent [.ref (ad_ g 0), .int (nI a), .int m, .int c] X Y PX := by
  refine pt_ofW (by decide +kernel) rfl (Nat.le_of_ble_eq_true rfl) rfl (fun sz => ?_)
  refine px_iload_n (q := 1) dI_P_congruent_0 rfl rfl ?_
  refine px_callS1 (q := 4) (ν := mP_checkRegister) dI_P_congruent_1 wl_P_48 ws_P_checkRegister wb_P_checkRegister wi_P ⟨rfl, rfl⟩ (by decide +kernel) ⟨(Nat.le_of_ble_eq_true rfl), (Nat.le_of_ble_eq_true rfl)⟩ (Nat.le_of_ble_eq_true rfl) rfl (c_P_check ha ?_)
  refine px_iload_n (q := 5) dI_P_congruent_4 rfl rfl ?_
  refine px_iconst (q := 6) (v := nI 1) dI_P_congruent_5 (by decide +kernel) rfl ?_
  refine px_icmp_lt (q := 9) (tgt := 15) dI_P_congruent_6 (by decide) rfl (fun b6 => ?_) (fun b6 => ?_)
  · refine px_throw hT hS0 rfl tgA tx_167 dI_P_congruent_15 dI_P_congruent_18 dI_P_congruent_19 dI_P_congruent_21 dI_P_congruent_24 (Nat.le_of_ble_eq_true rfl) (Nat.le_of_ble_eq_true rfl) (Nat.le_of_ble_eq_true rfl) (Nat.le_of_ble_eq_true rfl) ?_
    exact hp
  · refine px_iload_n (q := 10) dI_P_congruent_9 rfl rfl ?_
    refine px_bipush (q := 12) (v := nI 64) dI_P_congruent_10 (by decide +kernel) rfl ?_
    refine px_icmp_le (q := 15) (tgt := 25) dI_P_congruent_12 (by decide) rfl (fun b12 => ?_) (fun b12 => ?_)
    · obtain ⟨k, k1, k2, rfl⟩ := rg_nI (lo := 1) (hi := 64) (by decide) (by decide) b6 b12
      have hc : ¬ ∃ k, k ≤ 4095 ∧ c = nI k := hbad.elim (fun q => absurd ⟨k, k1, k2, rfl⟩ q) id
      refine px_iload_n (q := 26) dI_P_congruent_25 rfl rfl ?_
      refine px_if_lt (q := 29) (tgt := 36) dI_P_congruent_26 (by decide) rfl (fun b26 => ?_) (fun b26 => ?_)
      · refine px_throw hT hS0 rfl tgA tx_169 dI_P_congruent_36 dI_P_congruent_39 dI_P_congruent_40 dI_P_congruent_42 dI_P_congruent_45 (Nat.le_of_ble_eq_true rfl) (Nat.le_of_ble_eq_true rfl) (Nat.le_of_ble_eq_true rfl) (Nat.le_of_ble_eq_true rfl) ?_
        exact hp
      · refine px_iload_n (q := 30) dI_P_congruent_29 rfl rfl ?_
        refine px_sipush (q := 33) (v := nI 4095) dI_P_congruent_30 (by decide +kernel) rfl ?_
        refine px_icmp_le (q := 36) (tgt := 46) dI_P_congruent_33 (by decide) rfl (fun b33 => ?_) (fun b33 => ?_)
        · exfalso
          obtain ⟨j, j1, j2, e⟩ := rg_nI (lo := 0) (hi := 4095) (by decide) (by decide) b26 b33
          exact hc ⟨j, j2, e⟩
        · refine px_throw hT hS0 rfl tgA tx_169 dI_P_congruent_36 dI_P_congruent_39 dI_P_congruent_40 dI_P_congruent_42 dI_P_congruent_45 (Nat.le_of_ble_eq_true rfl) (Nat.le_of_ble_eq_true rfl) (Nat.le_of_ble_eq_true rfl) (Nat.le_of_ble_eq_true rfl) ?_
          exact hp
    · refine px_throw hT hS0 rfl tgA tx_167 dI_P_congruent_15 dI_P_congruent_18 dI_P_congruent_19 dI_P_congruent_21 dI_P_congruent_24 (Nat.le_of_ble_eq_true rfl) (Nat.le_of_ble_eq_true rfl) (Nat.le_of_ble_eq_true rfl) (Nat.le_of_ble_eq_true rfl) ?_
      exact hp
theorem t_P_congruent_n {a m c : Nat} (hT : xT_ g) (hS0 : l.stackTraces = false) (ha : a < 6) (hm1 : 1 ≤ m) (hm : m ≤ 64) (hc : c ≤ 4095) (hv : v a < 2 ∨ 4095 < v a) (hdk : dk_ X v) (hp : PX xU_ X Y) : pw_Thr l g tP_congruent [.ref (ad_ g 0), .int (nI a), .int (nI m), .int (nI c)] X Y PX := by
  obtain ⟨da, hda, hva⟩ := hdk a ha
  refine pt_ofW (by decide +kernel) rfl (Nat.le_of_ble_eq_true rfl) rfl (fun sz => ?_)
  refine px_iload_n (q := 1) dI_P_congruent_0 rfl rfl ?_
  refine px_callS1 (q := 4) (ν := mP_checkRegister) dI_P_congruent_1 wl_P_48 ws_P_checkRegister wb_P_checkRegister wi_P ⟨rfl, rfl⟩ (by decide +kernel) ⟨(Nat.le_of_ble_eq_true rfl), (Nat.le_of_ble_eq_true rfl)⟩ (Nat.le_of_ble_eq_true rfl) rfl (c_P_check ha ?_)
  refine px_iload_n (q := 5) dI_P_congruent_4 rfl rfl ?_
  refine px_iconst (q := 6) (v := nI 1) dI_P_congruent_5 (by decide +kernel) rfl ?_
  refine px_icmp_ltN (q := 9) (tgt := 15) dI_P_congruent_6 (by omega) (by omega) (by decide) rfl (fun b6 => ?_) (fun b6 => ?_)
  · omega
  · refine px_iload_n (q := 10) dI_P_congruent_9 rfl rfl ?_
    refine px_bipush (q := 12) (v := nI 64) dI_P_congruent_10 (by decide +kernel) rfl ?_
    refine px_icmp_leN (q := 15) (tgt := 25) dI_P_congruent_12 (by omega) (by omega) (by decide) rfl (fun b12 => ?_) (fun b12 => ?_)
    · refine px_iload_n (q := 26) dI_P_congruent_25 rfl rfl ?_
      refine px_if_ltN (q := 29) (tgt := 36) dI_P_congruent_26 (by omega) (by decide) rfl (fun b26 => ?_) (fun b26 => ?_)
      · exact b26.elim
      · refine px_iload_n (q := 30) dI_P_congruent_29 rfl rfl ?_
        refine px_sipush (q := 33) (v := nI 4095) dI_P_congruent_30 (by decide +kernel) rfl ?_
        refine px_icmp_leN (q := 36) (tgt := 46) dI_P_congruent_33 (by omega) (by omega) (by decide) rfl (fun b33 => ?_) (fun b33 => ?_)
        · refine px_aload_n (q := 47) dI_P_congruent_46 rfl rfl ?_
          refine px_getP (q := 50) (j := 0) dI_P_congruent_47 wf_P_11 rfl (by decide) rfl rfl ?_
          refine px_iload_n (q := 51) dI_P_congruent_50 rfl rfl ?_
          refine px_aald (q := 52) dI_P_congruent_51 (by omega) rfl ?_
          refine px_sipush (q := 55) (v := nI 4095) dI_P_congruent_52 (by decide +kernel) rfl ?_
          refine px_callS2 (q := 58) (ν := mU_valueUpTo) dI_P_congruent_55 wl_P_156 ws_U_valueUpTo wb_U_valueUpTo wi_U ⟨rfl, rfl⟩ (by decide +kernel) ⟨(Nat.le_of_ble_eq_true rfl), (Nat.le_of_ble_eq_true rfl)⟩ (Nat.le_of_ble_eq_true rfl) rfl (c_U_valueUpTo (ln_J_r a ha) hda (by decide) ?_)
          rw [hva]
          have hw : (if v a ≤ 4095 then v a else 4095 + 1) < 2 ∨ 4095 < (if v a ≤ 4095 then v a else 4095 + 1) := by split <;> omega
          have hwl : (if v a ≤ 4095 then v a else 4095 + 1) ≤ 4096 := by split <;> omega
          generalize (if v a ≤ 4095 then v a else 4095 + 1) = w at hw hwl
          refine px_istore (q := 60) dI_P_congruent_58 (by decide) rfl rfl ?_
          refine px_iload (q := 62) dI_P_congruent_60 rfl rfl ?_
          refine px_iconst (q := 63) (v := nI 2) dI_P_congruent_62 (by decide +kernel) rfl ?_
          refine px_icmp_ltN (q := 66) (tgt := 74) dI_P_congruent_63 (by omega) (by omega) (by decide) rfl (fun b63 => ?_) (fun b63 => ?_)
          · refine px_throw hT hS0 rfl tgU tx_171 dI_P_congruent_74 dI_P_congruent_77 dI_P_congruent_78 dI_P_congruent_80 dI_P_congruent_83 (Nat.le_of_ble_eq_true rfl) (Nat.le_of_ble_eq_true rfl) (Nat.le_of_ble_eq_true rfl) (Nat.le_of_ble_eq_true rfl) ?_
            exact hp
          · refine px_iload (q := 68) dI_P_congruent_66 rfl rfl ?_
            refine px_sipush (q := 71) (v := nI 4095) dI_P_congruent_68 (by decide +kernel) rfl ?_
            refine px_icmp_leN (q := 74) (tgt := 84) dI_P_congruent_71 (by omega) (by omega) (by decide) rfl (fun b71 => ?_) (fun b71 => ?_)
            · omega
            · refine px_throw hT hS0 rfl tgU tx_171 dI_P_congruent_74 dI_P_congruent_77 dI_P_congruent_78 dI_P_congruent_80 dI_P_congruent_83 (Nat.le_of_ble_eq_true rfl) (Nat.le_of_ble_eq_true rfl) (Nat.le_of_ble_eq_true rfl) (Nat.le_of_ble_eq_true rfl) ?_
              exact hp
        · omega
    · omega
end CT
