/-! the law's own walk: rows -/
def μL_ : pw_M := (yM_L_law, bC_L_law, 8, some .boolean, rC_L, room_1)
/-- the script rides along, at place 29 -/
def xX_ (g : pw_G) (L : Nat) (xs : Nat → Int32) : Prop := ∀ (A : Nat → Prop) (U : State) (H : Heap), g.2.2.2 A U H → va_T .int (ad_ g 29) L (fun j => .int (xs j)) A U H
section PXL
variable {l : Launch} {g : pw_G} {μ ν : pw_M} {sz : Nat} {Qf : pw_F} {pc q : Nat} {ls : List (Nat × Value)} {st : List Value} {X : pw_X} {Y : pw_Y} {hh : pw_hh} {L : Nat} {xs : Nat → Int32}
theorem px_ldX {i : Nat} (hX : xX_ g L xs) (hL : L ≤ 2560) (hd : decode μ.2.1 pc = .ok (.iaload, 1)) (hi : i < L) {w : Int32} (hw : xs i = w) (hq : pc + 1 = q) (k : pw_W l g μ sz Qf q ls (.int w :: st) X Y) : pw_W l g μ sz Qf pc ls (.int (nI i) :: .ref (ad_ g 29) :: st) X Y := by
  intro p e s m args below meth c H locs la hC hl hP hD hS hZ
  subst hq; subst hw
  refine va_ti hC.1 hC.2.1 (hX _ _ _ hC.2.2.2.2.2.2.2.2.2.2) hS (vp_in_nI hi (by omega)) (v := .int (xs i)) ?_ hd (k p e s m args below meth c H locs la hC hl hP hD hS hZ)
  rw [nI_clamp (by omega)]
theorem px_lenX (hX : xX_ g L xs) (hd : decode μ.2.1 pc = .ok (.arraylength, 1)) (hq : pc + 1 = q) (k : pw_W l g μ sz Qf q ls (.int (nI L) :: st) X Y) : pw_W l g μ sz Qf pc ls (.ref (ad_ g 29) :: st) X Y := by
  intro p e s m args below meth c H locs la hC hl hP hD hS hZ
  subst hq
  exact va_tlen hC.1 hC.2.1 (hX _ _ _ hC.2.2.2.2.2.2.2.2.2.2) hS rfl hd (k p e s m args below meth c H locs la hC hl hP hD hS hZ)
theorem px_table {dflt lo hi off : Int} {offs : Array Int} {len tgt : Nat} {x : Int32} (hd : decode μ.2.1 pc = .ok (.tableswitch dflt lo hi offs, len)) (h1 : ¬ x.toInt < lo) (h2 : ¬ hi < x.toInt) (ho : offs[(x.toInt - lo).toNat]? = some off) (ht : (pc : Int) + off = (tgt : Int)) (k : pw_W l g μ sz Qf tgt ls st X Y) : pw_W l g μ sz Qf pc ls (.int x :: st) X Y := by
  intro p e s m args below meth c H locs la hC hl hP hD hS hZ
  exact lv_tableIn hC.1 hC.2.1 hd h1 h2 ho ht (k p e s m args below meth c H locs la hC hl hP hD hS hZ)
theorem px_callSH {i n : Nat} {As : List Value} (hd : decode μ.2.1 pc = .ok (.invokestatic i, 3)) (hw : (.methodLink μ.2.2.2.2.1 i ν.1 : Cond) ∈ wG) (hs : (.static ν.1 : Cond) ∈ wG) (hc : (.codeWith ν.1 ν.2.1 ν.2.2.1 ν.2.2.2.1 hh : Cond) ∈ wG) (hi : (.initialized ν.1.cls : Cond) ∈ wG)
    (hz : ν.2.2.2.2.2.cells = 1 ∧ ν.2.2.2.2.2.slots = 6) (hn : ν.1.cls ≠ "java/lang/invoke/MethodHandle" ∧ ν.1.cls ≠ "java/lang/invoke/VarHandle" ∧ (parseMethodDescriptor ν.1.desc).map (fun d => d.parameters.length) = some n) (hlen : As.length = n)
    (hR : ν.2.2.2.2.2.frames + 1 ≤ μ.2.2.2.2.2.frames ∧ 8 + (ν.2.2.1 + 11) + ν.2.2.2.2.2.locals ≤ μ.2.2.2.2.2.locals) (hst : (st.map fun v => v.category).sum ≤ 8) (hcz : Qf.1 + 1 ≤ μ.2.2.2.2.2.cells ∧ Qf.2.1 + 6 ≤ μ.2.2.2.2.2.slots) (hq : pc + 3 = q)
    (hM : pw_MetH l g ν hh As X Y (fun o X' Y' => pw_W l g μ sz (Qf.1 + 1, Qf.2.1 + 6, Qf.2.2) q ls (rv_ o st) X' Y')) : pw_W l g μ sz Qf pc ls (As.reverse ++ st) X Y := by
  intro p e s m args below meth c H locs la hC hl hP hD hS hZ T hT XX
  subst hq
  have hts := hC.2.2.2.1
  have hG : GoodIn wG (va_wsS μ.2.2.2.2.1 i ν.1 (.codeWith ν.1 ν.2.1 ν.2.2.1 ν.2.2.2.1 hh :: wG)) := by
    intro w hw'
    have hw2 : w ∈ wG := by
      simp only [va_wsS, List.mem_append, List.mem_cons] at hw'
      rcases hw' with h | h
      · rcases h with h | h | h | h
        · rw [h]; exact hw
        · rw [h]; exact hs
        · rw [h]; exact hi
        · cases h
      · rcases h with h | h
        · rw [h]; exact hc
        · exact h
    exact ⟨hw2, good_of_word (wG_ok _ hw2)⟩
  have cw := vx_cwSW (R := μ.2.2.2.2.2) (ws' := wG) n hts hG rfl hz.1 hz.2 hn hR
  have hr := vx_runSW (e := e) (below := below) (meth := meth) (locs := locs) (cells := Qf.1) (slots := Qf.2.1) (H := H) (g := F0 m pc la (As.reverse ++ st)) (rest := st) (As := As) (Ts := wG) ⟨hC.1, hC.2.1, hC.2.2.2.2.2.2.1, hC.2.2.2.2.1, hts⟩ (hM H.size) cw ⟨pw_blind, fun U hU hW => ⟨rfl, by rw [hU], pw_back hC hU hW hP hD hS⟩⟩ rfl hlen hl.1 rfl (lv_room hst) hd hcz
  obtain ⟨v, st₀, t, T', L, h0, X', hL, e1, e2, ⟨⟨o, X1, Y1, ho, hk, hw1⟩, hz1, hkeep⟩, stp⟩ := hr T hT XX
  cases ho
  rw [h0] at hz1 hkeep
  rw [rv_eq] at hk
  have hszH : sz ≤ H.size := by rw [← hC.2.2.2.2.2.2.2.2.1]; exact hS.1
  have hS1 : va_S (pw_A g sz) s.heap T'.heap (locs ++ L) := by
    refine ⟨Nat.le_trans hS.1 (by rw [e1]; exact hz1), fun q h1 h2 => ?_, fun q hq => ?_⟩
    · rw [e1, hkeep q (Nat.lt_of_lt_of_le h1 hS.1) (fun z => h2 (pw_A_mono hszH q z))]
      exact hS.2.1 q h1 h2
    · rcases List.mem_append.mp hq with h | h
      · exact hS.2.2 q h
      · exact pw_A_mono hszH _ (hL q h)
  obtain ⟨t2, a1, b1⟩ := hk p e s m args below meth c T'.heap (locs ++ L) la hC hl (by rw [e1]; exact hw1.1) (pw_D_A hD) hS1 hcz T' rfl X'
  exact ⟨t2, stp t2 a1, b1⟩
theorem px_callSH2 {i : Nat} {v1 v2 : Value} (hd : decode μ.2.1 pc = .ok (.invokestatic i, 3)) (hw : (.methodLink μ.2.2.2.2.1 i ν.1 : Cond) ∈ wG) (hs : (.static ν.1 : Cond) ∈ wG) (hc : (.codeWith ν.1 ν.2.1 ν.2.2.1 ν.2.2.2.1 hh : Cond) ∈ wG) (hi : (.initialized ν.1.cls : Cond) ∈ wG)
    (hz : ν.2.2.2.2.2.cells = 1 ∧ ν.2.2.2.2.2.slots = 6) (hn : ν.1.cls ≠ "java/lang/invoke/MethodHandle" ∧ ν.1.cls ≠ "java/lang/invoke/VarHandle" ∧ (parseMethodDescriptor ν.1.desc).map (fun d => d.parameters.length) = some 2)
    (hR : ν.2.2.2.2.2.frames + 1 ≤ μ.2.2.2.2.2.frames ∧ 8 + (ν.2.2.1 + 11) + ν.2.2.2.2.2.locals ≤ μ.2.2.2.2.2.locals) (hst : (st.map fun v => v.category).sum ≤ 8) (hcz : Qf.1 + 1 ≤ μ.2.2.2.2.2.cells ∧ Qf.2.1 + 6 ≤ μ.2.2.2.2.2.slots) (hq : pc + 3 = q)
    (hM : pw_MetH l g ν hh [v1, v2] X Y (fun o X' Y' => pw_W l g μ sz (Qf.1 + 1, Qf.2.1 + 6, Qf.2.2) q ls (rv_ o st) X' Y')) : pw_W l g μ sz Qf pc ls (v2 :: v1 :: st) X Y := px_callSH (As := [v1, v2]) hd hw hs hc hi hz hn rfl hR hst hcz hq hM
theorem px_callSH3 {i : Nat} {v1 v2 v3 : Value} (hd : decode μ.2.1 pc = .ok (.invokestatic i, 3)) (hw : (.methodLink μ.2.2.2.2.1 i ν.1 : Cond) ∈ wG) (hs : (.static ν.1 : Cond) ∈ wG) (hc : (.codeWith ν.1 ν.2.1 ν.2.2.1 ν.2.2.2.1 hh : Cond) ∈ wG) (hi : (.initialized ν.1.cls : Cond) ∈ wG)
    (hz : ν.2.2.2.2.2.cells = 1 ∧ ν.2.2.2.2.2.slots = 6) (hn : ν.1.cls ≠ "java/lang/invoke/MethodHandle" ∧ ν.1.cls ≠ "java/lang/invoke/VarHandle" ∧ (parseMethodDescriptor ν.1.desc).map (fun d => d.parameters.length) = some 3)
    (hR : ν.2.2.2.2.2.frames + 1 ≤ μ.2.2.2.2.2.frames ∧ 8 + (ν.2.2.1 + 11) + ν.2.2.2.2.2.locals ≤ μ.2.2.2.2.2.locals) (hst : (st.map fun v => v.category).sum ≤ 8) (hcz : Qf.1 + 1 ≤ μ.2.2.2.2.2.cells ∧ Qf.2.1 + 6 ≤ μ.2.2.2.2.2.slots) (hq : pc + 3 = q)
    (hM : pw_MetH l g ν hh [v1, v2, v3] X Y (fun o X' Y' => pw_W l g μ sz (Qf.1 + 1, Qf.2.1 + 6, Qf.2.2) q ls (rv_ o st) X' Y')) : pw_W l g μ sz Qf pc ls (v3 :: v2 :: v1 :: st) X Y := px_callSH (As := [v1, v2, v3]) hd hw hs hc hi hz hn rfl hR hst hcz hq hM
theorem px_callSH4 {i : Nat} {v1 v2 v3 v4 : Value} (hd : decode μ.2.1 pc = .ok (.invokestatic i, 3)) (hw : (.methodLink μ.2.2.2.2.1 i ν.1 : Cond) ∈ wG) (hs : (.static ν.1 : Cond) ∈ wG) (hc : (.codeWith ν.1 ν.2.1 ν.2.2.1 ν.2.2.2.1 hh : Cond) ∈ wG) (hi : (.initialized ν.1.cls : Cond) ∈ wG)
    (hz : ν.2.2.2.2.2.cells = 1 ∧ ν.2.2.2.2.2.slots = 6) (hn : ν.1.cls ≠ "java/lang/invoke/MethodHandle" ∧ ν.1.cls ≠ "java/lang/invoke/VarHandle" ∧ (parseMethodDescriptor ν.1.desc).map (fun d => d.parameters.length) = some 4)
    (hR : ν.2.2.2.2.2.frames + 1 ≤ μ.2.2.2.2.2.frames ∧ 8 + (ν.2.2.1 + 11) + ν.2.2.2.2.2.locals ≤ μ.2.2.2.2.2.locals) (hst : (st.map fun v => v.category).sum ≤ 8) (hcz : Qf.1 + 1 ≤ μ.2.2.2.2.2.cells ∧ Qf.2.1 + 6 ≤ μ.2.2.2.2.2.slots) (hq : pc + 3 = q)
    (hM : pw_MetH l g ν hh [v1, v2, v3, v4] X Y (fun o X' Y' => pw_W l g μ sz (Qf.1 + 1, Qf.2.1 + 6, Qf.2.2) q ls (rv_ o st) X' Y')) : pw_W l g μ sz Qf pc ls (v4 :: v3 :: v2 :: v1 :: st) X Y := px_callSH (As := [v1, v2, v3, v4]) hd hw hs hc hi hz hn rfl hR hst hcz hq hM
theorem px_callSH5 {i : Nat} {v1 v2 v3 v4 v5 : Value} (hd : decode μ.2.1 pc = .ok (.invokestatic i, 3)) (hw : (.methodLink μ.2.2.2.2.1 i ν.1 : Cond) ∈ wG) (hs : (.static ν.1 : Cond) ∈ wG) (hc : (.codeWith ν.1 ν.2.1 ν.2.2.1 ν.2.2.2.1 hh : Cond) ∈ wG) (hi : (.initialized ν.1.cls : Cond) ∈ wG)
    (hz : ν.2.2.2.2.2.cells = 1 ∧ ν.2.2.2.2.2.slots = 6) (hn : ν.1.cls ≠ "java/lang/invoke/MethodHandle" ∧ ν.1.cls ≠ "java/lang/invoke/VarHandle" ∧ (parseMethodDescriptor ν.1.desc).map (fun d => d.parameters.length) = some 5)
    (hR : ν.2.2.2.2.2.frames + 1 ≤ μ.2.2.2.2.2.frames ∧ 8 + (ν.2.2.1 + 11) + ν.2.2.2.2.2.locals ≤ μ.2.2.2.2.2.locals) (hst : (st.map fun v => v.category).sum ≤ 8) (hcz : Qf.1 + 1 ≤ μ.2.2.2.2.2.cells ∧ Qf.2.1 + 6 ≤ μ.2.2.2.2.2.slots) (hq : pc + 3 = q)
    (hM : pw_MetH l g ν hh [v1, v2, v3, v4, v5] X Y (fun o X' Y' => pw_W l g μ sz (Qf.1 + 1, Qf.2.1 + 6, Qf.2.2) q ls (rv_ o st) X' Y')) : pw_W l g μ sz Qf pc ls (v5 :: v4 :: v3 :: v2 :: v1 :: st) X Y := px_callSH (As := [v1, v2, v3, v4, v5]) hd hw hs hc hi hz hn rfl hR hst hcz hq hM
end PXL
