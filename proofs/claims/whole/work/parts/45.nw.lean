/-! making the world: constructors' calls, rows of rows -/
section NX
variable {l : Launch} {k : nw_K} {μ ν : pw_M} {A : Nat → Prop} {sz : Nat} {Qf : pw_F} {pc q : Nat} {ls : List (Nat × Value)} {st : List Value} {ws : va_W} {ts : nw_T} {R : nw_R}
variable {p : Program} {e : Env} {s : State} {m : MethodId} {args : Array Value} {below : List Frame} {meth : Method} {c : Code} {H : Heap} {locs : List Loc}
theorem nw_blind {a ci : Nat} {fs : List Value} : FrameBlind (va_Pc [.ref a] (fun U => U.heap.size = sz ∧ va_P k.1 clS [(a, .inr (ci, fs))] U.heap ∧ nw_N k U)) := by
  intro x U g' mk h
  obtain ⟨q0, q1, q2, q3⟩ := h
  exact ⟨q0, q1, q2, nw_N.warm (s := U) (U := U.calling g' mk x) (State.WarmedH.refl U) q3⟩
theorem nw_go {a ci mc ms : Nat} {fs : List Value} {la : Array Slot} {stk : List Value} {x : Array Value} (hC : nw_Cx k μ sz p s m args meth c) (hl : lv_has la μ.2.2.1 ls) (hK : va_K k.1 clS ts s) (hP : va_P k.1 clS (ws ++ [(a, .inr (ci, fs))]) H) (hD : va_D A (ws ++ [(a, .inr (ci, fs))])) (hS : va_S A s.heap H locs) (hA : ∀ q, sz ≤ q → A q)
    (hr : va_Run p l e μ.2.2.2.2.2 s m args below meth c H locs Qf.1 Qf.2.1 mc ms (F0 m pc la stk) st (nw_Q k (nw_A a H.size) R x) (nw_A a H.size))
    (kk : ∀ ws1 ts1, R ws1 ts1 → nw_W l k μ A sz (Qf.1 + mc, Qf.2.1 + ms, Qf.2.2) (pc + 3) ls st (ws ++ ws1) (ts ++ ts1)) :
    W p l e μ.2.2.2.2.2 s m args below meth c H locs Qf.1 Qf.2.1 (Qf.2.2 below args s) (F0 m pc la stk) := by
  intro T hT XX
  obtain ⟨v, st₀, t, T', L, h0, X', hL, e1, e2, ⟨⟨ho, ws1, ts1, hR1, hP1, hK1, hD1⟩, hz, hkeep⟩, stp⟩ := hr T hT XX
  cases ho
  rw [h0] at hz hkeep
  have hla : (ws ++ [(a, Sum.inr (ci, fs))])[ws.length]? = some ((a, Sum.inr (ci, fs)) : Nat × va_E) := by simp
  have haA : A a := hD.2 _ _ hla
  have hlt : ∀ (i : Nat) (y : Nat × va_E), ws[i]? = some y → (ws ++ [(a, Sum.inr (ci, fs))])[i]? = some y := fun i y hy => by
    rw [List.getElem?_append_left (List.getElem?_eq_some_iff.mp hy).1]; exact hy
  have hne : ∀ (i : Nat) (y : Nat × va_E), ws[i]? = some y → y.1 ≠ a ∧ y.1 < H.size := fun i y hy => by
    refine ⟨fun z => ?_, vx_lt hP (hlt i y hy)⟩
    have h1 := hD.1 i ws.length y _ (hlt i y hy) hla z
    have h2 := (List.getElem?_eq_some_iff.mp hy).1
    omega
  have hszH : sz ≤ H.size := by rw [← hC.2.2.2.2.2.2.2.2.1]; exact hS.1
  have hAA : ∀ q, nw_A a H.size q → A q := fun q h => h.elim (fun z => by rw [z]; exact haA) (fun z => hA q (Nat.le_trans hszH z))
  have hS1 : va_S A s.heap T'.heap (locs ++ L) := by
    refine ⟨Nat.le_trans hS.1 (by rw [e1]; exact hz), fun q h1 h2 => ?_, fun q hq => ?_⟩
    · rw [e1, hkeep q (Nat.lt_of_lt_of_le h1 hS.1) (fun z => h2 (hAA q z))]
      exact hS.2.1 q h1 h2
    · rcases List.mem_append.mp hq with h | h
      · exact hS.2.2 q h
      · exact hAA _ (hL q h)
  have hP0 : va_P k.1 clS ws H := fun i y hy => hP i y (hlt i y hy)
  have hP2 : va_P k.1 clS (ws ++ ws1) T'.heap := by
    refine va_P.app (hP0.kept (fun i y hy => ?_)) (by rw [e1]; exact hP1)
    rw [e1]
    refine hkeep _ (hne i y hy).2 (fun z => ?_)
    rcases z with z | z
    · exact (hne i y hy).1 z
    · exact absurd (hne i y hy).2 (Nat.not_lt.mpr z)
  have hD2 : va_D A (ws ++ ws1) := by
    refine va_D.app ⟨fun i j x y hi hj h => hD.1 i j x y (hlt i x hi) (hlt j y hj) h, fun i y hy => hD.2 i y (hlt i y hy)⟩ (hD1.weaken (fun _ q _ h => hAA _ h)) (fun i j x y hi hj h => ?_)
    have h1 := hne i x hi
    rcases hD1.2 j y hj with z | z
    · exact h1.1 (h.trans z)
    · rw [h] at h1
      exact absurd h1.2 (Nat.not_lt.mpr z)
  have hK2 : va_K k.1 clS (ts ++ ts1) s := va_K.app hK (hK1.moved (by rw [← e2]; exact X'.warmed.alike.symm))
  obtain ⟨t2, a1, b1⟩ := kk ws1 ts1 hR1 p e s m args below meth c T'.heap (locs ++ L) la hC hl hK2 hP2 hD2 hS1 hA T' rfl X'
  exact ⟨t2, stp t2 a1, b1⟩
theorem nx_callI {i a ci : Nat} {fs : List Value} (hd : decode μ.2.1 pc = .ok (.invokespecial i, 3)) (hw : (.methodLink μ.2.2.2.2.1 i ν.1 : Cond) ∈ wG) (hs : (.instanceMethod ν.1 : Cond) ∈ wG) (hc : (.code ν.1 ν.2.1 ν.2.2.1 none : Cond) ∈ wG) (hi : (.initialized ν.1.cls : Cond) ∈ wG) (hr0 : ν.2.2.2.1 = none) (hnm : ν.1.name = "<init>")
    (hn : ν.1.cls ≠ "java/lang/invoke/MethodHandle" ∧ ν.1.cls ≠ "java/lang/invoke/VarHandle" ∧ (parseMethodDescriptor ν.1.desc).map (fun d => d.parameters.length) = some 0)
    (hR : ν.2.2.2.2.2.frames + 1 ≤ μ.2.2.2.2.2.frames ∧ 8 + (ν.2.2.1 + 11) + ν.2.2.2.2.2.locals ≤ μ.2.2.2.2.2.locals) (hst : (st.map fun v => v.category).sum ≤ 8) (hcz : Qf.1 + ν.2.2.2.2.2.cells ≤ μ.2.2.2.2.2.cells ∧ Qf.2.1 + ν.2.2.2.2.2.slots ≤ μ.2.2.2.2.2.slots) (hq : pc + 3 = q)
    (hM : nw_Met l k ν a ci fs R) (kk : ∀ ws1 ts1, R ws1 ts1 → nw_W l k μ A sz (Qf.1 + ν.2.2.2.2.2.cells, Qf.2.1 + ν.2.2.2.2.2.slots, Qf.2.2) q ls st (ws ++ ws1) (ts ++ ts1)) : nw_W l k μ A sz Qf pc ls (.ref a :: st) (ws ++ [(a, .inr (ci, fs))]) ts := by
  intro p e s m args below meth c H locs la hC hl hK hP hD hS hA
  subst hq
  have hts := hC.2.2.2.1
  have hcb : CallB μ.2.2.2.2.2 s args μ.2.2.2.2.1 i ν.1 ν.2.1 ν.2.2.1 none (pw_ws ν) ν.2.2.2.2.2 ν.2.2.2.2.2.cells ν.2.2.2.2.2.slots 0 := callB_of (ws' := wG) 0 hts (pw_good (by rw [hr0]; exact hc) rfl) (by show Cond.code _ _ _ ν.2.2.2.1 :: wG = _; rw [hr0]) rfl rfl (hts _ hi) (hts _ hw) hn hR
  have hPa : va_P k.1 clS [(a, .inr (ci, fs))] H := fun j y hy => by
    have h1 := (List.getElem?_eq_some_iff.mp hy).1
    simp at h1
    subst h1
    cases hy
    exact hP ws.length _ (by simp)
  have hr := va_runI (e := e) (below := below) (meth := meth) (locs := locs) (cells := Qf.1) (slots := Qf.2.1) (H := H) (b := a) (g := F0 m pc la (.ref a :: st)) (rest := st) (As := []) (Ts := wG) ⟨hC.1, hC.2.1, hC.2.2.2.2.2.2.1, hC.2.2.2.2.1, hts⟩ (hM H.size) ⟨hcb, hnm, hts _ hs⟩ ⟨nw_blind, fun U hU hW => ⟨rfl, by rw [hU], by rw [hU]; exact hPa, hC.2.2.2.2.2.2.2.2.2.warm hW⟩⟩ rfl rfl hl.1 rfl (lv_room hst) hd hcz
  exact nw_go hC hl hK hP hD hS hA hr kk
theorem nx_callIN {i a ci : Nat} {fs : List Value} (hd : decode μ.2.1 pc = .ok (.invokespecial i, 3)) (hw : ∀ U, nw_N k U → va_Nw (.methodLinkNest μ.2.2.2.2.1 i ν.1 rC_P) U) (hs : (.instanceMethod ν.1 : Cond) ∈ wG) (hc : (.code ν.1 ν.2.1 ν.2.2.1 none : Cond) ∈ wG) (hi : (.initialized ν.1.cls : Cond) ∈ wG) (hr0 : ν.2.2.2.1 = none) (hnm : ν.1.name = "<init>")
    (hn : ν.1.cls ≠ "java/lang/invoke/MethodHandle" ∧ ν.1.cls ≠ "java/lang/invoke/VarHandle" ∧ (parseMethodDescriptor ν.1.desc).map (fun d => d.parameters.length) = some 0)
    (hR : ν.2.2.2.2.2.frames + 1 ≤ μ.2.2.2.2.2.frames ∧ 8 + (ν.2.2.1 + 11) + ν.2.2.2.2.2.locals ≤ μ.2.2.2.2.2.locals) (hst : (st.map fun v => v.category).sum ≤ 8) (hcz : Qf.1 + ν.2.2.2.2.2.cells ≤ μ.2.2.2.2.2.cells ∧ Qf.2.1 + ν.2.2.2.2.2.slots ≤ μ.2.2.2.2.2.slots) (hq : pc + 3 = q)
    (hM : nw_Met l k ν a ci fs R) (kk : ∀ ws1 ts1, R ws1 ts1 → nw_W l k μ A sz (Qf.1 + ν.2.2.2.2.2.cells, Qf.2.1 + ν.2.2.2.2.2.slots, Qf.2.2) q ls st (ws ++ ws1) (ts ++ ts1)) : nw_W l k μ A sz Qf pc ls (.ref a :: st) (ws ++ [(a, .inr (ci, fs))]) ts := by
  intro p e s m args below meth c H locs la hC hl hK hP hD hS hA
  subst hq
  have hts := hC.2.2.2.1
  have hcn : va_CN μ.2.2.2.2.2 s args μ.2.2.2.2.1 i ν.1 rC_P ν.2.1 ν.2.2.1 none (pw_ws ν) ν.2.2.2.2.2 ν.2.2.2.2.2.cells ν.2.2.2.2.2.slots 0 := va_cnB (ws' := wG) 0 hts (pw_good (by rw [hr0]; exact hc) rfl) (by show Cond.code _ _ _ ν.2.2.2.1 :: wG = _; rw [hr0]) rfl rfl (hw s hC.2.2.2.2.2.2.2.2.2) (hts _ hi) hn hR
  have hPa : va_P k.1 clS [(a, .inr (ci, fs))] H := fun j y hy => by
    have h1 := (List.getElem?_eq_some_iff.mp hy).1
    simp at h1
    subst h1
    cases hy
    exact hP ws.length _ (by simp)
  have hr := va_runIN (e := e) (below := below) (meth := meth) (locs := locs) (cells := Qf.1) (slots := Qf.2.1) (H := H) (b := a) (g := F0 m pc la (.ref a :: st)) (rest := st) (As := []) (Ts := wG) ⟨hC.1, hC.2.1, hC.2.2.2.2.2.2.1, hC.2.2.2.2.1, hts⟩ (hM H.size) ⟨hcn, hnm, hts _ hs⟩ ⟨nw_blind, fun U hU hW => ⟨rfl, by rw [hU], by rw [hU]; exact hPa, hC.2.2.2.2.2.2.2.2.2.warm hW⟩⟩ rfl rfl hl.1 rfl (lv_room hst) hd hcz
  exact nw_go hC hl hK hP hD hS hA hr kk
theorem nx_mna {i : Nat} (hd : decode μ.2.1 pc = .ok (.multianewarray i 2, 4)) (hw : (.classLink μ.2.2.2.2.1 i "[[J" : Cond) ∈ wG) (ha : (.arrayClass .long : Cond) ∈ wG) (hc : Qf.1 + 7 ≤ μ.2.2.2.2.2.cells) (hs : Qf.2.1 + 30 ≤ μ.2.2.2.2.2.slots) (hq : pc + 4 = q)
    (kk : ∀ (a : Nat) (r : Nat → Nat) (cA : ClassId), nw_W l k μ A sz (Qf.1 + 1 + 6, Qf.2.1 + 6 + 24, Qf.2.2) q ls (.ref a :: st) ((ws ++ [(a, .inl (cA, 6, .inr (.inr (.inr (.inr (fun i => if i < 6 then some (r i) else none))))))]) ++ (List.range 6).map (fun i => (r i, .inl (k.2.1, 4, .inr (.inl (fun _ => 0)))))) (ts ++ [(cA, .array .long)])) : nw_W l k μ A sz Qf pc ls (.int (nI 4) :: .int (nI 6) :: st) ws ts := by
  intro p e s m args below meth c H locs la hC hl hK hP hD hS hA
  subst hq
  have e0 : ws ++ va_pl [] (fun _ => (Sum.inr (0, []) : va_E)) = ws := by simp [va_pl]
  refine va_mna (X := ws) (L := []) (f := fun _ => .inr (0, [])) (ty := .long) (cy := k.2.1) (N' := 6) (K' := 4) (z := (4, .inr (.inl (fun _ => 0)))) hC.1 hC.2.1 hC.2.2.2.2.1 (hC.2.2.2.1 _ hw) hC.2.2.2.2.2.2.2.2.2.2.2.2.1 (hC.2.2.2.1 _ ha) hC.2.2.2.2.2.2.2.2.2.2.1 hK (by rw [e0]; exact hP) (by rw [e0]; exact hD) hS (fun q hq => hA q (by rw [← hC.2.2.2.2.2.2.2.2.1]; exact hq)) (by decide) (by decide) (by decide) (by decide) (by decide) (by decide) (by decide) (by decide) (by decide) hc hs (fun c => arrV_new c 4 _) hd (fun a r cA H1 hr1 hr2 hK1 hP1 hD1 hS1 => ?_)
  have e1 : va_pl ([] ++ (List.range 6).map r) (vr_up (fun _ => (Sum.inr (0, []) : va_E)) ((List.range 6).map r) (.inl (k.2.1, (4, .inr (.inl (fun _ => 0)))))) = (List.range 6).map (fun i => (r i, (.inl (k.2.1, 4, .inr (.inl (fun _ => 0))) : va_E))) := by
    rw [List.nil_append]
    unfold va_pl
    rw [List.map_map]
    apply List.map_congr_left
    intro i hi
    show (r i, vr_up _ _ _ (r i)) = _
    rw [vr_up_in (List.mem_map_of_mem hi)]
  rw [e1] at hP1 hD1
  exact kk a r cA p e s m args below meth c H1 locs la hC hl hK1 hP1 hD1 hS1 hA
end NX
