/-! throwing, over the pure world -/
def nX_ : List String := ["java/lang/RuntimeException", "java/lang/Exception"]
def xI_ : String := "java/lang/IndexOutOfBoundsException"
def xA_ : String := "java/lang/IllegalArgumentException"
def xM_ : String := "java/lang/ArithmeticException"
def xU_ : String := "java/lang/UnsupportedOperationException"
def iS_ (C : String) : MethodName := ⟨C, "<init>", "(Ljava/lang/String;)V"⟩
def txt_ : List (Nat × String) := [(183, "a register is 0 .. 5"), (54, "a register holds no number below 0"), (67, "the number has more than 128 bits"), (80, "the sum has more than 128 bits"), (89, "the difference is less than 0"), (99, "the product has more than 128 bits"), (101, "quotient and remainder need a register each"), (107, "division by 0"), (122, "remainder by 0"), (136, "a word is 0 .. 3"), (142, "m is 2 .. 1000"), (154, "the number and m have a common divisor"), (161, "the number is not 2 .. 511"), (167, "m is 1 .. 64"), (169, "c is 0 .. 4095"), (171, "the number is not 2 .. 4095"), (177, "the number is greater than 511")]
/-- what throws stand on, beside the good words -/
def tw_ (A : Nat → Prop) (U : State) (H : Heap) : Prop :=
  (∀ C, C ∈ nX_ ++ [Bundle.tN] → va_Nw (.declares (iS_ C)) U) ∧ (∀ E, E ∈ [xI_, xA_, xM_, xU_] → va_Nw (.castable E E) U) ∧
  vx_Zq Bundle.tN "UNASSIGNED_STACK" Bundle.steD A U H ∧ vx_Zq Bundle.tN "SUPPRESSED_SENTINEL" Bundle.listD A U H ∧ ∀ z, z ∈ txt_ → ∃ a, vk_R rC_P z.1 z.2 a U
theorem tw_warm {A : Nat → Prop} {u U : State} {H : Heap} (hW : u.WarmedH U.vm) (h : tw_ A u H) : tw_ A U H :=
  ⟨fun C hC => va_Nw.warmD hW (h.1 C hC), fun E hE => va_Nw.warmC hW (h.2.1 E hE), h.2.2.1.moved hW.alike, h.2.2.2.1.moved hW.alike, fun z hz => by
    obtain ⟨a, ha⟩ := h.2.2.2.2 z hz
    exact ⟨a, vk_R.warm hW ha⟩⟩
theorem tw_kept {A : Nat → Prop} {U : State} {H H1 : Heap} (hq : ∀ a : Nat, a < H.size → ¬ A a → H1[a]? = H[a]?) (h : tw_ A U H) : tw_ A U H1 :=
  ⟨h.1, h.2.1, h.2.2.1.kept hq, h.2.2.2.1.kept hq, h.2.2.2.2⟩
theorem tw_narrow {A B : Nat → Prop} {U : State} {H : Heap} (hAB : ∀ q, B q → A q) (h : tw_ A U H) : tw_ B U H :=
  ⟨h.1, h.2.1, h.2.2.1.narrow hAB, h.2.2.2.1.narrow hAB, h.2.2.2.2⟩
def xT_ (g : pw_G) : Prop := ∀ (A : Nat → Prop) (U : State) (H : Heap), g.2.2.2 A U H → tw_ A U H
/-- the method's table has no row -/
def pw_nt (s : State) (a : Array Value) (b : List Frame) : Prop := ∀ (m : MethodId) (meth : Method) (c : Code), s.frames = .invoking m a :: b → s.vm.method? m = some meth → meth.code = some c → ∀ x ∈ c.exceptionTable.toList, False
abbrev pw_PX : Type := String → pw_X → pw_Y → Prop
def pw_XC (g : pw_G) (sz : Nat) (PX : pw_PX) : String → State → State → Prop := vx_X (S := pw_X × pw_Y) (fun _ => True) (fun E u t => PX E u.1 u.2 ∧ pw_Wd g u.1 u.2 t) (pw_A g sz)
def pw_qT (g : pw_G) (sz : Nat) (PX : pw_PX) : pw_F := (0, 0, fun b a s t => pw_nt s a b → vx_MQ b (fun _ _ _ _ => False) (pw_XC g sz PX) a s 1 6 (pw_A g sz) t)
/-- a method's contract: it throws, and PX holds of the class and the world -/
def pw_Thr (l : Launch) (g : pw_G) (μ : pw_M) (As : List Value) (X : pw_X) (Y : pw_Y) (PX : pw_PX) : Prop :=
  ∀ sz, vx_Met l μ.1 (pw_ws μ) μ.2.2.2.2.2 (va_Pc As (fun U => U.heap.size = sz ∧ pw_Wd g X Y U)) (fun _ _ _ _ => False) (pw_XC g sz PX) 1 6 (pw_A g sz)
/-- the words of the throw of E, by the constructor at ic -/
def tg_ (ik ic : Nat) (E : String) : Prop := Bundle.fit E = true ∧ E ∈ [xI_, xA_, xM_, xU_] ∧ (∀ w ∈ (Cond.classLink rC_P ik E :: Cond.initialized E :: vx_atS rC_P ic E nX_).filter goodWord, w ∈ wG) ∧
  (∀ w ∈ (Cond.classLink rC_P ik E :: Cond.initialized E :: vx_atS rC_P ic E nX_).filter (fun w => !goodWord w), w ∈ [Cond.declares (iS_ "java/lang/RuntimeException"), .declares (iS_ "java/lang/Exception"), .declares (iS_ Bundle.tN), .castable E E]) ∧
  (∀ w ∈ Cond.classLink rC_P ik E :: Cond.initialized E :: vx_atS rC_P ic E nX_, vx_ot w = true)
theorem nX_fit : ∀ n ∈ nX_, Bundle.fit n = true := by decide +kernel
section PT
variable {l : Launch} {g : pw_G} {μ ν : pw_M} {sz : Nat} {Qf : pw_F} {pc q : Nat} {ls : List (Nat × Value)} {st : List Value} {X : pw_X} {Y : pw_Y} {PX : pw_PX}
theorem pt_ofW {As : List Value} (hy : plainName μ.1.cls = true) (hcls : μ.1.cls = μ.2.2.2.2.1) (hlen : (lg_sl As).length ≤ μ.2.2.1) (hls : lv_args 0 As = ls) (body : ∀ sz, pw_W l g μ sz (pw_qT g sz PX) 0 ls [] X Y) : pw_Thr l g μ As X Y PX := by
  intro sz
  refine vx_ofW (cc := μ.2.1) (maxL := μ.2.2.1) (ret := μ.2.2.2.1) hy rfl ?_
  intro p e s m args below meth c s₁ B hml ht hv
  obtain ⟨rfl, hsz, hP, hK, hD, hSt, hE⟩ := hv
  have hts := atoms_spec (ws := pw_ws μ) B.pre
  have hown : s.vm.findClass μ.2.2.2.2.1 = some m.cls := by rw [← hcls]; exact findClass_of_methodNamed B.named
  have hl := lv_entry As (n := μ.2.2.1) hlen
  rw [lg_entry_eq]
  rw [hls] at hl
  intro T hT XX
  obtain ⟨t, a1, b1⟩ := body sz p e s m As.toArray below meth c s.heap [] _ ⟨B.exec, B.bytes, B.returns, fun w hw => hts w (List.mem_cons_of_mem _ hw), hown, B.notSynchronized, hml, hK, hsz, hSt, by rw [← hsz]; exact hE⟩ hl hP (pw_D_A hD) va_S.rf ⟨Nat.zero_le _, Nat.zero_le _⟩ T hT XX
  refine ⟨t, a1, b1 ?_⟩
  intro m' meth' c' e1 e2 e3
  rw [XX.frames] at e1
  cases e1
  cases Option.some.inj (XX.method.symm.trans e2)
  cases Option.some.inj (XX.code.symm.trans e3)
  exact ht
theorem px_throw {ik is ic : Nat} {E text : String} (hT : xT_ g) (hl0 : l.stackTraces = false) (ho : μ.2.2.2.2.1 = rC_P) (hg : tg_ ik ic E) (htx : (is, text) ∈ txt_)
    (d0 : decode μ.2.1 pc = .ok (.new ik, 3)) (d3 : decode μ.2.1 (pc + 3) = .ok (.dup, 1)) (d4 : decode μ.2.1 (pc + 4) = .ok (.ldc is, 2)) (d6 : decode μ.2.1 (pc + 6) = .ok (.invokespecial ic, 3)) (d9 : decode μ.2.1 (pc + 9) = .ok (.athrow, 1))
    (hf : 5 < μ.2.2.2.2.2.frames) (hlo : (st.map fun v => v.category).sum + 82 ≤ μ.2.2.2.2.2.locals) (hc1 : 1 ≤ μ.2.2.2.2.2.cells) (hs6 : 6 ≤ μ.2.2.2.2.2.slots)
    (hp : PX E X Y) : pw_W l g μ sz (pw_qT g sz PX) pc ls st X Y := by
  intro p e s m args below meth c H locs la hC hl hP hD hS hZ T hTT XX
  by_cases hn : pw_nt s args below
  · have htw := hT _ _ _ hC.2.2.2.2.2.2.2.2.2.2
    have hts := hC.2.2.2.1
    obtain ⟨sa, hsa⟩ := htw.2.2.2.2 _ htx
    have hat : ∀ w ∈ Cond.classLink rC_P ik E :: Cond.initialized E :: vx_atS rC_P ic E nX_, w.before args s = true := by
      refine vx_hat (fun w hw => hts w (hg.2.2.1 w hw)) hg.2.2.2.1 ?_
      refine vx_c (va_Nw.use rfl (htw.1 _ (by decide))) (vx_c (va_Nw.use rfl (htw.1 _ (by decide))) (vx_c (va_Nw.use rfl (htw.1 _ (by decide))) (vx_c (va_Nw.use rfl (htw.2.1 _ hg.2.1)) vx_n)))
    have hown : s.vm.findClass rC_P = some m.cls := by rw [← ho]; exact hC.2.2.2.2.1
    obtain ⟨t, a1, b1⟩ := vx_throwS (Qc := fun _ _ _ _ => False) (XC := pw_XC g sz PX) (free := pw_A g sz) (A := pw_A g sz) (mc := 1) (ms := 6) (below := below) (rest := st) (cells := 0) (slots := 0) (R := μ.2.2.2.2.2) hC.1 hC.2.1 hl0 hown hg.1 nX_fit (hat _ List.mem_cons_self) (hat _ (List.mem_cons_of_mem _ List.mem_cons_self)) hsa (fun w hw => hat w (List.mem_cons_of_mem _ (List.mem_cons_of_mem _ hw))) hg.2.2.2.2 htw.2.2.1 htw.2.2.2.1 hS (by rw [hC.2.2.2.2.2.2.1]; exact hl.1) d0 d3 d4 d6 d9
      (fun x hx => (hn m meth c XX.frames XX.method XX.code x hx).elim) hf hlo hc1 hs6 hC.2.2.2.2.2.1
      (fun t hW hz hk => by
        have hP1 : va_P g.1 clS (pw_s g X Y) t.heap := hP.kept (fun k q hq => hk q.1 (vx_lt hP hq))
        have hS1 : va_S (pw_A g sz) s.heap t.heap locs := ⟨Nat.le_trans hS.1 hz, fun q h1 h2 => by rw [hk q (Nat.lt_of_lt_of_le h1 hS.1)]; exact hS.2.1 q h1 h2, hS.2.2⟩
        exact ⟨(X, Y), trivial, ⟨hp, pw_back hC rfl hW hP1 hD hS1⟩, hS1.F rfl⟩) hS.2.2 (Nat.le_refl _) (Nat.le_refl _) T hTT XX
    exact ⟨t, a1, fun _ => b1⟩
  · exact ⟨_, Steps.refl _, fun h => absurd h hn⟩
theorem px_tcallS {i n : Nat} {As : List Value} (hd : decode μ.2.1 pc = .ok (.invokestatic i, 3)) (hw : (.methodLink μ.2.2.2.2.1 i ν.1 : Cond) ∈ wG) (hs : (.static ν.1 : Cond) ∈ wG) (hc : (.code ν.1 ν.2.1 ν.2.2.1 ν.2.2.2.1 : Cond) ∈ wG) (hi : (.initialized ν.1.cls : Cond) ∈ wG)
    (hz : ν.2.2.2.2.2.cells = 1 ∧ ν.2.2.2.2.2.slots = 6) (hn : ν.1.cls ≠ "java/lang/invoke/MethodHandle" ∧ ν.1.cls ≠ "java/lang/invoke/VarHandle" ∧ (parseMethodDescriptor ν.1.desc).map (fun d => d.parameters.length) = some n) (hlen : As.length = n)
    (hR : ν.2.2.2.2.2.frames + 1 ≤ μ.2.2.2.2.2.frames ∧ 8 + (ν.2.2.1 + 11) + ν.2.2.2.2.2.locals ≤ μ.2.2.2.2.2.locals) (hst : (st.map fun v => v.category).sum ≤ 8) (hc1 : 1 ≤ μ.2.2.2.2.2.cells) (hs6 : 6 ≤ μ.2.2.2.2.2.slots)
    (hM : pw_Thr l g ν As X Y PX) : pw_W l g μ sz (pw_qT g sz PX) pc ls (As.reverse ++ st) X Y := by
  intro p e s m args below meth c H locs la hC hl hP hD hS hZ T hTT XX
  by_cases hnt : pw_nt s args below
  · have hts := hC.2.2.2.1
    have hcb : CallB μ.2.2.2.2.2 s args μ.2.2.2.2.1 i ν.1 ν.2.1 ν.2.2.1 ν.2.2.2.1 (pw_ws ν) ν.2.2.2.2.2 1 6 n := callB_of (ws' := wG) n hts (pw_good hc rfl) rfl hz.1 hz.2 (hts _ hi) (hts _ hw) hn hR
    have hr := vx_runS (e := e) (below := below) (meth := meth) (locs := locs) (cells := 0) (slots := 0) (H := H) (g := F0 m pc la (As.reverse ++ st)) (rest := st) (As := As) (Ts := wG) ⟨hC.1, hC.2.1, hC.2.2.2.2.2.2.1, hC.2.2.2.2.1, hts⟩ (hM H.size) ⟨hcb, hts _ hs⟩ ⟨pw_blind, fun U hU hW => ⟨rfl, by rw [hU], pw_back hC hU hW hP hD hS⟩⟩ rfl hlen hl.1 rfl (lv_room hst) hd ⟨hc1, hs6⟩
    rcases hr T hTT XX with ⟨v, st₀, t, T', L, h0, X', hL, e1, e2, hq, stp⟩ | ⟨q, st₀, t, T', L, E, ce, h0, X', hL, e1, e2, ⟨u, -, ⟨hpx, hwd⟩, hzz, hkeep⟩, hce, hcv, hcl, stp⟩
    · exact hq.elim
    · rw [h0] at hzz hkeep
      have hszH : sz ≤ H.size := by rw [← hC.2.2.2.2.2.2.2.2.1]; exact hS.1
      have hS1 : va_S (pw_A g sz) s.heap T'.heap (locs ++ L) := by
        refine ⟨Nat.le_trans hS.1 (by rw [e1]; exact hzz), fun q h1 h2 => ?_, fun q hq => ?_⟩
        · rw [e1, hkeep q (Nat.lt_of_lt_of_le h1 hS.1) (fun z => h2 (pw_A_mono hszH q z))]
          exact hS.2.1 q h1 h2
        · rcases List.mem_append.mp hq with h | h
          · exact hS.2.2 q h
          · exact pw_A_mono hszH _ (hL q h)
      obtain ⟨t2, a1, b1⟩ := vx_out (XC := pw_XC g sz PX) (Qc := fun _ _ _ _ => False) (free := pw_A g sz) (mc := 1) (ms := 6) (pc := pc) (ls := la) (rest := st) (E := E) (ce := ce) (q := q) (H := T'.heap) (fun x hx => (hnt m meth c XX.frames XX.method XX.code x hx).elim) hC.2.2.2.2.2.1 (by rw [e1]; exact hce) hcv hcl
        (fun t' ht' hW' => ⟨(u.1, u.2), trivial, ⟨hpx, pw_back hC ht' hW' (by rw [e1]; exact hwd.1) (pw_D_A hD) hS1⟩, hS1.F ht'⟩) hS1.2.2 (Nat.le_refl _) (Nat.le_refl _) T' rfl X'
      exact ⟨t2, stp.trans a1, fun _ => b1⟩
  · exact ⟨_, Steps.refl _, fun h => absurd h hnt⟩
end PT
