/-! catching, over the pure world -/
def xs4_ : List String := [xI_, xA_, xM_, xU_]
def xC_ (g : pw_G) : Prop := ∀ (A : Nat → Prop) (U : State) (H : Heap), g.2.2.2 A U H → ∀ E, E ∈ xs4_ → ∀ T, T ∈ xs4_ → E ≠ T → va_Nc E T U
abbrev pw_hh : Type := List (Nat × Nat × Nat × Nat)
def pw_tb (hh : pw_hh) (s : State) (a : Array Value) (b : List Frame) : Prop := ∀ (m : MethodId) (meth : Method) (c : Code), s.frames = .invoking m a :: b → s.vm.method? m = some meth → meth.code = some c → c.exceptionTable.toList = tableOf hh
def pw_qH (g : pw_G) (hh : pw_hh) (sz : Nat) (Post : pw_P) (k n : Nat) : pw_F := (k, n, fun b a s t => pw_tb hh s a b → MQ b (pw_Q g sz Post) a s 1 6 (pw_A g sz) t)
/-- a method with a table: it returns, with at most a cell -/
def pw_MetH (l : Launch) (g : pw_G) (μ : pw_M) (hh : pw_hh) (As : List Value) (X : pw_X) (Y : pw_Y) (Post : pw_P) : Prop :=
  ∀ sz, Met l μ.1 (.codeWith μ.1 μ.2.1 μ.2.2.1 μ.2.2.2.1 hh :: wG) μ.2.2.2.2.2 (va_Pc As (fun U => U.heap.size = sz ∧ pw_Wd g X Y U)) (pw_Q g sz Post) 1 6 (pw_A g sz)
section PH
variable {l : Launch} {g : pw_G} {μ ν : pw_M} {sz : Nat} {Qf : pw_F} {pc q : Nat} {ls : List (Nat × Value)} {st : List Value} {X : pw_X} {Y : pw_Y} {Post : pw_P} {hh : pw_hh}
theorem ph_ofW {As : List Value} (hy : plainName μ.1.cls = true) (hcls : μ.1.cls = μ.2.2.2.2.1) (hlen : (lg_sl As).length ≤ μ.2.2.1) (hls : lv_args 0 As = ls) (body : ∀ sz, pw_W l g μ sz (pw_qH g hh sz Post 0 0) 0 ls [] X Y) : pw_MetH l g μ hh As X Y Post := by
  intro sz
  refine MetFree.of_bodyS (code := μ.2.1) (maxLocals := μ.2.2.1) (ret := μ.2.2.2.1) hy ?_ ?_
  · intro args s m h hn
    obtain ⟨m9, meth, c, hn9, h1, h2, h3, h4, -, h5, h6, -⟩ := Cond.codeWith_spec (atoms_spec (ws := .codeWith μ.1 μ.2.1 μ.2.2.1 μ.2.2.2.1 hh :: wG) h _ List.mem_cons_self)
    cases hn.symm.trans hn9
    exact ⟨meth, c, h1, h2, h3, h4, h5, h6⟩
  · intro p e s m args below meth c s₁ B hml hv _
    obtain ⟨rfl, hsz, hP, hK, hD, hSt, hE⟩ := hv
    have hts := atoms_spec (ws := .codeWith μ.1 μ.2.1 μ.2.2.1 μ.2.2.2.1 hh :: wG) B.pre
    have hown : s.vm.findClass μ.2.2.2.2.1 = some m.cls := by rw [← hcls]; exact findClass_of_methodNamed B.named
    have hl := lv_entry As (n := μ.2.2.1) hlen
    rw [hls] at hl
    have hh0 : s₁.heap = s.heap := by rw [B.state]; rfl
    have XX := Stand.of_body B
    have htb : c.exceptionTable.toList = tableOf hh := vx_table (x := μ.1) (hh := hh) B (hts _ List.mem_cons_self)
    have K := body sz p e s m As.toArray below meth c s.heap [] _ ⟨B.exec, B.bytes, B.returns, fun w hw => hts w (List.mem_cons_of_mem _ hw), hown, B.notSynchronized, hml, hK, hsz, hSt, by rw [← hsz]; exact hE⟩ hl hP (pw_D_A hD) va_S.rf ⟨Nat.zero_le _, Nat.zero_le _⟩
    have K2 : W p l e μ.2.2.2.2.2 s m As.toArray below meth c s.heap [] 0 0 ((pw_qH g hh sz Post 0 0).2.2 below As.toArray s) (entryFrame m As.toArray μ.2.2.1) := by
      rw [lg_entry_eq]; exact K
    obtain ⟨t, a1, b1⟩ := K2 s₁ hh0 XX
    obtain ⟨o, c1, c2, c3⟩ := b1 (fun m' meth' c' e1 e2 e3 => by
      rw [XX.frames] at e1
      cases e1
      cases Option.some.inj (XX.method.symm.trans e2)
      cases Option.some.inj (XX.code.symm.trans e3)
      exact htb)
    exact ⟨t, o, a1, c1, c2, ⟨c3.1, c3.2⟩⟩
theorem px_iretH {v : Int32} {k n : Nat} (hk : k ≤ 1) (hn : n ≤ 6) (hd : decode μ.2.1 pc = .ok (.ireturn, 1)) (hr : μ.2.2.2.1 = some .int) (hp : Post (some (.int v)) X Y) : pw_W l g μ sz (pw_qH g hh sz Post k n) pc ls [.int v] X Y := by
  intro p e s m args below meth c H locs la hC hl hP hD hS hZ T hT XX
  obtain ⟨t, a1, b1⟩ := W.iret (Qc := pw_Q g sz Post) (free := pw_A g sz) (cells := 1) (slots := 6) (R := μ.2.2.2.2.2) (v := v) hC.1 hC.2.1 (hC.2.2.1.trans hr) (fun t ht hW => ⟨⟨_, X, Y, rfl, hp, pw_back hC ht hW hP hD hS⟩, hS.F ht⟩) hS.2.2 hd hC.2.2.2.2.2.1 T hT (stand_widen XX hk hn)
  exact ⟨t, a1, fun _ => b1⟩
theorem px_hcall {E0 : String} {pre suf : pw_hh} {x : Nat × Nat × Nat × Nat} {i n : Nat} {As : List Value} (hT : xT_ g) (hC4 : xC_ g) (ho : μ.2.2.2.2.1 = rC_L) (hE : E0 ∈ xs4_) (hsp : hh = pre ++ x :: suf) (hcov : covers ⟨x.1, x.2.1, x.2.2.1, x.2.2.2⟩ pc = true) (h0 : x.2.2.2 ≠ 0)
    (hlk : (.classLink rC_L x.2.2.2 E0 : Cond) ∈ wG) (hpre : ∀ z ∈ pre, z.2.2.2 ≠ 0 ∧ ∃ nm, nm ∈ xs4_ ∧ E0 ≠ nm ∧ (.classLink rC_L z.2.2.2 nm : Cond) ∈ wG)
    (hd : decode μ.2.1 pc = .ok (.invokevirtual i, 3)) (hw : (.methodLink μ.2.2.2.2.1 i ν.1 : Cond) ∈ wG) (hs : (.instanceMethod ν.1 : Cond) ∈ wG) (hv : (.selects rC_P ν.1 ν.1 : Cond) ∈ wG) (hc : (.code ν.1 ν.2.1 ν.2.2.1 ν.2.2.2.1 : Cond) ∈ wG) (hi : (.initialized ν.1.cls : Cond) ∈ wG)
    (hz : ν.2.2.2.2.2.cells = 1 ∧ ν.2.2.2.2.2.slots = 6) (hn : ν.1.cls ≠ "java/lang/invoke/MethodHandle" ∧ ν.1.cls ≠ "java/lang/invoke/VarHandle" ∧ (parseMethodDescriptor ν.1.desc).map (fun d => d.parameters.length) = some n) (hlen : As.length = n)
    (hR : ν.2.2.2.2.2.frames + 1 ≤ μ.2.2.2.2.2.frames ∧ 8 + (ν.2.2.1 + 11) + ν.2.2.2.2.2.locals ≤ μ.2.2.2.2.2.locals) (hst : (st.map fun v => v.category).sum ≤ 8) (hc1 : 1 ≤ μ.2.2.2.2.2.cells) (hs6 : 6 ≤ μ.2.2.2.2.2.slots)
    (hM : pw_Thr l g ν (.ref (ad_ g 0) :: As) X Y (fun E X' Y' => E = E0 ∧ ∀ q, pw_W l g μ sz (pw_qH g hh sz Post 1 6) x.2.2.1 ls [.ref q] X' Y')) : pw_W l g μ sz (pw_qH g hh sz Post 0 0) pc ls (As.reverse ++ .ref (ad_ g 0) :: st) X Y := by
  intro p e s m args below meth c H locs la hC hl hP hD hS hZ T hTT XX
  by_cases htb : pw_tb hh s args below
  · have hts := hC.2.2.2.1
    have hcb : CallB μ.2.2.2.2.2 s args μ.2.2.2.2.1 i ν.1 ν.2.1 ν.2.2.1 ν.2.2.2.1 (pw_ws ν) ν.2.2.2.2.2 1 6 n := callB_of (ws' := wG) n hts (pw_good hc rfl) rfl hz.1 hz.2 (hts _ hi) (hts _ hw) hn hR
    have hrecv := va_recv (q := (rC_P, tF_P, 8)) (fs := (of_s g (Y 0) 0).2) hC.2.2.2.2.2.2.2.1 hP (ci := 3) rfl (q0 := 0) (a := ad_ g 0) (pw_s_at (by decide))
    have hr := vx_runV (e := e) (below := below) (meth := meth) (locs := locs) (cells := 0) (slots := 0) (H := H) (C := rC_P) (b := ad_ g 0) (g := F0 m pc la (As.reverse ++ .ref (ad_ g 0) :: st)) (rest := st) (As := As) (Ts := wG) ⟨hC.1, hC.2.1, hC.2.2.2.2.2.2.1, hC.2.2.2.2.1, hts⟩ (hM H.size) ⟨hcb, hts _ hs, hts _ hv⟩ ⟨pw_blind, hrecv, fun U hU hW => ⟨rfl, by rw [hU], pw_back hC hU hW hP hD hS⟩⟩ rfl hlen hl.1 rfl (lv_room hst) hd ⟨hc1, hs6⟩
    rcases hr T hTT XX with ⟨v, st₀, t, T', L, h0', X', hL, e1, e2, hq, stp⟩ | ⟨q, st₀, t, T', L, E, ce, h0', X', hL, e1, e2, ⟨u, -, ⟨⟨rfl, hk⟩, hwd⟩, hzz, hkeep⟩, hce, hcv, hcl, stp⟩
    · exact hq.elim
    · rw [h0'] at hzz hkeep
      have hszH : sz ≤ H.size := by rw [← hC.2.2.2.2.2.2.2.2.1]; exact hS.1
      have hS1 : va_S (pw_A g sz) s.heap T'.heap (locs ++ L) := by
        refine ⟨Nat.le_trans hS.1 (by rw [e1]; exact hzz), fun q h1 h2 => ?_, fun q hq => ?_⟩
        · rw [e1, hkeep q (Nat.lt_of_lt_of_le h1 hS.1) (fun z => h2 (pw_A_mono hszH q z))]
          exact hS.2.1 q h1 h2
        · rcases List.mem_append.mp hq with h | h
          · exact hS.2.2 q h
          · exact pw_A_mono hszH _ (hL q h)
      have kk := hk q p e s m args below meth c T'.heap (locs ++ L) la hC hl (by rw [e1]; exact hwd.1) (pw_D_A hD) hS1 ⟨hc1, hs6⟩
      have hown : s.vm.findClass rC_L = some m.cls := by rw [← ho]; exact hC.2.2.2.2.1
      have hsplit : c.exceptionTable.toList = tableOf pre ++ (⟨x.1, x.2.1, x.2.2.1, x.2.2.2⟩ : ExceptionTableEntry) :: tableOf suf := by
        rw [htb m meth c XX.frames XX.method XX.code, hsp]
        simp [tableOf]
      have hxe := hC.2.2.2.2.2.2.2.2.2.2
      obtain ⟨t2, a1, b1⟩ := vx_catch (own := rC_L) (name := E) (E := E) (ce := ce) (q := q) (H := T'.heap) (rest := st) (pc := pc) hown (tableOf pre) ⟨x.1, x.2.1, x.2.2.1, x.2.2.2⟩ (tableOf suf) hsplit (fun z hz => by
          obtain ⟨z', hz', rfl⟩ := List.mem_map.mp hz
          obtain ⟨k0, nm, n1, n2, n3⟩ := hpre z' hz'
          exact Or.inr ⟨k0, nm, hts _ n3, hC4 _ _ _ hxe E hE nm n1 n2⟩) hcov h0 (hts _ hlk) (va_Nw.use rfl ((hT _ _ _ hxe).2.1 E hE)) (by rw [e1]; exact hce) hcv hcl kk T' rfl X'
      exact ⟨t2, stp.trans a1, b1⟩
  · exact ⟨_, Steps.refl _, fun h => absurd h htb⟩
end PH
