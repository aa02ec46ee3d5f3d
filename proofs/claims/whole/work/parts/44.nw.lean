/-! making the world: a walk over a list of cells that grows -/
theorem va_AOA.moved {t : FieldType} {u U : State} (hvm : u.vm.Alike U.vm) (h : va_AOA t u) : va_AOA t U := by
  intro A
  obtain ⟨comp, c, k, h1, h2, h3, h4, h5⟩ := arrayOverA_spec (h #[])
  obtain ⟨k', hk', he⟩ := hvm.2.2 _ _ h3
  have hi : (U.vm.classes.findIdx? fun (x : Class) => match x.kind with | .array component _ => component == comp | _ => false) = some c := by
    have e1 := va_idx_bare U.vm comp
    have e2 := va_idx_bare u.vm comp
    first | rw [hvm.bare_eq] at e1 | rw [← hvm.bare_eq] at e1
    exact e1.symm.trans (e2.trans h2)
  have hkind : k'.kind = .array comp (.array t) := by rw [he]; exact h4
  have f1 : U.vm.findClass (FieldType.array t).toString = some comp := by rw [hvm.findClass]; exact h1
  have f2 : U.vm.findClass ("[" ++ (FieldType.array t).toString) = some c := by rw [hvm.findClass]; exact h5
  unfold Cond.before Cond.holds
  simp only [Cond.value]
  rw [f1, Option.bind_some]
  refine (congrArg (fun o : Option Nat => (o.bind (fun c => (U.vm.classes[c]?).map fun (k : Class) => match k.kind with | .array _ ty => decide (ty = FieldType.array t) && decide (U.vm.findClass ("[" ++ (FieldType.array t).toString) = some c) | _ => false) == some true)) hi).trans ?_
  simp [hk', hkind, f2]
abbrev nw_K : Type := va_G × ClassId × ClassId
abbrev nw_T : Type := List (ClassId × FieldType)
def nw_N (k : nw_K) (U : State) : Prop := va_K k.1 clS [] U ∧ U.vm.findClass "[J" = some k.2.1 ∧ U.vm.findClass "[I" = some k.2.2 ∧ va_AOA .long U ∧ va_Nw (.methodLinkNest rC_P 29 yM_V_init rC_P) U ∧ va_Nw (.methodLinkNest rC_P 36 yM_O_init rC_P) U ∧ va_Nw (.methodLinkNest rC_P 43 yM_Y_init rC_P) U
theorem nw_N.warm {k : nw_K} {s U : State} (hW : s.WarmedH U.vm) (h : nw_N k s) : nw_N k U :=
  ⟨h.1.moved hW.alike, by rw [hW.alike.findClass]; exact h.2.1, by rw [hW.alike.findClass]; exact h.2.2.1, h.2.2.2.1.moved hW.alike, va_Nw.warmM hW h.2.2.2.2.1, va_Nw.warmM hW h.2.2.2.2.2.1, va_Nw.warmM hW h.2.2.2.2.2.2⟩
def nw_A (a sz : Nat) : Nat → Prop := fun q => q = a ∨ sz ≤ q
def nw_Cx (k : nw_K) (μ : pw_M) (sz : Nat) (p : Program) (s : State) (m : MethodId) (args : Array Value) (meth : Method) (c : Code) : Prop :=
  p.tables.exec = Jvm.exec ∧ c.code = μ.2.1 ∧ meth.sig.returnType = μ.2.2.2.1 ∧ (∀ w ∈ wG, w.before args s = true) ∧ s.vm.findClass μ.2.2.2.2.1 = some m.cls ∧ meth.locks = false ∧ c.maxLocals = μ.2.2.1 ∧ meth.name = μ.1.name ∧ s.heap.size = sz ∧ nw_N k s
def nw_W (l : Launch) (k : nw_K) (μ : pw_M) (A : Nat → Prop) (sz : Nat) (Qf : pw_F) (pc : Nat) (ls : List (Nat × Value)) (st : List Value) (ws : va_W) (ts : nw_T) : Prop :=
  ∀ (p : Program) (e : Env) (s : State) (m : MethodId) (args : Array Value) (below : List Frame) (meth : Method) (c : Code) (H : Heap) (locs : List Loc) (la : Array Slot),
    nw_Cx k μ sz p s m args meth c → lv_has la μ.2.2.1 ls → va_K k.1 clS ts s → va_P k.1 clS ws H → va_D A ws → va_S A s.heap H locs → (∀ q, sz ≤ q → A q) →
    W p l e μ.2.2.2.2.2 s m args below meth c H locs Qf.1 Qf.2.1 (Qf.2.2 below args s) (F0 m pc la st)
abbrev nw_R : Type := va_W → nw_T → Prop
def nw_Q (k : nw_K) (A : Nat → Prop) (R : nw_R) : Array Value → State → Outcome → State → Prop := fun _ st oc t =>
  (oc = .returned none ∧ ∃ (ws : va_W) (ts : nw_T), R ws ts ∧ va_P k.1 clS ws t.heap ∧ va_K k.1 clS ts t ∧ va_D A ws) ∧ va_F A st t
def nw_q (k : nw_K) (A : Nat → Prop) (R : nw_R) (mc ms i j : Nat) : pw_F := (i, j, fun b a s => MQ b (nw_Q k A R) a s mc ms A)
/-- a constructor's contract -/
def nw_Met (l : Launch) (k : nw_K) (μ : pw_M) (a ci : Nat) (fs : List Value) (R : nw_R) : Prop :=
  ∀ sz, Met l μ.1 (pw_ws μ) μ.2.2.2.2.2 (va_Pc [.ref a] (fun U => U.heap.size = sz ∧ va_P k.1 clS [(a, .inr (ci, fs))] U.heap ∧ nw_N k U)) (nw_Q k (nw_A a sz) R) μ.2.2.2.2.2.cells μ.2.2.2.2.2.slots (nw_A a sz)
section NW
variable {l : Launch} {k : nw_K} {μ ν : pw_M} {A : Nat → Prop} {sz : Nat} {Qf : pw_F} {pc q : Nat} {ls : List (Nat × Value)} {st : List Value} {ws : va_W} {ts : nw_T} {R : nw_R}
theorem nw_ofW {a ci : Nat} {fs : List Value} (hy : plainName μ.1.cls = true) (hcls : μ.1.cls = μ.2.2.2.2.1) (hlen : (lg_sl [.ref a]).length ≤ μ.2.2.1) (hls : lv_args 0 [.ref a] = ls) (body : ∀ sz, nw_W l k μ (nw_A a sz) sz (nw_q k (nw_A a sz) R μ.2.2.2.2.2.cells μ.2.2.2.2.2.slots 0 0) 0 ls [] [(a, .inr (ci, fs))] []) : nw_Met l k μ a ci fs R := by
  intro sz
  refine Met.ofW (cc := μ.2.1) (maxL := μ.2.2.1) (ret := μ.2.2.2.1) hy rfl ?_
  intro p e s m args below meth c s₁ B hml hv
  obtain ⟨rfl, hsz, hP, hN⟩ := hv
  have hts := atoms_spec (ws := pw_ws μ) B.pre
  have hown : s.vm.findClass μ.2.2.2.2.1 = some m.cls := by rw [← hcls]; exact findClass_of_methodNamed B.named
  have hl := lv_entry [.ref a] (n := μ.2.2.1) hlen
  rw [lg_entry_eq]
  rw [hls] at hl
  refine body sz p e s m [Value.ref a].toArray below meth c s.heap [] _ ⟨B.exec, B.bytes, B.returns, fun w hw => hts w (List.mem_cons_of_mem _ hw), hown, B.notSynchronized, hml, (name_of_methodNamed B.named B.method).1, hsz, hN⟩ hl hN.1 hP ⟨fun i j x y hi hj _ => ?_, fun j x hx => ?_⟩ va_S.rf (fun q hq => Or.inr hq)
  · have h1 := (List.getElem?_eq_some_iff.mp hi).1
    have h2 := (List.getElem?_eq_some_iff.mp hj).1
    simp at h1 h2
    omega
  · have h1 := (List.getElem?_eq_some_iff.mp hx).1
    simp at h1
    subst h1
    cases hx
    exact Or.inl rfl
theorem nx_iconst {n : Int} {v : Int32} (hd : decode μ.2.1 pc = .ok (.iconst n, 1)) (hv : Int32.ofInt n = v) (hq : pc + 1 = q) (kk : nw_W l k μ A sz Qf q ls (.int v :: st) ws ts) : nw_W l k μ A sz Qf pc ls st ws ts := by
  intro p e s m args below meth c H locs la hC hl hK hP hD hS hA
  subst hq
  exact lv_iconst hC.1 hC.2.1 hd hv (kk p e s m args below meth c H locs la hC hl hK hP hD hS hA)
theorem nx_bipush {n : Int} {v : Int32} (hd : decode μ.2.1 pc = .ok (.bipush n, 2)) (hv : (Int8.ofInt n).toInt32 = v) (hq : pc + 2 = q) (kk : nw_W l k μ A sz Qf q ls (.int v :: st) ws ts) : nw_W l k μ A sz Qf pc ls st ws ts := by
  intro p e s m args below meth c H locs la hC hl hK hP hD hS hA
  subst hq
  exact lv_bipush hC.1 hC.2.1 hd hv (kk p e s m args below meth c H locs la hC hl hK hP hD hS hA)
theorem nx_sipush {n : Int} {v : Int32} (hd : decode μ.2.1 pc = .ok (.sipush n, 3)) (hv : (Int16.ofInt n).toInt32 = v) (hq : pc + 3 = q) (kk : nw_W l k μ A sz Qf q ls (.int v :: st) ws ts) : nw_W l k μ A sz Qf pc ls st ws ts := by
  intro p e s m args below meth c H locs la hC hl hK hP hD hS hA
  subst hq
  exact lv_sipush hC.1 hC.2.1 hd hv (kk p e s m args below meth c H locs la hC hl hK hP hD hS hA)
theorem nx_aload_n {j : Fin 4} {x : Nat} (hd : decode μ.2.1 pc = .ok (.aload_n j, 1)) (hx : lk_ ls (j : Nat) = some (.ref x)) (hq : pc + 1 = q) (kk : nw_W l k μ A sz Qf q ls (.ref x :: st) ws ts) : nw_W l k μ A sz Qf pc ls st ws ts := by
  intro p e s m args below meth c H locs la hC hl hK hP hD hS hA
  subst hq
  exact lv_aload_n hC.1 hC.2.1 hd rfl (lk_has hl hx) (kk p e s m args below meth c H locs la hC hl hK hP hD hS hA)
theorem nx_dup {v : Value} (hd : decode μ.2.1 pc = .ok (.dup, 1)) (hv : v.category = 1) (hq : pc + 1 = q) (kk : nw_W l k μ A sz Qf q ls (v :: v :: st) ws ts) : nw_W l k μ A sz Qf pc ls (v :: st) ws ts := by
  intro p e s m args below meth c H locs la hC hl hK hP hD hS hA
  subst hq
  exact lv_dup hC.1 hC.2.1 hd hv (kk p e s m args below meth c H locs la hC hl hK hP hD hS hA)
theorem nx_astore_n {j : Fin 4} {i : Nat} {x : Nat} {ls' : List (Nat × Value)} (hd : decode μ.2.1 pc = .ok (.astore_n j, 1)) (hi : (j : Nat) = i) (hn : i < μ.2.2.1) (hls : up_1 ls i (.ref x) = ls') (hq : pc + 1 = q) (kk : nw_W l k μ A sz Qf q ls' st ws ts) : nw_W l k μ A sz Qf pc ls (.ref x :: st) ws ts := by
  intro p e s m args below meth c H locs la hC hl hK hP hD hS hA
  subst hq; subst hls
  exact lv_astore_n hC.1 hC.2.1 hd hi hl hn rfl (fun la hl => kk p e s m args below meth c H locs la hC (up_1_has hl) hK hP hD hS hA)
theorem nx_obj {idx a : Nat} (hd : decode μ.2.1 pc = .ok (.invokespecial idx, 3)) (hw : (.methodLink μ.2.2.2.2.1 idx objectInit : Cond) ∈ wG) (hf : 1 ≤ μ.2.2.2.2.2.frames) (hlo : (st.map fun v => v.category).sum + 12 ≤ μ.2.2.2.2.2.locals) (hq : pc + 3 = q) (kk : nw_W l k μ A sz Qf q ls st ws ts) : nw_W l k μ A sz Qf pc ls (.ref a :: st) ws ts := by
  intro p e s m args below meth c H locs la hC hl hK hP hD hS hA
  subst hq
  exact W.objInit hC.1 hC.2.1 hC.2.2.2.2.1 (hC.2.2.2.1 _ hw) (hC.2.2.2.1 _ wm_Object_init) (hC.2.2.2.1 _ wb_Object_init) rfl (by rw [hC.2.2.2.2.2.2.1]; exact hl.1) rfl hd hf (by show 2 * 0 + _ + 12 ≤ _; omega) (kk p e s m args below meth c H locs la hC hl hK hP hD hS hA)
theorem nx_newJ {N : Nat} (hd : decode μ.2.1 pc = .ok (.newarray .long, 2)) (hw : (.arrayClass .long : Cond) ∈ wG) (hN : N < 1000) (hc : Qf.1 + 1 ≤ μ.2.2.2.2.2.cells) (hs : Qf.2.1 + N ≤ μ.2.2.2.2.2.slots) (hq : pc + 2 = q)
    (kk : ∀ a, nw_W l k μ A sz (Qf.1 + 1, Qf.2.1 + N, Qf.2.2) q ls (.ref a :: st) (ws ++ [(a, .inl (k.2.1, N, .inr (.inl (fun _ => 0))))]) (ts ++ [(k.2.1, .long)])) : nw_W l k μ A sz Qf pc ls (.int (nI N) :: st) ws ts := by
  intro p e s m args below meth c H locs la hC hl hK hP hD hS hA
  subst hq
  refine va_newa (atype := .long) (ty := .long) (a0 := (N, .inr (.inl (fun _ => 0)))) hC.1 hC.2.1 (hC.2.2.2.1 _ hw) rfl hK hP hD hS (fun q hq => hA q (by rw [← hC.2.2.2.2.2.2.2.2.1]; exact hq)) (fun cA => rfl) (nI_pos (by omega)) (nI_clamp (by omega)) (by show N * 8 ≤ _; omega) hc hs hd (fun a cA H1 hK1 hP1 hD1 hS1 => ?_)
  have e : cA = k.2.1 := by
    have h1 := (hK1.2 ts.length (cA, .long) (by simp)).2
    have h2 : s.vm.findClass "[J" = some cA := h1
    rw [hC.2.2.2.2.2.2.2.2.2.2.1] at h2
    exact (Option.some.inj h2).symm
  subst e
  exact kk a p e s m args below meth c H1 locs la hC hl hK1 hP1 hD1 hS1 hA
theorem nx_newI {N : Nat} (hd : decode μ.2.1 pc = .ok (.newarray .int, 2)) (hw : (.arrayClass .int : Cond) ∈ wG) (hN : N < 1000) (hc : Qf.1 + 1 ≤ μ.2.2.2.2.2.cells) (hs : Qf.2.1 + N ≤ μ.2.2.2.2.2.slots) (hq : pc + 2 = q)
    (kk : ∀ a, nw_W l k μ A sz (Qf.1 + 1, Qf.2.1 + N, Qf.2.2) q ls (.ref a :: st) (ws ++ [(a, .inl (k.2.2, N, .inl (fun _ => 0)))]) (ts ++ [(k.2.2, .int)])) : nw_W l k μ A sz Qf pc ls (.int (nI N) :: st) ws ts := by
  intro p e s m args below meth c H locs la hC hl hK hP hD hS hA
  subst hq
  refine va_newa (atype := .int) (ty := .int) (a0 := (N, .inl (fun _ => 0))) hC.1 hC.2.1 (hC.2.2.2.1 _ hw) rfl hK hP hD hS (fun q hq => hA q (by rw [← hC.2.2.2.2.2.2.2.2.1]; exact hq)) (fun cA => rfl) (nI_pos (by omega)) (nI_clamp (by omega)) (by show N * 4 ≤ _; omega) hc hs hd (fun a cA H1 hK1 hP1 hD1 hS1 => ?_)
  have e : cA = k.2.2 := by
    have h1 := (hK1.2 ts.length (cA, .int) (by simp)).2
    have h2 : s.vm.findClass "[I" = some cA := h1
    rw [hC.2.2.2.2.2.2.2.2.2.2.2.1] at h2
    exact (Option.some.inj h2).symm
  subst e
  exact kk a p e s m args below meth c H1 locs la hC hl hK1 hP1 hD1 hS1 hA
theorem nx_put {i a x q0 ci j N : Nat} {C : String} {T : u_T} {fs : List Value} {ty : Nat → FieldType} (hd : decode μ.2.1 pc = .ok (.putfield i, 3)) (hw : (.fieldLink μ.2.2.2.2.1 i C (T j).2.1 (T j).2.2.1 : Cond) ∈ wG) (hU : ∀ w ∈ u_ws C T N, w ∈ wG) (hty : ∀ k, k < N → parseFieldDescriptor (T k).2.2.1 = some (ty k)) (hnm : ∀ a, a < N → ∀ b, b < N → a ≠ b → (T a).2.1 ≠ (T b).2.1) (hc : clS[ci]? = some (C, T, N)) (he : ws[q0]? = some (a, .inr (ci, fs))) (hj : j < N) (hT1 : (T j).1 = C) (hfin : (T j).2.2.2 = true) (hown : μ.2.2.2.2.1 = C) (hin : μ.1.name = "<init>") (hn : narrow (ty j) (.ref x) = .ref x) (hfit : fits (ty j) (.ref x) = true) (hl0 : j < fs.length) (hq : pc + 3 = q)
    {ws' : va_W} (hws : ws.set q0 (a, .inr (ci, fs.set j (.ref x))) = ws') (kk : nw_W l k μ A sz Qf q ls st ws' ts) : nw_W l k μ A sz Qf pc ls (.ref x :: .ref a :: st) ws ts := by
  intro p e s m args below meth c H locs la hC hl hK hP hD hS hA
  subst hq; subst hws
  exact va_putF hC.1 hC.2.1 hC.2.2.2.1 hU ty hty hnm hC.2.2.2.2.1 hK hP hD hS q0 he hc j hj (hC.2.2.2.1 _ hw) (fun y h => by rw [hT1] at h; exact h) hfin (hC.2.2.2.2.2.2.2.1.trans hin) (hT1.trans hown.symm) (hty j hj) hn hfit hl0 hd (fun H1 locs1 hP1 hD1 hS1 => kk p e s m args below meth c H1 locs1 la hC hl hK hP1 hD1 hS1 hA)
theorem nx_new {i ci N : Nat} {C : String} {T : u_T} {ty : Nat → FieldType} {fs : List Value} (hd : decode μ.2.1 pc = .ok (.new i, 3)) (hw : (.classLink μ.2.2.2.2.1 i C : Cond) ∈ wG) (hinst : (.instantiable C N : Cond) ∈ wG) (hini : (.initialized C : Cond) ∈ wG) (hU : ∀ w ∈ u_ws C T N, w ∈ wG) (hty : ∀ k, k < N → parseFieldDescriptor (T k).2.2.1 = some (ty k)) (hc : clS[ci]? = some (C, T, N)) (hfs : ∀ j, j < N → defaultValue (ty j) = vp_V fs j) (hc1 : Qf.1 + 1 ≤ μ.2.2.2.2.2.cells) (hs : Qf.2.1 + N ≤ μ.2.2.2.2.2.slots) (hq : pc + 3 = q)
    (kk : ∀ a, nw_W l k μ A sz (Qf.1 + 1, Qf.2.1 + N, Qf.2.2) q ls (.ref a :: st) (ws ++ [(a, .inr (ci, fs))]) ts) : nw_W l k μ A sz Qf pc ls st ws ts := by
  intro p e s m args below meth c H locs la hC hl hK hP hD hS hA
  subst hq
  exact va_new hC.1 hC.2.1 hC.2.2.2.1 hU ty hty hC.2.2.2.2.1 (hC.2.2.2.1 _ hw) (hC.2.2.2.1 _ hinst) (hC.2.2.2.1 _ hini) hK hP hD hS (fun q hq => hA q (by rw [← hC.2.2.2.2.2.2.2.2.1]; exact hq)) hc hfs hc1 hs hd (fun a H1 hP1 hD1 hS1 => kk a p e s m args below meth c H1 locs la hC hl hK hP1 hD1 hS1 hA)
theorem nx_ret {i j mc ms : Nat} (hi : i ≤ mc) (hj : j ≤ ms) (hd : decode μ.2.1 pc = .ok (.return_, 1)) (hr : μ.2.2.2.1 = none) (hp : R ws ts) : nw_W l k μ A sz (nw_q k A R mc ms i j) pc ls [] ws ts := by
  intro p e s m args below meth c H locs la hC hl hK hP hD hS hA T hT XX
  obtain ⟨t, a1, b1⟩ := W.vret (Qc := nw_Q k A R) (free := A) (cells := mc) (slots := ms) (R := μ.2.2.2.2.2) hC.1 hC.2.1 (hC.2.2.1.trans hr) (fun t ht hW => ⟨⟨rfl, ws, ts, hp, by rw [ht]; exact hP, hK.moved hW.alike, hD⟩, hS.F ht⟩) hS.2.2 hd hC.2.2.2.2.2.1 T hT (stand_widen XX hi hj)
  exact ⟨t, a1, b1⟩
end NW
