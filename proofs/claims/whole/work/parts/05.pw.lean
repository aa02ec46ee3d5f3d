/-! The pure world: the cells of desk, reference and answer row, by number; their long rows X and int rows Y. -/
abbrev pw_X : Type := Nat → Nat → Int64
abbrev pw_Y : Type := Nat → Nat → Int32
abbrev pw_E : Type := (Nat → Prop) → State → Heap → Prop
abbrev pw_G : Type := va_G × (ClassId × ClassId × ClassId) × (Nat → Nat) × pw_E
def ad_ (g : pw_G) (k : Nat) : Nat := g.2.2.1 k
/-- kinds: (0, c) object, (1, n) longs, (2, n) ints, (3, n) references -/
def sh_p : List (Nat × Nat) := [(0, 0), (3, 6), (1, 4), (1, 4), (1, 4), (1, 4), (1, 4), (1, 4), (1, 4), (1, 4), (1, 4), (1, 8), (0, 1), (1, 4), (1, 9), (1, 8), (0, 2), (1, 4), (1, 4), (1, 8), (0, 3), (2, 64), (2, 64), (0, 4), (2, 768), (2, 774), (2, 64), (1, 1)]
def of_s (g : pw_G) (f : Nat → Int32) (c : Nat) : Nat × List Value := match c with
  | 0 => (3, [.ref (ad_ g 1), .ref (ad_ g 8), .ref (ad_ g 9), .ref (ad_ g 10), .ref (ad_ g 11), .ref (ad_ g 12), .ref (ad_ g 16), .ref (ad_ g 20)])
  | 1 => (0, [.ref (ad_ g 13), .ref (ad_ g 14), .ref (ad_ g 15), .int (f 3), .int (f 4)])
  | 2 => (2, [.ref (ad_ g 17), .ref (ad_ g 18), .ref (ad_ g 19)])
  | 3 => (1, [.ref (ad_ g 21), .ref (ad_ g 22)])
  | _ => (4, [.ref (ad_ g 24), .ref (ad_ g 25), .ref (ad_ g 26), .int (f 3)])
def ce_of (g : pw_G) (X : pw_X) (Y : pw_Y) (k : Nat) : va_E := match sh_p[k]? with
  | some (1, n) => .inl (g.2.1.1, n, .inr (.inl (X k)))
  | some (2, n) => .inl (g.2.1.2.1, n, .inl (Y k))
  | some (3, n) => .inl (g.2.1.2.2, n, .inr (.inr (.inr (.inr (fun i => some (ad_ g (2 + i)))))))
  | some (_, c) => .inr (of_s g (Y k) c)
  | none => .inr (0, [])
def pw_s (g : pw_G) (X : pw_X) (Y : pw_Y) : va_W := (List.range 28).map (fun k => (ad_ g k, ce_of g X Y k))
theorem pw_s_at {g : pw_G} {X : pw_X} {Y : pw_Y} {k : Nat} (h : k < 28) : (pw_s g X Y)[k]? = some (ad_ g k, ce_of g X Y k) := by
  simp [pw_s, h]
theorem pw_s_set {g : pw_G} {X X' : pw_X} {Y Y' : pw_Y} {k : Nat} {e : va_E} (h : ce_of g X' Y' k = e) (ho : ∀ j, j < 28 → j ≠ k → ce_of g X' Y' j = ce_of g X Y j) : (pw_s g X Y).set k (ad_ g k, e) = pw_s g X' Y' := by
  subst h
  apply List.ext_getElem?
  intro j
  by_cases hj : j < 28
  · by_cases hk : j = k
    · subst hk
      rw [List.getElem?_set_self (by simp [pw_s, hj]), pw_s_at hj]
    · rw [List.getElem?_set_ne (Ne.symm hk), pw_s_at hj, pw_s_at hj, ho j hj hk]
  · rw [List.getElem?_eq_none (by simp [pw_s]; omega), List.getElem?_eq_none (by simp [pw_s]; omega)]
def ln_J (k : Nat) : Option Nat := match sh_p[k]? with
  | some (1, n) => some n
  | _ => none
def ln_I (k : Nat) : Option Nat := match sh_p[k]? with
  | some (2, n) => some n
  | _ => none
theorem ln_J_lt {k n : Nat} (h : ln_J k = some n) : k < 28 := by
  refine Nat.lt_of_not_le fun q => ?_
  have h1 : sh_p[k]? = none := List.getElem?_eq_none q
  simp [ln_J, h1] at h
theorem ln_I_lt {k n : Nat} (h : ln_I k = some n) : k < 28 := by
  refine Nat.lt_of_not_le fun q => ?_
  have h1 : sh_p[k]? = none := List.getElem?_eq_none q
  simp [ln_I, h1] at h
theorem ln_J_r : ∀ r, r < 6 → ln_J (2 + r) = some 4 := by decide +kernel
theorem ce_J {g : pw_G} {X : pw_X} {Y : pw_Y} {k n : Nat} (h : ln_J k = some n) : ce_of g X Y k = .inl (g.2.1.1, n, .inr (.inl (X k))) := by
  unfold ln_J at h
  unfold ce_of
  split at h
  · rename_i n' e
    cases h
    rw [e]
    rfl
  · cases h
theorem ce_I {g : pw_G} {X : pw_X} {Y : pw_Y} {k n : Nat} (h : ln_I k = some n) : ce_of g X Y k = .inl (g.2.1.2.1, n, .inl (Y k)) := by
  unfold ln_I at h
  unfold ce_of
  split at h
  · rename_i n' e
    cases h
    rw [e]
    rfl
  · cases h
def xr_ (X : pw_X) (k : Nat) (f : Nat → Int64) : pw_X := fun j => if j = k then f else X j
def yr_ (Y : pw_Y) (k : Nat) (f : Nat → Int32) : pw_Y := fun j => if j = k then f else Y j
theorem xr_s {X : pw_X} {k : Nat} {f : Nat → Int64} : xr_ X k f k = f := if_pos rfl
theorem xr_n {X : pw_X} {k j : Nat} {f : Nat → Int64} (h : j ≠ k) : xr_ X k f j = X j := if_neg h
theorem yr_s {Y : pw_Y} {k : Nat} {f : Nat → Int32} : yr_ Y k f k = f := if_pos rfl
theorem yr_n {Y : pw_Y} {k j : Nat} {f : Nat → Int32} (h : j ≠ k) : yr_ Y k f j = Y j := if_neg h
theorem xr_xr {X : pw_X} {k : Nat} {f f' : Nat → Int64} : xr_ (xr_ X k f) k f' = xr_ X k f' := by
  funext j
  by_cases h : j = k <;> simp [xr_, h]
theorem yr_yr {Y : pw_Y} {k : Nat} {f f' : Nat → Int32} : yr_ (yr_ Y k f) k f' = yr_ Y k f' := by
  funext j
  by_cases h : j = k <;> simp [yr_, h]
theorem xr_id {X : pw_X} {k : Nat} : xr_ X k (X k) = X := by
  funext j
  by_cases h : j = k <;> simp [xr_, h]
theorem yr_id {Y : pw_Y} {k : Nat} : yr_ Y k (Y k) = Y := by
  funext j
  by_cases h : j = k <;> simp [yr_, h]
theorem ce_xr {g : pw_G} {X : pw_X} {Y : pw_Y} {k j : Nat} {f : Nat → Int64} (h : j ≠ k) : ce_of g (xr_ X k f) Y j = ce_of g X Y j := by
  unfold ce_of
  rw [xr_n h]
theorem pw_s_J {g : pw_G} {X : pw_X} {Y : pw_Y} {k n : Nat} {f : Nat → Int64} (h : ln_J k = some n) : (pw_s g X Y).set k (ad_ g k, .inl (g.2.1.1, n, .inr (.inl f))) = pw_s g (xr_ X k f) Y :=
  pw_s_set (by rw [ce_J h, xr_s]) (fun _ _ hj => ce_xr hj)
theorem ce_yr {g : pw_G} {X : pw_X} {Y : pw_Y} {k j : Nat} {f : Nat → Int32} (h : j ≠ k) : ce_of g X (yr_ Y k f) j = ce_of g X Y j := by
  unfold ce_of
  rw [yr_n h]
theorem pw_s_I {g : pw_G} {X : pw_X} {Y : pw_Y} {k n : Nat} {f : Nat → Int32} (h : ln_I k = some n) : (pw_s g X Y).set k (ad_ g k, .inl (g.2.1.2.1, n, .inl f)) = pw_s g X (yr_ Y k f) :=
  pw_s_set (by rw [ce_I h, yr_s]) (fun _ _ hj => ce_yr hj)
/-- cells that a method may write: the world's, and new ones -/
def pw_A (g : pw_G) (sz : Nat) : Nat → Prop := fun q => (∃ k, k < 28 ∧ q = ad_ g k) ∨ sz ≤ q
theorem pw_A_mono {g : pw_G} {a b : Nat} (h : a ≤ b) : ∀ q, pw_A g b q → pw_A g a q := fun q hq => hq.elim Or.inl (fun h2 => Or.inr (Nat.le_trans h h2))
def pw_ty (g : pw_G) : List (ClassId × FieldType) := [(g.2.1.1, .long), (g.2.1.2.1, .int), (g.2.1.2.2, .array .long)]
/-- what rides along of the rest of the heap and of the tables stays -/
def pw_St (g : pw_G) : Prop :=
  (∀ (A : Nat → Prop) (u U : State) (H : Heap), u.WarmedH U.vm → g.2.2.2 A u H → g.2.2.2 A U H) ∧
  (∀ (A : Nat → Prop) (U : State) (H H1 : Heap), (∀ a : Nat, a < H.size → ¬ A a → H1[a]? = H[a]?) → g.2.2.2 A U H → g.2.2.2 A U H1) ∧
  (∀ (A B : Nat → Prop) (U : State) (H : Heap), (∀ q, B q → A q) → g.2.2.2 A U H → g.2.2.2 B U H)
/-- the world at a state -/
def pw_Wd (g : pw_G) (X : pw_X) (Y : pw_Y) (U : State) : Prop :=
  va_P g.1 clS (pw_s g X Y) U.heap ∧ va_K g.1 clS (pw_ty g) U ∧ va_D (fun _ => True) (pw_s g X Y) ∧ pw_St g ∧ g.2.2.2 (pw_A g U.heap.size) U U.heap
theorem pw_D_A {g : pw_G} {X X' : pw_X} {Y Y' : pw_Y} {A : Nat → Prop} {sz : Nat} (h : va_D A (pw_s g X Y)) : va_D (pw_A g sz) (pw_s g X' Y') := by
  have at1 : ∀ (i : Nat) (q : Nat × va_E), (pw_s g X' Y')[i]? = some q → i < 28 ∧ q.1 = ad_ g i := by
    intro i q hq
    have hi : i < 28 := by
      have := (List.getElem?_eq_some_iff.mp hq).1
      simpa [pw_s] using this
    rw [pw_s_at hi] at hq
    cases hq
    exact ⟨hi, rfl⟩
  refine ⟨fun i j a b hi hj hab => ?_, fun k q hq => ?_⟩
  · obtain ⟨i1, i2⟩ := at1 i a hi
    obtain ⟨j1, j2⟩ := at1 j b hj
    exact h.1 i j _ _ (pw_s_at i1) (pw_s_at j1) (by show ad_ g i = ad_ g j; rw [← i2, ← j2]; exact hab)
  · obtain ⟨i1, i2⟩ := at1 k q hq
    exact Or.inl ⟨k, i1, i2⟩
/-- a method: name, code, locals, answer, class, room -/
abbrev pw_M : Type := MethodName × ByteArray × Nat × Option FieldType × String × Room
/-- cells and slots taken so far, and what is owed at the end -/
abbrev pw_F : Type := Nat × Nat × (List Frame → Array Value → State → State → Prop)
abbrev pw_P : Type := Option Value → pw_X → pw_Y → Prop
def pw_ws (μ : pw_M) : List Cond := .code μ.1 μ.2.1 μ.2.2.1 μ.2.2.2.1 :: wG
def pw_Q (g : pw_G) (sz : Nat) (Post : pw_P) : Array Value → State → Outcome → State → Prop := fun _ st oc t =>
  (∃ (o : Option Value) (X : pw_X) (Y : pw_Y), oc = .returned o ∧ Post o X Y ∧ pw_Wd g X Y t) ∧ va_F (pw_A g sz) st t
def pw_qM (g : pw_G) (sz : Nat) (Post : pw_P) (mc ms : Nat) : pw_F := (0, 0, fun b a s => MQ b (pw_Q g sz Post) a s mc ms (pw_A g sz))
/-- a method's contract: from this world, with these arguments, it returns, and Post holds of the answer and the new world -/
def pw_Met (l : Launch) (g : pw_G) (μ : pw_M) (As : List Value) (X : pw_X) (Y : pw_Y) (Post : pw_P) : Prop :=
  ∀ sz, Met l μ.1 (pw_ws μ) μ.2.2.2.2.2 (va_Pc As (fun U => U.heap.size = sz ∧ pw_Wd g X Y U)) (pw_Q g sz Post) 0 0 (pw_A g sz)
def pw_Cx (g : pw_G) (μ : pw_M) (sz : Nat) (p : Program) (s : State) (m : MethodId) (args : Array Value) (meth : Method) (c : Code) : Prop :=
  p.tables.exec = Jvm.exec ∧ c.code = μ.2.1 ∧ meth.sig.returnType = μ.2.2.2.1 ∧ (∀ w ∈ wG, w.before args s = true) ∧ s.vm.findClass μ.2.2.2.2.1 = some m.cls ∧ meth.locks = false ∧ c.maxLocals = μ.2.2.1 ∧ va_K g.1 clS (pw_ty g) s ∧ s.heap.size = sz ∧ pw_St g ∧ g.2.2.2 (pw_A g sz) s s.heap
/-- the walk: from this place of the method, with these locals, this stack, this world -/
def pw_W (l : Launch) (g : pw_G) (μ : pw_M) (sz : Nat) (Qf : pw_F) (pc : Nat) (ls : List (Nat × Value)) (st : List Value) (X : pw_X) (Y : pw_Y) : Prop :=
  ∀ (p : Program) (e : Env) (s : State) (m : MethodId) (args : Array Value) (below : List Frame) (meth : Method) (c : Code) (H : Heap) (locs : List Loc) (la : Array Slot),
    pw_Cx g μ sz p s m args meth c → lv_has la μ.2.2.1 ls → va_P g.1 clS (pw_s g X Y) H → va_D (pw_A g sz) (pw_s g X Y) → va_S (pw_A g sz) s.heap H locs → (Qf.1 ≤ μ.2.2.2.2.2.cells ∧ Qf.2.1 ≤ μ.2.2.2.2.2.slots) →
    W p l e μ.2.2.2.2.2 s m args below meth c H locs Qf.1 Qf.2.1 (Qf.2.2 below args s) (F0 m pc la st)
theorem pw_s_putV3 {g : pw_G} {X : pw_X} {Y : pw_Y} {x : Int32} : (pw_s g X Y).set 12 (ad_ g 12, .inr (0, (of_s g (Y 12) 1).2.set 3 (.int x))) = pw_s g X (yr_ Y 12 (upd (Y 12) 3 x)) :=
  pw_s_set (by show Sum.inr (of_s g (yr_ Y 12 _ 12) 1) = _; rw [yr_s]; simp [of_s, upd]) (fun _ _ hj => ce_yr hj)
theorem pw_s_putV4 {g : pw_G} {X : pw_X} {Y : pw_Y} {x : Int32} : (pw_s g X Y).set 12 (ad_ g 12, .inr (0, (of_s g (Y 12) 1).2.set 4 (.int x))) = pw_s g X (yr_ Y 12 (upd (Y 12) 4 x)) :=
  pw_s_set (by show Sum.inr (of_s g (yr_ Y 12 _ 12) 1) = _; rw [yr_s]; simp [of_s, upd]) (fun _ _ hj => ce_yr hj)
theorem pw_s_putM3 {g : pw_G} {X : pw_X} {Y : pw_Y} {x : Int32} : (pw_s g X Y).set 23 (ad_ g 23, .inr (4, (of_s g (Y 23) 4).2.set 3 (.int x))) = pw_s g X (yr_ Y 23 (upd (Y 23) 3 x)) :=
  pw_s_set (by show Sum.inr (of_s g (yr_ Y 23 _ 23) 4) = _; rw [yr_s]; simp [of_s, upd]) (fun _ _ hj => ce_yr hj)
/-! locals: a list by places, in their order -/
def lk_ : List (Nat × Value) → Nat → Option Value
  | [], _ => none
  | (j, v) :: t, i => bif Nat.beq j i then some v else lk_ t i
def in_ : List (Nat × Value) → Nat → Value → List (Nat × Value)
  | [], i, v => [(i, v)]
  | (j, w) :: t, i, v => bif Nat.blt i j then (i, v) :: (j, w) :: t else (j, w) :: in_ t i v
def kp_1 : List (Nat × Value) → Nat → List (Nat × Value)
  | [], _ => []
  | (j, w) :: t, i => bif (Nat.beq j i || (Nat.beq (j + 1) i && Nat.beq w.category 2)) then kp_1 t i else (j, w) :: kp_1 t i
def kp_2 : List (Nat × Value) → Nat → List (Nat × Value)
  | [], _ => []
  | (j, w) :: t, i => bif (Nat.beq j i || (Nat.beq j (i + 1) || (Nat.beq (j + 1) i && Nat.beq w.category 2))) then kp_2 t i else (j, w) :: kp_2 t i
def up_1 (ls : List (Nat × Value)) (i : Nat) (v : Value) : List (Nat × Value) := in_ (kp_1 ls i) i v
def up_2 (ls : List (Nat × Value)) (i : Nat) (v : Value) : List (Nat × Value) := in_ (kp_2 ls i) i v
theorem lk_mem {ls : List (Nat × Value)} {i : Nat} {v : Value} (h : lk_ ls i = some v) : (i, v) ∈ ls := by
  induction ls with
  | nil => cases h
  | cons a t ih =>
    obtain ⟨j, w⟩ := a
    cases hb : Nat.beq j i with
    | true =>
      simp only [lk_, hb, cond_true, Option.some.injEq] at h
      rw [Nat.eq_of_beq_eq_true hb, h]
      exact List.mem_cons_self
    | false =>
      simp only [lk_, hb, cond_false] at h
      exact List.mem_cons_of_mem _ (ih h)
theorem in_mem {t : List (Nat × Value)} {i : Nat} {v : Value} {z : Nat × Value} (h : z ∈ in_ t i v) : z = (i, v) ∨ z ∈ t := by
  induction t with
  | nil => exact Or.inl (List.mem_singleton.mp h)
  | cons a t ih =>
    obtain ⟨j, w⟩ := a
    cases hb : Nat.blt i j with
    | true =>
      simp only [in_, hb, cond_true] at h
      exact List.mem_cons.mp h
    | false =>
      simp only [in_, hb, cond_false] at h
      rcases List.mem_cons.mp h with h | h
      · exact Or.inr (List.mem_cons.mpr (Or.inl h))
      · exact (ih h).imp id (List.mem_cons_of_mem _)
theorem kp_1_mem {ls : List (Nat × Value)} {i : Nat} {z : Nat × Value} (h : z ∈ kp_1 ls i) : z ∈ ls.filter (fun q => !(q.1 == i) && !(q.1 + 1 == i && q.2.category == 2)) := by
  induction ls with
  | nil => cases h
  | cons a t ih =>
    obtain ⟨j, w⟩ := a
    cases hb : (Nat.beq j i || (Nat.beq (j + 1) i && Nat.beq w.category 2)) with
    | true =>
      simp only [kp_1, hb, cond_true] at h
      exact List.mem_filter.mpr ⟨List.mem_cons_of_mem _ (List.mem_filter.mp (ih h)).1, (List.mem_filter.mp (ih h)).2⟩
    | false =>
      simp only [kp_1, hb, cond_false] at h
      rcases List.mem_cons.mp h with h | h
      · subst h
        refine List.mem_filter.mpr ⟨List.mem_cons_self, ?_⟩
        simp only [Bool.or_eq_false_iff, Bool.and_eq_false_iff] at hb
        have h1 : j ≠ i := fun e => by rw [e, Nat.beq_refl] at hb; exact absurd hb.1 (by decide)
        have h2 : ¬ (j + 1 = i ∧ w.category = 2) := fun e => by
          rcases hb.2 with h3 | h3
          · rw [e.1, Nat.beq_refl] at h3; cases h3
          · rw [e.2] at h3; revert h3; decide
        simp only [Bool.and_eq_true, Bool.not_eq_true', beq_eq_false_iff_ne, ne_eq, Bool.and_eq_false_iff]
        refine ⟨h1, ?_⟩
        by_cases h4 : j + 1 = i
        · exact Or.inr (fun h5 => h2 ⟨h4, h5⟩)
        · exact Or.inl h4
      · exact List.mem_filter.mpr ⟨List.mem_cons_of_mem _ (List.mem_filter.mp (ih h)).1, (List.mem_filter.mp (ih h)).2⟩
theorem kp_2_mem {ls : List (Nat × Value)} {i : Nat} {z : Nat × Value} (h : z ∈ kp_2 ls i) : z ∈ ls.filter (fun q => !(q.1 == i) && (!(q.1 == i + 1) && !(q.1 + 1 == i && q.2.category == 2))) := by
  induction ls with
  | nil => cases h
  | cons a t ih =>
    obtain ⟨j, w⟩ := a
    cases hb : (Nat.beq j i || (Nat.beq j (i + 1) || (Nat.beq (j + 1) i && Nat.beq w.category 2))) with
    | true =>
      simp only [kp_2, hb, cond_true] at h
      exact List.mem_filter.mpr ⟨List.mem_cons_of_mem _ (List.mem_filter.mp (ih h)).1, (List.mem_filter.mp (ih h)).2⟩
    | false =>
      simp only [kp_2, hb, cond_false] at h
      rcases List.mem_cons.mp h with h | h
      · subst h
        refine List.mem_filter.mpr ⟨List.mem_cons_self, ?_⟩
        simp only [Bool.or_eq_false_iff, Bool.and_eq_false_iff] at hb
        have h1 : j ≠ i := fun e => by rw [e, Nat.beq_refl] at hb; exact absurd hb.1 (by decide)
        have h0 : j ≠ i + 1 := fun e => by rw [e, Nat.beq_refl] at hb; exact absurd hb.2.1 (by decide)
        have h2 : ¬ (j + 1 = i ∧ w.category = 2) := fun e => by
          rcases hb.2.2 with h3 | h3
          · rw [e.1, Nat.beq_refl] at h3; cases h3
          · rw [e.2] at h3; revert h3; decide
        simp only [Bool.and_eq_true, Bool.not_eq_true', beq_eq_false_iff_ne, ne_eq, Bool.and_eq_false_iff]
        refine ⟨h1, h0, ?_⟩
        by_cases h4 : j + 1 = i
        · exact Or.inr (fun h5 => h2 ⟨h4, h5⟩)
        · exact Or.inl h4
      · exact List.mem_filter.mpr ⟨List.mem_cons_of_mem _ (List.mem_filter.mp (ih h)).1, (List.mem_filter.mp (ih h)).2⟩
theorem lk_mono {la : Array Slot} {n : Nat} {ls ls' : List (Nat × Value)} (h : lv_has la n ls) (hs : ∀ z ∈ ls', z ∈ ls) : lv_has la n ls' := ⟨h.1, h.2.1, fun q hq => h.2.2 q (hs q hq)⟩
theorem lk_has {la : Array Slot} {n : Nat} {ls : List (Nat × Value)} {i : Nat} {v : Value} (h : lv_has la n ls) (hx : lk_ ls i = some v) : la[i]? = some (.val v) := h.2.2 _ (lk_mem hx)
theorem up_1_has {la : Array Slot} {n : Nat} {ls : List (Nat × Value)} {i : Nat} {v : Value} (h : lv_has la n ((i, v) :: ls.filter (fun q => !(q.1 == i) && !(q.1 + 1 == i && q.2.category == 2)))) : lv_has la n (up_1 ls i v) :=
  lk_mono h (fun z hz => (in_mem hz).elim (fun e => List.mem_cons.mpr (Or.inl e)) (fun h2 => List.mem_cons_of_mem _ (kp_1_mem h2)))
theorem up_2_has {la : Array Slot} {n : Nat} {ls : List (Nat × Value)} {i : Nat} {v : Value} (h : lv_has la n ((i, v) :: ls.filter (fun q => !(q.1 == i) && (!(q.1 == i + 1) && !(q.1 + 1 == i && q.2.category == 2))))) : lv_has la n (up_2 ls i v) :=
  lk_mono h (fun z hz => (in_mem hz).elim (fun e => List.mem_cons.mpr (Or.inl e)) (fun h2 => List.mem_cons_of_mem _ (kp_2_mem h2)))
section PXR
variable {l : Launch} {g : pw_G} {μ : pw_M} {sz : Nat} {Qf : pw_F} {pc q : Nat} {ls : List (Nat × Value)} {st : List Value} {X : pw_X} {Y : pw_Y}
theorem px_iconst {n : Int} {v : Int32} (hd : decode μ.2.1 pc = .ok (.iconst n, 1)) (hv : Int32.ofInt n = v) (hq : pc + 1 = q) (k : pw_W l g μ sz Qf q ls (.int v :: st) X Y) : pw_W l g μ sz Qf pc ls st X Y := by
  intro p e s m args below meth c H locs la hC hl hP hD hS hZ
  subst hq
  exact lv_iconst hC.1 hC.2.1 hd hv (k p e s m args below meth c H locs la hC hl hP hD hS hZ)
theorem px_bipush {n : Int} {v : Int32} (hd : decode μ.2.1 pc = .ok (.bipush n, 2)) (hv : (Int8.ofInt n).toInt32 = v) (hq : pc + 2 = q) (k : pw_W l g μ sz Qf q ls (.int v :: st) X Y) : pw_W l g μ sz Qf pc ls st X Y := by
  intro p e s m args below meth c H locs la hC hl hP hD hS hZ
  subst hq
  exact lv_bipush hC.1 hC.2.1 hd hv (k p e s m args below meth c H locs la hC hl hP hD hS hZ)
theorem px_sipush {n : Int} {v : Int32} (hd : decode μ.2.1 pc = .ok (.sipush n, 3)) (hv : (Int16.ofInt n).toInt32 = v) (hq : pc + 3 = q) (k : pw_W l g μ sz Qf q ls (.int v :: st) X Y) : pw_W l g μ sz Qf pc ls st X Y := by
  intro p e s m args below meth c H locs la hC hl hP hD hS hZ
  subst hq
  exact lv_sipush hC.1 hC.2.1 hd hv (k p e s m args below meth c H locs la hC hl hP hD hS hZ)
theorem px_lconst {n : Fin 2} {v : Int64} (hd : decode μ.2.1 pc = .ok (.lconst n, 1)) (hv : Int64.ofNat (n : Nat) = v) (hq : pc + 1 = q) (k : pw_W l g μ sz Qf q ls (.long v :: st) X Y) : pw_W l g μ sz Qf pc ls st X Y := by
  intro p e s m args below meth c H locs la hC hl hP hD hS hZ
  subst hq
  exact lv_lconst hC.1 hC.2.1 hd hv (k p e s m args below meth c H locs la hC hl hP hD hS hZ)
theorem px_ldc2 {i : Nat} {v v2 : Int64} (hd : decode μ.2.1 pc = .ok (.ldc2_w i, 3)) (hw : (.constantLong μ.2.2.2.2.1 i v : Cond) ∈ wG) (hv : v = v2) (hq : pc + 3 = q) (k : pw_W l g μ sz Qf q ls (.long v2 :: st) X Y) : pw_W l g μ sz Qf pc ls st X Y := by
  intro p e s m args below meth c H locs la hC hl hP hD hS hZ
  subst hq
  exact lv_ldc2 hC.1 hC.2.1 hC.2.2.2.2.1 (hC.2.2.2.1 _ hw) hd (by rw [hv]; exact k p e s m args below meth c H locs la hC hl hP hD hS hZ)
theorem px_ldc {i : Nat} {v v2 : Int32} (hd : decode μ.2.1 pc = .ok (.ldc i, 2)) (hw : (.constant μ.2.2.2.2.1 i v : Cond) ∈ wG) (hv : v = v2) (hq : pc + 2 = q) (k : pw_W l g μ sz Qf q ls (.int v2 :: st) X Y) : pw_W l g μ sz Qf pc ls st X Y := by
  intro p e s m args below meth c H locs la hC hl hP hD hS hZ
  subst hq
  exact lv_ldc hC.1 hC.2.1 hC.2.2.2.2.1 (hC.2.2.2.1 _ hw) hd (by rw [hv]; exact k p e s m args below meth c H locs la hC hl hP hD hS hZ)
theorem px_iload_n {j : Fin 4} {x : Int32} (hd : decode μ.2.1 pc = .ok (.iload_n j, 1)) (hx : lk_ ls (j : Nat) = some (.int x)) (hq : pc + 1 = q) (k : pw_W l g μ sz Qf q ls (.int x :: st) X Y) : pw_W l g μ sz Qf pc ls st X Y := by
  intro p e s m args below meth c H locs la hC hl hP hD hS hZ
  subst hq
  exact lv_iload_n hC.1 hC.2.1 hd rfl (lk_has hl hx) (k p e s m args below meth c H locs la hC hl hP hD hS hZ)
theorem px_iload {i : Nat} {x : Int32} (hd : decode μ.2.1 pc = .ok (.iload i, 2)) (hx : lk_ ls i = some (.int x)) (hq : pc + 2 = q) (k : pw_W l g μ sz Qf q ls (.int x :: st) X Y) : pw_W l g μ sz Qf pc ls st X Y := by
  intro p e s m args below meth c H locs la hC hl hP hD hS hZ
  subst hq
  exact lv_iload hC.1 hC.2.1 hd (lk_has hl hx) (k p e s m args below meth c H locs la hC hl hP hD hS hZ)
theorem px_lload_n {j : Fin 4} {x : Int64} (hd : decode μ.2.1 pc = .ok (.lload_n j, 1)) (hx : lk_ ls (j : Nat) = some (.long x)) (hq : pc + 1 = q) (k : pw_W l g μ sz Qf q ls (.long x :: st) X Y) : pw_W l g μ sz Qf pc ls st X Y := by
  intro p e s m args below meth c H locs la hC hl hP hD hS hZ
  subst hq
  exact lv_lload_n hC.1 hC.2.1 hd rfl (lk_has hl hx) (k p e s m args below meth c H locs la hC hl hP hD hS hZ)
theorem px_lload {i : Nat} {x : Int64} (hd : decode μ.2.1 pc = .ok (.lload i, 2)) (hx : lk_ ls i = some (.long x)) (hq : pc + 2 = q) (k : pw_W l g μ sz Qf q ls (.long x :: st) X Y) : pw_W l g μ sz Qf pc ls st X Y := by
  intro p e s m args below meth c H locs la hC hl hP hD hS hZ
  subst hq
  exact lv_lload hC.1 hC.2.1 hd (lk_has hl hx) (k p e s m args below meth c H locs la hC hl hP hD hS hZ)
theorem px_aload_n {j : Fin 4} {x : Nat} (hd : decode μ.2.1 pc = .ok (.aload_n j, 1)) (hx : lk_ ls (j : Nat) = some (.ref x)) (hq : pc + 1 = q) (k : pw_W l g μ sz Qf q ls (.ref x :: st) X Y) : pw_W l g μ sz Qf pc ls st X Y := by
  intro p e s m args below meth c H locs la hC hl hP hD hS hZ
  subst hq
  exact lv_aload_n hC.1 hC.2.1 hd rfl (lk_has hl hx) (k p e s m args below meth c H locs la hC hl hP hD hS hZ)
theorem px_aload {i : Nat} {x : Nat} (hd : decode μ.2.1 pc = .ok (.aload i, 2)) (hx : lk_ ls i = some (.ref x)) (hq : pc + 2 = q) (k : pw_W l g μ sz Qf q ls (.ref x :: st) X Y) : pw_W l g μ sz Qf pc ls st X Y := by
  intro p e s m args below meth c H locs la hC hl hP hD hS hZ
  subst hq
  exact lv_aload hC.1 hC.2.1 hd (lk_has hl hx) (k p e s m args below meth c H locs la hC hl hP hD hS hZ)
theorem px_istore_n {j : Fin 4} {i : Nat} {x : Int32} {ls' : List (Nat × Value)} (hd : decode μ.2.1 pc = .ok (.istore_n j, 1)) (hi : (j : Nat) = i) (hn : i < μ.2.2.1) (hls : up_1 ls i (.int x) = ls') (hq : pc + 1 = q) (k : pw_W l g μ sz Qf q ls' st X Y) : pw_W l g μ sz Qf pc ls (.int x :: st) X Y := by
  intro p e s m args below meth c H locs la hC hl hP hD hS hZ
  subst hq; subst hls
  exact lv_istore_n hC.1 hC.2.1 hd hi hl hn rfl (fun la hl => k p e s m args below meth c H locs la hC (up_1_has hl) hP hD hS hZ)
theorem px_istore {i : Nat} {x : Int32} {ls' : List (Nat × Value)} (hd : decode μ.2.1 pc = .ok (.istore i, 2)) (hn : i < μ.2.2.1) (hls : up_1 ls i (.int x) = ls') (hq : pc + 2 = q) (k : pw_W l g μ sz Qf q ls' st X Y) : pw_W l g μ sz Qf pc ls (.int x :: st) X Y := by
  intro p e s m args below meth c H locs la hC hl hP hD hS hZ
  subst hq; subst hls
  exact lv_istore hC.1 hC.2.1 hd hl hn rfl (fun la hl => k p e s m args below meth c H locs la hC (up_1_has hl) hP hD hS hZ)
theorem px_lstore_n {j : Fin 4} {i : Nat} {x : Int64} {ls' : List (Nat × Value)} (hd : decode μ.2.1 pc = .ok (.lstore_n j, 1)) (hi : (j : Nat) = i) (hn : i + 1 < μ.2.2.1) (hls : up_2 ls i (.long x) = ls') (hq : pc + 1 = q) (k : pw_W l g μ sz Qf q ls' st X Y) : pw_W l g μ sz Qf pc ls (.long x :: st) X Y := by
  intro p e s m args below meth c H locs la hC hl hP hD hS hZ
  subst hq; subst hls
  exact lv_lstore_n hC.1 hC.2.1 hd hi hl hn rfl (fun la hl => k p e s m args below meth c H locs la hC (up_2_has hl) hP hD hS hZ)
theorem px_lstore {i : Nat} {x : Int64} {ls' : List (Nat × Value)} (hd : decode μ.2.1 pc = .ok (.lstore i, 2)) (hn : i + 1 < μ.2.2.1) (hls : up_2 ls i (.long x) = ls') (hq : pc + 2 = q) (k : pw_W l g μ sz Qf q ls' st X Y) : pw_W l g μ sz Qf pc ls (.long x :: st) X Y := by
  intro p e s m args below meth c H locs la hC hl hP hD hS hZ
  subst hq; subst hls
  exact lv_lstore hC.1 hC.2.1 hd hl hn rfl (fun la hl => k p e s m args below meth c H locs la hC (up_2_has hl) hP hD hS hZ)
theorem px_astore_n {j : Fin 4} {i : Nat} {x : Nat} {ls' : List (Nat × Value)} (hd : decode μ.2.1 pc = .ok (.astore_n j, 1)) (hi : (j : Nat) = i) (hn : i < μ.2.2.1) (hls : up_1 ls i (.ref x) = ls') (hq : pc + 1 = q) (k : pw_W l g μ sz Qf q ls' st X Y) : pw_W l g μ sz Qf pc ls (.ref x :: st) X Y := by
  intro p e s m args below meth c H locs la hC hl hP hD hS hZ
  subst hq; subst hls
  exact lv_astore_n hC.1 hC.2.1 hd hi hl hn rfl (fun la hl => k p e s m args below meth c H locs la hC (up_1_has hl) hP hD hS hZ)
theorem px_astore {i : Nat} {x : Nat} {ls' : List (Nat × Value)} (hd : decode μ.2.1 pc = .ok (.astore i, 2)) (hn : i < μ.2.2.1) (hls : up_1 ls i (.ref x) = ls') (hq : pc + 2 = q) (k : pw_W l g μ sz Qf q ls' st X Y) : pw_W l g μ sz Qf pc ls (.ref x :: st) X Y := by
  intro p e s m args below meth c H locs la hC hl hP hD hS hZ
  subst hq; subst hls
  exact lv_astore hC.1 hC.2.1 hd hl hn rfl (fun la hl => k p e s m args below meth c H locs la hC (up_1_has hl) hP hD hS hZ)
theorem px_iinc {i : Nat} {n : Int} {x v : Int32} {ls' : List (Nat × Value)} (hd : decode μ.2.1 pc = .ok (.iinc i n, 3)) (hx : lk_ ls i = some (.int x)) (hv : x + Int32.ofInt n = v) (hn : i < μ.2.2.1) (hls : up_1 ls i (.int v) = ls') (hq : pc + 3 = q) (k : pw_W l g μ sz Qf q ls' st X Y) : pw_W l g μ sz Qf pc ls st X Y := by
  intro p e s m args below meth c H locs la hC hl hP hD hS hZ
  subst hq; subst hls
  obtain ⟨j, hj⟩ := List.getElem?_of_mem (lk_mem hx)
  exact lv_iinc hC.1 hC.2.1 hd hl hj hv hn rfl (fun la hl => k p e s m args below meth c H locs la hC (up_1_has hl) hP hD hS hZ)
theorem px_iadd {x y : Int32} (hd : decode μ.2.1 pc = .ok (.iadd, 1))  (hq : pc + 1 = q) (k : pw_W l g μ sz Qf q ls (.int (x + y) :: st) X Y) : pw_W l g μ sz Qf pc ls (.int y :: .int x :: st) X Y := by
  intro p e s m args below meth c H locs la hC hl hP hD hS hZ
  subst hq
  exact lv_iadd hC.1 hC.2.1 hd (k p e s m args below meth c H locs la hC hl hP hD hS hZ)
theorem px_isub {x y : Int32} (hd : decode μ.2.1 pc = .ok (.isub, 1))  (hq : pc + 1 = q) (k : pw_W l g μ sz Qf q ls (.int (x - y) :: st) X Y) : pw_W l g μ sz Qf pc ls (.int y :: .int x :: st) X Y := by
  intro p e s m args below meth c H locs la hC hl hP hD hS hZ
  subst hq
  exact lv_isub hC.1 hC.2.1 hd (k p e s m args below meth c H locs la hC hl hP hD hS hZ)
theorem px_imul {x y : Int32} (hd : decode μ.2.1 pc = .ok (.imul, 1))  (hq : pc + 1 = q) (k : pw_W l g μ sz Qf q ls (.int (x * y) :: st) X Y) : pw_W l g μ sz Qf pc ls (.int y :: .int x :: st) X Y := by
  intro p e s m args below meth c H locs la hC hl hP hD hS hZ
  subst hq
  exact lv_imul hC.1 hC.2.1 hd (k p e s m args below meth c H locs la hC hl hP hD hS hZ)
theorem px_iand {x y : Int32} (hd : decode μ.2.1 pc = .ok (.iand, 1))  (hq : pc + 1 = q) (k : pw_W l g μ sz Qf q ls (.int (x &&& y) :: st) X Y) : pw_W l g μ sz Qf pc ls (.int y :: .int x :: st) X Y := by
  intro p e s m args below meth c H locs la hC hl hP hD hS hZ
  subst hq
  exact lv_iand hC.1 hC.2.1 hd (k p e s m args below meth c H locs la hC hl hP hD hS hZ)
theorem px_ishl {x y : Int32} (hd : decode μ.2.1 pc = .ok (.ishl, 1))  (hq : pc + 1 = q) (k : pw_W l g μ sz Qf q ls (.int (x <<< (y &&& 31)) :: st) X Y) : pw_W l g μ sz Qf pc ls (.int y :: .int x :: st) X Y := by
  intro p e s m args below meth c H locs la hC hl hP hD hS hZ
  subst hq
  exact lv_ishl hC.1 hC.2.1 hd (k p e s m args below meth c H locs la hC hl hP hD hS hZ)
theorem px_ishr {x y : Int32} (hd : decode μ.2.1 pc = .ok (.ishr, 1))  (hq : pc + 1 = q) (k : pw_W l g μ sz Qf q ls (.int (x >>> (y &&& 31)) :: st) X Y) : pw_W l g μ sz Qf pc ls (.int y :: .int x :: st) X Y := by
  intro p e s m args below meth c H locs la hC hl hP hD hS hZ
  subst hq
  exact lv_ishr hC.1 hC.2.1 hd (k p e s m args below meth c H locs la hC hl hP hD hS hZ)
theorem px_idiv {x y : Int32} (hd : decode μ.2.1 pc = .ok (.idiv, 1)) (hne : ¬ y = 0) (hq : pc + 1 = q) (k : pw_W l g μ sz Qf q ls (.int (x / y) :: st) X Y) : pw_W l g μ sz Qf pc ls (.int y :: .int x :: st) X Y := by
  intro p e s m args below meth c H locs la hC hl hP hD hS hZ
  subst hq
  exact lv_idiv hC.1 hC.2.1 hd hne (k p e s m args below meth c H locs la hC hl hP hD hS hZ)
theorem px_irem {x y : Int32} (hd : decode μ.2.1 pc = .ok (.irem, 1)) (hne : ¬ y = 0) (hq : pc + 1 = q) (k : pw_W l g μ sz Qf q ls (.int (x - x / y * y) :: st) X Y) : pw_W l g μ sz Qf pc ls (.int y :: .int x :: st) X Y := by
  intro p e s m args below meth c H locs la hC hl hP hD hS hZ
  subst hq
  exact lv_irem hC.1 hC.2.1 hd hne (k p e s m args below meth c H locs la hC hl hP hD hS hZ)
theorem px_iushr {x y v : Int32} (hd : decode μ.2.1 pc = .ok (.iushr, 1)) (hv : (x.toUInt32 >>> (y.toUInt32 &&& Int32.toUInt32 31)).toInt32 = v) (hq : pc + 1 = q) (k : pw_W l g μ sz Qf q ls (.int v :: st) X Y) : pw_W l g μ sz Qf pc ls (.int y :: .int x :: st) X Y := by
  intro p e s m args below meth c H locs la hC hl hP hD hS hZ
  subst hq
  exact lv_iushr hC.1 hC.2.1 hd hv (k p e s m args below meth c H locs la hC hl hP hD hS hZ)
theorem px_ladd {x y : Int64} (hd : decode μ.2.1 pc = .ok (.ladd, 1))  (hq : pc + 1 = q) (k : pw_W l g μ sz Qf q ls (.long (x + y) :: st) X Y) : pw_W l g μ sz Qf pc ls (.long y :: .long x :: st) X Y := by
  intro p e s m args below meth c H locs la hC hl hP hD hS hZ
  subst hq
  exact lv_ladd hC.1 hC.2.1 hd (k p e s m args below meth c H locs la hC hl hP hD hS hZ)
theorem px_lsub {x y : Int64} (hd : decode μ.2.1 pc = .ok (.lsub, 1))  (hq : pc + 1 = q) (k : pw_W l g μ sz Qf q ls (.long (x - y) :: st) X Y) : pw_W l g μ sz Qf pc ls (.long y :: .long x :: st) X Y := by
  intro p e s m args below meth c H locs la hC hl hP hD hS hZ
  subst hq
  exact lv_lsub hC.1 hC.2.1 hd (k p e s m args below meth c H locs la hC hl hP hD hS hZ)
theorem px_lmul {x y : Int64} (hd : decode μ.2.1 pc = .ok (.lmul, 1))  (hq : pc + 1 = q) (k : pw_W l g μ sz Qf q ls (.long (x * y) :: st) X Y) : pw_W l g μ sz Qf pc ls (.long y :: .long x :: st) X Y := by
  intro p e s m args below meth c H locs la hC hl hP hD hS hZ
  subst hq
  exact lv_lmul hC.1 hC.2.1 hd (k p e s m args below meth c H locs la hC hl hP hD hS hZ)
theorem px_land {x y : Int64} (hd : decode μ.2.1 pc = .ok (.land, 1))  (hq : pc + 1 = q) (k : pw_W l g μ sz Qf q ls (.long (x &&& y) :: st) X Y) : pw_W l g μ sz Qf pc ls (.long y :: .long x :: st) X Y := by
  intro p e s m args below meth c H locs la hC hl hP hD hS hZ
  subst hq
  exact lv_land hC.1 hC.2.1 hd (k p e s m args below meth c H locs la hC hl hP hD hS hZ)
theorem px_lor {x y : Int64} (hd : decode μ.2.1 pc = .ok (.lor, 1))  (hq : pc + 1 = q) (k : pw_W l g μ sz Qf q ls (.long (x ||| y) :: st) X Y) : pw_W l g μ sz Qf pc ls (.long y :: .long x :: st) X Y := by
  intro p e s m args below meth c H locs la hC hl hP hD hS hZ
  subst hq
  exact lv_lor hC.1 hC.2.1 hd (k p e s m args below meth c H locs la hC hl hP hD hS hZ)
theorem px_lxor {x y : Int64} (hd : decode μ.2.1 pc = .ok (.lxor, 1))  (hq : pc + 1 = q) (k : pw_W l g μ sz Qf q ls (.long (x ^^^ y) :: st) X Y) : pw_W l g μ sz Qf pc ls (.long y :: .long x :: st) X Y := by
  intro p e s m args below meth c H locs la hC hl hP hD hS hZ
  subst hq
  exact lv_lxor hC.1 hC.2.1 hd (k p e s m args below meth c H locs la hC hl hP hD hS hZ)
theorem px_ldiv {x y : Int64} (hd : decode μ.2.1 pc = .ok (.ldiv, 1)) (hne : ¬ y = 0) (hq : pc + 1 = q) (k : pw_W l g μ sz Qf q ls (.long (x / y) :: st) X Y) : pw_W l g μ sz Qf pc ls (.long y :: .long x :: st) X Y := by
  intro p e s m args below meth c H locs la hC hl hP hD hS hZ
  subst hq
  exact lv_ldiv hC.1 hC.2.1 hd hne (k p e s m args below meth c H locs la hC hl hP hD hS hZ)
theorem px_lrem {x y : Int64} (hd : decode μ.2.1 pc = .ok (.lrem, 1)) (hne : ¬ y = 0) (hq : pc + 1 = q) (k : pw_W l g μ sz Qf q ls (.long (x - x / y * y) :: st) X Y) : pw_W l g μ sz Qf pc ls (.long y :: .long x :: st) X Y := by
  intro p e s m args below meth c H locs la hC hl hP hD hS hZ
  subst hq
  exact lv_lrem hC.1 hC.2.1 hd hne (k p e s m args below meth c H locs la hC hl hP hD hS hZ)
theorem px_lushr {x v : Int64} {y : Int32} (hd : decode μ.2.1 pc = .ok (.lushr, 1)) (hv : (x.toUInt64 >>> (y.toInt64.toUInt64 &&& Int64.toUInt64 63)).toInt64 = v) (hq : pc + 1 = q) (k : pw_W l g μ sz Qf q ls (.long v :: st) X Y) : pw_W l g μ sz Qf pc ls (.int y :: .long x :: st) X Y := by
  intro p e s m args below meth c H locs la hC hl hP hD hS hZ
  subst hq
  exact lv_lushr hC.1 hC.2.1 hd hv (k p e s m args below meth c H locs la hC hl hP hD hS hZ)
theorem px_lshl {x v : Int64} {y : Int32} (hd : decode μ.2.1 pc = .ok (.lshl, 1)) (hv : x <<< (y.toInt64 &&& 63) = v) (hq : pc + 1 = q) (k : pw_W l g μ sz Qf q ls (.long v :: st) X Y) : pw_W l g μ sz Qf pc ls (.int y :: .long x :: st) X Y := by
  intro p e s m args below meth c H locs la hC hl hP hD hS hZ
  subst hq
  exact lv_lshl hC.1 hC.2.1 hd hv (k p e s m args below meth c H locs la hC hl hP hD hS hZ)
theorem px_lshr {x v : Int64} {y : Int32} (hd : decode μ.2.1 pc = .ok (.lshr, 1)) (hv : x >>> (y.toInt64 &&& 63) = v) (hq : pc + 1 = q) (k : pw_W l g μ sz Qf q ls (.long v :: st) X Y) : pw_W l g μ sz Qf pc ls (.int y :: .long x :: st) X Y := by
  intro p e s m args below meth c H locs la hC hl hP hD hS hZ
  subst hq
  exact lv_lshr hC.1 hC.2.1 hd hv (k p e s m args below meth c H locs la hC hl hP hD hS hZ)
theorem px_i2l {x : Int32} {v : Int64} (hd : decode μ.2.1 pc = .ok (.i2l, 1)) (hv : x.toInt64 = v) (hq : pc + 1 = q) (k : pw_W l g μ sz Qf q ls (.long v :: st) X Y) : pw_W l g μ sz Qf pc ls (.int x :: st) X Y := by
  intro p e s m args below meth c H locs la hC hl hP hD hS hZ
  subst hq
  exact lv_i2l hC.1 hC.2.1 hd hv (k p e s m args below meth c H locs la hC hl hP hD hS hZ)
theorem px_l2i {x : Int64} {v : Int32} (hd : decode μ.2.1 pc = .ok (.l2i, 1)) (hv : x.toInt32 = v) (hq : pc + 1 = q) (k : pw_W l g μ sz Qf q ls (.int v :: st) X Y) : pw_W l g μ sz Qf pc ls (.long x :: st) X Y := by
  intro p e s m args below meth c H locs la hC hl hP hD hS hZ
  subst hq
  exact lv_l2i hC.1 hC.2.1 hd hv (k p e s m args below meth c H locs la hC hl hP hD hS hZ)
theorem px_lcmp {x y : Int64} (hd : decode μ.2.1 pc = .ok (.lcmp, 1))  (hq : pc + 1 = q) (k : pw_W l g μ sz Qf q ls (.int (lg_cmp x y) :: st) X Y) : pw_W l g μ sz Qf pc ls (.long y :: .long x :: st) X Y := by
  intro p e s m args below meth c H locs la hC hl hP hD hS hZ
  subst hq
  exact W.lcmp hC.1 hC.2.1 hd (k p e s m args below meth c H locs la hC hl hP hD hS hZ)
theorem px_dup {v : Value} (hd : decode μ.2.1 pc = .ok (.dup, 1)) (hv : v.category = 1) (hq : pc + 1 = q) (k : pw_W l g μ sz Qf q ls (v :: v :: st) X Y) : pw_W l g μ sz Qf pc ls (v :: st) X Y := by
  intro p e s m args below meth c H locs la hC hl hP hD hS hZ
  subst hq
  exact lv_dup hC.1 hC.2.1 hd hv (k p e s m args below meth c H locs la hC hl hP hD hS hZ)
theorem px_dup2 {v w : Value} (hd : decode μ.2.1 pc = .ok (.dup2, 1)) (hv : v.category = 1) (hw : w.category = 1) (hq : pc + 1 = q) (k : pw_W l g μ sz Qf q ls (v :: w :: v :: w :: st) X Y) : pw_W l g μ sz Qf pc ls (v :: w :: st) X Y := by
  intro p e s m args below meth c H locs la hC hl hP hD hS hZ
  subst hq
  exact lv_dup2_11 hC.1 hC.2.1 hd hv hw (k p e s m args below meth c H locs la hC hl hP hD hS hZ)
theorem px_pop2 {v : Value} (hd : decode μ.2.1 pc = .ok (.pop2, 1)) (hv : v.category = 2) (hq : pc + 1 = q) (k : pw_W l g μ sz Qf q ls st X Y) : pw_W l g μ sz Qf pc ls (v :: st) X Y := by
  intro p e s m args below meth c H locs la hC hl hP hD hS hZ
  subst hq
  exact lv_pop2_2 hC.1 hC.2.1 hd hv (k p e s m args below meth c H locs la hC hl hP hD hS hZ)
theorem px_ti {x y : Int32} (h : x = y) (k : pw_W l g μ sz Qf pc ls (.int y :: st) X Y) : pw_W l g μ sz Qf pc ls (.int x :: st) X Y := h ▸ k
theorem px_tl {x y : Int64} (h : x = y) (k : pw_W l g μ sz Qf pc ls (.long y :: st) X Y) : pw_W l g μ sz Qf pc ls (.long x :: st) X Y := h ▸ k
theorem px_ls {ls' : List (Nat × Value)} (h : ls = ls') (k : pw_W l g μ sz Qf pc ls' st X Y) : pw_W l g μ sz Qf pc ls st X Y := h ▸ k
theorem px_XY {X' : pw_X} {Y' : pw_Y} (h : X = X') (h2 : Y = Y') (k : pw_W l g μ sz Qf pc ls st X' Y') : pw_W l g μ sz Qf pc ls st X Y := h ▸ h2 ▸ k
theorem px_sub {ls' : List (Nat × Value)} (h : ∀ z ∈ ls', z ∈ ls) (k : pw_W l g μ sz Qf pc ls' st X Y) : pw_W l g μ sz Qf pc ls st X Y := by
  intro p e s m args below meth c H locs la hC hl hP hD hS hZ
  exact k p e s m args below meth c H locs la hC (lk_mono hl h) hP hD hS hZ
theorem px_if_eq {x : Int32} {off : Int} {tgt : Nat} (hd : decode μ.2.1 pc = .ok (.ifCond .eq off, 3)) (ht : (pc : Int) + off = (tgt : Int)) (hq : pc + 3 = q) (kt : x = 0 → pw_W l g μ sz Qf tgt ls st X Y) (kf : ¬ x = 0 → pw_W l g μ sz Qf q ls st X Y) : pw_W l g μ sz Qf pc ls (.int x :: st) X Y := by
  intro p e s m args below meth c H locs la hC hl hP hD hS hZ
  subst hq
  exact lv_if_eq hC.1 hC.2.1 hd ht (fun h => kt h p e s m args below meth c H locs la hC hl hP hD hS hZ) (fun h => kf h p e s m args below meth c H locs la hC hl hP hD hS hZ)
theorem px_icmp_eq {x y : Int32} {off : Int} {tgt : Nat} (hd : decode μ.2.1 pc = .ok (.if_icmp .eq off, 3)) (ht : (pc : Int) + off = (tgt : Int)) (hq : pc + 3 = q) (kt : x = y → pw_W l g μ sz Qf tgt ls st X Y) (kf : ¬ x = y → pw_W l g μ sz Qf q ls st X Y) : pw_W l g μ sz Qf pc ls (.int y :: .int x :: st) X Y := by
  intro p e s m args below meth c H locs la hC hl hP hD hS hZ
  subst hq
  exact lv_icmp_eq hC.1 hC.2.1 hd ht (fun h => kt h p e s m args below meth c H locs la hC hl hP hD hS hZ) (fun h => kf h p e s m args below meth c H locs la hC hl hP hD hS hZ)
theorem px_if_ne {x : Int32} {off : Int} {tgt : Nat} (hd : decode μ.2.1 pc = .ok (.ifCond .ne off, 3)) (ht : (pc : Int) + off = (tgt : Int)) (hq : pc + 3 = q) (kt : ¬ x = 0 → pw_W l g μ sz Qf tgt ls st X Y) (kf : x = 0 → pw_W l g μ sz Qf q ls st X Y) : pw_W l g μ sz Qf pc ls (.int x :: st) X Y := by
  intro p e s m args below meth c H locs la hC hl hP hD hS hZ
  subst hq
  exact lv_if_ne hC.1 hC.2.1 hd ht (fun h => kt h p e s m args below meth c H locs la hC hl hP hD hS hZ) (fun h => kf h p e s m args below meth c H locs la hC hl hP hD hS hZ)
theorem px_icmp_ne {x y : Int32} {off : Int} {tgt : Nat} (hd : decode μ.2.1 pc = .ok (.if_icmp .ne off, 3)) (ht : (pc : Int) + off = (tgt : Int)) (hq : pc + 3 = q) (kt : ¬ x = y → pw_W l g μ sz Qf tgt ls st X Y) (kf : x = y → pw_W l g μ sz Qf q ls st X Y) : pw_W l g μ sz Qf pc ls (.int y :: .int x :: st) X Y := by
  intro p e s m args below meth c H locs la hC hl hP hD hS hZ
  subst hq
  exact lv_icmp_ne hC.1 hC.2.1 hd ht (fun h => kt h p e s m args below meth c H locs la hC hl hP hD hS hZ) (fun h => kf h p e s m args below meth c H locs la hC hl hP hD hS hZ)
theorem px_if_lt {x : Int32} {off : Int} {tgt : Nat} (hd : decode μ.2.1 pc = .ok (.ifCond .lt off, 3)) (ht : (pc : Int) + off = (tgt : Int)) (hq : pc + 3 = q) (kt : x < 0 → pw_W l g μ sz Qf tgt ls st X Y) (kf : ¬ x < 0 → pw_W l g μ sz Qf q ls st X Y) : pw_W l g μ sz Qf pc ls (.int x :: st) X Y := by
  intro p e s m args below meth c H locs la hC hl hP hD hS hZ
  subst hq
  exact lv_if_lt hC.1 hC.2.1 hd ht (fun h => kt h p e s m args below meth c H locs la hC hl hP hD hS hZ) (fun h => kf h p e s m args below meth c H locs la hC hl hP hD hS hZ)
theorem px_icmp_lt {x y : Int32} {off : Int} {tgt : Nat} (hd : decode μ.2.1 pc = .ok (.if_icmp .lt off, 3)) (ht : (pc : Int) + off = (tgt : Int)) (hq : pc + 3 = q) (kt : x < y → pw_W l g μ sz Qf tgt ls st X Y) (kf : ¬ x < y → pw_W l g μ sz Qf q ls st X Y) : pw_W l g μ sz Qf pc ls (.int y :: .int x :: st) X Y := by
  intro p e s m args below meth c H locs la hC hl hP hD hS hZ
  subst hq
  exact lv_icmp_lt hC.1 hC.2.1 hd ht (fun h => kt h p e s m args below meth c H locs la hC hl hP hD hS hZ) (fun h => kf h p e s m args below meth c H locs la hC hl hP hD hS hZ)
theorem px_if_ge {x : Int32} {off : Int} {tgt : Nat} (hd : decode μ.2.1 pc = .ok (.ifCond .ge off, 3)) (ht : (pc : Int) + off = (tgt : Int)) (hq : pc + 3 = q) (kt : 0 ≤ x → pw_W l g μ sz Qf tgt ls st X Y) (kf : ¬ 0 ≤ x → pw_W l g μ sz Qf q ls st X Y) : pw_W l g μ sz Qf pc ls (.int x :: st) X Y := by
  intro p e s m args below meth c H locs la hC hl hP hD hS hZ
  subst hq
  exact lv_if_ge hC.1 hC.2.1 hd ht (fun h => kt h p e s m args below meth c H locs la hC hl hP hD hS hZ) (fun h => kf h p e s m args below meth c H locs la hC hl hP hD hS hZ)
theorem px_icmp_ge {x y : Int32} {off : Int} {tgt : Nat} (hd : decode μ.2.1 pc = .ok (.if_icmp .ge off, 3)) (ht : (pc : Int) + off = (tgt : Int)) (hq : pc + 3 = q) (kt : y ≤ x → pw_W l g μ sz Qf tgt ls st X Y) (kf : ¬ y ≤ x → pw_W l g μ sz Qf q ls st X Y) : pw_W l g μ sz Qf pc ls (.int y :: .int x :: st) X Y := by
  intro p e s m args below meth c H locs la hC hl hP hD hS hZ
  subst hq
  exact lv_icmp_ge hC.1 hC.2.1 hd ht (fun h => kt h p e s m args below meth c H locs la hC hl hP hD hS hZ) (fun h => kf h p e s m args below meth c H locs la hC hl hP hD hS hZ)
theorem px_if_gt {x : Int32} {off : Int} {tgt : Nat} (hd : decode μ.2.1 pc = .ok (.ifCond .gt off, 3)) (ht : (pc : Int) + off = (tgt : Int)) (hq : pc + 3 = q) (kt : 0 < x → pw_W l g μ sz Qf tgt ls st X Y) (kf : ¬ 0 < x → pw_W l g μ sz Qf q ls st X Y) : pw_W l g μ sz Qf pc ls (.int x :: st) X Y := by
  intro p e s m args below meth c H locs la hC hl hP hD hS hZ
  subst hq
  exact lv_if_gt hC.1 hC.2.1 hd ht (fun h => kt h p e s m args below meth c H locs la hC hl hP hD hS hZ) (fun h => kf h p e s m args below meth c H locs la hC hl hP hD hS hZ)
theorem px_icmp_gt {x y : Int32} {off : Int} {tgt : Nat} (hd : decode μ.2.1 pc = .ok (.if_icmp .gt off, 3)) (ht : (pc : Int) + off = (tgt : Int)) (hq : pc + 3 = q) (kt : y < x → pw_W l g μ sz Qf tgt ls st X Y) (kf : ¬ y < x → pw_W l g μ sz Qf q ls st X Y) : pw_W l g μ sz Qf pc ls (.int y :: .int x :: st) X Y := by
  intro p e s m args below meth c H locs la hC hl hP hD hS hZ
  subst hq
  exact lv_icmp_gt hC.1 hC.2.1 hd ht (fun h => kt h p e s m args below meth c H locs la hC hl hP hD hS hZ) (fun h => kf h p e s m args below meth c H locs la hC hl hP hD hS hZ)
theorem px_if_le {x : Int32} {off : Int} {tgt : Nat} (hd : decode μ.2.1 pc = .ok (.ifCond .le off, 3)) (ht : (pc : Int) + off = (tgt : Int)) (hq : pc + 3 = q) (kt : x ≤ 0 → pw_W l g μ sz Qf tgt ls st X Y) (kf : ¬ x ≤ 0 → pw_W l g μ sz Qf q ls st X Y) : pw_W l g μ sz Qf pc ls (.int x :: st) X Y := by
  intro p e s m args below meth c H locs la hC hl hP hD hS hZ
  subst hq
  exact lv_if_le hC.1 hC.2.1 hd ht (fun h => kt h p e s m args below meth c H locs la hC hl hP hD hS hZ) (fun h => kf h p e s m args below meth c H locs la hC hl hP hD hS hZ)
theorem px_icmp_le {x y : Int32} {off : Int} {tgt : Nat} (hd : decode μ.2.1 pc = .ok (.if_icmp .le off, 3)) (ht : (pc : Int) + off = (tgt : Int)) (hq : pc + 3 = q) (kt : x ≤ y → pw_W l g μ sz Qf tgt ls st X Y) (kf : ¬ x ≤ y → pw_W l g μ sz Qf q ls st X Y) : pw_W l g μ sz Qf pc ls (.int y :: .int x :: st) X Y := by
  intro p e s m args below meth c H locs la hC hl hP hD hS hZ
  subst hq
  exact lv_icmp_le hC.1 hC.2.1 hd ht (fun h => kt h p e s m args below meth c H locs la hC hl hP hD hS hZ) (fun h => kf h p e s m args below meth c H locs la hC hl hP hD hS hZ)
theorem px_goto {off : Int} {tgt : Nat} (hd : decode μ.2.1 pc = .ok (.goto off, 3)) (ht : (pc : Int) + off = (tgt : Int)) (k : pw_W l g μ sz Qf tgt ls st X Y) : pw_W l g μ sz Qf pc ls st X Y := by
  intro p e s m args below meth c H locs la hC hl hP hD hS hZ
  exact lv_goto hC.1 hC.2.1 hd ht (k p e s m args below meth c H locs la hC hl hP hD hS hZ)
theorem px_getV {i j : Nat} {v : Value} (hd : decode μ.2.1 pc = .ok (.getfield i, 3)) (hw : (.fieldLink μ.2.2.2.2.1 i rC_V (tF_V j).2.1 (tF_V j).2.2.1 : Cond) ∈ wG) (ho : (tF_V j).1 = rC_V) (hj : j < 5) (hv : (of_s g (Y 12) 1).2[j]? = some v) (hq : pc + 3 = q) (k : pw_W l g μ sz Qf q ls (v :: st) X Y) : pw_W l g μ sz Qf pc ls (.ref (ad_ g 12) :: st) X Y := by
  intro p e s m args below meth c H locs la hC hl hP hD hS hZ
  subst hq
  exact va_get (C := rC_V) (T := tF_V) (N := 5) hC.1 hC.2.1 hC.2.2.2.1 wU_V hC.2.2.2.2.1 hC.2.2.2.2.2.2.2.1 hP 12 (pw_s_at (by decide)) rfl j hj (hC.2.2.2.1 _ hw) (fun x h => by rw [ho] at h; exact h) hv hd (k p e s m args below meth c H locs la hC hl hP hD hS hZ)
theorem px_getY {i j : Nat} {v : Value} (hd : decode μ.2.1 pc = .ok (.getfield i, 3)) (hw : (.fieldLink μ.2.2.2.2.1 i rC_Y (tF_Y j).2.1 (tF_Y j).2.2.1 : Cond) ∈ wG) (ho : (tF_Y j).1 = rC_Y) (hj : j < 2) (hv : (of_s g (Y 20) 3).2[j]? = some v) (hq : pc + 3 = q) (k : pw_W l g μ sz Qf q ls (v :: st) X Y) : pw_W l g μ sz Qf pc ls (.ref (ad_ g 20) :: st) X Y := by
  intro p e s m args below meth c H locs la hC hl hP hD hS hZ
  subst hq
  exact va_get (C := rC_Y) (T := tF_Y) (N := 2) hC.1 hC.2.1 hC.2.2.2.1 wU_Y hC.2.2.2.2.1 hC.2.2.2.2.2.2.2.1 hP 20 (pw_s_at (by decide)) rfl j hj (hC.2.2.2.1 _ hw) (fun x h => by rw [ho] at h; exact h) hv hd (k p e s m args below meth c H locs la hC hl hP hD hS hZ)
theorem px_getO {i j : Nat} {v : Value} (hd : decode μ.2.1 pc = .ok (.getfield i, 3)) (hw : (.fieldLink μ.2.2.2.2.1 i rC_O (tF_O j).2.1 (tF_O j).2.2.1 : Cond) ∈ wG) (ho : (tF_O j).1 = rC_O) (hj : j < 3) (hv : (of_s g (Y 16) 2).2[j]? = some v) (hq : pc + 3 = q) (k : pw_W l g μ sz Qf q ls (v :: st) X Y) : pw_W l g μ sz Qf pc ls (.ref (ad_ g 16) :: st) X Y := by
  intro p e s m args below meth c H locs la hC hl hP hD hS hZ
  subst hq
  exact va_get (C := rC_O) (T := tF_O) (N := 3) hC.1 hC.2.1 hC.2.2.2.1 wU_O hC.2.2.2.2.1 hC.2.2.2.2.2.2.2.1 hP 16 (pw_s_at (by decide)) rfl j hj (hC.2.2.2.1 _ hw) (fun x h => by rw [ho] at h; exact h) hv hd (k p e s m args below meth c H locs la hC hl hP hD hS hZ)
theorem px_getP {i j : Nat} {v : Value} (hd : decode μ.2.1 pc = .ok (.getfield i, 3)) (hw : (.fieldLink μ.2.2.2.2.1 i rC_P (tF_P j).2.1 (tF_P j).2.2.1 : Cond) ∈ wG) (ho : (tF_P j).1 = rC_P) (hj : j < 8) (hv : (of_s g (Y 0) 0).2[j]? = some v) (hq : pc + 3 = q) (k : pw_W l g μ sz Qf q ls (v :: st) X Y) : pw_W l g μ sz Qf pc ls (.ref (ad_ g 0) :: st) X Y := by
  intro p e s m args below meth c H locs la hC hl hP hD hS hZ
  subst hq
  exact va_get (C := rC_P) (T := tF_P) (N := 8) hC.1 hC.2.1 hC.2.2.2.1 wU_P hC.2.2.2.2.1 hC.2.2.2.2.2.2.2.1 hP 0 (pw_s_at (by decide)) rfl j hj (hC.2.2.2.1 _ hw) (fun x h => by rw [ho] at h; exact h) hv hd (k p e s m args below meth c H locs la hC hl hP hD hS hZ)
theorem px_getM {i j : Nat} {v : Value} (hd : decode μ.2.1 pc = .ok (.getfield i, 3)) (hw : (.fieldLink μ.2.2.2.2.1 i rC_M (tF_M j).2.1 (tF_M j).2.2.1 : Cond) ∈ wG) (ho : (tF_M j).1 = rC_M) (hj : j < 4) (hv : (of_s g (Y 23) 4).2[j]? = some v) (hq : pc + 3 = q) (k : pw_W l g μ sz Qf q ls (v :: st) X Y) : pw_W l g μ sz Qf pc ls (.ref (ad_ g 23) :: st) X Y := by
  intro p e s m args below meth c H locs la hC hl hP hD hS hZ
  subst hq
  exact va_get (C := rC_M) (T := tF_M) (N := 4) hC.1 hC.2.1 hC.2.2.2.1 wU_M hC.2.2.2.2.1 hC.2.2.2.2.2.2.2.1 hP 23 (pw_s_at (by decide)) rfl j hj (hC.2.2.2.1 _ hw) (fun x h => by rw [ho] at h; exact h) hv hd (k p e s m args below meth c H locs la hC hl hP hD hS hZ)
theorem px_putV3 {i : Nat} {x : Int32} (hd : decode μ.2.1 pc = .ok (.putfield i, 3)) (hw : (.fieldLink μ.2.2.2.2.1 i rC_V (tF_V 3).2.1 (tF_V 3).2.2.1 : Cond) ∈ wG) (hq : pc + 3 = q) (k : pw_W l g μ sz Qf q ls st X (yr_ Y 12 (upd (Y 12) 3 x))) : pw_W l g μ sz Qf pc ls (.int x :: .ref (ad_ g 12) :: st) X Y := by
  intro p e s m args below meth c H locs la hC hl hP hD hS hZ
  subst hq
  refine va_put (C := rC_V) (T := tF_V) (N := 5) (v := .int x) (ty := .int) hC.1 hC.2.1 hC.2.2.2.1 wU_V ty_V ty_V_ok nm_V hC.2.2.2.2.1 hC.2.2.2.2.2.2.2.1 hP hD hS 12 (pw_s_at (by decide)) rfl 3 (by decide) (hC.2.2.2.1 _ hw) (fun x h => h) rfl (by decide +kernel) rfl rfl (Nat.le_of_ble_eq_true rfl) hd (fun H1 locs1 hP1 hD1 hS1 => ?_)
  have e9 : (pw_s g X Y).set 12 (ad_ g 12, .inr (0, (of_s g (Y 12) 1).2.set 3 (.int x))) = pw_s g X (yr_ Y 12 (upd (Y 12) 3 x)) := pw_s_putV3
  exact k p e s m args below meth c H1 locs1 la hC hl (by rw [← e9]; exact hP1) (by rw [← e9]; exact hD1) hS1 hZ
theorem px_putV4 {i : Nat} {x : Int32} (hd : decode μ.2.1 pc = .ok (.putfield i, 3)) (hw : (.fieldLink μ.2.2.2.2.1 i rC_V (tF_V 4).2.1 (tF_V 4).2.2.1 : Cond) ∈ wG) (hq : pc + 3 = q) (k : pw_W l g μ sz Qf q ls st X (yr_ Y 12 (upd (Y 12) 4 x))) : pw_W l g μ sz Qf pc ls (.int x :: .ref (ad_ g 12) :: st) X Y := by
  intro p e s m args below meth c H locs la hC hl hP hD hS hZ
  subst hq
  refine va_put (C := rC_V) (T := tF_V) (N := 5) (v := .int x) (ty := .int) hC.1 hC.2.1 hC.2.2.2.1 wU_V ty_V ty_V_ok nm_V hC.2.2.2.2.1 hC.2.2.2.2.2.2.2.1 hP hD hS 12 (pw_s_at (by decide)) rfl 4 (by decide) (hC.2.2.2.1 _ hw) (fun x h => h) rfl (by decide +kernel) rfl rfl (Nat.le_of_ble_eq_true rfl) hd (fun H1 locs1 hP1 hD1 hS1 => ?_)
  have e9 : (pw_s g X Y).set 12 (ad_ g 12, .inr (0, (of_s g (Y 12) 1).2.set 4 (.int x))) = pw_s g X (yr_ Y 12 (upd (Y 12) 4 x)) := pw_s_putV4
  exact k p e s m args below meth c H1 locs1 la hC hl (by rw [← e9]; exact hP1) (by rw [← e9]; exact hD1) hS1 hZ
theorem px_putM3 {i : Nat} {x : Int32} (hd : decode μ.2.1 pc = .ok (.putfield i, 3)) (hw : (.fieldLink μ.2.2.2.2.1 i rC_M (tF_M 3).2.1 (tF_M 3).2.2.1 : Cond) ∈ wG) (hq : pc + 3 = q) (k : pw_W l g μ sz Qf q ls st X (yr_ Y 23 (upd (Y 23) 3 x))) : pw_W l g μ sz Qf pc ls (.int x :: .ref (ad_ g 23) :: st) X Y := by
  intro p e s m args below meth c H locs la hC hl hP hD hS hZ
  subst hq
  refine va_put (C := rC_M) (T := tF_M) (N := 4) (v := .int x) (ty := .int) hC.1 hC.2.1 hC.2.2.2.1 wU_M ty_M ty_M_ok nm_M hC.2.2.2.2.1 hC.2.2.2.2.2.2.2.1 hP hD hS 23 (pw_s_at (by decide)) rfl 3 (by decide) (hC.2.2.2.1 _ hw) (fun x h => h) rfl (by decide +kernel) rfl rfl (Nat.le_of_ble_eq_true rfl) hd (fun H1 locs1 hP1 hD1 hS1 => ?_)
  have e9 : (pw_s g X Y).set 23 (ad_ g 23, .inr (4, (of_s g (Y 23) 4).2.set 3 (.int x))) = pw_s g X (yr_ Y 23 (upd (Y 23) 3 x)) := pw_s_putM3
  exact k p e s m args below meth c H1 locs1 la hC hl (by rw [← e9]; exact hP1) (by rw [← e9]; exact hD1) hS1 hZ
theorem px_lald {a n i : Nat} {v : Int64} (hd : decode μ.2.1 pc = .ok (.laload, 1)) (ha : ln_J a = some n) (hi : i < n) (hn : n < 2 ^ 31) (hv : X a i = v) (hq : pc + 1 = q) (k : pw_W l g μ sz Qf q ls (.long v :: st) X Y) : pw_W l g μ sz Qf pc ls (.int (nI i) :: .ref (ad_ g a) :: st) X Y := by
  intro p e s m args below meth c H locs la hC hl hP hD hS hZ
  subst hq; subst hv
  refine va_lald hC.1 hC.2.1 hC.2.2.2.2.2.2.2.1 hP a 0 (by rw [pw_s_at (ln_J_lt ha), ce_J ha]) rfl (i := nI i) (vp_in_nI hi hn) hd ?_
  rw [nI_clamp (Nat.lt_trans hi hn)]
  exact k p e s m args below meth c H locs la hC hl hP hD hS hZ
theorem px_iald {a n i : Nat} {v : Int32} (hd : decode μ.2.1 pc = .ok (.iaload, 1)) (ha : ln_I a = some n) (hi : i < n) (hn : n < 2 ^ 31) (hv : Y a i = v) (hq : pc + 1 = q) (k : pw_W l g μ sz Qf q ls (.int v :: st) X Y) : pw_W l g μ sz Qf pc ls (.int (nI i) :: .ref (ad_ g a) :: st) X Y := by
  intro p e s m args below meth c H locs la hC hl hP hD hS hZ
  subst hq; subst hv
  refine va_iald hC.1 hC.2.1 hC.2.2.2.2.2.2.2.1 hP a 1 (by rw [pw_s_at (ln_I_lt ha), ce_I ha]) rfl (i := nI i) (vp_in_nI hi hn) hd ?_
  rw [nI_clamp (Nat.lt_trans hi hn)]
  exact k p e s m args below meth c H locs la hC hl hP hD hS hZ
theorem px_last {a n i : Nat} {v : Int64} (hd : decode μ.2.1 pc = .ok (.lastore, 1)) (ha : ln_J a = some n) (hi : i < n) (hn : n < 2 ^ 31) (hq : pc + 1 = q) (k : pw_W l g μ sz Qf q ls st (xr_ X a (vp_updL (X a) i v)) Y) : pw_W l g μ sz Qf pc ls (.long v :: .int (nI i) :: .ref (ad_ g a) :: st) X Y := by
  intro p e s m args below meth c H locs la hC hl hP hD hS hZ
  subst hq
  refine va_last hC.1 hC.2.1 hC.2.2.2.2.2.2.2.1 hP hD hS a 0 (by rw [pw_s_at (ln_J_lt ha), ce_J ha]) rfl (i := nI i) (vp_in_nI hi hn) hd (fun H1 locs1 hP1 hD1 hS1 => ?_)
  rw [nI_clamp (Nat.lt_trans hi hn), pw_s_J ha] at hP1 hD1
  exact k p e s m args below meth c H1 locs1 la hC hl hP1 hD1 hS1 hZ
theorem px_iast {a n i : Nat} {v : Int32} (hd : decode μ.2.1 pc = .ok (.iastore, 1)) (ha : ln_I a = some n) (hi : i < n) (hn : n < 2 ^ 31) (hq : pc + 1 = q) (k : pw_W l g μ sz Qf q ls st X (yr_ Y a (upd (Y a) i v))) : pw_W l g μ sz Qf pc ls (.int v :: .int (nI i) :: .ref (ad_ g a) :: st) X Y := by
  intro p e s m args below meth c H locs la hC hl hP hD hS hZ
  subst hq
  refine va_iast hC.1 hC.2.1 hC.2.2.2.2.2.2.2.1 hP hD hS a 1 (by rw [pw_s_at (ln_I_lt ha), ce_I ha]) rfl (i := nI i) (vp_in_nI hi hn) hd (fun H1 locs1 hP1 hD1 hS1 => ?_)
  rw [nI_clamp (Nat.lt_trans hi hn), pw_s_I ha] at hP1 hD1
  exact k p e s m args below meth c H1 locs1 la hC hl hP1 hD1 hS1 hZ
theorem px_alenJ {a n : Nat} (hd : decode μ.2.1 pc = .ok (.arraylength, 1)) (ha : ln_J a = some n) (hq : pc + 1 = q) (k : pw_W l g μ sz Qf q ls (.int (nI n) :: st) X Y) : pw_W l g μ sz Qf pc ls (.ref (ad_ g a) :: st) X Y := by
  intro p e s m args below meth c H locs la hC hl hP hD hS hZ
  subst hq
  exact va_alen (x := (n, .inr (.inl (X a)))) hC.1 hC.2.1 hC.2.2.2.2.2.2.2.1 hP a 0 (by rw [pw_s_at (ln_J_lt ha), ce_J ha]) rfl rfl hd (k p e s m args below meth c H locs la hC hl hP hD hS hZ)
theorem px_alenI {a n : Nat} (hd : decode μ.2.1 pc = .ok (.arraylength, 1)) (ha : ln_I a = some n) (hq : pc + 1 = q) (k : pw_W l g μ sz Qf q ls (.int (nI n) :: st) X Y) : pw_W l g μ sz Qf pc ls (.ref (ad_ g a) :: st) X Y := by
  intro p e s m args below meth c H locs la hC hl hP hD hS hZ
  subst hq
  exact va_alen (x := (n, .inl (Y a))) hC.1 hC.2.1 hC.2.2.2.2.2.2.2.1 hP a 1 (by rw [pw_s_at (ln_I_lt ha), ce_I ha]) rfl rfl hd (k p e s m args below meth c H locs la hC hl hP hD hS hZ)
theorem px_aald {i : Nat} (hd : decode μ.2.1 pc = .ok (.aaload, 1)) (hi : i < 6) (hq : pc + 1 = q) (k : pw_W l g μ sz Qf q ls (.ref (ad_ g (2 + i)) :: st) X Y) : pw_W l g μ sz Qf pc ls (.int (nI i) :: .ref (ad_ g 1) :: st) X Y := by
  intro p e s m args below meth c H locs la hC hl hP hD hS hZ
  subst hq
  have h1 : H[ad_ g 1]? = some (vp_cell g.2.1.2.2 (6, .inr (.inr (.inr (.inr (fun i => some (ad_ g (2 + i)))))))) := hP 1 _ (pw_s_at (by decide))
  have hlt : i < 2 ^ 31 := Nat.lt_trans hi (by decide)
  have hc9 : (nI i).toNatClampNeg = i := nI_clamp hlt
  exact W.aald (v := .ref (ad_ g (2 + i))) (ty := .array .long) hC.1 hC.2.1 h1 ((hC.2.2.2.2.2.2.2.1.2 2 _ rfl).1 6 (fun j => va_rf (some (ad_ g (2 + j))))) rfl (fun z => by cases z) (by show ¬ (nI i < 0 ∨ (arrV _ _ _).slots.size ≤ _); rw [arrV_size]; exact vp_in_nI (N := 6) hi (by decide)) (by show (arrV _ _ _).slots[_]? = _; rw [hc9, arrV_read _ _ hi]; rfl) rfl rfl hd (k p e s m args below meth c H locs la hC hl hP hD hS hZ)
theorem px_copyl {i a b n0 n1 sp dp n : Nat} (hd : decode μ.2.1 pc = .ok (.invokestatic i, 3)) (hw : (.methodLink μ.2.2.2.2.1 i arraycopyName : Cond) ∈ wG) (ha : ln_J a = some n0) (hb : ln_J b = some n1) (h1 : sp + n ≤ n0) (h2 : dp + n ≤ n1) (h0 : n0 < 2 ^ 31) (h01 : n1 < 2 ^ 31) (hf : 1 ≤ μ.2.2.2.2.2.frames) (hlo : (st.map fun v => v.category).sum + 18 ≤ μ.2.2.2.2.2.locals) (hq : pc + 3 = q) (k : pw_W l g μ sz Qf q ls st (xr_ X b (va_cpy (X a) (X b) sp dp n)) Y) : pw_W l g μ sz Qf pc ls (.int (nI n) :: .int (nI dp) :: .ref (ad_ g b) :: .int (nI sp) :: .ref (ad_ g a) :: st) X Y := by
  intro p e s m args below meth c H locs la hC hl hP hD hS hZ
  subst hq
  have c1 : (nI sp).toNatClampNeg = sp := nI_clamp (by omega)
  have c2 : (nI dp).toNatClampNeg = dp := nI_clamp (by omega)
  have c3 : (nI n).toNatClampNeg = n := nI_clamp (by omega)
  refine va_copyl hC.1 hC.2.1 (by rw [hC.2.2.2.2.2.2.1]; exact hl.1.symm) hC.2.2.2.2.1 (hC.2.2.2.1 _ hw) (hC.2.2.2.1 _ wna_arraycopy) (hC.2.2.2.1 _ ws_System_arraycopy) (hC.2.2.2.1 _ wi_System) hC.2.2.2.2.2.2.2.1 hP hD hS a b 0 0 (ty := .long) (by rw [pw_s_at (ln_J_lt ha), ce_J ha]) (by rw [pw_s_at (ln_J_lt hb), ce_J hb]) rfl rfl rfl (nI_pos (by omega)) (nI_pos (by omega)) (nI_pos (by omega)) (by rw [c1, c3]; exact h1) (by rw [c2, c3]; exact h2) (fun _ _ => rfl) hf hlo hd (fun H1 locs1 hP1 hD1 hS1 => ?_)
  rw [c1, c2, c3, pw_s_J hb] at hP1 hD1
  exact k p e s m args below meth c H1 locs1 la hC hl hP1 hD1 hS1 hZ
theorem px_copyi {i a b n0 n1 sp dp n : Nat} (hd : decode μ.2.1 pc = .ok (.invokestatic i, 3)) (hw : (.methodLink μ.2.2.2.2.1 i arraycopyName : Cond) ∈ wG) (ha : ln_I a = some n0) (hb : ln_I b = some n1) (h1 : sp + n ≤ n0) (h2 : dp + n ≤ n1) (h0 : n0 < 2 ^ 31) (h01 : n1 < 2 ^ 31) (hf : 1 ≤ μ.2.2.2.2.2.frames) (hlo : (st.map fun v => v.category).sum + 18 ≤ μ.2.2.2.2.2.locals) (hq : pc + 3 = q) (k : pw_W l g μ sz Qf q ls st X (yr_ Y b (va_cpy (Y a) (Y b) sp dp n))) : pw_W l g μ sz Qf pc ls (.int (nI n) :: .int (nI dp) :: .ref (ad_ g b) :: .int (nI sp) :: .ref (ad_ g a) :: st) X Y := by
  intro p e s m args below meth c H locs la hC hl hP hD hS hZ
  subst hq
  have c1 : (nI sp).toNatClampNeg = sp := nI_clamp (by omega)
  have c2 : (nI dp).toNatClampNeg = dp := nI_clamp (by omega)
  have c3 : (nI n).toNatClampNeg = n := nI_clamp (by omega)
  refine va_copyi hC.1 hC.2.1 (by rw [hC.2.2.2.2.2.2.1]; exact hl.1.symm) hC.2.2.2.2.1 (hC.2.2.2.1 _ hw) (hC.2.2.2.1 _ wna_arraycopy) (hC.2.2.2.1 _ ws_System_arraycopy) (hC.2.2.2.1 _ wi_System) hC.2.2.2.2.2.2.2.1 hP hD hS a b 1 1 (ty := .int) (by rw [pw_s_at (ln_I_lt ha), ce_I ha]) (by rw [pw_s_at (ln_I_lt hb), ce_I hb]) rfl rfl rfl (nI_pos (by omega)) (nI_pos (by omega)) (nI_pos (by omega)) (by rw [c1, c3]; exact h1) (by rw [c2, c3]; exact h2) (fun _ _ => rfl) hf hlo hd (fun H1 locs1 hP1 hD1 hS1 => ?_)
  rw [c1, c2, c3, pw_s_I hb] at hP1 hD1
  exact k p e s m args below meth c H1 locs1 la hC hl hP1 hD1 hS1 hZ
end PXR
def rv_ : Option Value → List Value → List Value
  | some v, st => v :: st
  | none, st => st
theorem rv_eq (o : Option Value) (st : List Value) : rv_ o st = o.toList ++ st := by cases o <;> rfl
section PXC
variable {l : Launch} {g : pw_G} {μ ν : pw_M} {sz : Nat} {Qf : pw_F} {pc q : Nat} {ls : List (Nat × Value)} {st : List Value} {X : pw_X} {Y : pw_Y} {Post : pw_P}
variable {p : Program} {e : Env} {s : State} {m : MethodId} {args : Array Value} {below : List Frame} {meth : Method} {c : Code} {H : Heap} {locs : List Loc}
theorem pw_back {t : State} (hC : pw_Cx g μ sz p s m args meth c) (ht : t.heap = H) (hW : s.WarmedH t.vm) (hP : va_P g.1 clS (pw_s g X Y) H) (hD : va_D (pw_A g sz) (pw_s g X Y)) (hS : va_S (pw_A g sz) s.heap H locs) : pw_Wd g X Y t := by
  obtain ⟨-, -, -, -, -, -, -, hK, hz, hSt, hE⟩ := hC
  refine ⟨by rw [ht]; exact hP, va_K.moved hW.alike hK, hD.weaken (fun _ _ _ _ => trivial), hSt, ?_⟩
  refine hSt.2.2 (pw_A g sz) _ t t.heap (pw_A_mono (by rw [ht, ← hz]; exact hS.1)) (hSt.1 _ s t _ hW ?_)
  rw [ht]
  exact hSt.2.1 _ s s.heap H hS.2.1 hE
theorem pw_blind {As : List Value} {X : pw_X} {Y : pw_Y} : FrameBlind (va_Pc As (fun U => U.heap.size = sz ∧ pw_Wd g X Y U)) := by
  intro a U g' mk h
  obtain ⟨q0, q1, q2, q3, q4, q5, q6⟩ := h
  exact ⟨q0, q1, q2, va_K.moved (u := U) (U := U.calling g' mk a) (Vm.Alike.refl U.vm) q3, q4, q5, q5.1 _ U (U.calling g' mk a) _ (State.WarmedH.refl U) q6⟩
theorem pw_ofW {As : List Value} (hy : plainName μ.1.cls = true) (hcls : μ.1.cls = μ.2.2.2.2.1) (hlen : (lg_sl As).length ≤ μ.2.2.1) (hls : lv_args 0 As = ls) (body : ∀ sz, pw_W l g μ sz (pw_qM g sz Post 0 0) 0 ls [] X Y) : pw_Met l g μ As X Y Post := by
  intro sz
  refine Met.ofW (cc := μ.2.1) (maxL := μ.2.2.1) (ret := μ.2.2.2.1) hy rfl ?_
  intro p e s m args below meth c s₁ B hml hv
  obtain ⟨rfl, hsz, hP, hK, hD, hSt, hE⟩ := hv
  have hts := atoms_spec (ws := pw_ws μ) B.pre
  have hown : s.vm.findClass μ.2.2.2.2.1 = some m.cls := by rw [← hcls]; exact findClass_of_methodNamed B.named
  have hl := lv_entry As (n := μ.2.2.1) hlen
  rw [lg_entry_eq]
  rw [hls] at hl
  exact body sz p e s m As.toArray below meth c s.heap [] _ ⟨B.exec, B.bytes, B.returns, fun w hw => hts w (List.mem_cons_of_mem _ hw), hown, B.notSynchronized, hml, hK, hsz, hSt, by rw [← hsz]; exact hE⟩ hl hP (pw_D_A hD) va_S.rf ⟨Nat.zero_le _, Nat.zero_le _⟩
theorem px_iret {v : Int32} (hd : decode μ.2.1 pc = .ok (.ireturn, 1)) (hr : μ.2.2.2.1 = some .int) (hp : Post (some (.int v)) X Y) : pw_W l g μ sz (pw_qM g sz Post 0 0) pc ls [.int v] X Y := by
  intro p e s m args below meth c H locs la hC hl hP hD hS hZ
  exact W.iret hC.1 hC.2.1 (hC.2.2.1.trans hr) (fun t ht hW => ⟨⟨_, X, Y, rfl, hp, pw_back hC ht hW hP hD hS⟩, hS.F ht⟩) hS.2.2 hd hC.2.2.2.2.2.1
theorem px_zret {v : Int32} (hd : decode μ.2.1 pc = .ok (.ireturn, 1)) (hr : μ.2.2.2.1 = some .boolean) (hv : narrow .boolean (.int v) = .int v) (hp : Post (some (.int v)) X Y) : pw_W l g μ sz (pw_qM g sz Post 0 0) pc ls [.int v] X Y := by
  intro p e s m args below meth c H locs la hC hl hP hD hS hZ
  exact W.zret hC.1 hC.2.1 (hC.2.2.1.trans hr) hv (fun t ht hW => ⟨⟨_, X, Y, rfl, hp, pw_back hC ht hW hP hD hS⟩, hS.F ht⟩) hS.2.2 hd hC.2.2.2.2.2.1
theorem px_lret {v : Int64} (hd : decode μ.2.1 pc = .ok (.lreturn, 1)) (hr : μ.2.2.2.1 = some .long) (hp : Post (some (.long v)) X Y) : pw_W l g μ sz (pw_qM g sz Post 0 0) pc ls [.long v] X Y := by
  intro p e s m args below meth c H locs la hC hl hP hD hS hZ
  exact W.lret hC.1 hC.2.1 (hC.2.2.1.trans hr) (fun t ht hW => ⟨⟨_, X, Y, rfl, hp, pw_back hC ht hW hP hD hS⟩, hS.F ht⟩) hS.2.2 hd hC.2.2.2.2.2.1
theorem px_vret (hd : decode μ.2.1 pc = .ok (.return_, 1)) (hr : μ.2.2.2.1 = none) (hp : Post none X Y) : pw_W l g μ sz (pw_qM g sz Post 0 0) pc ls [] X Y := by
  intro p e s m args below meth c H locs la hC hl hP hD hS hZ
  exact W.vret hC.1 hC.2.1 (hC.2.2.1.trans hr) (fun t ht hW => ⟨⟨_, X, Y, rfl, hp, pw_back hC ht hW hP hD hS⟩, hS.F ht⟩) hS.2.2 hd hC.2.2.2.2.2.1
theorem pw_good {ws : List Cond} {w : Cond} (hw : w ∈ wG) (h : ws = w :: wG) : GoodIn wG ws := by
  subst h
  intro z hz
  rcases List.mem_cons.mp hz with h | h
  · subst h; exact ⟨hw, good_of_word (wG_ok _ hw)⟩
  · exact ⟨h, good_of_word (wG_ok _ h)⟩
theorem pw_go {As : List Value} {a : Array Value} {la : Array Slot} {stk : List Value} (hC : pw_Cx g μ sz p s m args meth c) (hl : lv_has la μ.2.2.1 ls) (hP : va_P g.1 clS (pw_s g X Y) H) (hD : va_D (pw_A g sz) (pw_s g X Y)) (hS : va_S (pw_A g sz) s.heap H locs) (hZ : Qf.1 ≤ μ.2.2.2.2.2.cells ∧ Qf.2.1 ≤ μ.2.2.2.2.2.slots)
    (hr : va_Run p l e μ.2.2.2.2.2 s m args below meth c H locs Qf.1 Qf.2.1 0 0 (F0 m pc la stk) st (pw_Q g H.size (fun o X' Y' => pw_W l g μ sz Qf (pc + 3) ls (rv_ o st) X' Y') a) (pw_A g H.size)) :
    W p l e μ.2.2.2.2.2 s m args below meth c H locs Qf.1 Qf.2.1 (Qf.2.2 below args s) (F0 m pc la stk) := by
  intro T hT XX
  obtain ⟨v, st₀, t, T', L, h0, X', hL, e1, e2, ⟨⟨o, X1, Y1, ho, hk, hw1⟩, hz, hkeep⟩, stp⟩ := hr T hT XX
  cases ho
  rw [h0] at hz hkeep
  rw [rv_eq] at hk
  have hszH : sz ≤ H.size := by rw [← hC.2.2.2.2.2.2.2.2.1]; exact hS.1
  have hS1 : va_S (pw_A g sz) s.heap T'.heap (locs ++ L) := by
    refine ⟨Nat.le_trans hS.1 (by rw [e1]; exact hz), fun q h1 h2 => ?_, fun q hq => ?_⟩
    · rw [e1, hkeep q (Nat.lt_of_lt_of_le h1 hS.1) (fun z => h2 (pw_A_mono hszH q z))]
      exact hS.2.1 q h1 h2
    · rcases List.mem_append.mp hq with h | h
      · exact hS.2.2 q h
      · exact pw_A_mono hszH _ (hL q h)
  obtain ⟨t2, a1, b1⟩ := hk p e s m args below meth c T'.heap (locs ++ L) la hC hl (by rw [e1]; exact hw1.1) (pw_D_A hD) hS1 hZ T' rfl X'
  exact ⟨t2, stp t2 a1, b1⟩
theorem px_callS {i n : Nat} {As : List Value} (hd : decode μ.2.1 pc = .ok (.invokestatic i, 3)) (hw : (.methodLink μ.2.2.2.2.1 i ν.1 : Cond) ∈ wG) (hs : (.static ν.1 : Cond) ∈ wG) (hc : (.code ν.1 ν.2.1 ν.2.2.1 ν.2.2.2.1 : Cond) ∈ wG) (hi : (.initialized ν.1.cls : Cond) ∈ wG)
    (hz : ν.2.2.2.2.2.cells = 0 ∧ ν.2.2.2.2.2.slots = 0) (hn : ν.1.cls ≠ "java/lang/invoke/MethodHandle" ∧ ν.1.cls ≠ "java/lang/invoke/VarHandle" ∧ (parseMethodDescriptor ν.1.desc).map (fun d => d.parameters.length) = some n) (hlen : As.length = n)
    (hR : ν.2.2.2.2.2.frames + 1 ≤ μ.2.2.2.2.2.frames ∧ 8 + (ν.2.2.1 + 11) + ν.2.2.2.2.2.locals ≤ μ.2.2.2.2.2.locals) (hst : (st.map fun v => v.category).sum ≤ 8) (hq : pc + 3 = q)
    (hM : pw_Met l g ν As X Y (fun o X' Y' => pw_W l g μ sz Qf q ls (rv_ o st) X' Y')) : pw_W l g μ sz Qf pc ls (As.reverse ++ st) X Y := by
  intro p e s m args below meth c H locs la hC hl hP hD hS hZ
  subst hq
  have hts := hC.2.2.2.1
  have hcb : CallB μ.2.2.2.2.2 s args μ.2.2.2.2.1 i ν.1 ν.2.1 ν.2.2.1 ν.2.2.2.1 (pw_ws ν) ν.2.2.2.2.2 0 0 n := callB_of (ws' := wG) n hts (pw_good hc rfl) rfl hz.1 hz.2 (hts _ hi) (hts _ hw) hn hR
  have hr := va_runS (e := e) (below := below) (meth := meth) (locs := locs) (cells := Qf.1) (slots := Qf.2.1) (H := H) (g := F0 m pc la (As.reverse ++ st)) (rest := st) (As := As) (Ts := wG) ⟨hC.1, hC.2.1, hC.2.2.2.2.2.2.1, hC.2.2.2.2.1, hts⟩ (hM H.size) ⟨hcb, hts _ hs⟩ ⟨pw_blind, fun U hU hW => ⟨rfl, by rw [hU], pw_back hC hU hW hP hD hS⟩⟩ rfl hlen hl.1 rfl (lv_room hst) hd hZ
  exact pw_go (As := As) hC hl hP hD hS hZ hr
theorem px_callV {i n k ci : Nat} {fs : List Value} {r : vw_C} {As : List Value} (hd : decode μ.2.1 pc = .ok (.invokevirtual i, 3)) (hk : k < 28) (hce : ce_of g X Y k = .inr (ci, fs)) (hcl : clS[ci]? = some r) (hw : (.methodLink μ.2.2.2.2.1 i ν.1 : Cond) ∈ wG) (hs : (.instanceMethod ν.1 : Cond) ∈ wG) (hv : (.selects r.1 ν.1 ν.1 : Cond) ∈ wG) (hc : (.code ν.1 ν.2.1 ν.2.2.1 ν.2.2.2.1 : Cond) ∈ wG) (hi : (.initialized ν.1.cls : Cond) ∈ wG)
    (hz : ν.2.2.2.2.2.cells = 0 ∧ ν.2.2.2.2.2.slots = 0) (hn : ν.1.cls ≠ "java/lang/invoke/MethodHandle" ∧ ν.1.cls ≠ "java/lang/invoke/VarHandle" ∧ (parseMethodDescriptor ν.1.desc).map (fun d => d.parameters.length) = some n) (hlen : As.length = n)
    (hR : ν.2.2.2.2.2.frames + 1 ≤ μ.2.2.2.2.2.frames ∧ 8 + (ν.2.2.1 + 11) + ν.2.2.2.2.2.locals ≤ μ.2.2.2.2.2.locals) (hst : (st.map fun v => v.category).sum ≤ 8) (hq : pc + 3 = q)
    (hM : pw_Met l g ν (.ref (ad_ g k) :: As) X Y (fun o X' Y' => pw_W l g μ sz Qf q ls (rv_ o st) X' Y')) : pw_W l g μ sz Qf pc ls (As.reverse ++ .ref (ad_ g k) :: st) X Y := by
  intro p e s m args below meth c H locs la hC hl hP hD hS hZ
  subst hq
  have hts := hC.2.2.2.1
  have hcb : CallB μ.2.2.2.2.2 s args μ.2.2.2.2.1 i ν.1 ν.2.1 ν.2.2.1 ν.2.2.2.1 (pw_ws ν) ν.2.2.2.2.2 0 0 n := callB_of (ws' := wG) n hts (pw_good hc rfl) rfl hz.1 hz.2 (hts _ hi) (hts _ hw) hn hR
  have hrecv := va_recv (q := r) (fs := fs) hC.2.2.2.2.2.2.2.1 hP hcl (q0 := k) (a := ad_ g k) (by rw [pw_s_at hk, hce])
  have hr := va_runV (e := e) (below := below) (meth := meth) (locs := locs) (cells := Qf.1) (slots := Qf.2.1) (H := H) (C := r.1) (b := ad_ g k) (g := F0 m pc la (As.reverse ++ .ref (ad_ g k) :: st)) (rest := st) (As := As) (Ts := wG) ⟨hC.1, hC.2.1, hC.2.2.2.2.2.2.1, hC.2.2.2.2.1, hts⟩ (hM H.size) ⟨hcb, hts _ hs, hts _ hv⟩ ⟨pw_blind, hrecv, fun U hU hW => ⟨rfl, by rw [hU], pw_back hC hU hW hP hD hS⟩⟩ rfl hlen hl.1 rfl (lv_room hst) hd hZ
  exact pw_go (As := As) hC hl hP hD hS hZ hr
end PXC
