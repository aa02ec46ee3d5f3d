/-! from the law's entry to its loop -/
/-- what rides along: the table of exponents at E0, the words and strings of throws, the script at b -/
def xe_ (E0 b L : Nat) (xs : Nat → Int32) : pw_E := fun A U H =>
  (va_Z rC_O "EXPONENTS" "[I" (.ref E0) A U H ∧ va_T .int E0 31 (fun j => .int (nI (ex_ j))) A U H) ∧ tw_ A U H ∧ (∀ E, E ∈ xs4_ → ∀ T, T ∈ xs4_ → E ≠ T → va_Nc E T U) ∧ va_T .int b L (fun j => .int (xs j)) A U H
theorem xe_warm {E0 b L : Nat} {xs : Nat → Int32} {A : Nat → Prop} {u U : State} {H : Heap} (hW : u.WarmedH U.vm) (h : xe_ E0 b L xs A u H) : xe_ E0 b L xs A U H :=
  ⟨⟨h.1.1.moved hW.alike, h.1.2.moved hW.alike⟩, tw_warm hW h.2.1, fun E hE T hT hn => (h.2.2.1 E hE T hT hn).moved hW.alike, h.2.2.2.moved hW.alike⟩
theorem xe_kept {E0 b L : Nat} {xs : Nat → Int32} {A : Nat → Prop} {U : State} {H H1 : Heap} (hq : ∀ a : Nat, a < H.size → ¬ A a → H1[a]? = H[a]?) (h : xe_ E0 b L xs A U H) : xe_ E0 b L xs A U H1 :=
  ⟨⟨h.1.1.kept hq, h.1.2.kept hq⟩, tw_kept hq h.2.1, h.2.2.1, h.2.2.2.kept hq⟩
theorem xe_narrow {E0 b L : Nat} {xs : Nat → Int32} {A B : Nat → Prop} {U : State} {H : Heap} (hAB : ∀ q, B q → A q) (h : xe_ E0 b L xs A U H) : xe_ E0 b L xs B U H :=
  ⟨⟨h.1.1.narrow hAB, h.1.2.narrow hAB⟩, tw_narrow hAB h.2.1, h.2.2.1, h.2.2.2.narrow hAB⟩
section SL
variable {l : Launch} {k : nw_K} {sz E0 b L : Nat} {xs : Nat → Int32}
def F_ (sz E0 b L : Nat) (xs : Nat → Int32) : List Frame → Array Value → State → State → Prop := fun bl a s t => (a = #[.ref b] ∧ xe_ E0 b L xs (fun q => sz ≤ q) s s.heap) → lw_Z bl a s t
def X0_ : pw_X := fun _ _ => 0
def Y0_ : pw_Y := fun _ _ => 0
theorem dk_0 : dk_ X0_ (fun _ => 0) := fun r _ => ⟨fun _ => 0, fun j _ => ⟨rfl, by show (0 : Nat) < 4294967296; decide⟩, vl_0 4 (fun _ _ => rfl)⟩
theorem mz_0 : mz_ Y0_ (fun _ => 0) := by
  refine ⟨fun i _ => ⟨p2_ 128, fun j _ => ?_⟩, fun _ => 0, fun i _ => ⟨p2_ 129, fun j _ => ?_⟩⟩
  · rw [Nat.zero_div]; rfl
  · rw [Nat.zero_div]; rfl
theorem hF_ {g : pw_G} (hg : ∀ j, j < 28 → sz ≤ ad_ g j) (C S : Nat) (ls : List (Nat × Value)) (X : pw_X) (Y : pw_Y) (hC0 : C ≤ room_1.cells) (hS0 : S ≤ room_1.slots) : pw_W l g μL_ sz (C, S, F_ sz E0 b L xs) 1155 ls [] X Y := by
  refine px_iconst (v := nI 1) (q := 1156) dI_L_law_1155 (by decide +kernel) rfl ?_
  intro p e s m args below meth c H locs la hC hl hP hD hS hZ T hT XX
  by_cases ha : args = #[.ref b]
  · subst ha
    have hf : ∀ q ∈ locs, s.heap.size ≤ q.base := fun q hq => by
      rw [hC.2.2.2.2.2.2.2.2.1]
      rcases hS.2.2 q hq with ⟨j, hj, e⟩ | h
      · rw [e]; exact hg j hj
      · exact h
    obtain ⟨t, a1, b1⟩ := lw_ret (b := b) hC.1 hC.2.1 hC.2.2.1 hC.2.2.2.2.2.1 dI_L_law_1156 T hT (stand_widen (Stand.forget (locs := []) XX hf) hC0 hS0)
    exact ⟨t, a1, fun _ => b1⟩
  · exact ⟨_, Steps.refl _, fun h => absurd h.1 ha⟩
def gL_ (k : nw_K) (cA : ClassId) (E0 b L : Nat) (xs : Nat → Int32) (a : Nat) (r : Nat → Nat) (q1 q8 q9 q10 q11 q12 q13 q14 q15 q16 q17 q18 q19 q20 q21 q22 q23 q24 q25 q26 q27 : Nat) : pw_G := (k.1, (k.2.1, k.2.2, cA), (fun n => ([a, q1, r 0, r 1, r 2, r 3, r 4, r 5, q8, q9, q10, q11, q12, q13, q14, q15, q16, q17, q18, q19, q20, q21, q22, q23, q24, q25, q26, q27, E0, b] : List Nat).getD n 0), xe_ E0 b L xs)
theorem lw_in {cA : ClassId} {a : Nat} {r : Nat → Nat} {q1 q8 q9 q10 q11 q12 q13 q14 q15 q16 q17 q18 q19 q20 q21 q22 q23 q24 q25 q26 q27 : Nat} {ts : nw_T} (hL : L ≤ 2560) (hS0 : l.stackTraces = false) (m1 : ((cA, .array .long) : ClassId × FieldType) ∈ ts) (m2 : ((k.2.1, .long) : ClassId × FieldType) ∈ ts) (m3 : ((k.2.2, .int) : ClassId × FieldType) ∈ ts) :
    nw_W l k μL_ (fun q => sz ≤ q) sz (28, 1844, F_ sz E0 b L xs) 20 [(0, .ref b), (1, .ref a), (2, .ref q23), (3, .ref q27)] [] [(a, .inr (3, [.ref q1, .ref q8, .ref q9, .ref q10, .ref q11, .ref q12, .ref q16, .ref q20])), (q1, .inl (cA, 6, .inr (.inr (.inr (.inr (fun i => if i < 6 then some (r i) else none)))))), (r 0, .inl (k.2.1, 4, .inr (.inl (fun _ => 0)))), (r 1, .inl (k.2.1, 4, .inr (.inl (fun _ => 0)))), (r 2, .inl (k.2.1, 4, .inr (.inl (fun _ => 0)))), (r 3, .inl (k.2.1, 4, .inr (.inl (fun _ => 0)))), (r 4, .inl (k.2.1, 4, .inr (.inl (fun _ => 0)))), (r 5, .inl (k.2.1, 4, .inr (.inl (fun _ => 0)))), (q8, .inl (k.2.1, 4, .inr (.inl (fun _ => 0)))), (q9, .inl (k.2.1, 4, .inr (.inl (fun _ => 0)))), (q10, .inl (k.2.1, 4, .inr (.inl (fun _ => 0)))), (q11, .inl (k.2.1, 8, .inr (.inl (fun _ => 0)))), (q12, .inr (0, [.ref q13, .ref q14, .ref q15, .int 0, .int 0])), (q13, .inl (k.2.1, 4, .inr (.inl (fun _ => 0)))), (q14, .inl (k.2.1, 9, .inr (.inl (fun _ => 0)))), (q15, .inl (k.2.1, 8, .inr (.inl (fun _ => 0)))), (q16, .inr (2, [.ref q17, .ref q18, .ref q19])), (q17, .inl (k.2.1, 4, .inr (.inl (fun _ => 0)))), (q18, .inl (k.2.1, 4, .inr (.inl (fun _ => 0)))), (q19, .inl (k.2.1, 8, .inr (.inl (fun _ => 0)))), (q20, .inr (1, [.ref q21, .ref q22])), (q21, .inl (k.2.2, 64, .inl (fun _ => 0))), (q22, .inl (k.2.2, 64, .inl (fun _ => 0))), (q23, .inr (4, [.ref q24, .ref q25, .ref q26, .int 0])), (q24, .inl (k.2.2, 768, .inl (fun _ => 0))), (q25, .inl (k.2.2, 774, .inl (fun _ => 0))), (q26, .inl (k.2.2, 64, .inl (fun _ => 0))), (q27, .inl (k.2.1, 1, .inr (.inl (fun _ => 0))))] ts := by
  intro p e s m args below meth c H locs la hC hl hK hP hD hS hA T hT XX
  by_cases hh : args = #[.ref b] ∧ xe_ E0 b L xs (fun q => sz ≤ q) s s.heap
  · have hsz := hC.2.2.2.2.2.2.2.2.1
    have ews : pw_s (gL_ k cA E0 b L xs a r q1 q8 q9 q10 q11 q12 q13 q14 q15 q16 q17 q18 q19 q20 q21 q22 q23 q24 q25 q26 q27) X0_ Y0_ = ([(a, .inr (3, [.ref q1, .ref q8, .ref q9, .ref q10, .ref q11, .ref q12, .ref q16, .ref q20])), (q1, .inl (cA, 6, .inr (.inr (.inr (.inr (fun i => if i < 6 then some (r i) else none)))))), (r 0, .inl (k.2.1, 4, .inr (.inl (fun _ => 0)))), (r 1, .inl (k.2.1, 4, .inr (.inl (fun _ => 0)))), (r 2, .inl (k.2.1, 4, .inr (.inl (fun _ => 0)))), (r 3, .inl (k.2.1, 4, .inr (.inl (fun _ => 0)))), (r 4, .inl (k.2.1, 4, .inr (.inl (fun _ => 0)))), (r 5, .inl (k.2.1, 4, .inr (.inl (fun _ => 0)))), (q8, .inl (k.2.1, 4, .inr (.inl (fun _ => 0)))), (q9, .inl (k.2.1, 4, .inr (.inl (fun _ => 0)))), (q10, .inl (k.2.1, 4, .inr (.inl (fun _ => 0)))), (q11, .inl (k.2.1, 8, .inr (.inl (fun _ => 0)))), (q12, .inr (0, [.ref q13, .ref q14, .ref q15, .int 0, .int 0])), (q13, .inl (k.2.1, 4, .inr (.inl (fun _ => 0)))), (q14, .inl (k.2.1, 9, .inr (.inl (fun _ => 0)))), (q15, .inl (k.2.1, 8, .inr (.inl (fun _ => 0)))), (q16, .inr (2, [.ref q17, .ref q18, .ref q19])), (q17, .inl (k.2.1, 4, .inr (.inl (fun _ => 0)))), (q18, .inl (k.2.1, 4, .inr (.inl (fun _ => 0)))), (q19, .inl (k.2.1, 8, .inr (.inl (fun _ => 0)))), (q20, .inr (1, [.ref q21, .ref q22])), (q21, .inl (k.2.2, 64, .inl (fun _ => 0))), (q22, .inl (k.2.2, 64, .inl (fun _ => 0))), (q23, .inr (4, [.ref q24, .ref q25, .ref q26, .int 0])), (q24, .inl (k.2.2, 768, .inl (fun _ => 0))), (q25, .inl (k.2.2, 774, .inl (fun _ => 0))), (q26, .inl (k.2.2, 64, .inl (fun _ => 0))), (q27, .inl (k.2.1, 1, .inr (.inl (fun _ => 0))))] : va_W).set 1 (q1, .inl (cA, 6, .inr (.inr (.inr (.inr (fun i => some (ad_ (gL_ k cA E0 b L xs a r q1 q8 q9 q10 q11 q12 q13 q14 q15 q16 q17 q18 q19 q20 q21 q22 q23 q24 q25 q26 q27) (2 + i)))))))) := rfl
    have h1 := hP 1 _ rfl
    have h1' : H[q1]? = some (vp_cell cA (6, .inr (.inr (.inr (.inr (fun i => if i < 6 then some (r i) else none)))))) := h1
    have hce : vp_cell cA (6, .inr (.inr (.inr (.inr (fun i => if i < 6 then some (r i) else none))))) = vp_cell cA (6, .inr (.inr (.inr (.inr (fun i => some (ad_ (gL_ k cA E0 b L xs a r q1 q8 q9 q10 q11 q12 q13 q14 q15 q16 q17 q18 q19 q20 q21 q22 q23 q24 q25 q26 q27) (2 + i))))))) := by
      show arrV cA 6 (fun j => va_rf (if j < 6 then some (r j) else none)) = arrV cA 6 (fun j => va_rf (some (ad_ (gL_ k cA E0 b L xs a r q1 q8 q9 q10 q11 q12 q13 q14 q15 q16 q17 q18 q19 q20 q21 q22 q23 q24 q25 q26 q27) (2 + j))))
      unfold arrV
      congr 2
      funext j
      obtain ⟨j, hj⟩ := j
      rcases (show j = 0 ∨ j = 1 ∨ j = 2 ∨ j = 3 ∨ j = 4 ∨ j = 5 by omega) with rfl | rfl | rfl | rfl | rfl | rfl <;> rfl
    have hP2 : va_P (gL_ k cA E0 b L xs a r q1 q8 q9 q10 q11 q12 q13 q14 q15 q16 q17 q18 q19 q20 q21 q22 q23 q24 q25 q26 q27).1 clS (pw_s (gL_ k cA E0 b L xs a r q1 q8 q9 q10 q11 q12 q13 q14 q15 q16 q17 q18 q19 q20 q21 q22 q23 q24 q25 q26 q27) X0_ Y0_) H := by
      rw [ews]
      exact hP.set hD rfl (show H[q1]? = some (vp_cell cA (6, .inr (.inr (.inr (.inr (fun i => some (ad_ (gL_ k cA E0 b L xs a r q1 q8 q9 q10 q11 q12 q13 q14 q15 q16 q17 q18 q19 q20 q21 q22 q23 q24 q25 q26 q27) (2 + i)))))))) from by rw [← hce]; exact h1') (fun _ _ => rfl)
    have hD2 : va_D (fun q => sz ≤ q) (pw_s (gL_ k cA E0 b L xs a r q1 q8 q9 q10 q11 q12 q13 q14 q15 q16 q17 q18 q19 q20 q21 q22 q23 q24 q25 q26 q27) X0_ Y0_) := by
      rw [ews]; exact hD.set rfl
    have hg : ∀ j, j < 28 → sz ≤ ad_ (gL_ k cA E0 b L xs a r q1 q8 q9 q10 q11 q12 q13 q14 q15 q16 q17 q18 q19 q20 q21 q22 q23 q24 q25 q26 q27) j := fun j hj => hD2.2 j _ (pw_s_at hj)
    have hSt : pw_St (gL_ k cA E0 b L xs a r q1 q8 q9 q10 q11 q12 q13 q14 q15 q16 q17 q18 q19 q20 q21 q22 q23 q24 q25 q26 q27) := ⟨fun _ _ _ _ hW h => xe_warm hW h, fun _ _ _ _ hq h => xe_kept hq h, fun _ _ _ _ hAB h => xe_narrow hAB h⟩
    have hAw : ∀ q, pw_A (gL_ k cA E0 b L xs a r q1 q8 q9 q10 q11 q12 q13 q14 q15 q16 q17 q18 q19 q20 q21 q22 q23 q24 q25 q26 q27) sz q → sz ≤ q := fun q h => h.elim (fun ⟨j, hj, e⟩ => by rw [e]; exact hg j hj) id
    have hK2 : va_K (gL_ k cA E0 b L xs a r q1 q8 q9 q10 q11 q12 q13 q14 q15 q16 q17 q18 q19 q20 q21 q22 q23 q24 q25 q26 q27).1 clS (pw_ty (gL_ k cA E0 b L xs a r q1 q8 q9 q10 q11 q12 q13 q14 q15 q16 q17 q18 q19 q20 q21 q22 q23 q24 q25 q26 q27)) s := by
      refine ⟨hK.1, fun j x hx => ?_⟩
      have hj : j < 3 := (List.getElem?_eq_some_iff.mp hx).1
      rcases (show j = 0 ∨ j = 1 ∨ j = 2 by omega) with rfl | rfl | rfl
      · cases hx; obtain ⟨n, hn⟩ := List.getElem?_of_mem m2; exact hK.2 n _ hn
      · cases hx; obtain ⟨n, hn⟩ := List.getElem?_of_mem m3; exact hK.2 n _ hn
      · cases hx; obtain ⟨n, hn⟩ := List.getElem?_of_mem m1; exact hK.2 n _ hn
    have loop := lw_loop (l := l) (g := (gL_ k cA E0 b L xs a r q1 q8 q9 q10 q11 q12 q13 q14 q15 q16 q17 q18 q19 q20 q21 q22 q23 q24 q25 q26 q27)) (sz := sz) (F := F_ sz E0 b L xs) (L := L) (xs := xs) (fun _ _ _ h => h.2.2.2) hL (fun _ _ _ h => h.1) (fun _ _ _ h => h.2.1) (fun _ _ _ h => h.2.2.1) hS0 (hF_ hg) 512 0 28 1844 X0_ Y0_ (fun _ => 0) (by omega) (by omega) (by decide) (by decide) dk_0 mz_0
    have K : pw_W l (gL_ k cA E0 b L xs a r q1 q8 q9 q10 q11 q12 q13 q14 q15 q16 q17 q18 q19 q20 q21 q22 q23 q24 q25 q26 q27) μL_ sz (28, 1844, F_ sz E0 b L xs) 20 [(0, .ref (ad_ (gL_ k cA E0 b L xs a r q1 q8 q9 q10 q11 q12 q13 q14 q15 q16 q17 q18 q19 q20 q21 q22 q23 q24 q25 q26 q27) 29)), (1, .ref (ad_ (gL_ k cA E0 b L xs a r q1 q8 q9 q10 q11 q12 q13 q14 q15 q16 q17 q18 q19 q20 q21 q22 q23 q24 q25 q26 q27) 0)), (2, .ref (ad_ (gL_ k cA E0 b L xs a r q1 q8 q9 q10 q11 q12 q13 q14 q15 q16 q17 q18 q19 q20 q21 q22 q23 q24 q25 q26 q27) 23)), (3, .ref (ad_ (gL_ k cA E0 b L xs a r q1 q8 q9 q10 q11 q12 q13 q14 q15 q16 q17 q18 q19 q20 q21 q22 q23 q24 q25 q26 q27) 27))] [] X0_ Y0_ := by
      refine px_iconst (q := 21) (v := nI 0) dI_L_law_20 (by decide +kernel) rfl ?_
      refine px_istore (q := 23) dI_L_law_21 (by decide) rfl rfl ?_
      exact loop
    exact K p e s m args below meth c H locs la ⟨hC.1, hC.2.1, hC.2.2.1, hC.2.2.2.1, hC.2.2.2.2.1, hC.2.2.2.2.2.1, hC.2.2.2.2.2.2.1, hK2, hsz, hSt, xe_narrow hAw hh.2⟩ hl hP2 (pw_D_A hD2) ⟨hS.1, fun q h1 h2 => hS.2.1 q h1 (fun z => h2 (Or.inr z)), fun q hq => Or.inr (hS.2.2 q hq)⟩ ⟨by show (28 : Nat) ≤ 601024; decide, by show (1844 : Nat) ≤ 7293033; decide⟩ T hT XX
  · exact ⟨_, Steps.refl _, fun h => absurd h hh⟩
theorem lw_make (hL : L ≤ 2560) (hS0 : l.stackTraces = false) : nw_W l k μL_ (fun q => sz ≤ q) sz (0, 0, F_ sz E0 b L xs) 0 [(0, .ref b)] [] [] [] := by
  refine nx_new (q := 3) (ci := 3) (ty := ty_P) (fs := [.null, .null, .null, .null, .null, .null, .null, .null]) dI_L_law_0 wc_L_8 wn_P wi_P wU_P ty_P_ok rfl (by decide +kernel) (Nat.le_of_ble_eq_true rfl) (Nat.le_of_ble_eq_true rfl) rfl (fun a => ?_)
  refine nx_dup (q := 4) dI_L_law_3 rfl rfl ?_
  refine nx_callI (q := 7) (ν := nP_) (ws := []) dI_L_law_4 wl_L_74 wm_P_init wb_P_init wi_P rfl rfl (by decide +kernel) ⟨(Nat.le_of_ble_eq_true rfl), (Nat.le_of_ble_eq_true rfl)⟩ (Nat.le_of_ble_eq_true rfl) ⟨(Nat.le_of_ble_eq_true rfl), (Nat.le_of_ble_eq_true rfl)⟩ rfl c_P_init (fun w1 t1 h1 => ?_)
  obtain ⟨r, cA, q1, q8, q9, q10, q11, q12, q13, q14, q15, q16, q17, q18, q19, q20, q21, q22, rfl, m1, m2, m3⟩ := h1
  refine nx_astore_n (q := 8) dI_L_law_7 rfl (by decide) rfl rfl ?_
  refine nx_new (q := 11) (ci := 4) (ty := ty_M) (fs := [.null, .null, .null, .int 0]) dI_L_law_8 wc_L_75 wn_M wi_M wU_M ty_M_ok rfl (by decide +kernel) (Nat.le_of_ble_eq_true rfl) (Nat.le_of_ble_eq_true rfl) rfl (fun q23 => ?_)
  refine nx_dup (q := 12) dI_L_law_11 rfl rfl ?_
  refine nx_callI (q := 15) (ν := nM_) dI_L_law_12 wl_L_77 wm_M_init wb_M_init wi_M rfl rfl (by decide +kernel) ⟨(Nat.le_of_ble_eq_true rfl), (Nat.le_of_ble_eq_true rfl)⟩ (Nat.le_of_ble_eq_true rfl) ⟨(Nat.le_of_ble_eq_true rfl), by show (1843 : Nat) ≤ 7293033; decide⟩ rfl c_M_init (fun w2 t2 h2 => ?_)
  obtain ⟨q24, q25, q26, rfl, m4⟩ := h2
  refine nx_astore_n (q := 16) dI_L_law_15 rfl (by decide) rfl rfl ?_
  refine nx_iconst (v := nI 1) (q := 17) dI_L_law_16 (by decide +kernel) rfl ?_
  refine nx_newJ (q := 19) dI_L_law_17 wa_long (by decide) (Nat.le_of_ble_eq_true rfl) (by show (1844 : Nat) ≤ 7293033; decide) rfl (fun q27 => ?_)
  refine nx_astore_n (q := 20) dI_L_law_19 rfl (by decide) rfl rfl ?_
  exact lw_in hL hS0 (by simp [m1]) (by simp [m2]) (by simp [m3])
end SL
