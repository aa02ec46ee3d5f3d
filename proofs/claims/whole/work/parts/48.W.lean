/-! the law's entry -/
def gn_ : List Cond := flatC (Jvm.Cond.and given_1 narrow_1)
def tE_ : Term := .static rC_O "EXPONENTS" "[I"
theorem gn_E : ∀ j, j < 31 → Cond.eq (.elem tE_ (.int (Int32.ofNat j))) (.int (nI (ex_ j))) ∈ gn_ := by decide +kernel
theorem gn_El : Cond.eq (.length tE_) (.int (Int32.ofNat 31)) ∈ gn_ := by decide +kernel
theorem gn_Ea : Cond.arrayOf tE_ .int ∈ gn_ := by decide +kernel
theorem gn_U : Cond.isRef (.static Bundle.tN "UNASSIGNED_STACK" Bundle.steD) ∈ gn_ := by decide +kernel
theorem gn_S : Cond.isRef (.static Bundle.tN "SUPPRESSED_SENTINEL" Bundle.listD) ∈ gn_ := by decide +kernel
theorem gn_C : ∀ E, E ∈ xs4_ → ∀ T, T ∈ xs4_ → E ≠ T → Cond.not (.castable E T) ∈ gn_ := by decide +kernel
theorem gn_X : ∀ z, z ∈ txt_ → Cond.exactly (.string rC_P z.1) "java/lang/String" ∈ gn_ := by decide +kernel
theorem tb_D : ∀ C, C ∈ nX_ ++ [Bundle.tN] → Cond.declares (iS_ C) ∈ lw_tbl := by decide +kernel
theorem tb_C : ∀ E, E ∈ [xI_, xA_, xM_, xU_] → Cond.castable E E ∈ lw_tbl := by decide +kernel
theorem tb_X : ∀ z, z ∈ txt_ → Cond.stringRef rC_P z.1 z.2 ∈ lw_tbl := by decide +kernel
theorem tb_LU : Cond.laysStatic Bundle.tN "UNASSIGNED_STACK" Bundle.steD ∈ lw_tbl := by decide +kernel
theorem tb_LS : Cond.laysStatic Bundle.tN "SUPPRESSED_SENTINEL" Bundle.listD ∈ lw_tbl := by decide +kernel
theorem tb_LE : Cond.laysStatic rC_O "EXPONENTS" "[I" ∈ lw_tbl := by decide +kernel
theorem tb_O : Cond.arrayOver (.array .long) ∈ lw_tbl := by decide +kernel
theorem tb_N1 : Cond.methodLinkNest rC_P 29 yM_V_init rC_P ∈ lw_tbl := by decide +kernel
theorem tb_N2 : Cond.methodLinkNest rC_P 36 yM_O_init rC_P ∈ lw_tbl := by decide +kernel
theorem tb_N3 : Cond.methodLinkNest rC_P 43 yM_Y_init rC_P ∈ lw_tbl := by decide +kernel
section WS
variable {p : Program} {e : Env} {s : State} {m : MethodId} {below : List Frame} {meth : Method} {c : Code} {b L : Nat} {xs : Nat → Int32}
theorem xe_start (C0 : lw_At p s m meth c b L xs) (hL : L ≤ 2560) : ∃ E0, xe_ E0 b L xs (fun q => s.heap.size ≤ q) s s.heap := by
  obtain ⟨-, -, -, -, -, hts, hX, hb, -, hgv⟩ := C0
  have hg : ∀ w ∈ gn_, w.before #[Value.ref b] s = true := flat_of_before _ hgv
  have hw : ∀ w ∈ wG, w.before #[Value.ref b] s = true := fun w h => hts w (wG_in w h)
  have hA : ∀ a : Nat, a < s.heap.size → ¬ (fun q : Nat => s.heap.size ≤ q) a := fun a h z => absurd h (Nat.not_lt.mpr z)
  obtain ⟨E0, hE, hT⟩ := va_Tof (tm := tE_) (ty := .int) (N := 31) (f := fun j => .int (nI (ex_ j))) (A := fun q => s.heap.size ≤ q) (by decide) (hg _ gn_Ea) (va_eqt (hg _ gn_El)) (fun j hj => va_eqt (hg _ (gn_E j hj))) hA
  refine ⟨E0, ⟨va_Zref (hts _ tb_LE) (hw _ wi_O) hE hA, hT⟩, ⟨fun C hC => va_Nw.of rfl (hts _ (tb_D C hC)), fun E hE => va_Nw.of rfl (hts _ (tb_C E hE)), vx_Zqof (hts _ tb_LU) (hw _ wi_Throwable) (hg _ gn_U) hA, vx_Zqof (hts _ tb_LS) (hw _ wi_Throwable) (hg _ gn_S) hA, fun z hz => ?_⟩, fun E hE T hT hn => va_Nc.of (hg _ (gn_C E hE T hT hn)), ?_⟩
  · obtain ⟨a, _, _, _, h1, -⟩ := Cond.exactly_spec (hg _ (gn_X z hz))
    exact ⟨a, vk_R.of (hts _ (tb_X z hz)) h1⟩
  · obtain ⟨scr, h1, h2, h3, h4, h5⟩ := hX
    exact ⟨scr, h1, h2, h3, Nat.le_of_eq h4.symm, (by rw [h4]), h5, hA b hb⟩
theorem nw_start (C0 : lw_At p s m meth c b L xs) : ∃ k : nw_K, nw_N k s := by
  obtain ⟨-, -, -, -, -, hts, -, -, -, -⟩ := C0
  have hw : ∀ w ∈ wG, w.before #[Value.ref b] s = true := fun w h => hts w (wG_in w h)
  obtain ⟨cV, iV, kV⟩ := u_known hw wU_V (hw _ wn_V)
  obtain ⟨cY, iY, kY⟩ := u_known hw wU_Y (hw _ wn_Y)
  obtain ⟨cO, iO, kO⟩ := u_known hw wU_O (hw _ wn_O)
  obtain ⟨cP, iP, kP⟩ := u_known hw wU_P (hw _ wn_P)
  obtain ⟨cM, iM, kM⟩ := u_known hw wU_M (hw _ wn_M)
  obtain ⟨cJ, _, _, hJ, -⟩ := Cond.arrayClass_spec (hw _ wa_long)
  obtain ⟨cI, _, _, hI, -⟩ := Cond.arrayClass_spec (hw _ wa_int)
  refine ⟨((fun c => ([cV, cY, cO, cP, cM] : List ClassId).getD c cV, fun c => ([iV, iY, iO, iP, iM] : List (Nat → Nat)).getD c iV), cJ, cI), ⟨fun c q hq => ?_, fun j q hq => (by cases hq)⟩, hJ, hI, fun A => hts _ tb_O, va_Nw.of rfl (hts _ tb_N1), va_Nw.of rfl (hts _ tb_N2), va_Nw.of rfl (hts _ tb_N3)⟩
  have hc : c < 5 := (List.getElem?_eq_some_iff.mp hq).1
  rcases (show c = 0 ∨ c = 1 ∨ c = 2 ∨ c = 3 ∨ c = 4 by omega) with rfl | rfl | rfl | rfl | rfl
  · cases hq; exact kV
  · cases hq; exact kY
  · cases hq; exact kO
  · cases hq; exact kP
  · cases hq; exact kM
/-- from the entry, for every script of at most 2560 ints, the law comes to its end with true -/
theorem whole_start (l : Launch) (hl0 : l.stackTraces = false) (hnm : meth.name = x.name) (hL : L ≤ 2560) (C0 : lw_At p s m meth c b L xs) : W p l e room_1 s m #[Value.ref b] below meth c s.heap [] 0 0 (lw_Z below #[Value.ref b] s) (entryFrame m ([Value.ref b] : List Value).toArray 8) := by
  obtain ⟨E0, hxe⟩ := xe_start C0 hL
  obtain ⟨k, hN⟩ := nw_start C0
  obtain ⟨h1, h2, h3, h4, h5, hts, hX, hb, hlk, hgv⟩ := C0
  have hl := lv_entry [Value.ref b] (n := 8) (Nat.le_of_ble_eq_true rfl)
  have K := lw_make (l := l) (k := k) (sz := s.heap.size) (E0 := E0) (b := b) (L := L) (xs := xs) hL hl0 p e s m #[Value.ref b] below meth c s.heap [] _ ⟨h1, h2, h3, fun w h => hts w (wG_in w h), h5, hlk, h4, hnm, rfl, hN⟩ hl hN.1 (fun j q hq => (by cases hq)) ⟨fun i j x y hi => (by cases hi), fun j q hq => (by cases hq)⟩ va_S.rf (fun q h => h)
  rw [lg_entry_eq]
  intro T hT XX
  obtain ⟨t, a1, b1⟩ := K T hT XX
  exact ⟨t, a1, b1 ⟨rfl, hxe⟩⟩
end WS
