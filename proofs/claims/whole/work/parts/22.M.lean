/-! the reference's own steps, further -/
section CM2
variable {l : Launch} {g : pw_G} {X : pw_X} {Y : pw_Y} {Post : pw_P} {W v : Nat → Nat}
theorem c_M_plus {w x : Nat} (hw : w < 6) (hx : x < 6) (hwx : w ≠ x) (hk : wk_ (Y 25) W) (h1 : W w + W x < 2 ^ 129 → ∀ f, wk_ f (va_up W w (W w + W x)) → Post (some (.int (nI 1))) X (yr_ Y 25 f)) (h0 : 2 ^ 129 ≤ W w + W x → ∀ f, wk_ f (va_up W w ((W w + W x) % 2 ^ 129)) → Post (some (.int (nI 0))) X (yr_ Y 25 f)) : pw_Met l g mM_plus [.ref (ad_ g 23), .int (nI w), .int (nI x)] X Y Post := by
  have hvw := hk w hw
  have hvx := hk x hx
  refine pw_ofW (by decide +kernel) rfl (Nat.le_of_ble_eq_true rfl) rfl (fun sz => ?_)
  refine px_iconst (q := 1) (v := nI 0) dI_M_plus_0 (by decide +kernel) rfl ?_
  refine px_istore_n (q := 2) dI_M_plus_1 rfl (by decide) rfl rfl ?_
  refine px_iconst (q := 3) (v := nI 0) dI_M_plus_2 (by decide +kernel) rfl ?_
  refine px_istore (q := 5) dI_M_plus_3 (by decide) rfl rfl ?_
  have key : ∀ (d i c : Nat) (f : Nat → Int32), i + d = 129 → c = cy_ (W w) (W x) i → (∀ j, j < i → f (129 * w + j) = nI ((W w + W x) / 2 ^ j % 2)) → (∀ p, p < 129 * w ∨ 129 * w + i ≤ p → f p = Y 25 p) → pw_W l g mM_plus sz (pw_qM g sz Post 0 0) 5 [(0, .ref (ad_ g 23)), (1, .int (nI w)), (2, .int (nI x)), (3, .int (nI c)), (4, .int (nI i))] [] X (yr_ Y 25 f) := by
    intro d
    induction d with
    | zero =>
      intro i c f hi hc q1 q2
      obtain rfl : i = 129 := by omega
      rw [cy_end hvw.1 hvx.1] at hc
      have hcl : c < 2147483648 := by rw [hc, ← cy_end hvw.1 hvx.1]; exact Nat.lt_trans (cy_lt _ _ _) (by decide)
      refine px_iload (q := 7) dI_M_plus_5 rfl rfl ?_
      refine px_sipush (q := 10) (v := nI 129) dI_M_plus_7 (by decide +kernel) rfl ?_
      refine px_icmp_geN (q := 13) (tgt := 72) dI_M_plus_10 (by omega) (by omega) (by decide) rfl (fun b10 => ?_) (fun b10 => ?_)
      · refine px_iload_n (q := 73) dI_M_plus_72 rfl rfl ?_
        refine px_if_neN (q := 76) (tgt := 80) dI_M_plus_73 (by omega) (by decide) rfl (fun b73 => ?_) (fun b73 => ?_)
        · refine px_iconst (q := 81) (v := nI 0) dI_M_plus_80 (by decide +kernel) rfl ?_
          refine px_zret dI_M_plus_81 rfl (by decide +kernel) ?_
          refine h0 ?_ f (wk_put hk (Nat.mod_lt _ (p2_ 129)) (fun j hj => ?_) (fun p h4 => q2 p h4))
          · refine Nat.le_of_not_lt (fun q => b73 ?_)
            rw [hc, Nat.div_eq_of_lt q]
          · rw [md_bit hj]; exact q1 j hj
        · refine px_iconst (q := 77) (v := nI 1) dI_M_plus_76 (by decide +kernel) rfl ?_
          refine px_goto (tgt := 81) dI_M_plus_77 (by decide) ?_
          refine px_zret dI_M_plus_81 rfl (by decide +kernel) ?_
          have hlt : W w + W x < 2 ^ 129 := (Nat.div_eq_zero_iff_lt (p2_ 129)).mp (by rw [← hc]; exact b73)
          exact h1 hlt f (wk_put hk hlt q1 (fun p h4 => q2 p h4))
      · omega
    | succ d ih =>
      intro i c f hi hc q1 q2
      have ha := hvw.2 i (by omega)
      have hb := hvx.2 i (by omega)
      have hc2 := cy_lt (W w) (W x) i
      rw [← hc] at hc2
      refine px_iload (q := 7) dI_M_plus_5 rfl rfl ?_
      refine px_sipush (q := 10) (v := nI 129) dI_M_plus_7 (by decide +kernel) rfl ?_
      refine px_icmp_geN (q := 13) (tgt := 72) dI_M_plus_10 (by omega) (by omega) (by decide) rfl (fun b10 => ?_) (fun b10 => ?_)
      · omega
      · refine px_aload_n (q := 14) dI_M_plus_13 rfl rfl ?_
        refine px_getM (q := 17) (j := 1) dI_M_plus_14 wf_M_13 rfl (by decide) rfl rfl ?_
        refine px_sipush (q := 20) (v := nI 129) dI_M_plus_17 (by decide +kernel) rfl ?_
        refine px_iload_n (q := 21) dI_M_plus_20 rfl rfl ?_
        refine px_imulN (q := 22) dI_M_plus_21 rfl ?_
        refine px_iload (q := 24) dI_M_plus_22 rfl rfl ?_
        refine px_iaddN (q := 25) dI_M_plus_24 rfl ?_
        refine px_iald (q := 26) dI_M_plus_25 rfl (by omega) (by omega) (ys_ ((q2 (129 * w + i) (by omega)).trans ha)) rfl ?_
        refine px_aload_n (q := 27) dI_M_plus_26 rfl rfl ?_
        refine px_getM (q := 30) (j := 1) dI_M_plus_27 wf_M_13 rfl (by decide) rfl rfl ?_
        refine px_sipush (q := 33) (v := nI 129) dI_M_plus_30 (by decide +kernel) rfl ?_
        refine px_iload_n (q := 34) dI_M_plus_33 rfl rfl ?_
        refine px_imulN (q := 35) dI_M_plus_34 rfl ?_
        refine px_iload (q := 37) dI_M_plus_35 rfl rfl ?_
        refine px_iaddN (q := 38) dI_M_plus_37 rfl ?_
        refine px_iald (q := 39) dI_M_plus_38 rfl (by omega) (by omega) (ys_ ((q2 (129 * x + i) (by omega)).trans hb)) rfl ?_
        refine px_iaddN (q := 40) dI_M_plus_39 rfl ?_
        refine px_iload_n (q := 41) dI_M_plus_40 rfl rfl ?_
        refine px_iaddN (q := 42) dI_M_plus_41 rfl ?_
        refine px_istore (q := 44) dI_M_plus_42 (by decide) rfl rfl ?_
        refine px_aload_n (q := 45) dI_M_plus_44 rfl rfl ?_
        refine px_getM (q := 48) (j := 1) dI_M_plus_45 wf_M_13 rfl (by decide) rfl rfl ?_
        refine px_sipush (q := 51) (v := nI 129) dI_M_plus_48 (by decide +kernel) rfl ?_
        refine px_iload_n (q := 52) dI_M_plus_51 rfl rfl ?_
        refine px_imulN (q := 53) dI_M_plus_52 rfl ?_
        refine px_iload (q := 55) dI_M_plus_53 rfl rfl ?_
        refine px_iaddN (q := 56) dI_M_plus_55 rfl ?_
        refine px_iload (q := 58) dI_M_plus_56 rfl rfl ?_
        refine px_iconst (q := 59) (v := nI 2) dI_M_plus_58 (by decide +kernel) rfl ?_
        refine px_iremN (q := 60) dI_M_plus_59 (by omega) (by omega) (by omega) rfl ?_
        refine px_iast (q := 61) dI_M_plus_60 rfl (by omega) (by omega) rfl ?_
        refine px_iload (q := 63) dI_M_plus_61 rfl rfl ?_
        refine px_iconst (q := 64) (v := nI 2) dI_M_plus_63 (by decide +kernel) rfl ?_
        refine px_idivN (q := 65) dI_M_plus_64 (by omega) (by omega) (by omega) rfl ?_
        refine px_istore_n (q := 66) dI_M_plus_65 rfl (by decide) rfl rfl ?_
        refine px_iinc (q := 69) dI_M_plus_66 rfl (ic_1 _) (by decide) rfl rfl ?_
        refine px_goto (tgt := 5) dI_M_plus_69 (by decide) ?_
        rw [yr_s, yr_yr]
        refine px_keep [0, 1, 2, 3, 4] rfl ?_
        refine ih (i + 1) _ _ (by omega) (by rw [cy_s, hc]) (fun j hj => ?_) (fun p h4 => ?_)
        · by_cases e : j = i
          · subst e; rw [pk_us, cy_b, hc]
          · rw [pk_un (by omega)]; exact q1 j (by omega)
        · rw [pk_un (by omega)]; exact q2 p (by omega)
  exact px_XY rfl yr_id.symm (key 129 0 0 (Y 25) rfl (cy_0 _ _).symm (fun j hj => absurd hj (by omega)) (fun _ _ => rfl))
theorem ng_ge {k : Nat} (h1 : 1 ≤ k) (h : k < 2 ^ 31) : ¬ 0 ≤ -nI k := by
  rw [Int32.le_iff_toInt_le, ng_T h]
  show ¬ (0 : Int) ≤ -(k : Int)
  omega
theorem ng_2 {k : Nat} (h : k ≤ 2) : -nI k + nI 2 = nI (2 - k) := by
  rw [Int32.add_comm, ← Int32.sub_eq_add_neg, pk_sub h]
theorem c_M_minus {w x : Nat} (hw : w < 6) (hx : x < 6) (hwx : w ≠ x) (hk : wk_ (Y 25) W) (hle : W x ≤ W w) (hp : ∀ f, wk_ f (va_up W w (W w - W x)) → Post none X (yr_ Y 25 f)) : pw_Met l g mM_minus [.ref (ad_ g 23), .int (nI w), .int (nI x)] X Y Post := by
  have hvw := hk w hw
  have hvx := hk x hx
  obtain ⟨D, hD⟩ : ∃ D, W w = D + W x := ⟨W w - W x, by omega⟩
  have hDe : W w - W x = D := by omega
  have hDl : D < 2 ^ 129 := Nat.lt_of_le_of_lt (by omega) hvw.1
  rw [hDe] at hp
  refine pw_ofW (by decide +kernel) rfl (Nat.le_of_ble_eq_true rfl) rfl (fun sz => ?_)
  refine px_iconst (q := 1) (v := nI 0) dI_M_minus_0 (by decide +kernel) rfl ?_
  refine px_istore_n (q := 2) dI_M_minus_1 rfl (by decide) rfl rfl ?_
  refine px_iconst (q := 3) (v := nI 0) dI_M_minus_2 (by decide +kernel) rfl ?_
  refine px_istore (q := 5) dI_M_minus_3 (by decide) rfl rfl ?_
  have key : ∀ (d i c : Nat) (f : Nat → Int32), i + d = 129 → c = cy_ D (W x) i → (∀ j, j < i → f (129 * w + j) = nI (D / 2 ^ j % 2)) → (∀ p, p < 129 * w ∨ 129 * w + i ≤ p → f p = Y 25 p) → pw_W l g mM_minus sz (pw_qM g sz Post 0 0) 5 [(0, .ref (ad_ g 23)), (1, .int (nI w)), (2, .int (nI x)), (3, .int (nI c)), (4, .int (nI i))] [] X (yr_ Y 25 f) := by
    intro d
    induction d with
    | zero =>
      intro i c f hi hc q1 q2
      refine px_iload (q := 7) dI_M_minus_5 rfl rfl ?_
      refine px_sipush (q := 10) (v := nI 129) dI_M_minus_7 (by decide +kernel) rfl ?_
      refine px_icmp_geN (q := 13) (tgt := 88) dI_M_minus_10 (by omega) (by omega) (by decide) rfl (fun b10 => ?_) (fun b10 => ?_)
      · refine px_vret dI_M_minus_88 rfl ?_
        exact hp f (wk_put hk hDl (fun j hj => q1 j (by omega)) (fun p h4 => q2 p (by omega)))
      · omega
    | succ d ih =>
      intro i c f hi hc q1 q2
      have ha := hvw.2 i (by omega)
      have hb := hvx.2 i (by omega)
      have hcb := cy_b D (W x) i
      have hcs := cy_s D (W x) i
      have hc2 := cy_lt D (W x) i
      rw [← hc] at hc2 hcb hcs
      rw [hD, hcb] at ha
      have hdk := ms_ D i
      have hbk := ms_ (W x) i
      generalize hdg : D / 2 ^ i % 2 = dk at ha hcs hdk
      generalize W x / 2 ^ i % 2 = bk at ha hb hcs hbk
      have nxt : ∀ (c' : Nat), c' = (dk + bk + c) / 2 → pw_W l g mM_minus sz (pw_qM g sz Post 0 0) 5 [(0, .ref (ad_ g 23)), (1, .int (nI w)), (2, .int (nI x)), (3, .int (nI c')), (4, .int (nI (i + 1)))] [] X (yr_ Y 25 (upd f (129 * w + i) (nI dk))) := by
        intro c' hc'
        refine ih (i + 1) _ _ (by omega) (by rw [hc', hcs]) (fun j hj => ?_) (fun p h4 => ?_)
        · by_cases e : j = i
          · subst e; rw [pk_us, hdg]
          · rw [pk_un (by omega)]; exact q1 j (by omega)
        · rw [pk_un (by omega)]; exact q2 p (by omega)
      refine px_iload (q := 7) dI_M_minus_5 rfl rfl ?_
      refine px_sipush (q := 10) (v := nI 129) dI_M_minus_7 (by decide +kernel) rfl ?_
      refine px_icmp_geN (q := 13) (tgt := 88) dI_M_minus_10 (by omega) (by omega) (by decide) rfl (fun b10 => ?_) (fun b10 => ?_)
      · omega
      · by_cases z : (dk + bk + c) / 2 = 0
        · have za : (dk + bk + c) % 2 = dk + bk + c := by omega
          rw [za] at ha
          refine px_aload_n (q := 14) dI_M_minus_13 rfl rfl ?_
          refine px_getM (q := 17) (j := 1) dI_M_minus_14 wf_M_13 rfl (by decide) rfl rfl ?_
          refine px_sipush (q := 20) (v := nI 129) dI_M_minus_17 (by decide +kernel) rfl ?_
          refine px_iload_n (q := 21) dI_M_minus_20 rfl rfl ?_
          refine px_imulN (q := 22) dI_M_minus_21 rfl ?_
          refine px_iload (q := 24) dI_M_minus_22 rfl rfl ?_
          refine px_iaddN (q := 25) dI_M_minus_24 rfl ?_
          refine px_iald (q := 26) dI_M_minus_25 rfl (by omega) (by omega) (ys_ ((q2 (129 * w + i) (by omega)).trans ha)) rfl ?_
          refine px_aload_n (q := 27) dI_M_minus_26 rfl rfl ?_
          refine px_getM (q := 30) (j := 1) dI_M_minus_27 wf_M_13 rfl (by decide) rfl rfl ?_
          refine px_sipush (q := 33) (v := nI 129) dI_M_minus_30 (by decide +kernel) rfl ?_
          refine px_iload_n (q := 34) dI_M_minus_33 rfl rfl ?_
          refine px_imulN (q := 35) dI_M_minus_34 rfl ?_
          refine px_iload (q := 37) dI_M_minus_35 rfl rfl ?_
          refine px_iaddN (q := 38) dI_M_minus_37 rfl ?_
          refine px_iald (q := 39) dI_M_minus_38 rfl (by omega) (by omega) (ys_ ((q2 (129 * x + i) (by omega)).trans hb)) rfl ?_
          refine px_isubN (q := 40) dI_M_minus_39 (by omega) rfl ?_
          refine px_iload_n (q := 41) dI_M_minus_40 rfl rfl ?_
          refine px_isubN (q := 42) dI_M_minus_41 (by omega) rfl ?_
          refine px_istore (q := 44) dI_M_minus_42 (by decide) rfl rfl ?_
          refine px_iload (q := 46) dI_M_minus_44 rfl rfl ?_
          refine px_if_geN (q := 49) (tgt := 53) dI_M_minus_46 (by omega) (by decide) rfl (fun b46 => ?_) (fun b46 => ?_)
          · refine px_iconst (q := 54) (v := nI 0) dI_M_minus_53 (by decide +kernel) rfl ?_
            refine px_istore_n (q := 55) dI_M_minus_54 rfl (by decide) rfl rfl ?_
            refine px_aload_n (q := 56) dI_M_minus_55 rfl rfl ?_
            refine px_getM (q := 59) (j := 1) dI_M_minus_56 wf_M_13 rfl (by decide) rfl rfl ?_
            refine px_sipush (q := 62) (v := nI 129) dI_M_minus_59 (by decide +kernel) rfl ?_
            refine px_iload_n (q := 63) dI_M_minus_62 rfl rfl ?_
            refine px_imulN (q := 64) dI_M_minus_63 rfl ?_
            refine px_iload (q := 66) dI_M_minus_64 rfl rfl ?_
            refine px_iaddN (q := 67) dI_M_minus_66 rfl ?_
            refine px_iload (q := 69) dI_M_minus_67 rfl rfl ?_
            refine px_if_geN (q := 72) (tgt := 79) dI_M_minus_69 (by omega) (by decide) rfl (fun b69 => ?_) (fun b69 => ?_)
            · refine px_iload (q := 81) dI_M_minus_79 rfl rfl ?_
              refine px_iast (q := 82) dI_M_minus_81 rfl (by omega) (by omega) rfl ?_
              refine px_iinc (q := 85) dI_M_minus_82 rfl (ic_1 _) (by decide) rfl rfl ?_
              refine px_goto (tgt := 5) dI_M_minus_85 (by decide) ?_
              rw [yr_s, yr_yr, show dk + bk + c - bk - c = dk by omega]
              refine px_keep [0, 1, 2, 3, 4] rfl ?_
              exact nxt 0 z.symm
            · exact b69.elim
          · exact b46.elim
        · refine px_aload_n (q := 14) dI_M_minus_13 rfl rfl ?_
          refine px_getM (q := 17) (j := 1) dI_M_minus_14 wf_M_13 rfl (by decide) rfl rfl ?_
          refine px_sipush (q := 20) (v := nI 129) dI_M_minus_17 (by decide +kernel) rfl ?_
          refine px_iload_n (q := 21) dI_M_minus_20 rfl rfl ?_
          refine px_imulN (q := 22) dI_M_minus_21 rfl ?_
          refine px_iload (q := 24) dI_M_minus_22 rfl rfl ?_
          refine px_iaddN (q := 25) dI_M_minus_24 rfl ?_
          refine px_iald (q := 26) dI_M_minus_25 rfl (by omega) (by omega) (ys_ ((q2 (129 * w + i) (by omega)).trans ha)) rfl ?_
          refine px_aload_n (q := 27) dI_M_minus_26 rfl rfl ?_
          refine px_getM (q := 30) (j := 1) dI_M_minus_27 wf_M_13 rfl (by decide) rfl rfl ?_
          refine px_sipush (q := 33) (v := nI 129) dI_M_minus_30 (by decide +kernel) rfl ?_
          refine px_iload_n (q := 34) dI_M_minus_33 rfl rfl ?_
          refine px_imulN (q := 35) dI_M_minus_34 rfl ?_
          refine px_iload (q := 37) dI_M_minus_35 rfl rfl ?_
          refine px_iaddN (q := 38) dI_M_minus_37 rfl ?_
          refine px_iald (q := 39) dI_M_minus_38 rfl (by omega) (by omega) (ys_ ((q2 (129 * x + i) (by omega)).trans hb)) rfl ?_
          refine px_isub (q := 40) dI_M_minus_39 rfl ?_
          refine px_iload_n (q := 41) dI_M_minus_40 rfl rfl ?_
          refine px_isub (q := 42) dI_M_minus_41 rfl ?_
          have ez : nI ((dk + bk + c) % 2) - nI bk - nI c = -nI (bk + c - (dk + bk + c) % 2) := by
            rw [ss_, ng_sub (by omega)]
          refine px_ti ez ?_
          have hge : ¬ 0 ≤ -nI (bk + c - (dk + bk + c) % 2) := ng_ge (by omega) (by omega)
          refine px_istore (q := 44) dI_M_minus_42 (by decide) rfl rfl ?_
          refine px_iload (q := 46) dI_M_minus_44 rfl rfl ?_
          refine px_if_ge (q := 49) (tgt := 53) dI_M_minus_46 (by decide) rfl (fun b46 => ?_) (fun b46 => ?_)
          · exact absurd b46 hge
          · refine px_iconst (q := 50) (v := nI 1) dI_M_minus_49 (by decide +kernel) rfl ?_
            refine px_goto (tgt := 54) dI_M_minus_50 (by decide) ?_
            refine px_istore_n (q := 55) dI_M_minus_54 rfl (by decide) rfl rfl ?_
            refine px_aload_n (q := 56) dI_M_minus_55 rfl rfl ?_
            refine px_getM (q := 59) (j := 1) dI_M_minus_56 wf_M_13 rfl (by decide) rfl rfl ?_
            refine px_sipush (q := 62) (v := nI 129) dI_M_minus_59 (by decide +kernel) rfl ?_
            refine px_iload_n (q := 63) dI_M_minus_62 rfl rfl ?_
            refine px_imulN (q := 64) dI_M_minus_63 rfl ?_
            refine px_iload (q := 66) dI_M_minus_64 rfl rfl ?_
            refine px_iaddN (q := 67) dI_M_minus_66 rfl ?_
            refine px_iload (q := 69) dI_M_minus_67 rfl rfl ?_
            refine px_if_ge (q := 72) (tgt := 79) dI_M_minus_69 (by decide) rfl (fun b69 => ?_) (fun b69 => ?_)
            · exact absurd b69 hge
            · refine px_iload (q := 74) dI_M_minus_72 rfl rfl ?_
              refine px_iconst (q := 75) (v := nI 2) dI_M_minus_74 (by decide +kernel) rfl ?_
              refine px_iadd (q := 76) dI_M_minus_75 rfl ?_
              refine px_ti (y := nI dk) (by rw [ng_2 (by omega), show 2 - (bk + c - (dk + bk + c) % 2) = dk by omega]) ?_
              refine px_goto (tgt := 81) dI_M_minus_76 (by decide) ?_
              refine px_iast (q := 82) dI_M_minus_81 rfl (by omega) (by omega) rfl ?_
              refine px_iinc (q := 85) dI_M_minus_82 rfl (ic_1 _) (by decide) rfl rfl ?_
              refine px_goto (tgt := 5) dI_M_minus_85 (by decide) ?_
              rw [yr_s, yr_yr]
              refine px_keep [0, 1, 2, 3, 4] rfl ?_
              exact nxt 1 (by omega)
  exact px_XY rfl yr_id.symm (key 129 0 0 (Y 25) rfl (cy_0 _ _).symm (fun j hj => absurd hj (by omega)) (fun _ _ => rfl))
theorem c_M_twice {w low : Nat} (hw : w < 6) (hl : low < 2) (hk : wk_ (Y 25) W) (h1 : W w < 2 ^ 128 → ∀ f, wk_ f (va_up W w (2 * W w + low)) → Post (some (.int (nI 1))) X (yr_ Y 25 f)) (h0 : 2 ^ 128 ≤ W w → ∀ f, wk_ f (va_up W w ((2 * W w + low) % 2 ^ 129)) → Post (some (.int (nI 0))) X (yr_ Y 25 f)) : pw_Met l g mM_twice [.ref (ad_ g 23), .int (nI w), .int (nI low)] X Y Post := by
  have hv := hk w hw
  have hh := hv.2 128 (by decide)
  have hp129 : 2 ^ 129 = 2 * 2 ^ 128 := by decide
  refine pw_ofW (by decide +kernel) rfl (Nat.le_of_ble_eq_true rfl) rfl (fun sz => ?_)
  refine px_aload_n (q := 1) dI_M_twice_0 rfl rfl ?_
  refine px_getM (q := 4) (j := 1) dI_M_twice_1 wf_M_13 rfl (by decide) rfl rfl ?_
  refine px_sipush (q := 7) (v := nI 129) dI_M_twice_4 (by decide +kernel) rfl ?_
  refine px_iload_n (q := 8) dI_M_twice_7 rfl rfl ?_
  refine px_imulN (q := 9) dI_M_twice_8 rfl ?_
  refine px_sipush (q := 12) (v := nI 128) dI_M_twice_9 (by decide +kernel) rfl ?_
  refine px_iaddN (q := 13) dI_M_twice_12 rfl ?_
  refine px_iald (q := 14) dI_M_twice_13 rfl (by omega) (by omega) hh rfl ?_
  refine px_istore_n (q := 15) dI_M_twice_14 rfl (by decide) rfl rfl ?_
  refine px_sipush (q := 18) (v := nI 128) dI_M_twice_15 (by decide +kernel) rfl ?_
  refine px_istore (q := 20) dI_M_twice_18 (by decide) rfl rfl ?_
  have key : ∀ (i : Nat) (f : Nat → Int32), i ≤ 128 → (∀ j, i < j → j < 129 → f (129 * w + j) = nI (W w / 2 ^ (j - 1) % 2)) → (∀ p, p < 129 * w + i + 1 ∨ 129 * w + 129 ≤ p → f p = Y 25 p) → pw_W l g mM_twice sz (pw_qM g sz Post 0 0) 20 [(0, .ref (ad_ g 23)), (1, .int (nI w)), (2, .int (nI low)), (3, .int (nI (W w / 2 ^ 128 % 2))), (4, .int (nI i))] [] X (yr_ Y 25 f) := by
    intro i
    induction i with
    | zero =>
      intro f hi q1 q2
      refine px_iload (q := 22) dI_M_twice_20 rfl rfl ?_
      refine px_if_leN (q := 25) (tgt := 59) dI_M_twice_22 (by omega) (by decide) rfl (fun b22 => ?_) (fun b22 => ?_)
      · refine px_aload_n (q := 60) dI_M_twice_59 rfl rfl ?_
        refine px_getM (q := 63) (j := 1) dI_M_twice_60 wf_M_13 rfl (by decide) rfl rfl ?_
        refine px_sipush (q := 66) (v := nI 129) dI_M_twice_63 (by decide +kernel) rfl ?_
        refine px_iload_n (q := 67) dI_M_twice_66 rfl rfl ?_
        refine px_imulN (q := 68) dI_M_twice_67 rfl ?_
        refine px_iload_n (q := 69) dI_M_twice_68 rfl rfl ?_
        refine px_iast (q := 70) dI_M_twice_69 rfl (by omega) (by omega) rfl ?_
        rw [yr_s, yr_yr]
        have hwk : wk_ (upd f (129 * w) (nI low)) (va_up W w ((2 * W w + low) % 2 ^ 129)) := by
          refine wk_put hk (Nat.mod_lt _ (p2_ 129)) (fun j hj => ?_) (fun p h4 => ?_)
          · rw [md_bit hj]
            by_cases e : j = 0
            · subst e
              rw [Nat.add_zero, pk_us, Nat.pow_zero, Nat.div_one, show (2 * W w + low) % 2 = low by omega]
            · rw [pk_un (by omega), q1 j (by omega) hj, tw_bit hl (by omega)]
          · rw [pk_un (by omega)]; exact q2 p (by omega)
        refine px_iload_n (q := 71) dI_M_twice_70 rfl rfl ?_
        refine px_if_neN (q := 74) (tgt := 78) dI_M_twice_71 (by omega) (by decide) rfl (fun b71 => ?_) (fun b71 => ?_)
        · refine px_iconst (q := 79) (v := nI 0) dI_M_twice_78 (by decide +kernel) rfl ?_
          refine px_zret dI_M_twice_79 rfl (by decide +kernel) ?_
          refine h0 (ge_s_ ?_) _ hwk
          rcases ms_ (W w) 128 with q | q
          · exact absurd q b71
          · exact q
        · refine px_iconst (q := 75) (v := nI 1) dI_M_twice_74 (by decide +kernel) rfl ?_
          refine px_goto (tgt := 79) dI_M_twice_75 (by decide) ?_
          refine px_zret dI_M_twice_79 rfl (by decide +kernel) ?_
          have hlt : W w < 2 ^ 128 := lt_s_ hv.1 b71
          rw [Nat.mod_eq_of_lt (by rw [hp129]; generalize 2 ^ 128 = P at hlt ⊢; omega)] at hwk
          exact h1 hlt _ hwk
      · omega
    | succ i ih =>
      intro f hi q1 q2
      have hb := hv.2 i (by omega)
      refine px_iload (q := 22) dI_M_twice_20 rfl rfl ?_
      refine px_if_leN (q := 25) (tgt := 59) dI_M_twice_22 (by omega) (by decide) rfl (fun b22 => ?_) (fun b22 => ?_)
      · omega
      · refine px_aload_n (q := 26) dI_M_twice_25 rfl rfl ?_
        refine px_getM (q := 29) (j := 1) dI_M_twice_26 wf_M_13 rfl (by decide) rfl rfl ?_
        refine px_sipush (q := 32) (v := nI 129) dI_M_twice_29 (by decide +kernel) rfl ?_
        refine px_iload_n (q := 33) dI_M_twice_32 rfl rfl ?_
        refine px_imulN (q := 34) dI_M_twice_33 rfl ?_
        refine px_iload (q := 36) dI_M_twice_34 rfl rfl ?_
        refine px_iaddN (q := 37) dI_M_twice_36 rfl ?_
        refine px_aload_n (q := 38) dI_M_twice_37 rfl rfl ?_
        refine px_getM (q := 41) (j := 1) dI_M_twice_38 wf_M_13 rfl (by decide) rfl rfl ?_
        refine px_sipush (q := 44) (v := nI 129) dI_M_twice_41 (by decide +kernel) rfl ?_
        refine px_iload_n (q := 45) dI_M_twice_44 rfl rfl ?_
        refine px_imulN (q := 46) dI_M_twice_45 rfl ?_
        refine px_iload (q := 48) dI_M_twice_46 rfl rfl ?_
        refine px_iaddN (q := 49) dI_M_twice_48 rfl ?_
        refine px_iconst (q := 50) (v := nI 1) dI_M_twice_49 (by decide +kernel) rfl ?_
        refine px_isubN (q := 51) dI_M_twice_50 (by omega) rfl ?_
        refine px_iald (q := 52) dI_M_twice_51 rfl (by omega) (by omega) (ys_ ((q2 (129 * w + (i + 1) - 1) (by omega)).trans hb)) rfl ?_
        refine px_iast (q := 53) dI_M_twice_52 rfl (by omega) (by omega) rfl ?_
        refine px_iinc (q := 56) dI_M_twice_53 rfl (ic_d (by omega)) (by decide) rfl rfl ?_
        refine px_goto (tgt := 20) dI_M_twice_56 (by decide) ?_
        rw [yr_s, yr_yr]
        refine ih _ (by omega) (fun j h4 h5 => ?_) (fun p h4 => ?_)
        · by_cases e : j = i + 1
          · subst e; rw [pk_us]; rfl
          · rw [pk_un (by omega)]; exact q1 j (by omega) h5
        · rw [pk_un (by omega)]; exact q2 p (by omega)
  exact px_XY rfl yr_id.symm (key 128 (Y 25) (by omega) (fun j h4 h5 => absurd h4 (by omega)) (fun _ _ => rfl))
theorem c_M_top {w : Nat} (hw : w < 6) (hk : wk_ (Y 25) W) (hp : ∀ T, T ≤ 129 → bl_ (W w) T → Post (some (.int (mI T))) X Y) : pw_Met l g mM_top [.ref (ad_ g 23), .int (nI w)] X Y Post := by
  have hv := hk w hw
  refine pw_ofW (by decide +kernel) rfl (Nat.le_of_ble_eq_true rfl) rfl (fun sz => ?_)
  refine px_sipush (q := 3) (v := nI 128) dI_M_top_0 (by decide +kernel) rfl ?_
  refine px_istore_n (q := 4) dI_M_top_3 rfl (by decide) rfl rfl ?_
  have key : ∀ K, K ≤ 129 → W w < 2 ^ K → pw_W l g mM_top sz (pw_qM g sz Post 0 0) 4 [(0, .ref (ad_ g 23)), (1, .int (nI w)), (2, .int (mI K))] [] X Y := by
    intro K
    induction K with
    | zero =>
      intro hK hlt
      refine px_iload_n (q := 5) dI_M_top_4 rfl rfl ?_
      refine px_if_ltM (q := 8) (tgt := 29) dI_M_top_5 (by omega) (by decide) rfl (fun b5 => ?_) (fun b5 => ?_)
      · refine px_iload_n (q := 30) dI_M_top_29 rfl rfl ?_
        refine px_iret dI_M_top_30 rfl ?_
        exact hp 0 (by omega) ⟨hlt, fun q => absurd q (by omega)⟩
      · omega
    | succ K ih =>
      intro hK hlt
      have hb := hv.2 K (by omega)
      rw [mI_s]
      refine px_iload_n (q := 5) dI_M_top_4 rfl rfl ?_
      refine px_if_ltN (q := 8) (tgt := 29) dI_M_top_5 (by omega) (by decide) rfl (fun b5 => ?_) (fun b5 => ?_)
      · exact b5.elim
      · refine px_aload_n (q := 9) dI_M_top_8 rfl rfl ?_
        refine px_getM (q := 12) (j := 1) dI_M_top_9 wf_M_13 rfl (by decide) rfl rfl ?_
        refine px_sipush (q := 15) (v := nI 129) dI_M_top_12 (by decide +kernel) rfl ?_
        refine px_iload_n (q := 16) dI_M_top_15 rfl rfl ?_
        refine px_imulN (q := 17) dI_M_top_16 rfl ?_
        refine px_iload_n (q := 18) dI_M_top_17 rfl rfl ?_
        refine px_iaddN (q := 19) dI_M_top_18 rfl ?_
        refine px_iald (q := 20) dI_M_top_19 rfl (by omega) (by omega) hb rfl ?_
        refine px_if_neN (q := 23) (tgt := 29) dI_M_top_20 (by omega) (by decide) rfl (fun b20 => ?_) (fun b20 => ?_)
        · refine px_iload_n (q := 30) dI_M_top_29 rfl rfl ?_
          refine px_iret dI_M_top_30 rfl ?_
          rw [← mI_s K]
          refine hp (K + 1) hK ⟨hlt, fun _ => ge_s_ ?_⟩
          rcases ms_ (W w) K with q | q
          · exact absurd q b20
          · exact q
        · refine px_iinc (q := 26) dI_M_top_23 rfl (ic_m _) (by decide) rfl rfl ?_
          refine px_goto (tgt := 4) dI_M_top_26 (by decide) ?_
          exact ih (by omega) (lt_s_ hlt b20)
  exact key 129 (by omega) hv.1
theorem c_M_isLong {w : Nat} (hw : w < 6) (hk : wk_ (Y 25) W) (h1 : 2 ^ 128 ≤ W w → Post (some (.int (nI 1))) X Y) (h0 : W w < 2 ^ 128 → Post (some (.int (nI 0))) X Y) : pw_Met l g mM_isLong [.ref (ad_ g 23), .int (nI w)] X Y Post := by
  have hv := hk w hw
  have hh := hv.2 128 (by decide)
  refine pw_ofW (by decide +kernel) rfl (Nat.le_of_ble_eq_true rfl) rfl (fun sz => ?_)
  refine px_aload_n (q := 1) dI_M_isLong_0 rfl rfl ?_
  refine px_getM (q := 4) (j := 1) dI_M_isLong_1 wf_M_13 rfl (by decide) rfl rfl ?_
  refine px_sipush (q := 7) (v := nI 129) dI_M_isLong_4 (by decide +kernel) rfl ?_
  refine px_iload_n (q := 8) dI_M_isLong_7 rfl rfl ?_
  refine px_imulN (q := 9) dI_M_isLong_8 rfl ?_
  refine px_sipush (q := 12) (v := nI 128) dI_M_isLong_9 (by decide +kernel) rfl ?_
  refine px_iaddN (q := 13) dI_M_isLong_12 rfl ?_
  refine px_iald (q := 14) dI_M_isLong_13 rfl (by omega) (by omega) hh rfl ?_
  refine px_iconst (q := 15) (v := nI 1) dI_M_isLong_14 (by decide +kernel) rfl ?_
  refine px_icmp_neN (q := 18) (tgt := 22) dI_M_isLong_15 (by omega) (by omega) (by decide) rfl (fun b15 => ?_) (fun b15 => ?_)
  · refine px_iconst (q := 23) (v := nI 0) dI_M_isLong_22 (by decide +kernel) rfl ?_
    refine px_zret dI_M_isLong_23 rfl (by decide +kernel) ?_
    refine h0 (lt_s_ hv.1 ?_)
    rcases ms_ (W w) 128 with q | q
    · exact q
    · exact absurd q b15
  · refine px_iconst (q := 19) (v := nI 1) dI_M_isLong_18 (by decide +kernel) rfl ?_
    refine px_goto (tgt := 23) dI_M_isLong_19 (by decide) ?_
    refine px_zret dI_M_isLong_23 rfl (by decide +kernel) ?_
    exact h1 (ge_s_ b15)
theorem c_M_refused {z c : Nat} (hz : z < 2) (hp : ∀ f, f 3 = nI (if z = 0 then 0 else c) → Post (some (.int (nI z))) X (yr_ Y 23 f)) : pw_Met l g mM_refused [.ref (ad_ g 23), .int (nI z), .int (nI c)] X Y Post := by
  refine pw_ofW (by decide +kernel) rfl (Nat.le_of_ble_eq_true rfl) rfl (fun sz => ?_)
  rcases (show z = 0 ∨ z = 1 by omega) with rfl | rfl
  · refine px_aload_n (q := 1) dI_M_refused_0 rfl rfl ?_
    refine px_iload_n (q := 2) dI_M_refused_1 rfl rfl ?_
    refine px_if_eqN (q := 5) (tgt := 9) dI_M_refused_2 (by omega) (by decide) rfl (fun b2 => ?_) (fun b2 => ?_)
    · refine px_iconst (q := 10) (v := nI 0) dI_M_refused_9 (by decide +kernel) rfl ?_
      refine px_putM3 (q := 13) dI_M_refused_10 wf_M_19 rfl ?_
      refine px_iload_n (q := 14) dI_M_refused_13 rfl rfl ?_
      refine px_zret dI_M_refused_14 rfl (by decide +kernel) ?_
      exact hp _ (by simp [upd])
    · exact absurd rfl b2
  · refine px_aload_n (q := 1) dI_M_refused_0 rfl rfl ?_
    refine px_iload_n (q := 2) dI_M_refused_1 rfl rfl ?_
    refine px_if_eqN (q := 5) (tgt := 9) dI_M_refused_2 (by omega) (by decide) rfl (fun b2 => ?_) (fun b2 => ?_)
    · exact absurd b2 (by decide)
    · refine px_iload_n (q := 6) dI_M_refused_5 rfl rfl ?_
      refine px_goto (tgt := 10) dI_M_refused_6 (by decide) ?_
      refine px_putM3 (q := 13) dI_M_refused_10 wf_M_19 rfl ?_
      refine px_iload_n (q := 14) dI_M_refused_13 rfl rfl ?_
      refine px_zret dI_M_refused_14 rfl (by decide +kernel) ?_
      exact hp _ (by simp [upd])
theorem c_M_thrown {c : Int32} (hc : Y 23 3 = c) (hp : Post (some (.int c)) X Y) : pw_Met l g mM_thrown [.ref (ad_ g 23)] X Y Post := by
  refine pw_ofW (by decide +kernel) rfl (Nat.le_of_ble_eq_true rfl) rfl (fun sz => ?_)
  refine px_aload_n (q := 1) dI_M_thrown_0 rfl rfl ?_
  refine px_getM (q := 4) (j := 3) dI_M_thrown_1 wf_M_19 rfl (by decide) rfl rfl ?_
  refine px_ti (hc) ?_
  refine px_iret dI_M_thrown_4 rfl ?_
  exact hp
end CM2
