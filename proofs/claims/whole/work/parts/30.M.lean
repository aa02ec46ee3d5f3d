/-! the reference's calls order and modulus -/
section CM9
variable {l : Launch} {g : pw_G} {X : pw_X} {Y : pw_Y} {Post : pw_P} {v : Nat → Nat}
theorem c_M_order_bad {a m : Int32} (hbad : bd_ a) (hm : mz_ Y v) (hp : ∀ Y', mz_ Y' v → mf_ Y Y' → Y' 23 3 = nI 1 → Post (some (.int (nI 0))) X Y') : pw_Met l g mM_order [.ref (ad_ g 23), .int a, .int m] X Y Post := by
  refine pw_ofW (by decide +kernel) rfl (Nat.le_of_ble_eq_true rfl) rfl (fun sz => ?_)
  refine px_aload_n (q := 1) dI_M_order_0 rfl rfl ?_
  refine px_iload_n (q := 2) dI_M_order_1 rfl rfl ?_
  refine px_callS1 (q := 5) (ν := mM_none) dI_M_order_2 wl_M_23 ws_M_none wb_M_none wi_M ⟨rfl, rfl⟩ (by decide +kernel) ⟨(Nat.le_of_ble_eq_true rfl), (Nat.le_of_ble_eq_true rfl)⟩ (Nat.le_of_ble_eq_true rfl) rfl (c_M_noneB hbad ?_)
  refine px_iconst (q := 6) (v := nI 1) dI_M_order_5 (by decide +kernel) rfl ?_
  refine px_callV2 (q := 9) (ν := mM_refused) dI_M_order_6 (by decide) rfl rfl wl_M_27 wm_M_refused wv_M_refused wb_M_refused wi_M ⟨rfl, rfl⟩ (by decide +kernel) ⟨(Nat.le_of_ble_eq_true rfl), (Nat.le_of_ble_eq_true rfl)⟩ (Nat.le_of_ble_eq_true rfl) rfl (c_M_refused (by decide) (fun f hf => ?_))
  refine px_if_neN (q := 12) (tgt := 37) dI_M_order_9 (by omega) (by decide) rfl (fun b9 => ?_) (fun b9 => ?_)
  · refine px_iconst (q := 38) (v := nI 0) dI_M_order_37 (by decide +kernel) rfl ?_
    refine px_iret dI_M_order_38 rfl ?_
    exact hp _ (mz_c hm) (mf_y (by decide) mf_0) (by rw [yr_s, hf]; rfl)
  · exact absurd b9 (by decide)
theorem c_M_order_m {a : Nat} {m : Int32} (ha : a < 6) (hbad : ¬ ∃ k, 2 ≤ k ∧ k ≤ 1000 ∧ m = nI k) (hm : mz_ Y v) (hp : ∀ Y', mz_ Y' v → mf_ Y Y' → Y' 23 3 = nI 2 → Post (some (.int (nI 0))) X Y') : pw_Met l g mM_order [.ref (ad_ g 23), .int (nI a), .int m] X Y Post := by
  refine pw_ofW (by decide +kernel) rfl (Nat.le_of_ble_eq_true rfl) rfl (fun sz => ?_)
  have fin : ∀ f, pw_W l g mM_order sz (pw_qM g sz Post 0 0) 25 [(0, .ref (ad_ g 23)), (1, .int (nI a)), (2, .int m)] [.ref (ad_ g 23)] X (yr_ Y 23 f) := by
    intro f
    refine px_iconst (q := 26) (v := nI 1) dI_M_order_25 (by decide +kernel) rfl ?_
    refine px_goto (tgt := 30) dI_M_order_26 (by decide) ?_
    refine px_iconst (q := 31) (v := nI 2) dI_M_order_30 (by decide +kernel) rfl ?_
    refine px_callV2 (q := 34) (ν := mM_refused) dI_M_order_31 (by decide) rfl rfl wl_M_27 wm_M_refused wv_M_refused wb_M_refused wi_M ⟨rfl, rfl⟩ (by decide +kernel) ⟨(Nat.le_of_ble_eq_true rfl), (Nat.le_of_ble_eq_true rfl)⟩ (Nat.le_of_ble_eq_true rfl) rfl (c_M_refused (by decide) (fun f2 hf2 => ?_))
    rw [yr_yr]
    refine px_if_eqN (q := 37) (tgt := 39) dI_M_order_34 (by omega) (by decide) rfl (fun b34 => ?_) (fun b34 => ?_)
    · exact absurd b34 (by decide)
    · refine px_iconst (q := 38) (v := nI 0) dI_M_order_37 (by decide +kernel) rfl ?_
      refine px_iret dI_M_order_38 rfl ?_
      exact hp _ (mz_c hm) (mf_y (by decide) mf_0) (by rw [yr_s, hf2]; rfl)
  refine px_aload_n (q := 1) dI_M_order_0 rfl rfl ?_
  refine px_iload_n (q := 2) dI_M_order_1 rfl rfl ?_
  refine px_callS1 (q := 5) (ν := mM_none) dI_M_order_2 wl_M_23 ws_M_none wb_M_none wi_M ⟨rfl, rfl⟩ (by decide +kernel) ⟨(Nat.le_of_ble_eq_true rfl), (Nat.le_of_ble_eq_true rfl)⟩ (Nat.le_of_ble_eq_true rfl) rfl (c_M_noneG ha ?_)
  refine px_iconst (q := 6) (v := nI 1) dI_M_order_5 (by decide +kernel) rfl ?_
  refine px_callV2 (q := 9) (ν := mM_refused) dI_M_order_6 (by decide) rfl rfl wl_M_27 wm_M_refused wv_M_refused wb_M_refused wi_M ⟨rfl, rfl⟩ (by decide +kernel) ⟨(Nat.le_of_ble_eq_true rfl), (Nat.le_of_ble_eq_true rfl)⟩ (Nat.le_of_ble_eq_true rfl) rfl (c_M_refused (by decide) (fun f hf => ?_))
  refine px_if_neN (q := 12) (tgt := 37) dI_M_order_9 (by omega) (by decide) rfl (fun b9 => ?_) (fun b9 => ?_)
  · exact absurd rfl b9
  · refine px_aload_n (q := 13) dI_M_order_12 rfl rfl ?_
    refine px_iload_n (q := 14) dI_M_order_13 rfl rfl ?_
    refine px_iconst (q := 15) (v := nI 2) dI_M_order_14 (by decide +kernel) rfl ?_
    refine px_icmp_lt (q := 18) (tgt := 25) dI_M_order_15 (by decide) rfl (fun b15 => ?_) (fun b15 => ?_)
    · exact fin f
    · refine px_iload_n (q := 19) dI_M_order_18 rfl rfl ?_
      refine px_sipush (q := 22) (v := nI 1000) dI_M_order_19 (by decide +kernel) rfl ?_
      refine px_icmp_le (q := 25) (tgt := 29) dI_M_order_22 (by decide) rfl (fun b22 => ?_) (fun b22 => ?_)
      · exfalso
        have h0 : ¬ m < 0 := fun q => b15 (by
          rw [Int32.lt_iff_toInt_lt] at q ⊢
          have e1 : (0 : Int32).toInt = 0 := by decide
          have e2 : (nI 2).toInt = 2 := by decide
          omega)
        obtain ⟨k, hk, e⟩ := nI_of2 (M := nI 1000) (n := 1000) (by decide) h0 b22
        refine hbad ⟨k, ?_, hk, e⟩
        subst e
        exact Nat.le_of_not_lt (fun q => b15 (nI_lt q (by decide)))
      · exact fin f
theorem c_M_order {a m k : Nat} (ha : a < 6) (h2m : 2 ≤ m) (hm1 : m ≤ 1000) (hod : od_ (v a % m) m k) (hm : mz_ Y v) (h3 : k = 0 → ∀ Y', mz_ Y' v → mf_ Y Y' → Y' 23 3 = nI 3 → Post (some (.int (nI 0))) X Y') (h0 : k ≠ 0 → ∀ Y', mz_ Y' v → mf_ Y Y' → Y' 23 3 = nI 0 → Post (some (.int (nI k))) X Y') : pw_Met l g mM_order [.ref (ad_ g 23), .int (nI a), .int (nI m)] X Y Post := by
  refine pw_ofW (by decide +kernel) rfl (Nat.le_of_ble_eq_true rfl) rfl (fun sz => ?_)
  refine px_aload_n (q := 1) dI_M_order_0 rfl rfl ?_
  refine px_iload_n (q := 2) dI_M_order_1 rfl rfl ?_
  refine px_callS1 (q := 5) (ν := mM_none) dI_M_order_2 wl_M_23 ws_M_none wb_M_none wi_M ⟨rfl, rfl⟩ (by decide +kernel) ⟨(Nat.le_of_ble_eq_true rfl), (Nat.le_of_ble_eq_true rfl)⟩ (Nat.le_of_ble_eq_true rfl) rfl (c_M_noneG ha ?_)
  refine px_iconst (q := 6) (v := nI 1) dI_M_order_5 (by decide +kernel) rfl ?_
  refine px_callV2 (q := 9) (ν := mM_refused) dI_M_order_6 (by decide) rfl rfl wl_M_27 wm_M_refused wv_M_refused wb_M_refused wi_M ⟨rfl, rfl⟩ (by decide +kernel) ⟨(Nat.le_of_ble_eq_true rfl), (Nat.le_of_ble_eq_true rfl)⟩ (Nat.le_of_ble_eq_true rfl) rfl (c_M_refused (by decide) (fun f hf => ?_))
  refine px_if_neN (q := 12) (tgt := 37) dI_M_order_9 (by omega) (by decide) rfl (fun b9 => ?_) (fun b9 => ?_)
  · exact absurd rfl b9
  · refine px_aload_n (q := 13) dI_M_order_12 rfl rfl ?_
    refine px_iload_n (q := 14) dI_M_order_13 rfl rfl ?_
    refine px_iconst (q := 15) (v := nI 2) dI_M_order_14 (by decide +kernel) rfl ?_
    refine px_icmp_ltN (q := 18) (tgt := 25) dI_M_order_15 (by omega) (by omega) (by decide) rfl (fun b15 => ?_) (fun b15 => ?_)
    · omega
    · refine px_iload_n (q := 19) dI_M_order_18 rfl rfl ?_
      refine px_sipush (q := 22) (v := nI 1000) dI_M_order_19 (by decide +kernel) rfl ?_
      refine px_icmp_leN (q := 25) (tgt := 29) dI_M_order_22 (by omega) (by omega) (by decide) rfl (fun b22 => ?_) (fun b22 => ?_)
      · refine px_iconst (q := 30) (v := nI 0) dI_M_order_29 (by decide +kernel) rfl ?_
        refine px_iconst (q := 31) (v := nI 2) dI_M_order_30 (by decide +kernel) rfl ?_
        refine px_callV2 (q := 34) (ν := mM_refused) dI_M_order_31 (by decide) rfl rfl wl_M_27 wm_M_refused wv_M_refused wb_M_refused wi_M ⟨rfl, rfl⟩ (by decide +kernel) ⟨(Nat.le_of_ble_eq_true rfl), (Nat.le_of_ble_eq_true rfl)⟩ (Nat.le_of_ble_eq_true rfl) rfl (c_M_refused (by decide) (fun f2 hf2 => ?_))
        rw [yr_yr]
        refine px_if_eqN (q := 37) (tgt := 39) dI_M_order_34 (by omega) (by decide) rfl (fun b34 => ?_) (fun b34 => ?_)
        · have hxm : v a % m < m := Nat.mod_lt _ (by omega)
          refine px_aload_n (q := 40) dI_M_order_39 rfl rfl ?_
          refine px_iload_n (q := 41) dI_M_order_40 rfl rfl ?_
          refine px_iload_n (q := 42) dI_M_order_41 rfl rfl ?_
          refine px_callV2 (q := 45) (ν := mM_small) dI_M_order_42 (by decide) rfl rfl wl_M_90 wm_M_small wv_M_small wb_M_small wi_M ⟨rfl, rfl⟩ (by decide +kernel) ⟨(Nat.le_of_ble_eq_true rfl), (Nat.le_of_ble_eq_true rfl)⟩ (Nat.le_of_ble_eq_true rfl) rfl (c_M_small ha h2m hm1 (mz_c hm).1 ?_)
          refine px_istore_n (q := 46) dI_M_order_45 rfl (by decide) rfl rfl ?_
          refine px_aload_n (q := 47) dI_M_order_46 rfl rfl ?_
          refine px_iload_n (q := 48) dI_M_order_47 rfl rfl ?_
          refine px_iload_n (q := 49) dI_M_order_48 rfl rfl ?_
          refine px_callS2 (q := 52) (ν := mM_apart) dI_M_order_49 wl_M_93 ws_M_apart wb_M_apart wi_M ⟨rfl, rfl⟩ (by decide +kernel) ⟨(Nat.le_of_ble_eq_true rfl), (Nat.le_of_ble_eq_true rfl)⟩ (Nat.le_of_ble_eq_true rfl) rfl (c_M_apart (by omega) (by omega) (fun z => ?_) (fun z => ?_))
          · have hco := ap_co h2m z
            refine px_if_neN (q := 55) (tgt := 59) dI_M_order_52 (by omega) (by decide) rfl (fun b52 => ?_) (fun b52 => ?_)
            · refine px_iconst (q := 60) (v := nI 0) dI_M_order_59 (by decide +kernel) rfl ?_
              refine px_iconst (q := 61) (v := nI 3) dI_M_order_60 (by decide +kernel) rfl ?_
              refine px_callV2 (q := 64) (ν := mM_refused) dI_M_order_61 (by decide) rfl rfl wl_M_27 wm_M_refused wv_M_refused wb_M_refused wi_M ⟨rfl, rfl⟩ (by decide +kernel) ⟨(Nat.le_of_ble_eq_true rfl), (Nat.le_of_ble_eq_true rfl)⟩ (Nat.le_of_ble_eq_true rfl) rfl (c_M_refused (by decide) (fun f3 hf3 => ?_))
              rw [yr_yr]
              refine px_if_eqN (q := 67) (tgt := 71) dI_M_order_64 (by omega) (by decide) rfl (fun b64 => ?_) (fun b64 => ?_)
              · refine px_iload_n (q := 72) dI_M_order_71 rfl rfl ?_
                refine px_iload_n (q := 73) dI_M_order_72 rfl rfl ?_
                refine px_callS2 (q := 76) (ν := mM_orderOf) dI_M_order_73 wl_M_96 ws_M_orderOf wb_M_orderOf wi_M ⟨rfl, rfl⟩ (by decide +kernel) ⟨(Nat.le_of_ble_eq_true rfl), (Nat.le_of_ble_eq_true rfl)⟩ (Nat.le_of_ble_eq_true rfl) rfl (c_M_orderOf h2m (by omega) hxm (fun k' q1 q2 q3 q4 => ?_))
                refine px_iret dI_M_order_76 rfl ?_
                have e := od_uniq (od_of h2m hco q1 q2 q3 q4) hod
                rw [e]
                exact h0 (od_nz h2m hco hod) _ (mz_c hm) (mf_y (by decide) mf_0) (by rw [yr_s, hf3]; rfl)
              · exact absurd rfl b64
            · exact absurd b52 (by decide)
          · obtain ⟨d, d1, d2, d3, d4⟩ := z
            refine px_if_neN (q := 55) (tgt := 59) dI_M_order_52 (by omega) (by decide) rfl (fun b52 => ?_) (fun b52 => ?_)
            · exact absurd rfl b52
            · refine px_iconst (q := 56) (v := nI 1) dI_M_order_55 (by decide +kernel) rfl ?_
              refine px_goto (tgt := 60) dI_M_order_56 (by decide) ?_
              refine px_iconst (q := 61) (v := nI 3) dI_M_order_60 (by decide +kernel) rfl ?_
              refine px_callV2 (q := 64) (ν := mM_refused) dI_M_order_61 (by decide) rfl rfl wl_M_27 wm_M_refused wv_M_refused wb_M_refused wi_M ⟨rfl, rfl⟩ (by decide +kernel) ⟨(Nat.le_of_ble_eq_true rfl), (Nat.le_of_ble_eq_true rfl)⟩ (Nat.le_of_ble_eq_true rfl) rfl (c_M_refused (by decide) (fun f3 hf3 => ?_))
              rw [yr_yr]
              refine px_if_eqN (q := 67) (tgt := 71) dI_M_order_64 (by omega) (by decide) rfl (fun b64 => ?_) (fun b64 => ?_)
              · exact absurd b64 (by decide)
              · refine px_iconst (q := 68) (v := nI 0) dI_M_order_67 (by decide +kernel) rfl ?_
                refine px_goto (tgt := 76) dI_M_order_68 (by decide) ?_
                refine px_iret dI_M_order_76 rfl ?_
                refine h3 ?_ _ (mz_c hm) (mf_y (by decide) mf_0) (by rw [yr_s, hf3]; rfl)
                rcases hod with ⟨a1, a2, a3, -⟩ | ⟨a1, -⟩
                · exact (co_ap h2m a1 a3 d1 d3 d4).elim
                · exact a1
        · exact absurd rfl b34
      · omega
theorem c_M_modulus_bad {a : Int32} (hbad : bd_ a) (hm : mz_ Y v) (hp : ∀ Y', mz_ Y' v → mf_ Y Y' → Y' 23 3 = nI 1 → Post (some (.int (nI 0))) X Y') : pw_Met l g mM_modulus [.ref (ad_ g 23), .int a] X Y Post := by
  refine pw_ofW (by decide +kernel) rfl (Nat.le_of_ble_eq_true rfl) rfl (fun sz => ?_)
  refine px_aload_n (q := 1) dI_M_modulus_0 rfl rfl ?_
  refine px_iload_n (q := 2) dI_M_modulus_1 rfl rfl ?_
  refine px_callS1 (q := 5) (ν := mM_none) dI_M_modulus_2 wl_M_23 ws_M_none wb_M_none wi_M ⟨rfl, rfl⟩ (by decide +kernel) ⟨(Nat.le_of_ble_eq_true rfl), (Nat.le_of_ble_eq_true rfl)⟩ (Nat.le_of_ble_eq_true rfl) rfl (c_M_noneB hbad ?_)
  refine px_iconst (q := 6) (v := nI 1) dI_M_modulus_5 (by decide +kernel) rfl ?_
  refine px_callV2 (q := 9) (ν := mM_refused) dI_M_modulus_6 (by decide) rfl rfl wl_M_27 wm_M_refused wv_M_refused wb_M_refused wi_M ⟨rfl, rfl⟩ (by decide +kernel) ⟨(Nat.le_of_ble_eq_true rfl), (Nat.le_of_ble_eq_true rfl)⟩ (Nat.le_of_ble_eq_true rfl) rfl (c_M_refused (by decide) (fun f hf => ?_))
  refine px_if_eqN (q := 12) (tgt := 14) dI_M_modulus_9 (by omega) (by decide) rfl (fun b9 => ?_) (fun b9 => ?_)
  · exact absurd b9 (by decide)
  · refine px_iconst (q := 13) (v := nI 0) dI_M_modulus_12 (by decide +kernel) rfl ?_
    refine px_iret dI_M_modulus_13 rfl ?_
    exact hp _ (mz_c hm) (mf_y (by decide) mf_0) (by rw [yr_s, hf]; rfl)
theorem c_M_modulus_n {a : Nat} (ha : a < 6) (hv : v a < 2 ∨ 511 < v a) (hm : mz_ Y v) (hp : ∀ Y', mz_ Y' v → mf_ Y Y' → Y' 23 3 = nI 2 → Post (some (.int (nI 0))) X Y') : pw_Met l g mM_modulus [.ref (ad_ g 23), .int (nI a)] X Y Post := by
  refine pw_ofW (by decide +kernel) rfl (Nat.le_of_ble_eq_true rfl) rfl (fun sz => ?_)
  refine px_aload_n (q := 1) dI_M_modulus_0 rfl rfl ?_
  refine px_iload_n (q := 2) dI_M_modulus_1 rfl rfl ?_
  refine px_callS1 (q := 5) (ν := mM_none) dI_M_modulus_2 wl_M_23 ws_M_none wb_M_none wi_M ⟨rfl, rfl⟩ (by decide +kernel) ⟨(Nat.le_of_ble_eq_true rfl), (Nat.le_of_ble_eq_true rfl)⟩ (Nat.le_of_ble_eq_true rfl) rfl (c_M_noneG ha ?_)
  refine px_iconst (q := 6) (v := nI 1) dI_M_modulus_5 (by decide +kernel) rfl ?_
  refine px_callV2 (q := 9) (ν := mM_refused) dI_M_modulus_6 (by decide) rfl rfl wl_M_27 wm_M_refused wv_M_refused wb_M_refused wi_M ⟨rfl, rfl⟩ (by decide +kernel) ⟨(Nat.le_of_ble_eq_true rfl), (Nat.le_of_ble_eq_true rfl)⟩ (Nat.le_of_ble_eq_true rfl) rfl (c_M_refused (by decide) (fun f hf => ?_))
  refine px_if_eqN (q := 12) (tgt := 14) dI_M_modulus_9 (by omega) (by decide) rfl (fun b9 => ?_) (fun b9 => ?_)
  · refine px_aload_n (q := 15) dI_M_modulus_14 rfl rfl ?_
    refine px_iload_n (q := 16) dI_M_modulus_15 rfl rfl ?_
    refine px_sipush (q := 19) (v := nI 512) dI_M_modulus_16 (by decide +kernel) rfl ?_
    refine px_callV2 (q := 22) (ν := mM_value) dI_M_modulus_19 (by decide) rfl rfl wl_M_99 wm_M_value wv_M_value wb_M_value wi_M ⟨rfl, rfl⟩ (by decide +kernel) ⟨(Nat.le_of_ble_eq_true rfl), (Nat.le_of_ble_eq_true rfl)⟩ (Nat.le_of_ble_eq_true rfl) rfl (c_M_value ha (by decide) (mz_c hm).1 ?_)
    generalize hx : (if v a ≤ 512 then v a else 512) = x
    have hxb : x < 2 ∨ x = 512 := by subst hx; split <;> omega
    have fin : pw_W l g mM_modulus sz (pw_qM g sz Post 0 0) 36 [(0, .ref (ad_ g 23)), (1, .int (nI a)), (2, .int (nI x))] [.ref (ad_ g 23)] X (yr_ Y 23 f) := by
      refine px_iconst (q := 37) (v := nI 1) dI_M_modulus_36 (by decide +kernel) rfl ?_
      refine px_goto (tgt := 41) dI_M_modulus_37 (by decide) ?_
      refine px_iconst (q := 42) (v := nI 2) dI_M_modulus_41 (by decide +kernel) rfl ?_
      refine px_callV2 (q := 45) (ν := mM_refused) dI_M_modulus_42 (by decide) rfl rfl wl_M_27 wm_M_refused wv_M_refused wb_M_refused wi_M ⟨rfl, rfl⟩ (by decide +kernel) ⟨(Nat.le_of_ble_eq_true rfl), (Nat.le_of_ble_eq_true rfl)⟩ (Nat.le_of_ble_eq_true rfl) rfl (c_M_refused (by decide) (fun f2 hf2 => ?_))
      rw [yr_yr]
      refine px_if_eqN (q := 48) (tgt := 50) dI_M_modulus_45 (by omega) (by decide) rfl (fun b45 => ?_) (fun b45 => ?_)
      · exact absurd b45 (by decide)
      · refine px_iconst (q := 49) (v := nI 0) dI_M_modulus_48 (by decide +kernel) rfl ?_
        refine px_iret dI_M_modulus_49 rfl ?_
        exact hp _ (mz_c hm) (mf_y (by decide) mf_0) (by rw [yr_s, hf2]; rfl)
    refine px_istore_n (q := 23) dI_M_modulus_22 rfl (by decide) rfl rfl ?_
    refine px_aload_n (q := 24) dI_M_modulus_23 rfl rfl ?_
    refine px_iload_n (q := 25) dI_M_modulus_24 rfl rfl ?_
    refine px_iconst (q := 26) (v := nI 2) dI_M_modulus_25 (by decide +kernel) rfl ?_
    refine px_icmp_ltN (q := 29) (tgt := 36) dI_M_modulus_26 (by omega) (by omega) (by decide) rfl (fun b26 => ?_) (fun b26 => ?_)
    · exact fin
    · refine px_iload_n (q := 30) dI_M_modulus_29 rfl rfl ?_
      refine px_sipush (q := 33) (v := nI 511) dI_M_modulus_30 (by decide +kernel) rfl ?_
      refine px_icmp_leN (q := 36) (tgt := 40) dI_M_modulus_33 (by omega) (by omega) (by decide) rfl (fun b33 => ?_) (fun b33 => ?_)
      · omega
      · exact fin
  · exact absurd rfl b9
theorem c_M_modulus {a T m0 k0 : Nat} (ha : a < 6) (h2 : 2 ≤ v a) (hv : v a ≤ 511) (hbl : bl_ (v a) T) (hm2 : 2 ≤ m0) (hm0 : m0 < 1000) (hod : od_ (v a % m0) m0 k0) (hk0 : T * T < k0) (hmin : ∀ m', 2 ≤ m' → m' < m0 → ∀ k', od_ (v a % m') m' k' → k' ≤ T * T) (hm : mz_ Y v) (hp : ∀ Y', mz_ Y' v → mf_ Y Y' → Y' 23 3 = nI 0 → Post (some (.int (nI m0))) X Y') : pw_Met l g mM_modulus [.ref (ad_ g 23), .int (nI a)] X Y Post := by
  refine pw_ofW (by decide +kernel) rfl (Nat.le_of_ble_eq_true rfl) rfl (fun sz => ?_)
  refine px_aload_n (q := 1) dI_M_modulus_0 rfl rfl ?_
  refine px_iload_n (q := 2) dI_M_modulus_1 rfl rfl ?_
  refine px_callS1 (q := 5) (ν := mM_none) dI_M_modulus_2 wl_M_23 ws_M_none wb_M_none wi_M ⟨rfl, rfl⟩ (by decide +kernel) ⟨(Nat.le_of_ble_eq_true rfl), (Nat.le_of_ble_eq_true rfl)⟩ (Nat.le_of_ble_eq_true rfl) rfl (c_M_noneG ha ?_)
  refine px_iconst (q := 6) (v := nI 1) dI_M_modulus_5 (by decide +kernel) rfl ?_
  refine px_callV2 (q := 9) (ν := mM_refused) dI_M_modulus_6 (by decide) rfl rfl wl_M_27 wm_M_refused wv_M_refused wb_M_refused wi_M ⟨rfl, rfl⟩ (by decide +kernel) ⟨(Nat.le_of_ble_eq_true rfl), (Nat.le_of_ble_eq_true rfl)⟩ (Nat.le_of_ble_eq_true rfl) rfl (c_M_refused (by decide) (fun f hf => ?_))
  refine px_if_eqN (q := 12) (tgt := 14) dI_M_modulus_9 (by omega) (by decide) rfl (fun b9 => ?_) (fun b9 => ?_)
  · refine px_aload_n (q := 15) dI_M_modulus_14 rfl rfl ?_
    refine px_iload_n (q := 16) dI_M_modulus_15 rfl rfl ?_
    refine px_sipush (q := 19) (v := nI 512) dI_M_modulus_16 (by decide +kernel) rfl ?_
    refine px_callV2 (q := 22) (ν := mM_value) dI_M_modulus_19 (by decide) rfl rfl wl_M_99 wm_M_value wv_M_value wb_M_value wi_M ⟨rfl, rfl⟩ (by decide +kernel) ⟨(Nat.le_of_ble_eq_true rfl), (Nat.le_of_ble_eq_true rfl)⟩ (Nat.le_of_ble_eq_true rfl) rfl (c_M_value ha (by decide) (mz_c hm).1 ?_)
    rw [if_pos (by omega)]
    refine px_istore_n (q := 23) dI_M_modulus_22 rfl (by decide) rfl rfl ?_
    refine px_aload_n (q := 24) dI_M_modulus_23 rfl rfl ?_
    refine px_iload_n (q := 25) dI_M_modulus_24 rfl rfl ?_
    refine px_iconst (q := 26) (v := nI 2) dI_M_modulus_25 (by decide +kernel) rfl ?_
    refine px_icmp_ltN (q := 29) (tgt := 36) dI_M_modulus_26 (by omega) (by omega) (by decide) rfl (fun b26 => ?_) (fun b26 => ?_)
    · omega
    · refine px_iload_n (q := 30) dI_M_modulus_29 rfl rfl ?_
      refine px_sipush (q := 33) (v := nI 511) dI_M_modulus_30 (by decide +kernel) rfl ?_
      refine px_icmp_leN (q := 36) (tgt := 40) dI_M_modulus_33 (by omega) (by omega) (by decide) rfl (fun b33 => ?_) (fun b33 => ?_)
      · refine px_iconst (q := 41) (v := nI 0) dI_M_modulus_40 (by decide +kernel) rfl ?_
        refine px_iconst (q := 42) (v := nI 2) dI_M_modulus_41 (by decide +kernel) rfl ?_
        refine px_callV2 (q := 45) (ν := mM_refused) dI_M_modulus_42 (by decide) rfl rfl wl_M_27 wm_M_refused wv_M_refused wb_M_refused wi_M ⟨rfl, rfl⟩ (by decide +kernel) ⟨(Nat.le_of_ble_eq_true rfl), (Nat.le_of_ble_eq_true rfl)⟩ (Nat.le_of_ble_eq_true rfl) rfl (c_M_refused (by decide) (fun f2 hf2 => ?_))
        rw [yr_yr]
        refine px_if_eqN (q := 48) (tgt := 50) dI_M_modulus_45 (by omega) (by decide) rfl (fun b45 => ?_) (fun b45 => ?_)
        · have hm2z := mz_c (f := f2) hm
          have hc2 : yr_ Y 23 f2 23 3 = nI 0 := by rw [yr_s, hf2]; rfl
          refine px_aload_n (q := 51) dI_M_modulus_50 rfl rfl ?_
          refine px_iload_n (q := 52) dI_M_modulus_51 rfl rfl ?_
          refine px_callV1 (q := 55) (ν := mM_bitsOf) dI_M_modulus_52 (by decide) rfl rfl wl_M_75 wm_M_bitsOf wv_M_bitsOf wb_M_bitsOf wi_M ⟨rfl, rfl⟩ (by decide +kernel) ⟨(Nat.le_of_ble_eq_true rfl), (Nat.le_of_ble_eq_true rfl)⟩ (Nat.le_of_ble_eq_true rfl) rfl (c_M_bitsOf ha hm2z.1 (fun T' hT' hbl' => ?_))
          rw [bl_u hbl' hbl]
          have hT9 : T ≤ 9 := by
            refine Nat.le_of_not_lt (fun q => ?_)
            have h3 := hbl.2 (by omega)
            have h4 : 2 ^ 9 ≤ 2 ^ (T - 1) := Nat.pow_le_pow_right (by decide) (by omega)
            omega
          have hTT : T * T ≤ 9 * 9 := Nat.mul_le_mul hT9 hT9
          refine px_istore_n (q := 56) dI_M_modulus_55 rfl (by decide) rfl rfl ?_
          refine px_iconst (q := 57) (v := nI 2) dI_M_modulus_56 (by decide +kernel) rfl ?_
          refine px_istore (q := 59) dI_M_modulus_57 (by decide) rfl rfl ?_
          have key : ∀ (c m : Nat), m + c = m0 → 2 ≤ m → pw_W l g mM_modulus sz (pw_qM g sz Post 0 0) 59 [(0, .ref (ad_ g 23)), (1, .int (nI a)), (2, .int (nI (v a))), (3, .int (nI T)), (4, .int (nI m))] [] X (yr_ Y 23 f2) := by
            intro c
            induction c with
            | zero =>
              intro m hmc hm2'
              obtain rfl : m = m0 := by omega
              have hco : Nat.Coprime (v a % m) m := od_co hm2 hod (by omega)
              have hxm : v a % m < m := Nat.mod_lt _ (by omega)
              refine px_iload (q := 61) dI_M_modulus_59 rfl rfl ?_
              refine px_ldc (q := 63) (v2 := nI 100000) dI_M_modulus_61 wk_M_102 (by decide +kernel) rfl ?_
              refine px_icmp_geN (q := 66) (tgt := 96) dI_M_modulus_63 (by omega) (by omega) (by decide) rfl (fun b63 => ?_) (fun b63 => ?_)
              · omega
              · refine px_iload_n (q := 67) dI_M_modulus_66 rfl rfl ?_
                refine px_iload (q := 69) dI_M_modulus_67 rfl rfl ?_
                refine px_callS2 (q := 72) (ν := mM_apart) dI_M_modulus_69 wl_M_93 ws_M_apart wb_M_apart wi_M ⟨rfl, rfl⟩ (by decide +kernel) ⟨(Nat.le_of_ble_eq_true rfl), (Nat.le_of_ble_eq_true rfl)⟩ (Nat.le_of_ble_eq_true rfl) rfl (c_M_apart (by omega) (by omega) (fun z => ?_) (fun z => ?_))
                · refine px_if_eqN (q := 75) (tgt := 90) dI_M_modulus_72 (by omega) (by decide) rfl (fun b72 => ?_) (fun b72 => ?_)
                  · exact absurd b72 (by decide)
                  · refine px_iload_n (q := 76) dI_M_modulus_75 rfl rfl ?_
                    refine px_iload (q := 78) dI_M_modulus_76 rfl rfl ?_
                    refine px_iremN (q := 79) dI_M_modulus_78 (by omega) (by omega) (by omega) rfl ?_
                    refine px_iload (q := 81) dI_M_modulus_79 rfl rfl ?_
                    refine px_callS2 (q := 84) (ν := mM_orderOf) dI_M_modulus_81 wl_M_96 ws_M_orderOf wb_M_orderOf wi_M ⟨rfl, rfl⟩ (by decide +kernel) ⟨(Nat.le_of_ble_eq_true rfl), (Nat.le_of_ble_eq_true rfl)⟩ (Nat.le_of_ble_eq_true rfl) rfl (c_M_orderOf hm2 (by omega) hxm (fun k' q1 q2 q3 q4 => ?_))
                    have e := od_uniq (od_of hm2 hco q1 q2 q3 q4) hod
                    refine px_iload_n (q := 85) dI_M_modulus_84 rfl rfl ?_
                    refine px_iload_n (q := 86) dI_M_modulus_85 rfl rfl ?_
                    refine px_imulN (q := 87) dI_M_modulus_86 rfl ?_
                    refine px_icmp_gtN (q := 90) (tgt := 96) dI_M_modulus_87 (by omega) (by omega) (by decide) rfl (fun b87 => ?_) (fun b87 => ?_)
                    · refine px_iload (q := 98) dI_M_modulus_96 rfl rfl ?_
                      refine px_iret dI_M_modulus_98 rfl ?_
                      exact hp _ hm2z (mf_y (by decide) mf_0) hc2
                    · omega
                · exfalso
                  obtain ⟨d, d1, d2, d3, d4⟩ := z
                  obtain ⟨e, e1, e2, e3⟩ := od_ex hm2 (co_mod.mp hco)
                  exact co_ap hm2 e1 e3 d1 d3 d4
            | succ c ih =>
              intro m hmc hm2'
              have hxm : v a % m < m := Nat.mod_lt _ (by omega)
              refine px_iload (q := 61) dI_M_modulus_59 rfl rfl ?_
              refine px_ldc (q := 63) (v2 := nI 100000) dI_M_modulus_61 wk_M_102 (by decide +kernel) rfl ?_
              refine px_icmp_geN (q := 66) (tgt := 96) dI_M_modulus_63 (by omega) (by omega) (by decide) rfl (fun b63 => ?_) (fun b63 => ?_)
              · omega
              · refine px_iload_n (q := 67) dI_M_modulus_66 rfl rfl ?_
                refine px_iload (q := 69) dI_M_modulus_67 rfl rfl ?_
                refine px_callS2 (q := 72) (ν := mM_apart) dI_M_modulus_69 wl_M_93 ws_M_apart wb_M_apart wi_M ⟨rfl, rfl⟩ (by decide +kernel) ⟨(Nat.le_of_ble_eq_true rfl), (Nat.le_of_ble_eq_true rfl)⟩ (Nat.le_of_ble_eq_true rfl) rfl (c_M_apart (by omega) (by omega) (fun z => ?_) (fun z => ?_))
                · have hco : Nat.Coprime (v a % m) m := co_mod.mpr (ap_co hm2' z)
                  refine px_if_eqN (q := 75) (tgt := 90) dI_M_modulus_72 (by omega) (by decide) rfl (fun b72 => ?_) (fun b72 => ?_)
                  · exact absurd b72 (by decide)
                  · refine px_iload_n (q := 76) dI_M_modulus_75 rfl rfl ?_
                    refine px_iload (q := 78) dI_M_modulus_76 rfl rfl ?_
                    refine px_iremN (q := 79) dI_M_modulus_78 (by omega) (by omega) (by omega) rfl ?_
                    refine px_iload (q := 81) dI_M_modulus_79 rfl rfl ?_
                    refine px_callS2 (q := 84) (ν := mM_orderOf) dI_M_modulus_81 wl_M_96 ws_M_orderOf wb_M_orderOf wi_M ⟨rfl, rfl⟩ (by decide +kernel) ⟨(Nat.le_of_ble_eq_true rfl), (Nat.le_of_ble_eq_true rfl)⟩ (Nat.le_of_ble_eq_true rfl) rfl (c_M_orderOf hm2' (by omega) hxm (fun k' q1 q2 q3 q4 => ?_))
                    have e := hmin m hm2' (by omega) k' (od_of hm2' hco q1 q2 q3 q4)
                    refine px_iload_n (q := 85) dI_M_modulus_84 rfl rfl ?_
                    refine px_iload_n (q := 86) dI_M_modulus_85 rfl rfl ?_
                    refine px_imulN (q := 87) dI_M_modulus_86 rfl ?_
                    refine px_icmp_gtN (q := 90) (tgt := 96) dI_M_modulus_87 (by omega) (by omega) (by decide) rfl (fun b87 => ?_) (fun b87 => ?_)
                    · omega
                    · refine px_iinc (q := 93) dI_M_modulus_90 rfl (ic_1 _) (by decide) rfl rfl ?_
                      refine px_goto (tgt := 59) dI_M_modulus_93 (by decide) ?_
                      exact ih (m + 1) (by omega) (by omega)
                · refine px_if_eqN (q := 75) (tgt := 90) dI_M_modulus_72 (by omega) (by decide) rfl (fun b72 => ?_) (fun b72 => ?_)
                  · refine px_iinc (q := 93) dI_M_modulus_90 rfl (ic_1 _) (by decide) rfl rfl ?_
                    refine px_goto (tgt := 59) dI_M_modulus_93 (by decide) ?_
                    exact ih (m + 1) (by omega) (by omega)
                  · exact absurd rfl b72
          exact key (m0 - 2) 2 (by omega) (by omega)
        · exact absurd rfl b45
      · omega
  · exact absurd rfl b9
end CM9
