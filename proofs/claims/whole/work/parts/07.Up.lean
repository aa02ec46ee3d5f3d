/-! Words: contracts -/
section CUp
variable {l : Launch} {g : pw_G} {X : pw_X} {Y : pw_Y} {Post : pw_P}
set_option maxHeartbeats 4000000 in
theorem c_U_product {x y o : Nat} {dx dy : Nat → Nat} (hx0 : ln_J x = some 4) (hy0 : ln_J y = some 4) (ho0 : ln_J o = some 8) (hxo : x ≠ o) (hyo : y ≠ o) (hx : rw_ (X x) 4 dx) (hy : rw_ (X y) 4 dy) (hp : ∀ (f : Nat → Int64) (d : Nat → Nat), rw_ f 8 d → vl_ d 8 = vl_ dx 4 * vl_ dy 4 → Post none (xr_ X o f) Y) : pw_Met l g mU_product [.ref (ad_ g x), .ref (ad_ g y), .ref (ad_ g o)] X Y Post := by
  refine pw_ofW (by decide +kernel) rfl (Nat.le_of_ble_eq_true rfl) rfl (fun sz => ?_)
  refine px_aload_n (q := 1) dI_U_product_0 rfl rfl ?_
  refine px_lconst (q := 2) (v := lN 0) dI_U_product_1 rfl rfl ?_
  refine px_callS2 (q := 5) (ν := mA_fillJ) dI_U_product_2 wl_U_9 ws_A_fillJ wb_A_fillJ wi_A ⟨rfl, rfl⟩ (by decide +kernel) ⟨(Nat.le_of_ble_eq_true rfl), (Nat.le_of_ble_eq_true rfl)⟩ (Nat.le_of_ble_eq_true rfl) rfl (c_A_fillJ ho0 (fun f0 hf0 => ?_))
  refine px_iconst (q := 6) (v := nI 0) dI_U_product_5 (by decide +kernel) rfl ?_
  refine px_istore_n (q := 7) dI_U_product_6 rfl (by decide) rfl rfl ?_
  have key : ∀ (k i : Nat) (f : Nat → Int64) (d : Nat → Nat), i + k = 4 → rw_ f 8 d → vl_ d 8 = vl_ dx i * vl_ dy 4 → (∀ p, i + 4 ≤ p → p < 8 → d p = 0) → pw_W l g mU_product sz (pw_qM g sz Post 0 0) 7 [(0, .ref (ad_ g x)), (1, .ref (ad_ g y)), (2, .ref (ad_ g o)), (3, .int (nI i))] [] (xr_ X o f) Y := by
    intro k
    induction k with
    | zero =>
      intro i f d hi hd hv hz
      refine px_iload_n (q := 8) dI_U_product_7 rfl rfl ?_
      refine px_iconst (q := 9) (v := nI 4) dI_U_product_8 (by decide +kernel) rfl ?_
      refine px_icmp_geN (q := 12) (tgt := 82) dI_U_product_9 (by omega) (by omega) (by decide) rfl (fun b9 => ?_) (fun b9 => ?_)
      · obtain rfl : i = 4 := by omega
        refine px_vret dI_U_product_82 rfl ?_
        exact hp f d hd hv
      · omega
    | succ k ih =>
      intro i f d hi hd hv hz
      have h1 := hx i (by omega)
      refine px_iload_n (q := 8) dI_U_product_7 rfl rfl ?_
      refine px_iconst (q := 9) (v := nI 4) dI_U_product_8 (by decide +kernel) rfl ?_
      refine px_icmp_geN (q := 12) (tgt := 82) dI_U_product_9 (by omega) (by omega) (by decide) rfl (fun b9 => ?_) (fun b9 => ?_)
      · omega
      · refine px_lconst (q := 13) (v := lN 0) dI_U_product_12 rfl rfl ?_
        refine px_lstore (q := 15) dI_U_product_13 (by decide) rfl rfl ?_
        refine px_iconst (q := 16) (v := nI 0) dI_U_product_15 (by decide +kernel) rfl ?_
        refine px_istore (q := 18) dI_U_product_16 (by decide) rfl rfl ?_
        have inner : ∀ (k2 j c : Nat) (f : Nat → Int64) (d : Nat → Nat), j + k2 = 4 → c < 4294967296 → rw_ f 8 d → vl_ d 8 + c * 4294967296 ^ (i + j) = vl_ dx i * vl_ dy 4 + dx i * vl_ dy j * 4294967296 ^ i → (∀ p, i + 4 ≤ p → p < 8 → d p = 0) → pw_W l g mU_product sz (pw_qM g sz Post 0 0) 18 [(0, .ref (ad_ g x)), (1, .ref (ad_ g y)), (2, .ref (ad_ g o)), (3, .int (nI i)), (4, .long (lN c)), (6, .int (nI j))] [] (xr_ X o f) Y := by
          intro k2
          induction k2 with
          | zero =>
            intro j c f d hj hc hd hv hz
            refine px_iload (q := 20) dI_U_product_18 rfl rfl ?_
            refine px_iconst (q := 21) (v := nI 4) dI_U_product_20 (by decide +kernel) rfl ?_
            refine px_icmp_geN (q := 24) (tgt := 69) dI_U_product_21 (by omega) (by omega) (by decide) rfl (fun b21 => ?_) (fun b21 => ?_)
            · obtain rfl : j = 4 := by omega
              refine px_aload_n (q := 70) dI_U_product_69 rfl rfl ?_
              refine px_iload_n (q := 71) dI_U_product_70 rfl rfl ?_
              refine px_iconst (q := 72) (v := nI 4) dI_U_product_71 (by decide +kernel) rfl ?_
              refine px_iaddN (q := 73) dI_U_product_72 rfl ?_
              refine px_lload (q := 75) dI_U_product_73 rfl rfl ?_
              refine px_last (q := 76) dI_U_product_75 ho0 (by omega) (by omega) rfl ?_
              refine px_iinc (q := 79) dI_U_product_76 rfl (ic_1 _) (by decide) rfl rfl ?_
              refine px_goto (tgt := 7) dI_U_product_79 (by decide) ?_
              rw [xr_s, xr_xr]
              refine px_keep [0, 1, 2, 3] rfl ?_
              refine ih (i + 1) _ (du_ d (i + 4) c) (by omega) (rw_set hd hc) ?_ (fun p h4 h5 => ?_)
              · have h6 := vl_set (d := d) (n := 8) (k := i + 4) (w := c) (by omega)
                rw [hz (i + 4) (by omega) (by omega)] at h6
                show _ = (vl_ dx i + dx i * 4294967296 ^ i) * vl_ dy 4
                rw [Nat.add_mul, Nat.mul_assoc (dx i), Nat.mul_comm (4294967296 ^ i), ← Nat.mul_assoc]
                omega
              · rw [du_n (by omega)]
                exact hz p (by omega) h5
            · omega
          | succ k2 ih2 =>
            intro j c f d hj hc hd hv hz
            have h2 := hy j (by omega)
            have h3 := hd (i + j) (by omega)
            have hm : dx i * dy j ≤ 4294967295 * 4294967295 := Nat.mul_le_mul (by omega) (by omega)
            refine px_iload (q := 20) dI_U_product_18 rfl rfl ?_
            refine px_iconst (q := 21) (v := nI 4) dI_U_product_20 (by decide +kernel) rfl ?_
            refine px_icmp_geN (q := 24) (tgt := 69) dI_U_product_21 (by omega) (by omega) (by decide) rfl (fun b21 => ?_) (fun b21 => ?_)
            · omega
            · refine px_aload_n (q := 25) dI_U_product_24 rfl rfl ?_
              refine px_iload_n (q := 26) dI_U_product_25 rfl rfl ?_
              refine px_lald (q := 27) dI_U_product_26 hx0 (by omega) (by omega) (xn_ hxo h1.1) rfl ?_
              refine px_aload_n (q := 28) dI_U_product_27 rfl rfl ?_
              refine px_iload (q := 30) dI_U_product_28 rfl rfl ?_
              refine px_lald (q := 31) dI_U_product_30 hy0 (by omega) (by omega) (xn_ hyo h2.1) rfl ?_
              refine px_lmulN (q := 32) dI_U_product_31 rfl ?_
              refine px_aload_n (q := 33) dI_U_product_32 rfl rfl ?_
              refine px_iload_n (q := 34) dI_U_product_33 rfl rfl ?_
              refine px_iload (q := 36) dI_U_product_34 rfl rfl ?_
              refine px_iaddN (q := 37) dI_U_product_36 rfl ?_
              refine px_lald (q := 38) dI_U_product_37 ho0 (by omega) (by omega) (xs_ h3.1) rfl ?_
              refine px_laddN (q := 39) dI_U_product_38 rfl ?_
              refine px_lload (q := 41) dI_U_product_39 rfl rfl ?_
              refine px_laddN (q := 42) dI_U_product_41 rfl ?_
              refine px_lstore (q := 44) dI_U_product_42 (by decide) rfl rfl ?_
              refine px_aload_n (q := 45) dI_U_product_44 rfl rfl ?_
              refine px_iload_n (q := 46) dI_U_product_45 rfl rfl ?_
              refine px_iload (q := 48) dI_U_product_46 rfl rfl ?_
              refine px_iaddN (q := 49) dI_U_product_48 rfl ?_
              refine px_lload (q := 51) dI_U_product_49 rfl rfl ?_
              refine px_ldc2 (q := 54) (v2 := lN 4294967295) dI_U_product_51 wk_U_15 (by decide +kernel) rfl ?_
              refine px_landN (q := 55) dI_U_product_54 (by omega) rfl ?_
              refine px_last (q := 56) dI_U_product_55 ho0 (by omega) (by omega) rfl ?_
              refine px_lload (q := 58) dI_U_product_56 rfl rfl ?_
              refine px_bipush (q := 60) (v := nI 32) dI_U_product_58 (by decide +kernel) rfl ?_
              refine px_lushrN (q := 61) dI_U_product_60 (by omega) (by omega) rfl ?_
              refine px_lstore (q := 63) dI_U_product_61 (by decide) rfl rfl ?_
              refine px_iinc (q := 66) dI_U_product_63 rfl (ic_1 _) (by decide) rfl rfl ?_
              refine px_goto (tgt := 18) dI_U_product_66 (by decide) ?_
              rw [xr_s, xr_xr]
              refine px_keep [0, 1, 2, 3, 4, 6] rfl ?_
              refine ih2 (j + 1) ((dx i * dy j + d (i + j) + c) / 4294967296) _ (du_ d (i + j) ((dx i * dy j + d (i + j) + c) % 4294967296)) (by omega) (by omega) (rw_set hd (Nat.mod_lt _ (by decide))) (vl_prod (by omega) hv rfl) (fun p h4 h5 => ?_)
              rw [du_n (by omega)]
              exact hz p h4 h5
        refine px_keep [0, 1, 2, 3, 4, 6] rfl ?_
        exact inner 4 0 0 f d rfl (by decide) hd (by rw [hv, Nat.zero_mul]; show _ = _ + dx i * 0 * _; rw [Nat.mul_zero, Nat.zero_mul]) hz
  refine px_keep [0, 1, 2, 3] rfl ?_
  refine key 4 0 f0 (fun _ => 0) rfl (fun i hi => ⟨hf0 i hi, Nat.zero_lt_succ _⟩) ?_ (fun _ _ _ => rfl)
  rw [vl_0 8 (fun _ _ => rfl)]
  show 0 = 0 * _
  rw [Nat.zero_mul]
end CUp
