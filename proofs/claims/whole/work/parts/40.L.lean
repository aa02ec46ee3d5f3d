/-! the law: behind the two calls of a step -/
section LT
variable {l : Launch} {g : pw_G} {sz i : Nat} {Qf : pw_F} {X : pw_X} {Y : pw_Y}
theorem cmp_s (x : Int64) : lg_cmp x x = 0 := (lg_cmp_eq x x).mpr rfl
theorem lt_put {c : Nat} (hc : c < 100) (hY : Y 23 3 = nI c) (k : pw_W l g μL_ sz Qf 1149 [(0, .ref (ad_ g 29)), (1, .ref (ad_ g 0)), (2, .ref (ad_ g 23)), (3, .ref (ad_ g 27)), (4, .int (nI i))] [] X Y) : pw_W l g μL_ sz Qf 182 [(0, .ref (ad_ g 29)), (1, .ref (ad_ g 0)), (2, .ref (ad_ g 23)), (3, .ref (ad_ g 27)), (4, .int (nI i)), (5, .int (nI c))] [] X Y := by
  refine px_aload_n (q := 183) dI_L_law_182 rfl rfl ?_
  refine px_callV0 (q := 186) (ν := mM_thrown) dI_L_law_183 (by decide) rfl rfl wl_L_86 wm_M_thrown wv_M_thrown wb_M_thrown wi_M ⟨rfl, rfl⟩ (by decide +kernel) ⟨(Nat.le_of_ble_eq_true rfl), (Nat.le_of_ble_eq_true rfl)⟩ (Nat.le_of_ble_eq_true rfl) rfl (c_M_thrown hY ?_)
  refine px_iload (q := 188) dI_L_law_186 rfl rfl ?_
  refine px_icmp_eqN (q := 191) (tgt := 193) dI_L_law_188 (by omega) (by omega) (by decide) rfl (fun b188 => ?_) (fun b188 => ?_)
  · refine px_goto (tgt := 1149) dI_L_law_193 (by decide) ?_
    refine px_keep [0, 1, 2, 3, 4] rfl ?_
    exact k
  · exact absurd rfl b188
theorem lt_append {c : Nat} (hc : c < 100) (hY : Y 23 3 = nI c) (k : pw_W l g μL_ sz Qf 1149 [(0, .ref (ad_ g 29)), (1, .ref (ad_ g 0)), (2, .ref (ad_ g 23)), (3, .ref (ad_ g 27)), (4, .int (nI i))] [] X Y) : pw_W l g μL_ sz Qf 230 [(0, .ref (ad_ g 29)), (1, .ref (ad_ g 0)), (2, .ref (ad_ g 23)), (3, .ref (ad_ g 27)), (4, .int (nI i)), (5, .int (nI c))] [] X Y := by
  refine px_aload_n (q := 231) dI_L_law_230 rfl rfl ?_
  refine px_callV0 (q := 234) (ν := mM_thrown) dI_L_law_231 (by decide) rfl rfl wl_L_86 wm_M_thrown wv_M_thrown wb_M_thrown wi_M ⟨rfl, rfl⟩ (by decide +kernel) ⟨(Nat.le_of_ble_eq_true rfl), (Nat.le_of_ble_eq_true rfl)⟩ (Nat.le_of_ble_eq_true rfl) rfl (c_M_thrown hY ?_)
  refine px_iload (q := 236) dI_L_law_234 rfl rfl ?_
  refine px_icmp_eqN (q := 239) (tgt := 241) dI_L_law_236 (by omega) (by omega) (by decide) rfl (fun b236 => ?_) (fun b236 => ?_)
  · refine px_goto (tgt := 1149) dI_L_law_241 (by decide) ?_
    refine px_keep [0, 1, 2, 3, 4] rfl ?_
    exact k
  · exact absurd rfl b236
theorem lt_add {c : Nat} (hc : c < 100) (hY : Y 23 3 = nI c) (k : pw_W l g μL_ sz Qf 1149 [(0, .ref (ad_ g 29)), (1, .ref (ad_ g 0)), (2, .ref (ad_ g 23)), (3, .ref (ad_ g 27)), (4, .int (nI i))] [] X Y) : pw_W l g μL_ sz Qf 290 [(0, .ref (ad_ g 29)), (1, .ref (ad_ g 0)), (2, .ref (ad_ g 23)), (3, .ref (ad_ g 27)), (4, .int (nI i)), (5, .int (nI c))] [] X Y := by
  refine px_aload_n (q := 291) dI_L_law_290 rfl rfl ?_
  refine px_callV0 (q := 294) (ν := mM_thrown) dI_L_law_291 (by decide) rfl rfl wl_L_86 wm_M_thrown wv_M_thrown wb_M_thrown wi_M ⟨rfl, rfl⟩ (by decide +kernel) ⟨(Nat.le_of_ble_eq_true rfl), (Nat.le_of_ble_eq_true rfl)⟩ (Nat.le_of_ble_eq_true rfl) rfl (c_M_thrown hY ?_)
  refine px_iload (q := 296) dI_L_law_294 rfl rfl ?_
  refine px_icmp_eqN (q := 299) (tgt := 301) dI_L_law_296 (by omega) (by omega) (by decide) rfl (fun b296 => ?_) (fun b296 => ?_)
  · refine px_goto (tgt := 1149) dI_L_law_301 (by decide) ?_
    refine px_keep [0, 1, 2, 3, 4] rfl ?_
    exact k
  · exact absurd rfl b296
theorem lt_subtract {c : Nat} (hc : c < 100) (hY : Y 23 3 = nI c) (k : pw_W l g μL_ sz Qf 1149 [(0, .ref (ad_ g 29)), (1, .ref (ad_ g 0)), (2, .ref (ad_ g 23)), (3, .ref (ad_ g 27)), (4, .int (nI i))] [] X Y) : pw_W l g μL_ sz Qf 350 [(0, .ref (ad_ g 29)), (1, .ref (ad_ g 0)), (2, .ref (ad_ g 23)), (3, .ref (ad_ g 27)), (4, .int (nI i)), (5, .int (nI c))] [] X Y := by
  refine px_aload_n (q := 351) dI_L_law_350 rfl rfl ?_
  refine px_callV0 (q := 354) (ν := mM_thrown) dI_L_law_351 (by decide) rfl rfl wl_L_86 wm_M_thrown wv_M_thrown wb_M_thrown wi_M ⟨rfl, rfl⟩ (by decide +kernel) ⟨(Nat.le_of_ble_eq_true rfl), (Nat.le_of_ble_eq_true rfl)⟩ (Nat.le_of_ble_eq_true rfl) rfl (c_M_thrown hY ?_)
  refine px_iload (q := 356) dI_L_law_354 rfl rfl ?_
  refine px_icmp_eqN (q := 359) (tgt := 361) dI_L_law_356 (by omega) (by omega) (by decide) rfl (fun b356 => ?_) (fun b356 => ?_)
  · refine px_goto (tgt := 1149) dI_L_law_361 (by decide) ?_
    refine px_keep [0, 1, 2, 3, 4] rfl ?_
    exact k
  · exact absurd rfl b356
theorem lt_multiply {c : Nat} (hc : c < 100) (hY : Y 23 3 = nI c) (k : pw_W l g μL_ sz Qf 1149 [(0, .ref (ad_ g 29)), (1, .ref (ad_ g 0)), (2, .ref (ad_ g 23)), (3, .ref (ad_ g 27)), (4, .int (nI i))] [] X Y) : pw_W l g μL_ sz Qf 410 [(0, .ref (ad_ g 29)), (1, .ref (ad_ g 0)), (2, .ref (ad_ g 23)), (3, .ref (ad_ g 27)), (4, .int (nI i)), (5, .int (nI c))] [] X Y := by
  refine px_aload_n (q := 411) dI_L_law_410 rfl rfl ?_
  refine px_callV0 (q := 414) (ν := mM_thrown) dI_L_law_411 (by decide) rfl rfl wl_L_86 wm_M_thrown wv_M_thrown wb_M_thrown wi_M ⟨rfl, rfl⟩ (by decide +kernel) ⟨(Nat.le_of_ble_eq_true rfl), (Nat.le_of_ble_eq_true rfl)⟩ (Nat.le_of_ble_eq_true rfl) rfl (c_M_thrown hY ?_)
  refine px_iload (q := 416) dI_L_law_414 rfl rfl ?_
  refine px_icmp_eqN (q := 419) (tgt := 421) dI_L_law_416 (by omega) (by omega) (by decide) rfl (fun b416 => ?_) (fun b416 => ?_)
  · refine px_goto (tgt := 1149) dI_L_law_421 (by decide) ?_
    refine px_keep [0, 1, 2, 3, 4] rfl ?_
    exact k
  · exact absurd rfl b416
theorem lt_divide {c : Nat} (hc : c < 100) (hY : Y 23 3 = nI c) (k : pw_W l g μL_ sz Qf 1149 [(0, .ref (ad_ g 29)), (1, .ref (ad_ g 0)), (2, .ref (ad_ g 23)), (3, .ref (ad_ g 27)), (4, .int (nI i))] [] X Y) : pw_W l g μL_ sz Qf 482 [(0, .ref (ad_ g 29)), (1, .ref (ad_ g 0)), (2, .ref (ad_ g 23)), (3, .ref (ad_ g 27)), (4, .int (nI i)), (5, .int (nI c))] [] X Y := by
  refine px_aload_n (q := 483) dI_L_law_482 rfl rfl ?_
  refine px_callV0 (q := 486) (ν := mM_thrown) dI_L_law_483 (by decide) rfl rfl wl_L_86 wm_M_thrown wv_M_thrown wb_M_thrown wi_M ⟨rfl, rfl⟩ (by decide +kernel) ⟨(Nat.le_of_ble_eq_true rfl), (Nat.le_of_ble_eq_true rfl)⟩ (Nat.le_of_ble_eq_true rfl) rfl (c_M_thrown hY ?_)
  refine px_iload (q := 488) dI_L_law_486 rfl rfl ?_
  refine px_icmp_eqN (q := 491) (tgt := 493) dI_L_law_488 (by omega) (by omega) (by decide) rfl (fun b488 => ?_) (fun b488 => ?_)
  · refine px_goto (tgt := 1149) dI_L_law_493 (by decide) ?_
    refine px_keep [0, 1, 2, 3, 4] rfl ?_
    exact k
  · exact absurd rfl b488
theorem lt_power {c : Nat} (hc : c < 100) (hY : Y 23 3 = nI c) (k : pw_W l g μL_ sz Qf 1149 [(0, .ref (ad_ g 29)), (1, .ref (ad_ g 0)), (2, .ref (ad_ g 23)), (3, .ref (ad_ g 27)), (4, .int (nI i))] [] X Y) : pw_W l g μL_ sz Qf 554 [(0, .ref (ad_ g 29)), (1, .ref (ad_ g 0)), (2, .ref (ad_ g 23)), (3, .ref (ad_ g 27)), (4, .int (nI i)), (5, .int (nI c))] [] X Y := by
  refine px_aload_n (q := 555) dI_L_law_554 rfl rfl ?_
  refine px_callV0 (q := 558) (ν := mM_thrown) dI_L_law_555 (by decide) rfl rfl wl_L_86 wm_M_thrown wv_M_thrown wb_M_thrown wi_M ⟨rfl, rfl⟩ (by decide +kernel) ⟨(Nat.le_of_ble_eq_true rfl), (Nat.le_of_ble_eq_true rfl)⟩ (Nat.le_of_ble_eq_true rfl) rfl (c_M_thrown hY ?_)
  refine px_iload (q := 560) dI_L_law_558 rfl rfl ?_
  refine px_icmp_eqN (q := 563) (tgt := 565) dI_L_law_560 (by omega) (by omega) (by decide) rfl (fun b560 => ?_) (fun b560 => ?_)
  · refine px_goto (tgt := 1149) dI_L_law_565 (by decide) ?_
    refine px_keep [0, 1, 2, 3, 4] rfl ?_
    exact k
  · exact absurd rfl b560
theorem lt_gcd {c : Nat} (hc : c < 100) (hY : Y 23 3 = nI c) (k : pw_W l g μL_ sz Qf 1149 [(0, .ref (ad_ g 29)), (1, .ref (ad_ g 0)), (2, .ref (ad_ g 23)), (3, .ref (ad_ g 27)), (4, .int (nI i))] [] X Y) : pw_W l g μL_ sz Qf 614 [(0, .ref (ad_ g 29)), (1, .ref (ad_ g 0)), (2, .ref (ad_ g 23)), (3, .ref (ad_ g 27)), (4, .int (nI i)), (5, .int (nI c))] [] X Y := by
  refine px_aload_n (q := 615) dI_L_law_614 rfl rfl ?_
  refine px_callV0 (q := 618) (ν := mM_thrown) dI_L_law_615 (by decide) rfl rfl wl_L_86 wm_M_thrown wv_M_thrown wb_M_thrown wi_M ⟨rfl, rfl⟩ (by decide +kernel) ⟨(Nat.le_of_ble_eq_true rfl), (Nat.le_of_ble_eq_true rfl)⟩ (Nat.le_of_ble_eq_true rfl) rfl (c_M_thrown hY ?_)
  refine px_iload (q := 620) dI_L_law_618 rfl rfl ?_
  refine px_icmp_eqN (q := 623) (tgt := 625) dI_L_law_620 (by omega) (by omega) (by decide) rfl (fun b620 => ?_) (fun b620 => ?_)
  · refine px_goto (tgt := 1149) dI_L_law_625 (by decide) ?_
    refine px_keep [0, 1, 2, 3, 4] rfl ?_
    exact k
  · exact absurd rfl b620
theorem lt_compare {c : Nat} (hc : c < 100) (hY : Y 23 3 = nI c) (r : Int32) (hv : c = 0 → X 27 0 = r.toInt64) (k : pw_W l g μL_ sz Qf 1149 [(0, .ref (ad_ g 29)), (1, .ref (ad_ g 0)), (2, .ref (ad_ g 23)), (3, .ref (ad_ g 27)), (4, .int (nI i))] [] X Y) : pw_W l g μL_ sz Qf 663 [(0, .ref (ad_ g 29)), (1, .ref (ad_ g 0)), (2, .ref (ad_ g 23)), (3, .ref (ad_ g 27)), (4, .int (nI i)), (5, .int (nI c))] [.int r] X Y := by
  refine px_istore (q := 665) dI_L_law_663 (by decide) rfl rfl ?_
  refine px_aload_n (q := 666) dI_L_law_665 rfl rfl ?_
  refine px_callV0 (q := 669) (ν := mM_thrown) dI_L_law_666 (by decide) rfl rfl wl_L_86 wm_M_thrown wv_M_thrown wb_M_thrown wi_M ⟨rfl, rfl⟩ (by decide +kernel) ⟨(Nat.le_of_ble_eq_true rfl), (Nat.le_of_ble_eq_true rfl)⟩ (Nat.le_of_ble_eq_true rfl) rfl (c_M_thrown hY ?_)
  refine px_iload (q := 671) dI_L_law_669 rfl rfl ?_
  refine px_icmp_eqN (q := 674) (tgt := 676) dI_L_law_671 (by omega) (by omega) (by decide) rfl (fun b671 => ?_) (fun b671 => ?_)
  · refine px_iload (q := 678) dI_L_law_676 rfl rfl ?_
    refine px_if_neN (q := 681) (tgt := 693) dI_L_law_678 (by omega) (by decide) rfl (fun b678 => ?_) (fun b678 => ?_)
    · refine px_goto (tgt := 1149) dI_L_law_693 (by decide) ?_
      refine px_keep [0, 1, 2, 3, 4] rfl ?_
      exact k
    · have e := hv b678
      refine px_aload_n (q := 682) dI_L_law_681 rfl rfl ?_
      refine px_iconst (q := 683) (v := nI 0) dI_L_law_682 (by decide +kernel) rfl ?_
      refine px_lald (q := 684) dI_L_law_683 rfl (by omega) (by omega) e rfl ?_
      refine px_iload (q := 686) dI_L_law_684 rfl rfl ?_
      refine px_i2l (q := 687) dI_L_law_686 rfl rfl ?_
      refine px_lcmp (q := 688) dI_L_law_687 rfl ?_
      refine px_if_eq (q := 691) (tgt := 693) dI_L_law_688 (by decide) rfl (fun b688 => ?_) (fun b688 => ?_)
      · refine px_goto (tgt := 1149) dI_L_law_693 (by decide) ?_
        refine px_keep [0, 1, 2, 3, 4] rfl ?_
        exact k
      · exact absurd (cmp_s _) b688
  · exact absurd rfl b671
theorem lt_bits {c : Nat} (hc : c < 100) (hY : Y 23 3 = nI c) (r : Int32) (hv : c = 0 → X 27 0 = r.toInt64) (k : pw_W l g μL_ sz Qf 1149 [(0, .ref (ad_ g 29)), (1, .ref (ad_ g 0)), (2, .ref (ad_ g 23)), (3, .ref (ad_ g 27)), (4, .int (nI i))] [] X Y) : pw_W l g μL_ sz Qf 719 [(0, .ref (ad_ g 29)), (1, .ref (ad_ g 0)), (2, .ref (ad_ g 23)), (3, .ref (ad_ g 27)), (4, .int (nI i)), (5, .int (nI c))] [.int r] X Y := by
  refine px_istore (q := 721) dI_L_law_719 (by decide) rfl rfl ?_
  refine px_aload_n (q := 722) dI_L_law_721 rfl rfl ?_
  refine px_callV0 (q := 725) (ν := mM_thrown) dI_L_law_722 (by decide) rfl rfl wl_L_86 wm_M_thrown wv_M_thrown wb_M_thrown wi_M ⟨rfl, rfl⟩ (by decide +kernel) ⟨(Nat.le_of_ble_eq_true rfl), (Nat.le_of_ble_eq_true rfl)⟩ (Nat.le_of_ble_eq_true rfl) rfl (c_M_thrown hY ?_)
  refine px_iload (q := 727) dI_L_law_725 rfl rfl ?_
  refine px_icmp_eqN (q := 730) (tgt := 732) dI_L_law_727 (by omega) (by omega) (by decide) rfl (fun b727 => ?_) (fun b727 => ?_)
  · refine px_iload (q := 734) dI_L_law_732 rfl rfl ?_
    refine px_if_neN (q := 737) (tgt := 749) dI_L_law_734 (by omega) (by decide) rfl (fun b734 => ?_) (fun b734 => ?_)
    · refine px_goto (tgt := 1149) dI_L_law_749 (by decide) ?_
      refine px_keep [0, 1, 2, 3, 4] rfl ?_
      exact k
    · have e := hv b734
      refine px_aload_n (q := 738) dI_L_law_737 rfl rfl ?_
      refine px_iconst (q := 739) (v := nI 0) dI_L_law_738 (by decide +kernel) rfl ?_
      refine px_lald (q := 740) dI_L_law_739 rfl (by omega) (by omega) e rfl ?_
      refine px_iload (q := 742) dI_L_law_740 rfl rfl ?_
      refine px_i2l (q := 743) dI_L_law_742 rfl rfl ?_
      refine px_lcmp (q := 744) dI_L_law_743 rfl ?_
      refine px_if_eq (q := 747) (tgt := 749) dI_L_law_744 (by decide) rfl (fun b744 => ?_) (fun b744 => ?_)
      · refine px_goto (tgt := 1149) dI_L_law_749 (by decide) ?_
        refine px_keep [0, 1, 2, 3, 4] rfl ?_
        exact k
      · exact absurd (cmp_s _) b744
  · exact absurd rfl b727
theorem lt_word {c : Nat} (hc : c < 100) (hY : Y 23 3 = nI c) (r : Int64) (hv : c = 0 → X 27 0 = r) (k : pw_W l g μL_ sz Qf 1149 [(0, .ref (ad_ g 29)), (1, .ref (ad_ g 0)), (2, .ref (ad_ g 23)), (3, .ref (ad_ g 27)), (4, .int (nI i))] [] X Y) : pw_W l g μL_ sz Qf 787 [(0, .ref (ad_ g 29)), (1, .ref (ad_ g 0)), (2, .ref (ad_ g 23)), (3, .ref (ad_ g 27)), (4, .int (nI i)), (5, .int (nI c))] [.long r] X Y := by
  refine px_lstore (q := 789) dI_L_law_787 (by decide) rfl rfl ?_
  refine px_aload_n (q := 790) dI_L_law_789 rfl rfl ?_
  refine px_callV0 (q := 793) (ν := mM_thrown) dI_L_law_790 (by decide) rfl rfl wl_L_86 wm_M_thrown wv_M_thrown wb_M_thrown wi_M ⟨rfl, rfl⟩ (by decide +kernel) ⟨(Nat.le_of_ble_eq_true rfl), (Nat.le_of_ble_eq_true rfl)⟩ (Nat.le_of_ble_eq_true rfl) rfl (c_M_thrown hY ?_)
  refine px_iload (q := 795) dI_L_law_793 rfl rfl ?_
  refine px_icmp_eqN (q := 798) (tgt := 800) dI_L_law_795 (by omega) (by omega) (by decide) rfl (fun b795 => ?_) (fun b795 => ?_)
  · refine px_iload (q := 802) dI_L_law_800 rfl rfl ?_
    refine px_if_neN (q := 805) (tgt := 816) dI_L_law_802 (by omega) (by decide) rfl (fun b802 => ?_) (fun b802 => ?_)
    · refine px_goto (tgt := 1149) dI_L_law_816 (by decide) ?_
      refine px_keep [0, 1, 2, 3, 4] rfl ?_
      exact k
    · have e := hv b802
      refine px_aload_n (q := 806) dI_L_law_805 rfl rfl ?_
      refine px_iconst (q := 807) (v := nI 0) dI_L_law_806 (by decide +kernel) rfl ?_
      refine px_lald (q := 808) dI_L_law_807 rfl (by omega) (by omega) e rfl ?_
      refine px_lload (q := 810) dI_L_law_808 rfl rfl ?_
      refine px_lcmp (q := 811) dI_L_law_810 rfl ?_
      refine px_if_eq (q := 814) (tgt := 816) dI_L_law_811 (by decide) rfl (fun b811 => ?_) (fun b811 => ?_)
      · refine px_goto (tgt := 1149) dI_L_law_816 (by decide) ?_
        refine px_keep [0, 1, 2, 3, 4] rfl ?_
        exact k
      · exact absurd (cmp_s _) b811
  · exact absurd rfl b795
theorem lt_perfect {c : Nat} (hc : c < 100) (hY : Y 23 3 = nI c) (r : Int32) (hv : c = 0 → X 27 0 = r.toInt64) (k : pw_W l g μL_ sz Qf 1149 [(0, .ref (ad_ g 29)), (1, .ref (ad_ g 0)), (2, .ref (ad_ g 23)), (3, .ref (ad_ g 27)), (4, .int (nI i))] [] X Y) : pw_W l g μL_ sz Qf 842 [(0, .ref (ad_ g 29)), (1, .ref (ad_ g 0)), (2, .ref (ad_ g 23)), (3, .ref (ad_ g 27)), (4, .int (nI i)), (5, .int (nI c))] [.int r] X Y := by
  refine px_istore (q := 844) dI_L_law_842 (by decide) rfl rfl ?_
  refine px_aload_n (q := 845) dI_L_law_844 rfl rfl ?_
  refine px_callV0 (q := 848) (ν := mM_thrown) dI_L_law_845 (by decide) rfl rfl wl_L_86 wm_M_thrown wv_M_thrown wb_M_thrown wi_M ⟨rfl, rfl⟩ (by decide +kernel) ⟨(Nat.le_of_ble_eq_true rfl), (Nat.le_of_ble_eq_true rfl)⟩ (Nat.le_of_ble_eq_true rfl) rfl (c_M_thrown hY ?_)
  refine px_iload (q := 850) dI_L_law_848 rfl rfl ?_
  refine px_icmp_eqN (q := 853) (tgt := 855) dI_L_law_850 (by omega) (by omega) (by decide) rfl (fun b850 => ?_) (fun b850 => ?_)
  · refine px_iload (q := 857) dI_L_law_855 rfl rfl ?_
    refine px_if_neN (q := 860) (tgt := 872) dI_L_law_857 (by omega) (by decide) rfl (fun b857 => ?_) (fun b857 => ?_)
    · refine px_goto (tgt := 1149) dI_L_law_872 (by decide) ?_
      refine px_keep [0, 1, 2, 3, 4] rfl ?_
      exact k
    · have e := hv b857
      refine px_aload_n (q := 861) dI_L_law_860 rfl rfl ?_
      refine px_iconst (q := 862) (v := nI 0) dI_L_law_861 (by decide +kernel) rfl ?_
      refine px_lald (q := 863) dI_L_law_862 rfl (by omega) (by omega) e rfl ?_
      refine px_iload (q := 865) dI_L_law_863 rfl rfl ?_
      refine px_i2l (q := 866) dI_L_law_865 rfl rfl ?_
      refine px_lcmp (q := 867) dI_L_law_866 rfl ?_
      refine px_if_eq (q := 870) (tgt := 872) dI_L_law_867 (by decide) rfl (fun b867 => ?_) (fun b867 => ?_)
      · refine px_goto (tgt := 1149) dI_L_law_872 (by decide) ?_
        refine px_keep [0, 1, 2, 3, 4] rfl ?_
        exact k
      · exact absurd (cmp_s _) b867
  · exact absurd rfl b850
theorem lt_order {c : Nat} (hc : c < 100) (hY : Y 23 3 = nI c) (r : Int32) (hv : c = 0 → X 27 0 = r.toInt64) (k : pw_W l g μL_ sz Qf 1149 [(0, .ref (ad_ g 29)), (1, .ref (ad_ g 0)), (2, .ref (ad_ g 23)), (3, .ref (ad_ g 27)), (4, .int (nI i))] [] X Y) : pw_W l g μL_ sz Qf 910 [(0, .ref (ad_ g 29)), (1, .ref (ad_ g 0)), (2, .ref (ad_ g 23)), (3, .ref (ad_ g 27)), (4, .int (nI i)), (5, .int (nI c))] [.int r] X Y := by
  refine px_istore (q := 912) dI_L_law_910 (by decide) rfl rfl ?_
  refine px_aload_n (q := 913) dI_L_law_912 rfl rfl ?_
  refine px_callV0 (q := 916) (ν := mM_thrown) dI_L_law_913 (by decide) rfl rfl wl_L_86 wm_M_thrown wv_M_thrown wb_M_thrown wi_M ⟨rfl, rfl⟩ (by decide +kernel) ⟨(Nat.le_of_ble_eq_true rfl), (Nat.le_of_ble_eq_true rfl)⟩ (Nat.le_of_ble_eq_true rfl) rfl (c_M_thrown hY ?_)
  refine px_iload (q := 918) dI_L_law_916 rfl rfl ?_
  refine px_icmp_eqN (q := 921) (tgt := 923) dI_L_law_918 (by omega) (by omega) (by decide) rfl (fun b918 => ?_) (fun b918 => ?_)
  · refine px_iload (q := 925) dI_L_law_923 rfl rfl ?_
    refine px_if_neN (q := 928) (tgt := 940) dI_L_law_925 (by omega) (by decide) rfl (fun b925 => ?_) (fun b925 => ?_)
    · refine px_goto (tgt := 1149) dI_L_law_940 (by decide) ?_
      refine px_keep [0, 1, 2, 3, 4] rfl ?_
      exact k
    · have e := hv b925
      refine px_aload_n (q := 929) dI_L_law_928 rfl rfl ?_
      refine px_iconst (q := 930) (v := nI 0) dI_L_law_929 (by decide +kernel) rfl ?_
      refine px_lald (q := 931) dI_L_law_930 rfl (by omega) (by omega) e rfl ?_
      refine px_iload (q := 933) dI_L_law_931 rfl rfl ?_
      refine px_i2l (q := 934) dI_L_law_933 rfl rfl ?_
      refine px_lcmp (q := 935) dI_L_law_934 rfl ?_
      refine px_if_eq (q := 938) (tgt := 940) dI_L_law_935 (by decide) rfl (fun b935 => ?_) (fun b935 => ?_)
      · refine px_goto (tgt := 1149) dI_L_law_940 (by decide) ?_
        refine px_keep [0, 1, 2, 3, 4] rfl ?_
        exact k
      · exact absurd (cmp_s _) b935
  · exact absurd rfl b918
theorem lt_modulus {c : Nat} (hc : c < 100) (hY : Y 23 3 = nI c) (r : Int32) (hv : c = 0 → X 27 0 = r.toInt64) (k : pw_W l g μL_ sz Qf 1149 [(0, .ref (ad_ g 29)), (1, .ref (ad_ g 0)), (2, .ref (ad_ g 23)), (3, .ref (ad_ g 27)), (4, .int (nI i))] [] X Y) : pw_W l g μL_ sz Qf 966 [(0, .ref (ad_ g 29)), (1, .ref (ad_ g 0)), (2, .ref (ad_ g 23)), (3, .ref (ad_ g 27)), (4, .int (nI i)), (5, .int (nI c))] [.int r] X Y := by
  refine px_istore (q := 968) dI_L_law_966 (by decide) rfl rfl ?_
  refine px_aload_n (q := 969) dI_L_law_968 rfl rfl ?_
  refine px_callV0 (q := 972) (ν := mM_thrown) dI_L_law_969 (by decide) rfl rfl wl_L_86 wm_M_thrown wv_M_thrown wb_M_thrown wi_M ⟨rfl, rfl⟩ (by decide +kernel) ⟨(Nat.le_of_ble_eq_true rfl), (Nat.le_of_ble_eq_true rfl)⟩ (Nat.le_of_ble_eq_true rfl) rfl (c_M_thrown hY ?_)
  refine px_iload (q := 974) dI_L_law_972 rfl rfl ?_
  refine px_icmp_eqN (q := 977) (tgt := 979) dI_L_law_974 (by omega) (by omega) (by decide) rfl (fun b974 => ?_) (fun b974 => ?_)
  · refine px_iload (q := 981) dI_L_law_979 rfl rfl ?_
    refine px_if_neN (q := 984) (tgt := 996) dI_L_law_981 (by omega) (by decide) rfl (fun b981 => ?_) (fun b981 => ?_)
    · refine px_goto (tgt := 1149) dI_L_law_996 (by decide) ?_
      refine px_keep [0, 1, 2, 3, 4] rfl ?_
      exact k
    · have e := hv b981
      refine px_aload_n (q := 985) dI_L_law_984 rfl rfl ?_
      refine px_iconst (q := 986) (v := nI 0) dI_L_law_985 (by decide +kernel) rfl ?_
      refine px_lald (q := 987) dI_L_law_986 rfl (by omega) (by omega) e rfl ?_
      refine px_iload (q := 989) dI_L_law_987 rfl rfl ?_
      refine px_i2l (q := 990) dI_L_law_989 rfl rfl ?_
      refine px_lcmp (q := 991) dI_L_law_990 rfl ?_
      refine px_if_eq (q := 994) (tgt := 996) dI_L_law_991 (by decide) rfl (fun b991 => ?_) (fun b991 => ?_)
      · refine px_goto (tgt := 1149) dI_L_law_996 (by decide) ?_
        refine px_keep [0, 1, 2, 3, 4] rfl ?_
        exact k
      · exact absurd (cmp_s _) b991
  · exact absurd rfl b974
theorem lt_congruent {c : Nat} (hc : c < 100) (hY : Y 23 3 = nI c) (r : Nat) (hr : r < 2) (hv : c = 0 → X 27 0 = lN r) (k : pw_W l g μL_ sz Qf 1149 [(0, .ref (ad_ g 29)), (1, .ref (ad_ g 0)), (2, .ref (ad_ g 23)), (3, .ref (ad_ g 27)), (4, .int (nI i))] [] X Y) : pw_W l g μL_ sz Qf 1046 [(0, .ref (ad_ g 29)), (1, .ref (ad_ g 0)), (2, .ref (ad_ g 23)), (3, .ref (ad_ g 27)), (4, .int (nI i)), (5, .int (nI c))] [.int (nI r)] X Y := by
  refine px_istore (q := 1048) dI_L_law_1046 (by decide) rfl rfl ?_
  refine px_aload_n (q := 1049) dI_L_law_1048 rfl rfl ?_
  refine px_callV0 (q := 1052) (ν := mM_thrown) dI_L_law_1049 (by decide) rfl rfl wl_L_86 wm_M_thrown wv_M_thrown wb_M_thrown wi_M ⟨rfl, rfl⟩ (by decide +kernel) ⟨(Nat.le_of_ble_eq_true rfl), (Nat.le_of_ble_eq_true rfl)⟩ (Nat.le_of_ble_eq_true rfl) rfl (c_M_thrown hY ?_)
  refine px_iload (q := 1054) dI_L_law_1052 rfl rfl ?_
  refine px_icmp_eqN (q := 1057) (tgt := 1059) dI_L_law_1054 (by omega) (by omega) (by decide) rfl (fun b1054 => ?_) (fun b1054 => ?_)
  · refine px_iload (q := 1061) dI_L_law_1059 rfl rfl ?_
    refine px_if_neN (q := 1064) (tgt := 1083) dI_L_law_1061 (by omega) (by decide) rfl (fun b1061 => ?_) (fun b1061 => ?_)
    · refine px_goto (tgt := 1149) dI_L_law_1083 (by decide) ?_
      refine px_keep [0, 1, 2, 3, 4] rfl ?_
      exact k
    · have e := hv b1061
      rcases (show r = 0 ∨ r = 1 by omega) with rfl | rfl
      · refine px_aload_n (q := 1065) dI_L_law_1064 rfl rfl ?_
        refine px_iconst (q := 1066) (v := nI 0) dI_L_law_1065 (by decide +kernel) rfl ?_
        refine px_lald (q := 1067) dI_L_law_1066 rfl (by omega) (by omega) e rfl ?_
        refine px_iload (q := 1069) dI_L_law_1067 rfl rfl ?_
        refine px_if_eqN (q := 1072) (tgt := 1076) dI_L_law_1069 (by omega) (by decide) rfl (fun b1069 => ?_) (fun b1069 => ?_)
        · refine px_lconst (q := 1077) (v := lN 0) dI_L_law_1076 rfl rfl ?_
          refine px_lcmp (q := 1078) dI_L_law_1077 rfl ?_
          refine px_if_eq (q := 1081) (tgt := 1083) dI_L_law_1078 (by decide) rfl (fun b1078 => ?_) (fun b1078 => ?_)
          · refine px_goto (tgt := 1149) dI_L_law_1083 (by decide) ?_
            refine px_keep [0, 1, 2, 3, 4] rfl ?_
            exact k
          · exact absurd (cmp_s _) b1078
        · exact absurd rfl b1069
      · refine px_aload_n (q := 1065) dI_L_law_1064 rfl rfl ?_
        refine px_iconst (q := 1066) (v := nI 0) dI_L_law_1065 (by decide +kernel) rfl ?_
        refine px_lald (q := 1067) dI_L_law_1066 rfl (by omega) (by omega) e rfl ?_
        refine px_iload (q := 1069) dI_L_law_1067 rfl rfl ?_
        refine px_if_eqN (q := 1072) (tgt := 1076) dI_L_law_1069 (by omega) (by decide) rfl (fun b1069 => ?_) (fun b1069 => ?_)
        · exact absurd b1069 (by decide)
        · refine px_lconst (q := 1073) (v := lN 1) dI_L_law_1072 rfl rfl ?_
          refine px_goto (tgt := 1077) dI_L_law_1073 (by decide) ?_
          refine px_lcmp (q := 1078) dI_L_law_1077 rfl ?_
          refine px_if_eq (q := 1081) (tgt := 1083) dI_L_law_1078 (by decide) rfl (fun b1078 => ?_) (fun b1078 => ?_)
          · refine px_goto (tgt := 1149) dI_L_law_1083 (by decide) ?_
            refine px_keep [0, 1, 2, 3, 4] rfl ?_
            exact k
          · exact absurd (cmp_s _) b1078
  · exact absurd rfl b1054
theorem lt_prime {c : Nat} (hc : c < 100) (hY : Y 23 3 = nI c) (r : Nat) (hr : r < 2) (hv : c = 0 → X 27 0 = lN r) (k : pw_W l g μL_ sz Qf 1149 [(0, .ref (ad_ g 29)), (1, .ref (ad_ g 0)), (2, .ref (ad_ g 23)), (3, .ref (ad_ g 27)), (4, .int (nI i))] [] X Y) : pw_W l g μL_ sz Qf 1109 [(0, .ref (ad_ g 29)), (1, .ref (ad_ g 0)), (2, .ref (ad_ g 23)), (3, .ref (ad_ g 27)), (4, .int (nI i)), (5, .int (nI c))] [.int (nI r)] X Y := by
  refine px_istore (q := 1111) dI_L_law_1109 (by decide) rfl rfl ?_
  refine px_aload_n (q := 1112) dI_L_law_1111 rfl rfl ?_
  refine px_callV0 (q := 1115) (ν := mM_thrown) dI_L_law_1112 (by decide) rfl rfl wl_L_86 wm_M_thrown wv_M_thrown wb_M_thrown wi_M ⟨rfl, rfl⟩ (by decide +kernel) ⟨(Nat.le_of_ble_eq_true rfl), (Nat.le_of_ble_eq_true rfl)⟩ (Nat.le_of_ble_eq_true rfl) rfl (c_M_thrown hY ?_)
  refine px_iload (q := 1117) dI_L_law_1115 rfl rfl ?_
  refine px_icmp_eqN (q := 1120) (tgt := 1122) dI_L_law_1117 (by omega) (by omega) (by decide) rfl (fun b1117 => ?_) (fun b1117 => ?_)
  · refine px_iload (q := 1124) dI_L_law_1122 rfl rfl ?_
    refine px_if_neN (q := 1127) (tgt := 1146) dI_L_law_1124 (by omega) (by decide) rfl (fun b1124 => ?_) (fun b1124 => ?_)
    · refine px_goto (tgt := 1149) dI_L_law_1146 (by decide) ?_
      refine px_keep [0, 1, 2, 3, 4] rfl ?_
      exact k
    · have e := hv b1124
      rcases (show r = 0 ∨ r = 1 by omega) with rfl | rfl
      · refine px_aload_n (q := 1128) dI_L_law_1127 rfl rfl ?_
        refine px_iconst (q := 1129) (v := nI 0) dI_L_law_1128 (by decide +kernel) rfl ?_
        refine px_lald (q := 1130) dI_L_law_1129 rfl (by omega) (by omega) e rfl ?_
        refine px_iload (q := 1132) dI_L_law_1130 rfl rfl ?_
        refine px_if_eqN (q := 1135) (tgt := 1139) dI_L_law_1132 (by omega) (by decide) rfl (fun b1132 => ?_) (fun b1132 => ?_)
        · refine px_lconst (q := 1140) (v := lN 0) dI_L_law_1139 rfl rfl ?_
          refine px_lcmp (q := 1141) dI_L_law_1140 rfl ?_
          refine px_if_eq (q := 1144) (tgt := 1146) dI_L_law_1141 (by decide) rfl (fun b1141 => ?_) (fun b1141 => ?_)
          · refine px_goto (tgt := 1149) dI_L_law_1146 (by decide) ?_
            refine px_keep [0, 1, 2, 3, 4] rfl ?_
            exact k
          · exact absurd (cmp_s _) b1141
        · exact absurd rfl b1132
      · refine px_aload_n (q := 1128) dI_L_law_1127 rfl rfl ?_
        refine px_iconst (q := 1129) (v := nI 0) dI_L_law_1128 (by decide +kernel) rfl ?_
        refine px_lald (q := 1130) dI_L_law_1129 rfl (by omega) (by omega) e rfl ?_
        refine px_iload (q := 1132) dI_L_law_1130 rfl rfl ?_
        refine px_if_eqN (q := 1135) (tgt := 1139) dI_L_law_1132 (by omega) (by decide) rfl (fun b1132 => ?_) (fun b1132 => ?_)
        · exact absurd b1132 (by decide)
        · refine px_lconst (q := 1136) (v := lN 1) dI_L_law_1135 rfl rfl ?_
          refine px_goto (tgt := 1140) dI_L_law_1136 (by decide) ?_
          refine px_lcmp (q := 1141) dI_L_law_1140 rfl ?_
          refine px_if_eq (q := 1144) (tgt := 1146) dI_L_law_1141 (by decide) rfl (fun b1141 => ?_) (fun b1141 => ?_)
          · refine px_goto (tgt := 1149) dI_L_law_1146 (by decide) ?_
            refine px_keep [0, 1, 2, 3, 4] rfl ?_
            exact k
          · exact absurd (cmp_s _) b1141
  · exact absurd rfl b1117
end LT
