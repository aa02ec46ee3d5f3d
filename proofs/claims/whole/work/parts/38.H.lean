/-! the law's helpers: they call the desk and tell what it threw -/
section CH
variable {l : Launch} {g : pw_G} {X : pw_X} {Y : pw_Y} {Post : pw_P} {v : Nat → Nat}
def fq_ (Y Y' : pw_Y) : Prop := ∀ k, 23 ≤ k → Y' k = Y k
theorem px_iretG {μ : pw_M} {sz pc k n : Nat} {hh : pw_hh} {ls : List (Nat × Value)} {x y : Int32} (hk : k ≤ 1) (hn : n ≤ 6) (hd : decode μ.2.1 pc = .ok (.ireturn, 1)) (hr : μ.2.2.2.1 = some .int) (hx : x = y) (hp : Post (some (.int y)) X Y) : pw_W l g μ sz (pw_qH g hh sz Post k n) pc ls [.int x] X Y := hx ▸ px_iretH hk hn hd hr (hx ▸ hp)
def hh_add : pw_hh := [(0, 7, 10, 13), (0, 7, 14, 21)]
def hh_append : pw_hh := [(0, 6, 9, 13), (0, 6, 12, 21)]
def hh_bits : pw_hh := [(0, 9, 12, 13)]
def hh_compare : pw_hh := [(0, 10, 13, 13)]
def hh_congruent : pw_hh := [(0, 19, 22, 13), (0, 19, 26, 15), (0, 19, 30, 64)]
def hh_divide : pw_hh := [(0, 9, 12, 13), (0, 9, 16, 15), (0, 9, 20, 21)]
def hh_gcd : pw_hh := [(0, 7, 10, 13)]
def hh_modulus : pw_hh := [(0, 9, 12, 13), (0, 9, 15, 64)]
def hh_multiply : pw_hh := [(0, 7, 10, 13), (0, 7, 14, 21)]
def hh_order : pw_hh := [(0, 10, 13, 13), (0, 10, 17, 15), (0, 10, 21, 21)]
def hh_perfect : pw_hh := [(0, 9, 12, 13)]
def hh_power : pw_hh := [(0, 9, 12, 13), (0, 9, 16, 21)]
def hh_prime : pw_hh := [(0, 16, 19, 13), (0, 16, 22, 64)]
def hh_put : pw_hh := [(0, 6, 9, 13), (0, 6, 13, 15)]
def hh_subtract : pw_hh := [(0, 7, 10, 13), (0, 7, 14, 21)]
def hh_word : pw_hh := [(0, 9, 12, 13)]
theorem h_L_put_bad {t : Int32} {x : Int64} (hT : xT_ g) (hC4 : xC_ g) (hS0 : l.stackTraces = false) (hbad : bd_ t) (hp : Post (some (.int (nI 1))) X Y) : pw_MetH l g tL_put hh_put [.ref (ad_ g 0), .int t, .long x] X Y Post := by
  refine ph_ofW (by decide +kernel) rfl (Nat.le_of_ble_eq_true rfl) rfl (fun sz => ?_)
  refine px_aload_n (q := 1) dI_L_put_0 rfl rfl ?_
  refine px_iload_n (q := 2) dI_L_put_1 rfl rfl ?_
  refine px_lload_n (q := 3) dI_L_put_2 rfl rfl ?_
  refine px_hcall (ν := tP_put) (n := 2) (As := [.int t, .long x]) (st := []) (E0 := xI_) (pre := []) (x := (0, 6, 9, 13)) (suf := [(0, 6, 13, 15)]) hT hC4 rfl (by decide) rfl rfl (by decide) wc_L_13 (fun z hz => nomatch hz) dI_L_put_3 wl_L_7 wm_P_put wv_P_put wb_P_put wi_P ⟨rfl, rfl⟩ (by decide +kernel) rfl ⟨(Nat.le_of_ble_eq_true rfl), (Nat.le_of_ble_eq_true rfl)⟩ (Nat.le_of_ble_eq_true rfl) (Nat.le_of_ble_eq_true rfl) (Nat.le_of_ble_eq_true rfl) ?_
  refine t_P_put_bad hT hS0 hbad (⟨rfl, fun q => ?_⟩)
  refine px_astore (q := 11) dI_L_put_9 (by decide) rfl rfl ?_
  refine px_iconst (q := 12) (v := nI 1) dI_L_put_11 (by decide +kernel) rfl ?_
  exact px_iretH (by decide) (by decide) dI_L_put_12 rfl hp
theorem h_L_put_neg {t : Nat} {x : Int64} (hT : xT_ g) (hC4 : xC_ g) (hS0 : l.stackTraces = false) (ht : t < 6) (hx : x < 0) (hp : Post (some (.int (nI 2))) X Y) : pw_MetH l g tL_put hh_put [.ref (ad_ g 0), .int (nI t), .long x] X Y Post := by
  refine ph_ofW (by decide +kernel) rfl (Nat.le_of_ble_eq_true rfl) rfl (fun sz => ?_)
  refine px_aload_n (q := 1) dI_L_put_0 rfl rfl ?_
  refine px_iload_n (q := 2) dI_L_put_1 rfl rfl ?_
  refine px_lload_n (q := 3) dI_L_put_2 rfl rfl ?_
  refine px_hcall (ν := tP_put) (n := 2) (As := [.int (nI t), .long x]) (st := []) (E0 := xA_) (pre := [(0, 6, 9, 13)]) (x := (0, 6, 13, 15)) (suf := []) hT hC4 rfl (by decide) rfl rfl (by decide) wc_L_15 (fun z hz => by cases List.mem_singleton.mp hz; exact ⟨by decide, xI_, by decide, by decide, wc_L_13⟩) dI_L_put_3 wl_L_7 wm_P_put wv_P_put wb_P_put wi_P ⟨rfl, rfl⟩ (by decide +kernel) rfl ⟨(Nat.le_of_ble_eq_true rfl), (Nat.le_of_ble_eq_true rfl)⟩ (Nat.le_of_ble_eq_true rfl) (Nat.le_of_ble_eq_true rfl) (Nat.le_of_ble_eq_true rfl) ?_
  refine t_P_put_neg hT hS0 ht hx (⟨rfl, fun q => ?_⟩)
  refine px_astore (q := 15) dI_L_put_13 (by decide) rfl rfl ?_
  refine px_iconst (q := 16) (v := nI 2) dI_L_put_15 (by decide +kernel) rfl ?_
  exact px_iretH (by decide) (by decide) dI_L_put_16 rfl hp
theorem h_L_append_bad {t x : Int32} (hT : xT_ g) (hC4 : xC_ g) (hS0 : l.stackTraces = false) (hbad : bd_ t) (hp : Post (some (.int (nI 1))) X Y) : pw_MetH l g tL_append hh_append [.ref (ad_ g 0), .int t, .int x] X Y Post := by
  refine ph_ofW (by decide +kernel) rfl (Nat.le_of_ble_eq_true rfl) rfl (fun sz => ?_)
  refine px_aload_n (q := 1) dI_L_append_0 rfl rfl ?_
  refine px_iload_n (q := 2) dI_L_append_1 rfl rfl ?_
  refine px_iload_n (q := 3) dI_L_append_2 rfl rfl ?_
  refine px_hcall (ν := tP_append) (n := 2) (As := [.int t, .int x]) (st := []) (E0 := xI_) (pre := []) (x := (0, 6, 9, 13)) (suf := [(0, 6, 12, 21)]) hT hC4 rfl (by decide) rfl rfl (by decide) wc_L_13 (fun z hz => nomatch hz) dI_L_append_3 wl_L_17 wm_P_append wv_P_append wb_P_append wi_P ⟨rfl, rfl⟩ (by decide +kernel) rfl ⟨(Nat.le_of_ble_eq_true rfl), (Nat.le_of_ble_eq_true rfl)⟩ (Nat.le_of_ble_eq_true rfl) (Nat.le_of_ble_eq_true rfl) (Nat.le_of_ble_eq_true rfl) ?_
  refine t_P_append_bad hT hS0 hbad (⟨rfl, fun q => ?_⟩)
  refine px_astore_n (q := 10) dI_L_append_9 rfl (by decide) rfl rfl ?_
  refine px_iconst (q := 11) (v := nI 1) dI_L_append_10 (by decide +kernel) rfl ?_
  exact px_iretH (by decide) (by decide) dI_L_append_11 rfl hp
theorem h_L_append_over {t : Nat} {x : Int32} (hT : xT_ g) (hC4 : xC_ g) (hS0 : l.stackTraces = false) (ht : t < 6) (hv : 4294967296 ^ 3 ≤ v t) (hdk : dk_ X v) (hp : Post (some (.int (nI 2))) X Y) : pw_MetH l g tL_append hh_append [.ref (ad_ g 0), .int (nI t), .int x] X Y Post := by
  refine ph_ofW (by decide +kernel) rfl (Nat.le_of_ble_eq_true rfl) rfl (fun sz => ?_)
  refine px_aload_n (q := 1) dI_L_append_0 rfl rfl ?_
  refine px_iload_n (q := 2) dI_L_append_1 rfl rfl ?_
  refine px_iload_n (q := 3) dI_L_append_2 rfl rfl ?_
  refine px_hcall (ν := tP_append) (n := 2) (As := [.int (nI t), .int x]) (st := []) (E0 := xM_) (pre := [(0, 6, 9, 13)]) (x := (0, 6, 12, 21)) (suf := []) hT hC4 rfl (by decide) rfl rfl (by decide) wc_L_21 (fun z hz => by cases List.mem_singleton.mp hz; exact ⟨by decide, xI_, by decide, by decide, wc_L_13⟩) dI_L_append_3 wl_L_17 wm_P_append wv_P_append wb_P_append wi_P ⟨rfl, rfl⟩ (by decide +kernel) rfl ⟨(Nat.le_of_ble_eq_true rfl), (Nat.le_of_ble_eq_true rfl)⟩ (Nat.le_of_ble_eq_true rfl) (Nat.le_of_ble_eq_true rfl) (Nat.le_of_ble_eq_true rfl) ?_
  refine t_P_append_over hT hS0 ht hv hdk (⟨rfl, fun q => ?_⟩)
  refine px_astore_n (q := 13) dI_L_append_12 rfl (by decide) rfl rfl ?_
  refine px_iconst (q := 14) (v := nI 2) dI_L_append_13 (by decide +kernel) rfl ?_
  exact px_iretH (by decide) (by decide) dI_L_append_14 rfl hp
theorem h_L_add_bad {a b t : Int32} (hT : xT_ g) (hC4 : xC_ g) (hS0 : l.stackTraces = false) (hbad : bd_ a ∨ bd_ b ∨ bd_ t) (hp : Post (some (.int (nI 1))) X Y) : pw_MetH l g tL_add hh_add [.ref (ad_ g 0), .int a, .int b, .int t] X Y Post := by
  refine ph_ofW (by decide +kernel) rfl (Nat.le_of_ble_eq_true rfl) rfl (fun sz => ?_)
  refine px_aload_n (q := 1) dI_L_add_0 rfl rfl ?_
  refine px_iload_n (q := 2) dI_L_add_1 rfl rfl ?_
  refine px_iload_n (q := 3) dI_L_add_2 rfl rfl ?_
  refine px_iload_n (q := 4) dI_L_add_3 rfl rfl ?_
  refine px_hcall (ν := tP_add) (n := 3) (As := [.int a, .int b, .int t]) (st := []) (E0 := xI_) (pre := []) (x := (0, 7, 10, 13)) (suf := [(0, 7, 14, 21)]) hT hC4 rfl (by decide) rfl rfl (by decide) wc_L_13 (fun z hz => nomatch hz) dI_L_add_4 wl_L_23 wm_P_add wv_P_add wb_P_add wi_P ⟨rfl, rfl⟩ (by decide +kernel) rfl ⟨(Nat.le_of_ble_eq_true rfl), (Nat.le_of_ble_eq_true rfl)⟩ (Nat.le_of_ble_eq_true rfl) (Nat.le_of_ble_eq_true rfl) (Nat.le_of_ble_eq_true rfl) ?_
  refine t_P_add_bad hT hS0 hbad (⟨rfl, fun q => ?_⟩)
  refine px_astore (q := 12) dI_L_add_10 (by decide) rfl rfl ?_
  refine px_iconst (q := 13) (v := nI 1) dI_L_add_12 (by decide +kernel) rfl ?_
  exact px_iretH (by decide) (by decide) dI_L_add_13 rfl hp
theorem h_L_subtract_bad {a b t : Int32} (hT : xT_ g) (hC4 : xC_ g) (hS0 : l.stackTraces = false) (hbad : bd_ a ∨ bd_ b ∨ bd_ t) (hp : Post (some (.int (nI 1))) X Y) : pw_MetH l g tL_subtract hh_subtract [.ref (ad_ g 0), .int a, .int b, .int t] X Y Post := by
  refine ph_ofW (by decide +kernel) rfl (Nat.le_of_ble_eq_true rfl) rfl (fun sz => ?_)
  refine px_aload_n (q := 1) dI_L_subtract_0 rfl rfl ?_
  refine px_iload_n (q := 2) dI_L_subtract_1 rfl rfl ?_
  refine px_iload_n (q := 3) dI_L_subtract_2 rfl rfl ?_
  refine px_iload_n (q := 4) dI_L_subtract_3 rfl rfl ?_
  refine px_hcall (ν := tP_subtract) (n := 3) (As := [.int a, .int b, .int t]) (st := []) (E0 := xI_) (pre := []) (x := (0, 7, 10, 13)) (suf := [(0, 7, 14, 21)]) hT hC4 rfl (by decide) rfl rfl (by decide) wc_L_13 (fun z hz => nomatch hz) dI_L_subtract_4 wl_L_27 wm_P_subtract wv_P_subtract wb_P_subtract wi_P ⟨rfl, rfl⟩ (by decide +kernel) rfl ⟨(Nat.le_of_ble_eq_true rfl), (Nat.le_of_ble_eq_true rfl)⟩ (Nat.le_of_ble_eq_true rfl) (Nat.le_of_ble_eq_true rfl) (Nat.le_of_ble_eq_true rfl) ?_
  refine t_P_subtract_bad hT hS0 hbad (⟨rfl, fun q => ?_⟩)
  refine px_astore (q := 12) dI_L_subtract_10 (by decide) rfl rfl ?_
  refine px_iconst (q := 13) (v := nI 1) dI_L_subtract_12 (by decide +kernel) rfl ?_
  exact px_iretH (by decide) (by decide) dI_L_subtract_13 rfl hp
theorem h_L_multiply_bad {a b t : Int32} (hT : xT_ g) (hC4 : xC_ g) (hS0 : l.stackTraces = false) (hbad : bd_ a ∨ bd_ b ∨ bd_ t) (hp : Post (some (.int (nI 1))) X Y) : pw_MetH l g tL_multiply hh_multiply [.ref (ad_ g 0), .int a, .int b, .int t] X Y Post := by
  refine ph_ofW (by decide +kernel) rfl (Nat.le_of_ble_eq_true rfl) rfl (fun sz => ?_)
  refine px_aload_n (q := 1) dI_L_multiply_0 rfl rfl ?_
  refine px_iload_n (q := 2) dI_L_multiply_1 rfl rfl ?_
  refine px_iload_n (q := 3) dI_L_multiply_2 rfl rfl ?_
  refine px_iload_n (q := 4) dI_L_multiply_3 rfl rfl ?_
  refine px_hcall (ν := tP_multiply) (n := 3) (As := [.int a, .int b, .int t]) (st := []) (E0 := xI_) (pre := []) (x := (0, 7, 10, 13)) (suf := [(0, 7, 14, 21)]) hT hC4 rfl (by decide) rfl rfl (by decide) wc_L_13 (fun z hz => nomatch hz) dI_L_multiply_4 wl_L_30 wm_P_multiply wv_P_multiply wb_P_multiply wi_P ⟨rfl, rfl⟩ (by decide +kernel) rfl ⟨(Nat.le_of_ble_eq_true rfl), (Nat.le_of_ble_eq_true rfl)⟩ (Nat.le_of_ble_eq_true rfl) (Nat.le_of_ble_eq_true rfl) (Nat.le_of_ble_eq_true rfl) ?_
  refine t_P_multiply_bad hT hS0 hbad (⟨rfl, fun q => ?_⟩)
  refine px_astore (q := 12) dI_L_multiply_10 (by decide) rfl rfl ?_
  refine px_iconst (q := 13) (v := nI 1) dI_L_multiply_12 (by decide +kernel) rfl ?_
  exact px_iretH (by decide) (by decide) dI_L_multiply_13 rfl hp
theorem h_L_gcd_bad {a b t : Int32} (hT : xT_ g) (hC4 : xC_ g) (hS0 : l.stackTraces = false) (hbad : bd_ a ∨ bd_ b ∨ bd_ t) (hp : Post (some (.int (nI 1))) X Y) : pw_MetH l g tL_gcd hh_gcd [.ref (ad_ g 0), .int a, .int b, .int t] X Y Post := by
  refine ph_ofW (by decide +kernel) rfl (Nat.le_of_ble_eq_true rfl) rfl (fun sz => ?_)
  refine px_aload_n (q := 1) dI_L_gcd_0 rfl rfl ?_
  refine px_iload_n (q := 2) dI_L_gcd_1 rfl rfl ?_
  refine px_iload_n (q := 3) dI_L_gcd_2 rfl rfl ?_
  refine px_iload_n (q := 4) dI_L_gcd_3 rfl rfl ?_
  refine px_hcall (ν := tP_gcd) (n := 3) (As := [.int a, .int b, .int t]) (st := []) (E0 := xI_) (pre := []) (x := (0, 7, 10, 13)) (suf := []) hT hC4 rfl (by decide) rfl rfl (by decide) wc_L_13 (fun z hz => nomatch hz) dI_L_gcd_4 wl_L_40 wm_P_gcd wv_P_gcd wb_P_gcd wi_P ⟨rfl, rfl⟩ (by decide +kernel) rfl ⟨(Nat.le_of_ble_eq_true rfl), (Nat.le_of_ble_eq_true rfl)⟩ (Nat.le_of_ble_eq_true rfl) (Nat.le_of_ble_eq_true rfl) (Nat.le_of_ble_eq_true rfl) ?_
  refine t_P_gcd_bad hT hS0 hbad (⟨rfl, fun q => ?_⟩)
  refine px_astore (q := 12) dI_L_gcd_10 (by decide) rfl rfl ?_
  refine px_iconst (q := 13) (v := nI 1) dI_L_gcd_12 (by decide +kernel) rfl ?_
  exact px_iretH (by decide) (by decide) dI_L_gcd_13 rfl hp
theorem h_L_add_over {a b t : Nat} (hT : xT_ g) (hC4 : xC_ g) (hS0 : l.stackTraces = false) (ha : a < 6) (hb : b < 6) (ht : t < 6) (hs : 4294967296 ^ 4 ≤ v a + v b) (hdk : dk_ X v) (hp : ∀ X', dk_ X' v → fr_ X Y X' Y → Post (some (.int (nI 2))) X' Y) : pw_MetH l g tL_add hh_add [.ref (ad_ g 0), .int (nI a), .int (nI b), .int (nI t)] X Y Post := by
  refine ph_ofW (by decide +kernel) rfl (Nat.le_of_ble_eq_true rfl) rfl (fun sz => ?_)
  refine px_aload_n (q := 1) dI_L_add_0 rfl rfl ?_
  refine px_iload_n (q := 2) dI_L_add_1 rfl rfl ?_
  refine px_iload_n (q := 3) dI_L_add_2 rfl rfl ?_
  refine px_iload_n (q := 4) dI_L_add_3 rfl rfl ?_
  refine px_hcall (ν := tP_add) (n := 3) (As := [.int (nI a), .int (nI b), .int (nI t)]) (st := []) (E0 := xM_) (pre := [(0, 7, 10, 13)]) (x := (0, 7, 14, 21)) (suf := []) hT hC4 rfl (by decide) rfl rfl (by decide) wc_L_21 (fun z hz => by cases List.mem_singleton.mp hz; exact ⟨by decide, xI_, by decide, by decide, wc_L_13⟩) dI_L_add_4 wl_L_23 wm_P_add wv_P_add wb_P_add wi_P ⟨rfl, rfl⟩ (by decide +kernel) rfl ⟨(Nat.le_of_ble_eq_true rfl), (Nat.le_of_ble_eq_true rfl)⟩ (Nat.le_of_ble_eq_true rfl) (Nat.le_of_ble_eq_true rfl) (Nat.le_of_ble_eq_true rfl) ?_
  refine t_P_add_over hT hS0 ha hb ht hs hdk (fun X1 d1 f1 => ⟨rfl, fun q => ?_⟩)
  refine px_astore (q := 16) dI_L_add_14 (by decide) rfl rfl ?_
  refine px_iconst (q := 17) (v := nI 2) dI_L_add_16 (by decide +kernel) rfl ?_
  exact px_iretH (by decide) (by decide) dI_L_add_17 rfl (hp X1 d1 f1)
theorem h_L_subtract_under {a b t : Nat} (hT : xT_ g) (hC4 : xC_ g) (hS0 : l.stackTraces = false) (ha : a < 6) (hb : b < 6) (ht : t < 6) (hs : v a < v b) (hdk : dk_ X v) (hp : ∀ X', dk_ X' v → fr_ X Y X' Y → Post (some (.int (nI 2))) X' Y) : pw_MetH l g tL_subtract hh_subtract [.ref (ad_ g 0), .int (nI a), .int (nI b), .int (nI t)] X Y Post := by
  refine ph_ofW (by decide +kernel) rfl (Nat.le_of_ble_eq_true rfl) rfl (fun sz => ?_)
  refine px_aload_n (q := 1) dI_L_subtract_0 rfl rfl ?_
  refine px_iload_n (q := 2) dI_L_subtract_1 rfl rfl ?_
  refine px_iload_n (q := 3) dI_L_subtract_2 rfl rfl ?_
  refine px_iload_n (q := 4) dI_L_subtract_3 rfl rfl ?_
  refine px_hcall (ν := tP_subtract) (n := 3) (As := [.int (nI a), .int (nI b), .int (nI t)]) (st := []) (E0 := xM_) (pre := [(0, 7, 10, 13)]) (x := (0, 7, 14, 21)) (suf := []) hT hC4 rfl (by decide) rfl rfl (by decide) wc_L_21 (fun z hz => by cases List.mem_singleton.mp hz; exact ⟨by decide, xI_, by decide, by decide, wc_L_13⟩) dI_L_subtract_4 wl_L_27 wm_P_subtract wv_P_subtract wb_P_subtract wi_P ⟨rfl, rfl⟩ (by decide +kernel) rfl ⟨(Nat.le_of_ble_eq_true rfl), (Nat.le_of_ble_eq_true rfl)⟩ (Nat.le_of_ble_eq_true rfl) (Nat.le_of_ble_eq_true rfl) (Nat.le_of_ble_eq_true rfl) ?_
  refine t_P_subtract_under hT hS0 ha hb ht hs hdk (fun X1 d1 f1 => ⟨rfl, fun q => ?_⟩)
  refine px_astore (q := 16) dI_L_subtract_14 (by decide) rfl rfl ?_
  refine px_iconst (q := 17) (v := nI 2) dI_L_subtract_16 (by decide +kernel) rfl ?_
  exact px_iretH (by decide) (by decide) dI_L_subtract_17 rfl (hp X1 d1 f1)
theorem h_L_multiply_over {a b t : Nat} (hT : xT_ g) (hC4 : xC_ g) (hS0 : l.stackTraces = false) (ha : a < 6) (hb : b < 6) (ht : t < 6) (hs : 4294967296 ^ 4 ≤ v a * v b) (hdk : dk_ X v) (hp : ∀ X', dk_ X' v → fr_ X Y X' Y → Post (some (.int (nI 2))) X' Y) : pw_MetH l g tL_multiply hh_multiply [.ref (ad_ g 0), .int (nI a), .int (nI b), .int (nI t)] X Y Post := by
  refine ph_ofW (by decide +kernel) rfl (Nat.le_of_ble_eq_true rfl) rfl (fun sz => ?_)
  refine px_aload_n (q := 1) dI_L_multiply_0 rfl rfl ?_
  refine px_iload_n (q := 2) dI_L_multiply_1 rfl rfl ?_
  refine px_iload_n (q := 3) dI_L_multiply_2 rfl rfl ?_
  refine px_iload_n (q := 4) dI_L_multiply_3 rfl rfl ?_
  refine px_hcall (ν := tP_multiply) (n := 3) (As := [.int (nI a), .int (nI b), .int (nI t)]) (st := []) (E0 := xM_) (pre := [(0, 7, 10, 13)]) (x := (0, 7, 14, 21)) (suf := []) hT hC4 rfl (by decide) rfl rfl (by decide) wc_L_21 (fun z hz => by cases List.mem_singleton.mp hz; exact ⟨by decide, xI_, by decide, by decide, wc_L_13⟩) dI_L_multiply_4 wl_L_30 wm_P_multiply wv_P_multiply wb_P_multiply wi_P ⟨rfl, rfl⟩ (by decide +kernel) rfl ⟨(Nat.le_of_ble_eq_true rfl), (Nat.le_of_ble_eq_true rfl)⟩ (Nat.le_of_ble_eq_true rfl) (Nat.le_of_ble_eq_true rfl) (Nat.le_of_ble_eq_true rfl) ?_
  refine t_P_multiply_over hT hS0 ha hb ht hs hdk (fun X1 d1 f1 => ⟨rfl, fun q => ?_⟩)
  refine px_astore (q := 16) dI_L_multiply_14 (by decide) rfl rfl ?_
  refine px_iconst (q := 17) (v := nI 2) dI_L_multiply_16 (by decide +kernel) rfl ?_
  exact px_iretH (by decide) (by decide) dI_L_multiply_17 rfl (hp X1 d1 f1)
theorem h_L_divide_bad {a b q r : Int32} (hT : xT_ g) (hC4 : xC_ g) (hS0 : l.stackTraces = false) (hbad : bd_ a ∨ bd_ b ∨ bd_ q ∨ bd_ r) (hp : Post (some (.int (nI 1))) X Y) : pw_MetH l g tL_divide hh_divide [.ref (ad_ g 0), .int a, .int b, .int q, .int r] X Y Post := by
  refine ph_ofW (by decide +kernel) rfl (Nat.le_of_ble_eq_true rfl) rfl (fun sz => ?_)
  refine px_aload_n (q := 1) dI_L_divide_0 rfl rfl ?_
  refine px_iload_n (q := 2) dI_L_divide_1 rfl rfl ?_
  refine px_iload_n (q := 3) dI_L_divide_2 rfl rfl ?_
  refine px_iload_n (q := 4) dI_L_divide_3 rfl rfl ?_
  refine px_iload (q := 6) dI_L_divide_4 rfl rfl ?_
  refine px_hcall (ν := tP_divide) (n := 4) (As := [.int a, .int b, .int q, .int r]) (st := []) (E0 := xI_) (pre := []) (x := (0, 9, 12, 13)) (suf := [(0, 9, 16, 15), (0, 9, 20, 21)]) hT hC4 rfl (by decide) rfl rfl (by decide) wc_L_13 (fun z hz => nomatch hz) dI_L_divide_6 wl_L_33 wm_P_divide wv_P_divide wb_P_divide wi_P ⟨rfl, rfl⟩ (by decide +kernel) rfl ⟨(Nat.le_of_ble_eq_true rfl), (Nat.le_of_ble_eq_true rfl)⟩ (Nat.le_of_ble_eq_true rfl) (Nat.le_of_ble_eq_true rfl) (Nat.le_of_ble_eq_true rfl) ?_
  refine t_P_divide_bad hT hS0 hbad (⟨rfl, fun q => ?_⟩)
  refine px_astore (q := 14) dI_L_divide_12 (by decide) rfl rfl ?_
  refine px_iconst (q := 15) (v := nI 1) dI_L_divide_14 (by decide +kernel) rfl ?_
  exact px_iretH (by decide) (by decide) dI_L_divide_15 rfl hp
theorem h_L_power_bad {a b q r : Int32} (hT : xT_ g) (hC4 : xC_ g) (hS0 : l.stackTraces = false) (hbad : bd_ a ∨ bd_ b ∨ bd_ q ∨ bd_ r) (hp : Post (some (.int (nI 1))) X Y) : pw_MetH l g tL_power hh_power [.ref (ad_ g 0), .int a, .int b, .int q, .int r] X Y Post := by
  refine ph_ofW (by decide +kernel) rfl (Nat.le_of_ble_eq_true rfl) rfl (fun sz => ?_)
  refine px_aload_n (q := 1) dI_L_power_0 rfl rfl ?_
  refine px_iload_n (q := 2) dI_L_power_1 rfl rfl ?_
  refine px_iload_n (q := 3) dI_L_power_2 rfl rfl ?_
  refine px_iload_n (q := 4) dI_L_power_3 rfl rfl ?_
  refine px_iload (q := 6) dI_L_power_4 rfl rfl ?_
  refine px_hcall (ν := tP_power) (n := 4) (As := [.int a, .int b, .int q, .int r]) (st := []) (E0 := xI_) (pre := []) (x := (0, 9, 12, 13)) (suf := [(0, 9, 16, 21)]) hT hC4 rfl (by decide) rfl rfl (by decide) wc_L_13 (fun z hz => nomatch hz) dI_L_power_6 wl_L_37 wm_P_power wv_P_power wb_P_power wi_P ⟨rfl, rfl⟩ (by decide +kernel) rfl ⟨(Nat.le_of_ble_eq_true rfl), (Nat.le_of_ble_eq_true rfl)⟩ (Nat.le_of_ble_eq_true rfl) (Nat.le_of_ble_eq_true rfl) (Nat.le_of_ble_eq_true rfl) ?_
  refine t_P_power_bad hT hS0 hbad (⟨rfl, fun q => ?_⟩)
  refine px_astore (q := 14) dI_L_power_12 (by decide) rfl rfl ?_
  refine px_iconst (q := 15) (v := nI 1) dI_L_power_14 (by decide +kernel) rfl ?_
  exact px_iretH (by decide) (by decide) dI_L_power_15 rfl hp
theorem h_L_divide_same {a b q : Nat} (hT : xT_ g) (hC4 : xC_ g) (hS0 : l.stackTraces = false) (ha : a < 6) (hb : b < 6) (hq : q < 6) (hp : Post (some (.int (nI 2))) X Y) : pw_MetH l g tL_divide hh_divide [.ref (ad_ g 0), .int (nI a), .int (nI b), .int (nI q), .int (nI q)] X Y Post := by
  refine ph_ofW (by decide +kernel) rfl (Nat.le_of_ble_eq_true rfl) rfl (fun sz => ?_)
  refine px_aload_n (q := 1) dI_L_divide_0 rfl rfl ?_
  refine px_iload_n (q := 2) dI_L_divide_1 rfl rfl ?_
  refine px_iload_n (q := 3) dI_L_divide_2 rfl rfl ?_
  refine px_iload_n (q := 4) dI_L_divide_3 rfl rfl ?_
  refine px_iload (q := 6) dI_L_divide_4 rfl rfl ?_
  refine px_hcall (ν := tP_divide) (n := 4) (As := [.int (nI a), .int (nI b), .int (nI q), .int (nI q)]) (st := []) (E0 := xA_) (pre := [(0, 9, 12, 13)]) (x := (0, 9, 16, 15)) (suf := [(0, 9, 20, 21)]) hT hC4 rfl (by decide) rfl rfl (by decide) wc_L_15 (fun z hz => by cases List.mem_singleton.mp hz; exact ⟨by decide, xI_, by decide, by decide, wc_L_13⟩) dI_L_divide_6 wl_L_33 wm_P_divide wv_P_divide wb_P_divide wi_P ⟨rfl, rfl⟩ (by decide +kernel) rfl ⟨(Nat.le_of_ble_eq_true rfl), (Nat.le_of_ble_eq_true rfl)⟩ (Nat.le_of_ble_eq_true rfl) (Nat.le_of_ble_eq_true rfl) (Nat.le_of_ble_eq_true rfl) ?_
  refine t_P_divide_same hT hS0 ha hb hq (⟨rfl, fun q => ?_⟩)
  refine px_astore (q := 18) dI_L_divide_16 (by decide) rfl rfl ?_
  refine px_iconst (q := 19) (v := nI 2) dI_L_divide_18 (by decide +kernel) rfl ?_
  exact px_iretH (by decide) (by decide) dI_L_divide_19 rfl hp
theorem h_L_divide_0 {a b q r : Nat} (hT : xT_ g) (hC4 : xC_ g) (hS0 : l.stackTraces = false) (ha : a < 6) (hb : b < 6) (hq : q < 6) (hr : r < 6) (hqr : q ≠ r) (h0 : v b = 0) (hdk : dk_ X v) (hp : Post (some (.int (nI 3))) X Y) : pw_MetH l g tL_divide hh_divide [.ref (ad_ g 0), .int (nI a), .int (nI b), .int (nI q), .int (nI r)] X Y Post := by
  refine ph_ofW (by decide +kernel) rfl (Nat.le_of_ble_eq_true rfl) rfl (fun sz => ?_)
  refine px_aload_n (q := 1) dI_L_divide_0 rfl rfl ?_
  refine px_iload_n (q := 2) dI_L_divide_1 rfl rfl ?_
  refine px_iload_n (q := 3) dI_L_divide_2 rfl rfl ?_
  refine px_iload_n (q := 4) dI_L_divide_3 rfl rfl ?_
  refine px_iload (q := 6) dI_L_divide_4 rfl rfl ?_
  refine px_hcall (ν := tP_divide) (n := 4) (As := [.int (nI a), .int (nI b), .int (nI q), .int (nI r)]) (st := []) (E0 := xM_) (pre := [(0, 9, 12, 13), (0, 9, 16, 15)]) (x := (0, 9, 20, 21)) (suf := []) hT hC4 rfl (by decide) rfl rfl (by decide) wc_L_21 (fun z hz => by
      rcases List.mem_cons.mp hz with rfl | hz
      · exact ⟨by decide, xI_, by decide, by decide, wc_L_13⟩
      · cases List.mem_singleton.mp hz; exact ⟨by decide, xA_, by decide, by decide, wc_L_15⟩) dI_L_divide_6 wl_L_33 wm_P_divide wv_P_divide wb_P_divide wi_P ⟨rfl, rfl⟩ (by decide +kernel) rfl ⟨(Nat.le_of_ble_eq_true rfl), (Nat.le_of_ble_eq_true rfl)⟩ (Nat.le_of_ble_eq_true rfl) (Nat.le_of_ble_eq_true rfl) (Nat.le_of_ble_eq_true rfl) ?_
  refine t_P_divide_0 hT hS0 ha hb hq hr hqr h0 hdk (⟨rfl, fun q => ?_⟩)
  refine px_astore (q := 22) dI_L_divide_20 (by decide) rfl rfl ?_
  refine px_iconst (q := 23) (v := nI 3) dI_L_divide_22 (by decide +kernel) rfl ?_
  exact px_iretH (by decide) (by decide) dI_L_divide_23 rfl hp
theorem h_L_power_0 {a b q r : Nat} (hT : xT_ g) (hC4 : xC_ g) (hS0 : l.stackTraces = false) (ha : a < 6) (hb : b < 6) (hq : q < 6) (hr : r < 6) (h0 : v q = 0) (hdk : dk_ X v) (hp : Post (some (.int (nI 2))) X Y) : pw_MetH l g tL_power hh_power [.ref (ad_ g 0), .int (nI a), .int (nI b), .int (nI q), .int (nI r)] X Y Post := by
  refine ph_ofW (by decide +kernel) rfl (Nat.le_of_ble_eq_true rfl) rfl (fun sz => ?_)
  refine px_aload_n (q := 1) dI_L_power_0 rfl rfl ?_
  refine px_iload_n (q := 2) dI_L_power_1 rfl rfl ?_
  refine px_iload_n (q := 3) dI_L_power_2 rfl rfl ?_
  refine px_iload_n (q := 4) dI_L_power_3 rfl rfl ?_
  refine px_iload (q := 6) dI_L_power_4 rfl rfl ?_
  refine px_hcall (ν := tP_power) (n := 4) (As := [.int (nI a), .int (nI b), .int (nI q), .int (nI r)]) (st := []) (E0 := xM_) (pre := [(0, 9, 12, 13)]) (x := (0, 9, 16, 21)) (suf := []) hT hC4 rfl (by decide) rfl rfl (by decide) wc_L_21 (fun z hz => by cases List.mem_singleton.mp hz; exact ⟨by decide, xI_, by decide, by decide, wc_L_13⟩) dI_L_power_6 wl_L_37 wm_P_power wv_P_power wb_P_power wi_P ⟨rfl, rfl⟩ (by decide +kernel) rfl ⟨(Nat.le_of_ble_eq_true rfl), (Nat.le_of_ble_eq_true rfl)⟩ (Nat.le_of_ble_eq_true rfl) (Nat.le_of_ble_eq_true rfl) (Nat.le_of_ble_eq_true rfl) ?_
  refine t_P_power_0 hT hS0 ha hb hq hr h0 hdk (⟨rfl, fun q => ?_⟩)
  refine px_astore (q := 18) dI_L_power_16 (by decide) rfl rfl ?_
  refine px_iconst (q := 19) (v := nI 2) dI_L_power_18 (by decide +kernel) rfl ?_
  exact px_iretH (by decide) (by decide) dI_L_power_19 rfl hp
theorem h_L_compare_bad {a b : Int32} (hT : xT_ g) (hC4 : xC_ g) (hS0 : l.stackTraces = false) (hbad : bd_ a ∨ bd_ b) (hp : Post (some (.int (nI 1))) X Y) : pw_MetH l g tL_compare hh_compare [.ref (ad_ g 0), .int a, .int b, .ref (ad_ g 27)] X Y Post := by
  refine ph_ofW (by decide +kernel) rfl (Nat.le_of_ble_eq_true rfl) rfl (fun sz => ?_)
  refine px_aload_n (q := 1) dI_L_compare_0 rfl rfl ?_
  refine px_iconst (q := 2) (v := nI 0) dI_L_compare_1 (by decide +kernel) rfl ?_
  refine px_aload_n (q := 3) dI_L_compare_2 rfl rfl ?_
  refine px_iload_n (q := 4) dI_L_compare_3 rfl rfl ?_
  refine px_iload_n (q := 5) dI_L_compare_4 rfl rfl ?_
  refine px_hcall (ν := tP_compare) (n := 2) (As := [.int a, .int b]) (st := [.int (nI 0), .ref (ad_ g 27)]) (E0 := xI_) (pre := []) (x := (0, 10, 13, 13)) (suf := []) hT hC4 rfl (by decide) rfl rfl (by decide) wc_L_13 (fun z hz => nomatch hz) dI_L_compare_5 wl_L_43 wm_P_compare wv_P_compare wb_P_compare wi_P ⟨rfl, rfl⟩ (by decide +kernel) rfl ⟨(Nat.le_of_ble_eq_true rfl), (Nat.le_of_ble_eq_true rfl)⟩ (Nat.le_of_ble_eq_true rfl) (Nat.le_of_ble_eq_true rfl) (Nat.le_of_ble_eq_true rfl) ?_
  refine t_P_compare_bad hT hS0 hbad (⟨rfl, fun q => ?_⟩)
  refine px_astore (q := 15) dI_L_compare_13 (by decide) rfl rfl ?_
  refine px_iconst (q := 16) (v := nI 1) dI_L_compare_15 (by decide +kernel) rfl ?_
  exact px_iretH (by decide) (by decide) dI_L_compare_16 rfl hp
theorem h_L_bits_bad {a : Int32} (hT : xT_ g) (hC4 : xC_ g) (hS0 : l.stackTraces = false) (hbad : bd_ a) (hp : Post (some (.int (nI 1))) X Y) : pw_MetH l g tL_bits hh_bits [.ref (ad_ g 0), .int a, .ref (ad_ g 27)] X Y Post := by
  refine ph_ofW (by decide +kernel) rfl (Nat.le_of_ble_eq_true rfl) rfl (fun sz => ?_)
  refine px_aload_n (q := 1) dI_L_bits_0 rfl rfl ?_
  refine px_iconst (q := 2) (v := nI 0) dI_L_bits_1 (by decide +kernel) rfl ?_
  refine px_aload_n (q := 3) dI_L_bits_2 rfl rfl ?_
  refine px_iload_n (q := 4) dI_L_bits_3 rfl rfl ?_
  refine px_hcall (ν := tP_bits) (n := 1) (As := [.int a]) (st := [.int (nI 0), .ref (ad_ g 27)]) (E0 := xI_) (pre := []) (x := (0, 9, 12, 13)) (suf := []) hT hC4 rfl (by decide) rfl rfl (by decide) wc_L_13 (fun z hz => nomatch hz) dI_L_bits_4 wl_L_47 wm_P_bits wv_P_bits wb_P_bits wi_P ⟨rfl, rfl⟩ (by decide +kernel) rfl ⟨(Nat.le_of_ble_eq_true rfl), (Nat.le_of_ble_eq_true rfl)⟩ (Nat.le_of_ble_eq_true rfl) (Nat.le_of_ble_eq_true rfl) (Nat.le_of_ble_eq_true rfl) ?_
  refine t_P_bits_bad hT hS0 hbad (⟨rfl, fun q => ?_⟩)
  refine px_astore_n (q := 13) dI_L_bits_12 rfl (by decide) rfl rfl ?_
  refine px_iconst (q := 14) (v := nI 1) dI_L_bits_13 (by decide +kernel) rfl ?_
  exact px_iretH (by decide) (by decide) dI_L_bits_14 rfl hp
theorem h_L_perfect_bad {a : Int32} (hT : xT_ g) (hC4 : xC_ g) (hS0 : l.stackTraces = false) (hbad : bd_ a) (hp : Post (some (.int (nI 1))) X Y) : pw_MetH l g tL_perfect hh_perfect [.ref (ad_ g 0), .int a, .ref (ad_ g 27)] X Y Post := by
  refine ph_ofW (by decide +kernel) rfl (Nat.le_of_ble_eq_true rfl) rfl (fun sz => ?_)
  refine px_aload_n (q := 1) dI_L_perfect_0 rfl rfl ?_
  refine px_iconst (q := 2) (v := nI 0) dI_L_perfect_1 (by decide +kernel) rfl ?_
  refine px_aload_n (q := 3) dI_L_perfect_2 rfl rfl ?_
  refine px_iload_n (q := 4) dI_L_perfect_3 rfl rfl ?_
  refine px_hcall (ν := tP_perfect) (n := 1) (As := [.int a]) (st := [.int (nI 0), .ref (ad_ g 27)]) (E0 := xI_) (pre := []) (x := (0, 9, 12, 13)) (suf := []) hT hC4 rfl (by decide) rfl rfl (by decide) wc_L_13 (fun z hz => nomatch hz) dI_L_perfect_4 wl_L_55 wm_P_perfect wv_P_perfect wb_P_perfect wi_P ⟨rfl, rfl⟩ (by decide +kernel) rfl ⟨(Nat.le_of_ble_eq_true rfl), (Nat.le_of_ble_eq_true rfl)⟩ (Nat.le_of_ble_eq_true rfl) (Nat.le_of_ble_eq_true rfl) (Nat.le_of_ble_eq_true rfl) ?_
  refine t_P_perfect_bad hT hS0 hbad (⟨rfl, fun q => ?_⟩)
  refine px_astore_n (q := 13) dI_L_perfect_12 rfl (by decide) rfl rfl ?_
  refine px_iconst (q := 14) (v := nI 1) dI_L_perfect_13 (by decide +kernel) rfl ?_
  exact px_iretH (by decide) (by decide) dI_L_perfect_14 rfl hp
theorem h_L_modulus_bad {a : Int32} (hT : xT_ g) (hC4 : xC_ g) (hS0 : l.stackTraces = false) (hbad : bd_ a) (hp : Post (some (.int (nI 1))) X Y) : pw_MetH l g tL_modulus hh_modulus [.ref (ad_ g 0), .int a, .ref (ad_ g 27)] X Y Post := by
  refine ph_ofW (by decide +kernel) rfl (Nat.le_of_ble_eq_true rfl) rfl (fun sz => ?_)
  refine px_aload_n (q := 1) dI_L_modulus_0 rfl rfl ?_
  refine px_iconst (q := 2) (v := nI 0) dI_L_modulus_1 (by decide +kernel) rfl ?_
  refine px_aload_n (q := 3) dI_L_modulus_2 rfl rfl ?_
  refine px_iload_n (q := 4) dI_L_modulus_3 rfl rfl ?_
  refine px_hcall (ν := tP_modulus) (n := 1) (As := [.int a]) (st := [.int (nI 0), .ref (ad_ g 27)]) (E0 := xI_) (pre := []) (x := (0, 9, 12, 13)) (suf := [(0, 9, 15, 64)]) hT hC4 rfl (by decide) rfl rfl (by decide) wc_L_13 (fun z hz => nomatch hz) dI_L_modulus_4 wl_L_61 wm_P_modulus wv_P_modulus wb_P_modulus wi_P ⟨rfl, rfl⟩ (by decide +kernel) rfl ⟨(Nat.le_of_ble_eq_true rfl), (Nat.le_of_ble_eq_true rfl)⟩ (Nat.le_of_ble_eq_true rfl) (Nat.le_of_ble_eq_true rfl) (Nat.le_of_ble_eq_true rfl) ?_
  refine t_P_modulus_bad hT hS0 hbad (⟨rfl, fun q => ?_⟩)
  refine px_astore_n (q := 13) dI_L_modulus_12 rfl (by decide) rfl rfl ?_
  refine px_iconst (q := 14) (v := nI 1) dI_L_modulus_13 (by decide +kernel) rfl ?_
  exact px_iretH (by decide) (by decide) dI_L_modulus_14 rfl hp
theorem h_L_prime_bad {a : Int32} (hT : xT_ g) (hC4 : xC_ g) (hS0 : l.stackTraces = false) (hbad : bd_ a) (hp : Post (some (.int (nI 1))) X Y) : pw_MetH l g tL_prime hh_prime [.ref (ad_ g 0), .int a, .ref (ad_ g 27)] X Y Post := by
  refine ph_ofW (by decide +kernel) rfl (Nat.le_of_ble_eq_true rfl) rfl (fun sz => ?_)
  refine px_aload_n (q := 1) dI_L_prime_0 rfl rfl ?_
  refine px_iconst (q := 2) (v := nI 0) dI_L_prime_1 (by decide +kernel) rfl ?_
  refine px_aload_n (q := 3) dI_L_prime_2 rfl rfl ?_
  refine px_iload_n (q := 4) dI_L_prime_3 rfl rfl ?_
  refine px_hcall (ν := tP_prime) (n := 1) (As := [.int a]) (st := [.int (nI 0), .ref (ad_ g 27)]) (E0 := xI_) (pre := []) (x := (0, 16, 19, 13)) (suf := [(0, 16, 22, 64)]) hT hC4 rfl (by decide) rfl rfl (by decide) wc_L_13 (fun z hz => nomatch hz) dI_L_prime_4 wl_L_70 wm_P_prime wv_P_prime wb_P_prime wi_P ⟨rfl, rfl⟩ (by decide +kernel) rfl ⟨(Nat.le_of_ble_eq_true rfl), (Nat.le_of_ble_eq_true rfl)⟩ (Nat.le_of_ble_eq_true rfl) (Nat.le_of_ble_eq_true rfl) (Nat.le_of_ble_eq_true rfl) ?_
  refine t_P_prime_bad hT hS0 hbad (⟨rfl, fun q => ?_⟩)
  refine px_astore_n (q := 20) dI_L_prime_19 rfl (by decide) rfl rfl ?_
  refine px_iconst (q := 21) (v := nI 1) dI_L_prime_20 (by decide +kernel) rfl ?_
  exact px_iretH (by decide) (by decide) dI_L_prime_21 rfl hp
theorem h_L_word_bad {a k : Int32} (hT : xT_ g) (hC4 : xC_ g) (hS0 : l.stackTraces = false) (hbad : bd_ a ∨ ¬ ∃ j, j < 4 ∧ k = nI j) (hp : Post (some (.int (nI 1))) X Y) : pw_MetH l g tL_word hh_word [.ref (ad_ g 0), .int a, .int k, .ref (ad_ g 27)] X Y Post := by
  refine ph_ofW (by decide +kernel) rfl (Nat.le_of_ble_eq_true rfl) rfl (fun sz => ?_)
  refine px_aload_n (q := 1) dI_L_word_0 rfl rfl ?_
  refine px_iconst (q := 2) (v := nI 0) dI_L_word_1 (by decide +kernel) rfl ?_
  refine px_aload_n (q := 3) dI_L_word_2 rfl rfl ?_
  refine px_iload_n (q := 4) dI_L_word_3 rfl rfl ?_
  refine px_iload_n (q := 5) dI_L_word_4 rfl rfl ?_
  refine px_hcall (ν := tP_word) (n := 2) (As := [.int a, .int k]) (st := [.int (nI 0), .ref (ad_ g 27)]) (E0 := xI_) (pre := []) (x := (0, 9, 12, 13)) (suf := []) hT hC4 rfl (by decide) rfl rfl (by decide) wc_L_13 (fun z hz => nomatch hz) dI_L_word_5 wl_L_51 wm_P_word wv_P_word wb_P_word wi_P ⟨rfl, rfl⟩ (by decide +kernel) rfl ⟨(Nat.le_of_ble_eq_true rfl), (Nat.le_of_ble_eq_true rfl)⟩ (Nat.le_of_ble_eq_true rfl) (Nat.le_of_ble_eq_true rfl) (Nat.le_of_ble_eq_true rfl) ?_
  refine t_P_word_bad hT hS0 hbad (⟨rfl, fun q => ?_⟩)
  refine px_astore (q := 14) dI_L_word_12 (by decide) rfl rfl ?_
  refine px_iconst (q := 15) (v := nI 1) dI_L_word_14 (by decide +kernel) rfl ?_
  exact px_iretH (by decide) (by decide) dI_L_word_15 rfl hp
theorem h_L_order_bad {a m : Int32} (hT : xT_ g) (hC4 : xC_ g) (hS0 : l.stackTraces = false) (hbad : bd_ a) (hp : Post (some (.int (nI 1))) X Y) : pw_MetH l g tL_order hh_order [.ref (ad_ g 0), .int a, .int m, .ref (ad_ g 27)] X Y Post := by
  refine ph_ofW (by decide +kernel) rfl (Nat.le_of_ble_eq_true rfl) rfl (fun sz => ?_)
  refine px_aload_n (q := 1) dI_L_order_0 rfl rfl ?_
  refine px_iconst (q := 2) (v := nI 0) dI_L_order_1 (by decide +kernel) rfl ?_
  refine px_aload_n (q := 3) dI_L_order_2 rfl rfl ?_
  refine px_iload_n (q := 4) dI_L_order_3 rfl rfl ?_
  refine px_iload_n (q := 5) dI_L_order_4 rfl rfl ?_
  refine px_hcall (ν := tP_order) (n := 2) (As := [.int a, .int m]) (st := [.int (nI 0), .ref (ad_ g 27)]) (E0 := xI_) (pre := []) (x := (0, 10, 13, 13)) (suf := [(0, 10, 17, 15), (0, 10, 21, 21)]) hT hC4 rfl (by decide) rfl rfl (by decide) wc_L_13 (fun z hz => nomatch hz) dI_L_order_5 wl_L_58 wm_P_order wv_P_order wb_P_order wi_P ⟨rfl, rfl⟩ (by decide +kernel) rfl ⟨(Nat.le_of_ble_eq_true rfl), (Nat.le_of_ble_eq_true rfl)⟩ (Nat.le_of_ble_eq_true rfl) (Nat.le_of_ble_eq_true rfl) (Nat.le_of_ble_eq_true rfl) ?_
  refine t_P_order_bad hT hS0 hbad (⟨rfl, fun q => ?_⟩)
  refine px_astore (q := 15) dI_L_order_13 (by decide) rfl rfl ?_
  refine px_iconst (q := 16) (v := nI 1) dI_L_order_15 (by decide +kernel) rfl ?_
  exact px_iretH (by decide) (by decide) dI_L_order_16 rfl hp
theorem h_L_order_m {a : Nat} {m : Int32} (hT : xT_ g) (hC4 : xC_ g) (hS0 : l.stackTraces = false) (ha : a < 6) (hbad : ¬ ∃ k, 2 ≤ k ∧ k ≤ 1000 ∧ m = nI k) (hp : Post (some (.int (nI 2))) X Y) : pw_MetH l g tL_order hh_order [.ref (ad_ g 0), .int (nI a), .int m, .ref (ad_ g 27)] X Y Post := by
  refine ph_ofW (by decide +kernel) rfl (Nat.le_of_ble_eq_true rfl) rfl (fun sz => ?_)
  refine px_aload_n (q := 1) dI_L_order_0 rfl rfl ?_
  refine px_iconst (q := 2) (v := nI 0) dI_L_order_1 (by decide +kernel) rfl ?_
  refine px_aload_n (q := 3) dI_L_order_2 rfl rfl ?_
  refine px_iload_n (q := 4) dI_L_order_3 rfl rfl ?_
  refine px_iload_n (q := 5) dI_L_order_4 rfl rfl ?_
  refine px_hcall (ν := tP_order) (n := 2) (As := [.int (nI a), .int m]) (st := [.int (nI 0), .ref (ad_ g 27)]) (E0 := xA_) (pre := [(0, 10, 13, 13)]) (x := (0, 10, 17, 15)) (suf := [(0, 10, 21, 21)]) hT hC4 rfl (by decide) rfl rfl (by decide) wc_L_15 (fun z hz => by cases List.mem_singleton.mp hz; exact ⟨by decide, xI_, by decide, by decide, wc_L_13⟩) dI_L_order_5 wl_L_58 wm_P_order wv_P_order wb_P_order wi_P ⟨rfl, rfl⟩ (by decide +kernel) rfl ⟨(Nat.le_of_ble_eq_true rfl), (Nat.le_of_ble_eq_true rfl)⟩ (Nat.le_of_ble_eq_true rfl) (Nat.le_of_ble_eq_true rfl) (Nat.le_of_ble_eq_true rfl) ?_
  refine t_P_order_m hT hS0 ha hbad (⟨rfl, fun q => ?_⟩)
  refine px_astore (q := 19) dI_L_order_17 (by decide) rfl rfl ?_
  refine px_iconst (q := 20) (v := nI 2) dI_L_order_19 (by decide +kernel) rfl ?_
  exact px_iretH (by decide) (by decide) dI_L_order_20 rfl hp
theorem h_L_order_0 {a m : Nat} (hT : xT_ g) (hC4 : xC_ g) (hS0 : l.stackTraces = false) (ha : a < 6) (h2 : 2 ≤ m) (hm : m ≤ 1000) (hod : od_ (v a % m) m 0) (hdk : dk_ X v) (hp : Post (some (.int (nI 3))) X Y) : pw_MetH l g tL_order hh_order [.ref (ad_ g 0), .int (nI a), .int (nI m), .ref (ad_ g 27)] X Y Post := by
  refine ph_ofW (by decide +kernel) rfl (Nat.le_of_ble_eq_true rfl) rfl (fun sz => ?_)
  refine px_aload_n (q := 1) dI_L_order_0 rfl rfl ?_
  refine px_iconst (q := 2) (v := nI 0) dI_L_order_1 (by decide +kernel) rfl ?_
  refine px_aload_n (q := 3) dI_L_order_2 rfl rfl ?_
  refine px_iload_n (q := 4) dI_L_order_3 rfl rfl ?_
  refine px_iload_n (q := 5) dI_L_order_4 rfl rfl ?_
  refine px_hcall (ν := tP_order) (n := 2) (As := [.int (nI a), .int (nI m)]) (st := [.int (nI 0), .ref (ad_ g 27)]) (E0 := xM_) (pre := [(0, 10, 13, 13), (0, 10, 17, 15)]) (x := (0, 10, 21, 21)) (suf := []) hT hC4 rfl (by decide) rfl rfl (by decide) wc_L_21 (fun z hz => by
      rcases List.mem_cons.mp hz with rfl | hz
      · exact ⟨by decide, xI_, by decide, by decide, wc_L_13⟩
      · cases List.mem_singleton.mp hz; exact ⟨by decide, xA_, by decide, by decide, wc_L_15⟩) dI_L_order_5 wl_L_58 wm_P_order wv_P_order wb_P_order wi_P ⟨rfl, rfl⟩ (by decide +kernel) rfl ⟨(Nat.le_of_ble_eq_true rfl), (Nat.le_of_ble_eq_true rfl)⟩ (Nat.le_of_ble_eq_true rfl) (Nat.le_of_ble_eq_true rfl) (Nat.le_of_ble_eq_true rfl) ?_
  refine t_P_order_0 hT hS0 ha h2 hm hod hdk (⟨rfl, fun q => ?_⟩)
  refine px_astore (q := 23) dI_L_order_21 (by decide) rfl rfl ?_
  refine px_iconst (q := 24) (v := nI 3) dI_L_order_23 (by decide +kernel) rfl ?_
  exact px_iretH (by decide) (by decide) dI_L_order_24 rfl hp
theorem h_L_modulus_n {a : Nat} (hT : xT_ g) (hC4 : xC_ g) (hS0 : l.stackTraces = false) (ha : a < 6) (hv : v a < 2 ∨ 511 < v a) (hdk : dk_ X v) (hp : Post (some (.int (nI 2))) X Y) : pw_MetH l g tL_modulus hh_modulus [.ref (ad_ g 0), .int (nI a), .ref (ad_ g 27)] X Y Post := by
  refine ph_ofW (by decide +kernel) rfl (Nat.le_of_ble_eq_true rfl) rfl (fun sz => ?_)
  refine px_aload_n (q := 1) dI_L_modulus_0 rfl rfl ?_
  refine px_iconst (q := 2) (v := nI 0) dI_L_modulus_1 (by decide +kernel) rfl ?_
  refine px_aload_n (q := 3) dI_L_modulus_2 rfl rfl ?_
  refine px_iload_n (q := 4) dI_L_modulus_3 rfl rfl ?_
  refine px_hcall (ν := tP_modulus) (n := 1) (As := [.int (nI a)]) (st := [.int (nI 0), .ref (ad_ g 27)]) (E0 := xU_) (pre := [(0, 9, 12, 13)]) (x := (0, 9, 15, 64)) (suf := []) hT hC4 rfl (by decide) rfl rfl (by decide) wc_L_64 (fun z hz => by cases List.mem_singleton.mp hz; exact ⟨by decide, xI_, by decide, by decide, wc_L_13⟩) dI_L_modulus_4 wl_L_61 wm_P_modulus wv_P_modulus wb_P_modulus wi_P ⟨rfl, rfl⟩ (by decide +kernel) rfl ⟨(Nat.le_of_ble_eq_true rfl), (Nat.le_of_ble_eq_true rfl)⟩ (Nat.le_of_ble_eq_true rfl) (Nat.le_of_ble_eq_true rfl) (Nat.le_of_ble_eq_true rfl) ?_
  refine t_P_modulus_n hT hS0 ha hv hdk (⟨rfl, fun q => ?_⟩)
  refine px_astore_n (q := 16) dI_L_modulus_15 rfl (by decide) rfl rfl ?_
  refine px_iconst (q := 17) (v := nI 2) dI_L_modulus_16 (by decide +kernel) rfl ?_
  exact px_iretH (by decide) (by decide) dI_L_modulus_17 rfl hp
theorem h_L_prime_n {a : Nat} (hT : xT_ g) (hC4 : xC_ g) (hS0 : l.stackTraces = false) (ha : a < 6) (hv : 511 < v a) (hdk : dk_ X v) (hp : Post (some (.int (nI 2))) X Y) : pw_MetH l g tL_prime hh_prime [.ref (ad_ g 0), .int (nI a), .ref (ad_ g 27)] X Y Post := by
  refine ph_ofW (by decide +kernel) rfl (Nat.le_of_ble_eq_true rfl) rfl (fun sz => ?_)
  refine px_aload_n (q := 1) dI_L_prime_0 rfl rfl ?_
  refine px_iconst (q := 2) (v := nI 0) dI_L_prime_1 (by decide +kernel) rfl ?_
  refine px_aload_n (q := 3) dI_L_prime_2 rfl rfl ?_
  refine px_iload_n (q := 4) dI_L_prime_3 rfl rfl ?_
  refine px_hcall (ν := tP_prime) (n := 1) (As := [.int (nI a)]) (st := [.int (nI 0), .ref (ad_ g 27)]) (E0 := xU_) (pre := [(0, 16, 19, 13)]) (x := (0, 16, 22, 64)) (suf := []) hT hC4 rfl (by decide) rfl rfl (by decide) wc_L_64 (fun z hz => by cases List.mem_singleton.mp hz; exact ⟨by decide, xI_, by decide, by decide, wc_L_13⟩) dI_L_prime_4 wl_L_70 wm_P_prime wv_P_prime wb_P_prime wi_P ⟨rfl, rfl⟩ (by decide +kernel) rfl ⟨(Nat.le_of_ble_eq_true rfl), (Nat.le_of_ble_eq_true rfl)⟩ (Nat.le_of_ble_eq_true rfl) (Nat.le_of_ble_eq_true rfl) (Nat.le_of_ble_eq_true rfl) ?_
  refine t_P_prime_n hT hS0 ha hv hdk (⟨rfl, fun q => ?_⟩)
  refine px_astore_n (q := 23) dI_L_prime_22 rfl (by decide) rfl rfl ?_
  refine px_iconst (q := 24) (v := nI 2) dI_L_prime_23 (by decide +kernel) rfl ?_
  exact px_iretH (by decide) (by decide) dI_L_prime_24 rfl hp
theorem h_L_congruent_bad {a m c : Int32} (hT : xT_ g) (hC4 : xC_ g) (hS0 : l.stackTraces = false) (hbad : bd_ a) (hp : Post (some (.int (nI 1))) X Y) : pw_MetH l g tL_congruent hh_congruent [.ref (ad_ g 0), .int a, .int m, .int c, .ref (ad_ g 27)] X Y Post := by
  refine ph_ofW (by decide +kernel) rfl (Nat.le_of_ble_eq_true rfl) rfl (fun sz => ?_)
  refine px_aload (q := 2) dI_L_congruent_0 rfl rfl ?_
  refine px_iconst (q := 3) (v := nI 0) dI_L_congruent_2 (by decide +kernel) rfl ?_
  refine px_aload_n (q := 4) dI_L_congruent_3 rfl rfl ?_
  refine px_iload_n (q := 5) dI_L_congruent_4 rfl rfl ?_
  refine px_iload_n (q := 6) dI_L_congruent_5 rfl rfl ?_
  refine px_iload_n (q := 7) dI_L_congruent_6 rfl rfl ?_
  refine px_hcall (ν := tP_congruent) (n := 3) (As := [.int a, .int m, .int c]) (st := [.int (nI 0), .ref (ad_ g 27)]) (E0 := xI_) (pre := []) (x := (0, 19, 22, 13)) (suf := [(0, 19, 26, 15), (0, 19, 30, 64)]) hT hC4 rfl (by decide) rfl rfl (by decide) wc_L_13 (fun z hz => nomatch hz) dI_L_congruent_7 wl_L_66 wm_P_congruent wv_P_congruent wb_P_congruent wi_P ⟨rfl, rfl⟩ (by decide +kernel) rfl ⟨(Nat.le_of_ble_eq_true rfl), (Nat.le_of_ble_eq_true rfl)⟩ (Nat.le_of_ble_eq_true rfl) (Nat.le_of_ble_eq_true rfl) (Nat.le_of_ble_eq_true rfl) ?_
  refine t_P_congruent_bad hT hS0 hbad (⟨rfl, fun q => ?_⟩)
  refine px_astore (q := 24) dI_L_congruent_22 (by decide) rfl rfl ?_
  refine px_iconst (q := 25) (v := nI 1) dI_L_congruent_24 (by decide +kernel) rfl ?_
  exact px_iretH (by decide) (by decide) dI_L_congruent_25 rfl hp
theorem h_L_congruent_m {a : Nat} {m c : Int32} (hT : xT_ g) (hC4 : xC_ g) (hS0 : l.stackTraces = false) (ha : a < 6) (hbad : (¬ ∃ k, 1 ≤ k ∧ k ≤ 64 ∧ m = nI k) ∨ ¬ ∃ k, k ≤ 4095 ∧ c = nI k) (hp : Post (some (.int (nI 2))) X Y) : pw_MetH l g tL_congruent hh_congruent [.ref (ad_ g 0), .int (nI a), .int m, .int c, .ref (ad_ g 27)] X Y Post := by
  refine ph_ofW (by decide +kernel) rfl (Nat.le_of_ble_eq_true rfl) rfl (fun sz => ?_)
  refine px_aload (q := 2) dI_L_congruent_0 rfl rfl ?_
  refine px_iconst (q := 3) (v := nI 0) dI_L_congruent_2 (by decide +kernel) rfl ?_
  refine px_aload_n (q := 4) dI_L_congruent_3 rfl rfl ?_
  refine px_iload_n (q := 5) dI_L_congruent_4 rfl rfl ?_
  refine px_iload_n (q := 6) dI_L_congruent_5 rfl rfl ?_
  refine px_iload_n (q := 7) dI_L_congruent_6 rfl rfl ?_
  refine px_hcall (ν := tP_congruent) (n := 3) (As := [.int (nI a), .int m, .int c]) (st := [.int (nI 0), .ref (ad_ g 27)]) (E0 := xA_) (pre := [(0, 19, 22, 13)]) (x := (0, 19, 26, 15)) (suf := [(0, 19, 30, 64)]) hT hC4 rfl (by decide) rfl rfl (by decide) wc_L_15 (fun z hz => by cases List.mem_singleton.mp hz; exact ⟨by decide, xI_, by decide, by decide, wc_L_13⟩) dI_L_congruent_7 wl_L_66 wm_P_congruent wv_P_congruent wb_P_congruent wi_P ⟨rfl, rfl⟩ (by decide +kernel) rfl ⟨(Nat.le_of_ble_eq_true rfl), (Nat.le_of_ble_eq_true rfl)⟩ (Nat.le_of_ble_eq_true rfl) (Nat.le_of_ble_eq_true rfl) (Nat.le_of_ble_eq_true rfl) ?_
  refine t_P_congruent_m hT hS0 ha hbad (⟨rfl, fun q => ?_⟩)
  refine px_astore (q := 28) dI_L_congruent_26 (by decide) rfl rfl ?_
  refine px_iconst (q := 29) (v := nI 2) dI_L_congruent_28 (by decide +kernel) rfl ?_
  exact px_iretH (by decide) (by decide) dI_L_congruent_29 rfl hp
theorem h_L_congruent_n {a m c : Nat} (hT : xT_ g) (hC4 : xC_ g) (hS0 : l.stackTraces = false) (ha : a < 6) (hm1 : 1 ≤ m) (hm : m ≤ 64) (hc : c ≤ 4095) (hv : v a < 2 ∨ 4095 < v a) (hdk : dk_ X v) (hp : Post (some (.int (nI 3))) X Y) : pw_MetH l g tL_congruent hh_congruent [.ref (ad_ g 0), .int (nI a), .int (nI m), .int (nI c), .ref (ad_ g 27)] X Y Post := by
  refine ph_ofW (by decide +kernel) rfl (Nat.le_of_ble_eq_true rfl) rfl (fun sz => ?_)
  refine px_aload (q := 2) dI_L_congruent_0 rfl rfl ?_
  refine px_iconst (q := 3) (v := nI 0) dI_L_congruent_2 (by decide +kernel) rfl ?_
  refine px_aload_n (q := 4) dI_L_congruent_3 rfl rfl ?_
  refine px_iload_n (q := 5) dI_L_congruent_4 rfl rfl ?_
  refine px_iload_n (q := 6) dI_L_congruent_5 rfl rfl ?_
  refine px_iload_n (q := 7) dI_L_congruent_6 rfl rfl ?_
  refine px_hcall (ν := tP_congruent) (n := 3) (As := [.int (nI a), .int (nI m), .int (nI c)]) (st := [.int (nI 0), .ref (ad_ g 27)]) (E0 := xU_) (pre := [(0, 19, 22, 13), (0, 19, 26, 15)]) (x := (0, 19, 30, 64)) (suf := []) hT hC4 rfl (by decide) rfl rfl (by decide) wc_L_64 (fun z hz => by
      rcases List.mem_cons.mp hz with rfl | hz
      · exact ⟨by decide, xI_, by decide, by decide, wc_L_13⟩
      · cases List.mem_singleton.mp hz; exact ⟨by decide, xA_, by decide, by decide, wc_L_15⟩) dI_L_congruent_7 wl_L_66 wm_P_congruent wv_P_congruent wb_P_congruent wi_P ⟨rfl, rfl⟩ (by decide +kernel) rfl ⟨(Nat.le_of_ble_eq_true rfl), (Nat.le_of_ble_eq_true rfl)⟩ (Nat.le_of_ble_eq_true rfl) (Nat.le_of_ble_eq_true rfl) (Nat.le_of_ble_eq_true rfl) ?_
  refine t_P_congruent_n hT hS0 ha hm1 hm hc hv hdk (⟨rfl, fun q => ?_⟩)
  refine px_astore (q := 32) dI_L_congruent_30 (by decide) rfl rfl ?_
  refine px_iconst (q := 33) (v := nI 3) dI_L_congruent_32 (by decide +kernel) rfl ?_
  exact px_iretH (by decide) (by decide) dI_L_congruent_33 rfl hp
theorem h_L_put {t k : Nat} (ht : t < 6) (hk : k < 9223372036854775808) (hdk : dk_ X v) (hp : ∀ X', dk_ X' (va_up v t k) → fq_ Y Y → Post (some (.int (nI 0))) X' Y) : pw_MetH l g tL_put hh_put [.ref (ad_ g 0), .int (nI t), .long (lN k)] X Y Post := by
  refine ph_ofW (by decide +kernel) rfl (Nat.le_of_ble_eq_true rfl) rfl (fun sz => ?_)
  refine px_aload_n (q := 1) dI_L_put_0 rfl rfl ?_
  refine px_iload_n (q := 2) dI_L_put_1 rfl rfl ?_
  refine px_lload_n (q := 3) dI_L_put_2 rfl rfl ?_
  refine px_callV2 (q := 6) (ν := mP_put) dI_L_put_3 (by decide) rfl rfl wl_L_7 wm_P_put wv_P_put wb_P_put wi_P ⟨rfl, rfl⟩ (by decide +kernel) ⟨(Nat.le_of_ble_eq_true rfl), (Nat.le_of_ble_eq_true rfl)⟩ (Nat.le_of_ble_eq_true rfl) rfl (c_P_put ht hk hdk (fun X1 d1 f1 => ?_))
  refine px_goto (tgt := 17) dI_L_put_6 (by decide) ?_
  refine px_iconst (q := 18) (v := nI 0) dI_L_put_17 (by decide +kernel) rfl ?_
  exact px_iretH (by decide) (by decide) dI_L_put_18 rfl (hp X1 d1 f1.2)
theorem h_L_append {t u : Nat} (ht : t < 6) (hu : u < 4294967296) (hv : v t < 4294967296 ^ 3) (hdk : dk_ X v) (hp : ∀ X', dk_ X' (va_up v t (v t * 4294967296 + u)) → fq_ Y Y → Post (some (.int (nI 0))) X' Y) : pw_MetH l g tL_append hh_append [.ref (ad_ g 0), .int (nI t), .int (nI u)] X Y Post := by
  refine ph_ofW (by decide +kernel) rfl (Nat.le_of_ble_eq_true rfl) rfl (fun sz => ?_)
  refine px_aload_n (q := 1) dI_L_append_0 rfl rfl ?_
  refine px_iload_n (q := 2) dI_L_append_1 rfl rfl ?_
  refine px_iload_n (q := 3) dI_L_append_2 rfl rfl ?_
  refine px_callV2 (q := 6) (ν := mP_append) dI_L_append_3 (by decide) rfl rfl wl_L_17 wm_P_append wv_P_append wb_P_append wi_P ⟨rfl, rfl⟩ (by decide +kernel) ⟨(Nat.le_of_ble_eq_true rfl), (Nat.le_of_ble_eq_true rfl)⟩ (Nat.le_of_ble_eq_true rfl) rfl (c_P_append ht hu hv hdk (fun X1 d1 f1 => ?_))
  refine px_goto (tgt := 15) dI_L_append_6 (by decide) ?_
  refine px_iconst (q := 16) (v := nI 0) dI_L_append_15 (by decide +kernel) rfl ?_
  exact px_iretH (by decide) (by decide) dI_L_append_16 rfl (hp X1 d1 f1.2)
theorem h_L_add {a b t : Nat} (ha : a < 6) (hb : b < 6) (ht : t < 6) (hs : v a + v b < 4294967296 ^ 4) (hdk : dk_ X v) (hp : ∀ X', dk_ X' (va_up v t (v a + v b)) → fq_ Y Y → Post (some (.int (nI 0))) X' Y) : pw_MetH l g tL_add hh_add [.ref (ad_ g 0), .int (nI a), .int (nI b), .int (nI t)] X Y Post := by
  refine ph_ofW (by decide +kernel) rfl (Nat.le_of_ble_eq_true rfl) rfl (fun sz => ?_)
  refine px_aload_n (q := 1) dI_L_add_0 rfl rfl ?_
  refine px_iload_n (q := 2) dI_L_add_1 rfl rfl ?_
  refine px_iload_n (q := 3) dI_L_add_2 rfl rfl ?_
  refine px_iload_n (q := 4) dI_L_add_3 rfl rfl ?_
  refine px_callV3 (q := 7) (ν := mP_add) dI_L_add_4 (by decide) rfl rfl wl_L_23 wm_P_add wv_P_add wb_P_add wi_P ⟨rfl, rfl⟩ (by decide +kernel) ⟨(Nat.le_of_ble_eq_true rfl), (Nat.le_of_ble_eq_true rfl)⟩ (Nat.le_of_ble_eq_true rfl) rfl (c_P_add ha hb ht hs hdk (fun X1 d1 f1 => ?_))
  refine px_goto (tgt := 18) dI_L_add_7 (by decide) ?_
  refine px_iconst (q := 19) (v := nI 0) dI_L_add_18 (by decide +kernel) rfl ?_
  exact px_iretH (by decide) (by decide) dI_L_add_19 rfl (hp X1 d1 f1.2)
theorem h_L_subtract {a b t : Nat} (ha : a < 6) (hb : b < 6) (ht : t < 6) (hs : v b ≤ v a) (hdk : dk_ X v) (hp : ∀ X', dk_ X' (va_up v t (v a - v b)) → fq_ Y Y → Post (some (.int (nI 0))) X' Y) : pw_MetH l g tL_subtract hh_subtract [.ref (ad_ g 0), .int (nI a), .int (nI b), .int (nI t)] X Y Post := by
  refine ph_ofW (by decide +kernel) rfl (Nat.le_of_ble_eq_true rfl) rfl (fun sz => ?_)
  refine px_aload_n (q := 1) dI_L_subtract_0 rfl rfl ?_
  refine px_iload_n (q := 2) dI_L_subtract_1 rfl rfl ?_
  refine px_iload_n (q := 3) dI_L_subtract_2 rfl rfl ?_
  refine px_iload_n (q := 4) dI_L_subtract_3 rfl rfl ?_
  refine px_callV3 (q := 7) (ν := mP_subtract) dI_L_subtract_4 (by decide) rfl rfl wl_L_27 wm_P_subtract wv_P_subtract wb_P_subtract wi_P ⟨rfl, rfl⟩ (by decide +kernel) ⟨(Nat.le_of_ble_eq_true rfl), (Nat.le_of_ble_eq_true rfl)⟩ (Nat.le_of_ble_eq_true rfl) rfl (c_P_subtract ha hb ht hs hdk (fun X1 d1 f1 => ?_))
  refine px_goto (tgt := 18) dI_L_subtract_7 (by decide) ?_
  refine px_iconst (q := 19) (v := nI 0) dI_L_subtract_18 (by decide +kernel) rfl ?_
  exact px_iretH (by decide) (by decide) dI_L_subtract_19 rfl (hp X1 d1 f1.2)
theorem h_L_multiply {a b t : Nat} (ha : a < 6) (hb : b < 6) (ht : t < 6) (hs : v a * v b < 4294967296 ^ 4) (hdk : dk_ X v) (hp : ∀ X', dk_ X' (va_up v t (v a * v b)) → fq_ Y Y → Post (some (.int (nI 0))) X' Y) : pw_MetH l g tL_multiply hh_multiply [.ref (ad_ g 0), .int (nI a), .int (nI b), .int (nI t)] X Y Post := by
  refine ph_ofW (by decide +kernel) rfl (Nat.le_of_ble_eq_true rfl) rfl (fun sz => ?_)
  refine px_aload_n (q := 1) dI_L_multiply_0 rfl rfl ?_
  refine px_iload_n (q := 2) dI_L_multiply_1 rfl rfl ?_
  refine px_iload_n (q := 3) dI_L_multiply_2 rfl rfl ?_
  refine px_iload_n (q := 4) dI_L_multiply_3 rfl rfl ?_
  refine px_callV3 (q := 7) (ν := mP_multiply) dI_L_multiply_4 (by decide) rfl rfl wl_L_30 wm_P_multiply wv_P_multiply wb_P_multiply wi_P ⟨rfl, rfl⟩ (by decide +kernel) ⟨(Nat.le_of_ble_eq_true rfl), (Nat.le_of_ble_eq_true rfl)⟩ (Nat.le_of_ble_eq_true rfl) rfl (c_P_multiply ha hb ht hs hdk (fun X1 d1 f1 => ?_))
  refine px_goto (tgt := 18) dI_L_multiply_7 (by decide) ?_
  refine px_iconst (q := 19) (v := nI 0) dI_L_multiply_18 (by decide +kernel) rfl ?_
  exact px_iretH (by decide) (by decide) dI_L_multiply_19 rfl (hp X1 d1 f1.2)
theorem h_L_gcd {a b t : Nat} (ha : a < 6) (hb : b < 6) (ht : t < 6) (hdk : dk_ X v) (hp : ∀ X' Y', dk_ X' (va_up v t (Nat.gcd (v a) (v b))) → fq_ Y Y' → Post (some (.int (nI 0))) X' Y') : pw_MetH l g tL_gcd hh_gcd [.ref (ad_ g 0), .int (nI a), .int (nI b), .int (nI t)] X Y Post := by
  refine ph_ofW (by decide +kernel) rfl (Nat.le_of_ble_eq_true rfl) rfl (fun sz => ?_)
  refine px_aload_n (q := 1) dI_L_gcd_0 rfl rfl ?_
  refine px_iload_n (q := 2) dI_L_gcd_1 rfl rfl ?_
  refine px_iload_n (q := 3) dI_L_gcd_2 rfl rfl ?_
  refine px_iload_n (q := 4) dI_L_gcd_3 rfl rfl ?_
  refine px_callV3 (q := 7) (ν := mP_gcd) dI_L_gcd_4 (by decide) rfl rfl wl_L_40 wm_P_gcd wv_P_gcd wb_P_gcd wi_P ⟨rfl, rfl⟩ (by decide +kernel) ⟨(Nat.le_of_ble_eq_true rfl), (Nat.le_of_ble_eq_true rfl)⟩ (Nat.le_of_ble_eq_true rfl) rfl (c_P_gcd ha hb ht hdk (fun X1 Y1 d1 f1 => ?_))
  refine px_goto (tgt := 14) dI_L_gcd_7 (by decide) ?_
  refine px_iconst (q := 15) (v := nI 0) dI_L_gcd_14 (by decide +kernel) rfl ?_
  exact px_iretH (by decide) (by decide) dI_L_gcd_15 rfl (hp X1 Y1 d1 f1.2)
theorem h_L_divide {a b q r : Nat} (ha : a < 6) (hb : b < 6) (hq : q < 6) (hr : r < 6) (hqr : q ≠ r) (h0 : v b ≠ 0) (hdk : dk_ X v) (hp : ∀ X' Y', dk_ X' (va_up (va_up v q (v a / v b)) r (v a % v b)) → fq_ Y Y' → Post (some (.int (nI 0))) X' Y') : pw_MetH l g tL_divide hh_divide [.ref (ad_ g 0), .int (nI a), .int (nI b), .int (nI q), .int (nI r)] X Y Post := by
  refine ph_ofW (by decide +kernel) rfl (Nat.le_of_ble_eq_true rfl) rfl (fun sz => ?_)
  refine px_aload_n (q := 1) dI_L_divide_0 rfl rfl ?_
  refine px_iload_n (q := 2) dI_L_divide_1 rfl rfl ?_
  refine px_iload_n (q := 3) dI_L_divide_2 rfl rfl ?_
  refine px_iload_n (q := 4) dI_L_divide_3 rfl rfl ?_
  refine px_iload (q := 6) dI_L_divide_4 rfl rfl ?_
  refine px_callV4 (q := 9) (ν := mP_divide) dI_L_divide_6 (by decide) rfl rfl wl_L_33 wm_P_divide wv_P_divide wb_P_divide wi_P ⟨rfl, rfl⟩ (by decide +kernel) ⟨(Nat.le_of_ble_eq_true rfl), (Nat.le_of_ble_eq_true rfl)⟩ (Nat.le_of_ble_eq_true rfl) rfl (c_P_divide ha hb hq hr hqr h0 hdk (fun X1 Y1 d1 f1 => ?_))
  refine px_goto (tgt := 24) dI_L_divide_9 (by decide) ?_
  refine px_iconst (q := 25) (v := nI 0) dI_L_divide_24 (by decide +kernel) rfl ?_
  exact px_iretH (by decide) (by decide) dI_L_divide_25 rfl (hp X1 Y1 d1 f1.2)
theorem h_L_power {a b q r : Nat} (ha : a < 6) (hb : b < 6) (hq : q < 6) (hr : r < 6) (h0 : v q ≠ 0) (hdk : dk_ X v) (hp : ∀ X' Y', dk_ X' (va_up v r (v a ^ v b % v q)) → fq_ Y Y' → Post (some (.int (nI 0))) X' Y') : pw_MetH l g tL_power hh_power [.ref (ad_ g 0), .int (nI a), .int (nI b), .int (nI q), .int (nI r)] X Y Post := by
  refine ph_ofW (by decide +kernel) rfl (Nat.le_of_ble_eq_true rfl) rfl (fun sz => ?_)
  refine px_aload_n (q := 1) dI_L_power_0 rfl rfl ?_
  refine px_iload_n (q := 2) dI_L_power_1 rfl rfl ?_
  refine px_iload_n (q := 3) dI_L_power_2 rfl rfl ?_
  refine px_iload_n (q := 4) dI_L_power_3 rfl rfl ?_
  refine px_iload (q := 6) dI_L_power_4 rfl rfl ?_
  refine px_callV4 (q := 9) (ν := mP_power) dI_L_power_6 (by decide) rfl rfl wl_L_37 wm_P_power wv_P_power wb_P_power wi_P ⟨rfl, rfl⟩ (by decide +kernel) ⟨(Nat.le_of_ble_eq_true rfl), (Nat.le_of_ble_eq_true rfl)⟩ (Nat.le_of_ble_eq_true rfl) rfl (c_P_power ha hb hq hr h0 hdk (fun X1 Y1 d1 f1 => ?_))
  refine px_goto (tgt := 20) dI_L_power_9 (by decide) ?_
  refine px_iconst (q := 21) (v := nI 0) dI_L_power_20 (by decide +kernel) rfl ?_
  exact px_iretH (by decide) (by decide) dI_L_power_21 rfl (hp X1 Y1 d1 f1.2)
theorem h_L_compare {a b : Nat} (ha : a < 6) (hb : b < 6) (hdk : dk_ X v) (hp : ∀ X' (r : Int32), (v a < v b ∧ r = -1 ∨ v a = v b ∧ r = nI 0 ∨ v b < v a ∧ r = nI 1) → dk_ X' v → X' 27 0 = r.toInt64 → Post (some (.int (nI 0))) X' Y) : pw_MetH l g tL_compare hh_compare [.ref (ad_ g 0), .int (nI a), .int (nI b), .ref (ad_ g 27)] X Y Post := by
  refine ph_ofW (by decide +kernel) rfl (Nat.le_of_ble_eq_true rfl) rfl (fun sz => ?_)
  refine px_aload_n (q := 1) dI_L_compare_0 rfl rfl ?_
  refine px_iconst (q := 2) (v := nI 0) dI_L_compare_1 (by decide +kernel) rfl ?_
  refine px_aload_n (q := 3) dI_L_compare_2 rfl rfl ?_
  refine px_iload_n (q := 4) dI_L_compare_3 rfl rfl ?_
  refine px_iload_n (q := 5) dI_L_compare_4 rfl rfl ?_
  refine px_callV2 (q := 8) (ν := mP_compare) dI_L_compare_5 (by decide) rfl rfl wl_L_43 wm_P_compare wv_P_compare wb_P_compare wi_P ⟨rfl, rfl⟩ (by decide +kernel) ⟨(Nat.le_of_ble_eq_true rfl), (Nat.le_of_ble_eq_true rfl)⟩ (Nat.le_of_ble_eq_true rfl) rfl (c_P_compare ha hb hdk (fun z => ?_) (fun z => ?_) (fun z => ?_))
  · refine px_i2l (q := 9) dI_L_compare_8 rfl rfl ?_
    refine px_last (q := 10) dI_L_compare_9 rfl (by omega) (by omega) rfl ?_
    refine px_goto (tgt := 17) dI_L_compare_10 (by decide) ?_
    refine px_iconst (q := 18) (v := nI 0) dI_L_compare_17 (by decide +kernel) rfl ?_
    exact px_iretH (by decide) (by decide) dI_L_compare_18 rfl (hp _ _ (Or.inl ⟨z, rfl⟩) (dk_x (by decide) hdk) (by rw [xr_s, pk_uLs]))
  · refine px_i2l (q := 9) dI_L_compare_8 rfl rfl ?_
    refine px_last (q := 10) dI_L_compare_9 rfl (by omega) (by omega) rfl ?_
    refine px_goto (tgt := 17) dI_L_compare_10 (by decide) ?_
    refine px_iconst (q := 18) (v := nI 0) dI_L_compare_17 (by decide +kernel) rfl ?_
    exact px_iretH (by decide) (by decide) dI_L_compare_18 rfl (hp _ _ (Or.inr (Or.inl ⟨z, rfl⟩)) (dk_x (by decide) hdk) (by rw [xr_s, pk_uLs]))
  · refine px_i2l (q := 9) dI_L_compare_8 rfl rfl ?_
    refine px_last (q := 10) dI_L_compare_9 rfl (by omega) (by omega) rfl ?_
    refine px_goto (tgt := 17) dI_L_compare_10 (by decide) ?_
    refine px_iconst (q := 18) (v := nI 0) dI_L_compare_17 (by decide +kernel) rfl ?_
    exact px_iretH (by decide) (by decide) dI_L_compare_18 rfl (hp _ _ (Or.inr (Or.inr ⟨z, rfl⟩)) (dk_x (by decide) hdk) (by rw [xr_s, pk_uLs]))
theorem h_L_bits {a : Nat} (ha : a < 6) (hdk : dk_ X v) (hp : ∀ X' T, T ≤ 128 → bl_ (v a) T → dk_ X' v → X' 27 0 = (nI T).toInt64 → Post (some (.int (nI 0))) X' Y) : pw_MetH l g tL_bits hh_bits [.ref (ad_ g 0), .int (nI a), .ref (ad_ g 27)] X Y Post := by
  refine ph_ofW (by decide +kernel) rfl (Nat.le_of_ble_eq_true rfl) rfl (fun sz => ?_)
  refine px_aload_n (q := 1) dI_L_bits_0 rfl rfl ?_
  refine px_iconst (q := 2) (v := nI 0) dI_L_bits_1 (by decide +kernel) rfl ?_
  refine px_aload_n (q := 3) dI_L_bits_2 rfl rfl ?_
  refine px_iload_n (q := 4) dI_L_bits_3 rfl rfl ?_
  refine px_callV1 (q := 7) (ν := mP_bits) dI_L_bits_4 (by decide) rfl rfl wl_L_47 wm_P_bits wv_P_bits wb_P_bits wi_P ⟨rfl, rfl⟩ (by decide +kernel) ⟨(Nat.le_of_ble_eq_true rfl), (Nat.le_of_ble_eq_true rfl)⟩ (Nat.le_of_ble_eq_true rfl) rfl (c_P_bits ha hdk (fun T hT hbl => ?_))
  refine px_i2l (q := 8) dI_L_bits_7 rfl rfl ?_
  refine px_last (q := 9) dI_L_bits_8 rfl (by omega) (by omega) rfl ?_
  refine px_goto (tgt := 15) dI_L_bits_9 (by decide) ?_
  refine px_iconst (q := 16) (v := nI 0) dI_L_bits_15 (by decide +kernel) rfl ?_
  exact px_iretH (by decide) (by decide) dI_L_bits_16 rfl (hp _ T hT hbl (dk_x (by decide) hdk) (by rw [xr_s, pk_uLs]))
theorem h_L_word {a k : Nat} (ha : a < 6) (hk : k < 4) (hdk : dk_ X v) (hp : ∀ X', dk_ X' v → X' 27 0 = lN (v a / 4294967296 ^ k % 4294967296) → Post (some (.int (nI 0))) X' Y) : pw_MetH l g tL_word hh_word [.ref (ad_ g 0), .int (nI a), .int (nI k), .ref (ad_ g 27)] X Y Post := by
  refine ph_ofW (by decide +kernel) rfl (Nat.le_of_ble_eq_true rfl) rfl (fun sz => ?_)
  refine px_aload_n (q := 1) dI_L_word_0 rfl rfl ?_
  refine px_iconst (q := 2) (v := nI 0) dI_L_word_1 (by decide +kernel) rfl ?_
  refine px_aload_n (q := 3) dI_L_word_2 rfl rfl ?_
  refine px_iload_n (q := 4) dI_L_word_3 rfl rfl ?_
  refine px_iload_n (q := 5) dI_L_word_4 rfl rfl ?_
  refine px_callV2 (q := 8) (ν := mP_word) dI_L_word_5 (by decide) rfl rfl wl_L_51 wm_P_word wv_P_word wb_P_word wi_P ⟨rfl, rfl⟩ (by decide +kernel) ⟨(Nat.le_of_ble_eq_true rfl), (Nat.le_of_ble_eq_true rfl)⟩ (Nat.le_of_ble_eq_true rfl) rfl (c_P_word ha hk hdk ?_)
  refine px_last (q := 9) dI_L_word_8 rfl (by omega) (by omega) rfl ?_
  refine px_goto (tgt := 16) dI_L_word_9 (by decide) ?_
  refine px_iconst (q := 17) (v := nI 0) dI_L_word_16 (by decide +kernel) rfl ?_
  exact px_iretH (by decide) (by decide) dI_L_word_17 rfl (hp _ (dk_x (by decide) hdk) (by rw [xr_s, pk_uLs]))
theorem h_L_perfect {a : Nat} (hE : xE_ g) (ha : a < 6) (hdk : dk_ X v) (hp : ∀ X' e, e < 128 → le_ (v a) e → dk_ X' v → X' 27 0 = (nI e).toInt64 → Post (some (.int (nI 0))) X' Y) : pw_MetH l g tL_perfect hh_perfect [.ref (ad_ g 0), .int (nI a), .ref (ad_ g 27)] X Y Post := by
  refine ph_ofW (by decide +kernel) rfl (Nat.le_of_ble_eq_true rfl) rfl (fun sz => ?_)
  refine px_aload_n (q := 1) dI_L_perfect_0 rfl rfl ?_
  refine px_iconst (q := 2) (v := nI 0) dI_L_perfect_1 (by decide +kernel) rfl ?_
  refine px_aload_n (q := 3) dI_L_perfect_2 rfl rfl ?_
  refine px_iload_n (q := 4) dI_L_perfect_3 rfl rfl ?_
  refine px_callV1 (q := 7) (ν := mP_perfect) dI_L_perfect_4 (by decide) rfl rfl wl_L_55 wm_P_perfect wv_P_perfect wb_P_perfect wi_P ⟨rfl, rfl⟩ (by decide +kernel) ⟨(Nat.le_of_ble_eq_true rfl), (Nat.le_of_ble_eq_true rfl)⟩ (Nat.le_of_ble_eq_true rfl) rfl (c_P_perfect hE ha hdk (fun X1 e he hle d1 f1 => ?_))
  refine px_i2l (q := 8) dI_L_perfect_7 rfl rfl ?_
  refine px_last (q := 9) dI_L_perfect_8 rfl (by omega) (by omega) rfl ?_
  refine px_goto (tgt := 15) dI_L_perfect_9 (by decide) ?_
  refine px_iconst (q := 16) (v := nI 0) dI_L_perfect_15 (by decide +kernel) rfl ?_
  exact px_iretH (by decide) (by decide) dI_L_perfect_16 rfl (hp _ e he hle (dk_x (by decide) d1) (by rw [xr_s, pk_uLs]))
theorem h_L_order {a m k : Nat} (ha : a < 6) (h2 : 2 ≤ m) (hm : m ≤ 1000) (hod : od_ (v a % m) m k) (hk : k ≠ 0) (hdk : dk_ X v) (hp : ∀ X', dk_ X' v → X' 27 0 = (nI k).toInt64 → Post (some (.int (nI 0))) X' Y) : pw_MetH l g tL_order hh_order [.ref (ad_ g 0), .int (nI a), .int (nI m), .ref (ad_ g 27)] X Y Post := by
  refine ph_ofW (by decide +kernel) rfl (Nat.le_of_ble_eq_true rfl) rfl (fun sz => ?_)
  refine px_aload_n (q := 1) dI_L_order_0 rfl rfl ?_
  refine px_iconst (q := 2) (v := nI 0) dI_L_order_1 (by decide +kernel) rfl ?_
  refine px_aload_n (q := 3) dI_L_order_2 rfl rfl ?_
  refine px_iload_n (q := 4) dI_L_order_3 rfl rfl ?_
  refine px_iload_n (q := 5) dI_L_order_4 rfl rfl ?_
  refine px_callV2 (q := 8) (ν := mP_order) dI_L_order_5 (by decide) rfl rfl wl_L_58 wm_P_order wv_P_order wb_P_order wi_P ⟨rfl, rfl⟩ (by decide +kernel) ⟨(Nat.le_of_ble_eq_true rfl), (Nat.le_of_ble_eq_true rfl)⟩ (Nat.le_of_ble_eq_true rfl) rfl (c_P_order ha h2 hm hod hk hdk ?_)
  refine px_i2l (q := 9) dI_L_order_8 rfl rfl ?_
  refine px_last (q := 10) dI_L_order_9 rfl (by omega) (by omega) rfl ?_
  refine px_goto (tgt := 25) dI_L_order_10 (by decide) ?_
  refine px_iconst (q := 26) (v := nI 0) dI_L_order_25 (by decide +kernel) rfl ?_
  exact px_iretH (by decide) (by decide) dI_L_order_26 rfl (hp _ (dk_x (by decide) hdk) (by rw [xr_s, pk_uLs]))
theorem h_L_modulus {a : Nat} (ha : a < 6) (h2 : 2 ≤ v a) (hv : v a ≤ 511) (hdk : dk_ X v) (hp : ∀ X' T m k, bl_ (v a) T → 2 ≤ m → m < 1000 → od_ (v a % m) m k → T * T < k → (∀ m', 2 ≤ m' → m' < m → ∀ k', od_ (v a % m') m' k' → k' ≤ T * T) → dk_ X' v → X' 27 0 = (nI m).toInt64 → Post (some (.int (nI 0))) X' Y) : pw_MetH l g tL_modulus hh_modulus [.ref (ad_ g 0), .int (nI a), .ref (ad_ g 27)] X Y Post := by
  refine ph_ofW (by decide +kernel) rfl (Nat.le_of_ble_eq_true rfl) rfl (fun sz => ?_)
  refine px_aload_n (q := 1) dI_L_modulus_0 rfl rfl ?_
  refine px_iconst (q := 2) (v := nI 0) dI_L_modulus_1 (by decide +kernel) rfl ?_
  refine px_aload_n (q := 3) dI_L_modulus_2 rfl rfl ?_
  refine px_iload_n (q := 4) dI_L_modulus_3 rfl rfl ?_
  refine px_callV1 (q := 7) (ν := mP_modulus) dI_L_modulus_4 (by decide) rfl rfl wl_L_61 wm_P_modulus wv_P_modulus wb_P_modulus wi_P ⟨rfl, rfl⟩ (by decide +kernel) ⟨(Nat.le_of_ble_eq_true rfl), (Nat.le_of_ble_eq_true rfl)⟩ (Nat.le_of_ble_eq_true rfl) rfl (c_P_modulus ha h2 hv hdk (fun T m k q1 q2 q3 q4 q5 q6 => ?_) (fun T q1 q2 => ?_))
  · refine px_i2l (q := 8) dI_L_modulus_7 rfl rfl ?_
    refine px_last (q := 9) dI_L_modulus_8 rfl (by omega) (by omega) rfl ?_
    refine px_goto (tgt := 18) dI_L_modulus_9 (by decide) ?_
    refine px_iconst (q := 19) (v := nI 0) dI_L_modulus_18 (by decide +kernel) rfl ?_
    exact px_iretH (by decide) (by decide) dI_L_modulus_19 rfl (hp _ T m k q1 q2 q3 q4 q5 q6 (dk_x (by decide) hdk) (by rw [xr_s, pk_uLs]))
  · exfalso
    obtain ⟨m', k1, z1, z2, z3, z4⟩ := md_ex h2 (by omega)
    obtain ⟨k', z5, z6⟩ := q2 m' z1 z2
    have hT9 : T ≤ 9 := by
      refine Nat.le_of_not_lt (fun q => ?_)
      have h3 := q1.2 (by omega)
      have h4 : 2 ^ 9 ≤ 2 ^ (T - 1) := Nat.pow_le_pow_right (by decide) (by omega)
      omega
    have hTT : T * T ≤ 9 * 9 := Nat.mul_le_mul hT9 hT9
    rw [od_uniq z5 z3] at z6
    omega
theorem h_L_congruent {a m c : Nat} (ha : a < 6) (hm1 : 1 ≤ m) (hm : m ≤ 64) (hc : c ≤ 4095) (h2 : 2 ≤ v a) (hv : v a ≤ 4095) (hdk : dk_ X v) (h1 : (cg_ (v a) m c) → ∀ X' Y', dk_ X' v → fq_ Y Y' → X' 27 0 = lN 1 → Post (some (.int (nI 0))) X' Y') (h0 : (¬ cg_ (v a) m c) → ∀ X' Y', dk_ X' v → fq_ Y Y' → X' 27 0 = lN 0 → Post (some (.int (nI 0))) X' Y') : pw_MetH l g tL_congruent hh_congruent [.ref (ad_ g 0), .int (nI a), .int (nI m), .int (nI c), .ref (ad_ g 27)] X Y Post := by
  refine ph_ofW (by decide +kernel) rfl (Nat.le_of_ble_eq_true rfl) rfl (fun sz => ?_)
  refine px_aload (q := 2) dI_L_congruent_0 rfl rfl ?_
  refine px_iconst (q := 3) (v := nI 0) dI_L_congruent_2 (by decide +kernel) rfl ?_
  refine px_aload_n (q := 4) dI_L_congruent_3 rfl rfl ?_
  refine px_iload_n (q := 5) dI_L_congruent_4 rfl rfl ?_
  refine px_iload_n (q := 6) dI_L_congruent_5 rfl rfl ?_
  refine px_iload_n (q := 7) dI_L_congruent_6 rfl rfl ?_
  refine px_callV3 (q := 10) (ν := mP_congruent) dI_L_congruent_7 (by decide) rfl rfl wl_L_66 wm_P_congruent wv_P_congruent wb_P_congruent wi_P ⟨rfl, rfl⟩ (by decide +kernel) ⟨(Nat.le_of_ble_eq_true rfl), (Nat.le_of_ble_eq_true rfl)⟩ (Nat.le_of_ble_eq_true rfl) rfl (c_P_congruent ha hm1 hm hc h2 hv hdk (fun Y1 z f1 => ?_) (fun Y1 z f1 => ?_))
  · refine px_if_eqN (q := 13) (tgt := 17) dI_L_congruent_10 (by omega) (by decide) rfl (fun b10 => ?_) (fun b10 => ?_)
    · exact absurd b10 (by decide)
    · refine px_lconst (q := 14) (v := lN 1) dI_L_congruent_13 rfl rfl ?_
      refine px_goto (tgt := 18) dI_L_congruent_14 (by decide) ?_
      refine px_last (q := 19) dI_L_congruent_18 rfl (by omega) (by omega) rfl ?_
      refine px_goto (tgt := 34) dI_L_congruent_19 (by decide) ?_
      refine px_iconst (q := 35) (v := nI 0) dI_L_congruent_34 (by decide +kernel) rfl ?_
      exact px_iretH (by decide) (by decide) dI_L_congruent_35 rfl (h1 z _ _ (dk_x (by decide) hdk) f1.2 (by rw [xr_s, pk_uLs]))
  · refine px_if_eqN (q := 13) (tgt := 17) dI_L_congruent_10 (by omega) (by decide) rfl (fun b10 => ?_) (fun b10 => ?_)
    · refine px_lconst (q := 18) (v := lN 0) dI_L_congruent_17 rfl rfl ?_
      refine px_last (q := 19) dI_L_congruent_18 rfl (by omega) (by omega) rfl ?_
      refine px_goto (tgt := 34) dI_L_congruent_19 (by decide) ?_
      refine px_iconst (q := 35) (v := nI 0) dI_L_congruent_34 (by decide +kernel) rfl ?_
      exact px_iretH (by decide) (by decide) dI_L_congruent_35 rfl (h0 z _ _ (dk_x (by decide) hdk) f1.2 (by rw [xr_s, pk_uLs]))
    · exact absurd rfl b10
theorem h_L_prime {a : Nat} (ha : a < 6) (hv : v a ≤ 511) (hdk : dk_ X v) (h1 : (2 ≤ v a ∧ ∀ d, 2 ≤ d → d * d ≤ v a → v a % d ≠ 0) → ∀ X' Y', dk_ X' v → fq_ Y Y' → X' 27 0 = lN 1 → Post (some (.int (nI 0))) X' Y') (h0 : (v a < 2 ∨ ∃ d, 2 ≤ d ∧ d * d ≤ v a ∧ v a % d = 0) → ∀ X' Y', dk_ X' v → fq_ Y Y' → X' 27 0 = lN 0 → Post (some (.int (nI 0))) X' Y') : pw_MetH l g tL_prime hh_prime [.ref (ad_ g 0), .int (nI a), .ref (ad_ g 27)] X Y Post := by
  refine ph_ofW (by decide +kernel) rfl (Nat.le_of_ble_eq_true rfl) rfl (fun sz => ?_)
  refine px_aload_n (q := 1) dI_L_prime_0 rfl rfl ?_
  refine px_iconst (q := 2) (v := nI 0) dI_L_prime_1 (by decide +kernel) rfl ?_
  refine px_aload_n (q := 3) dI_L_prime_2 rfl rfl ?_
  refine px_iload_n (q := 4) dI_L_prime_3 rfl rfl ?_
  refine px_callV1 (q := 7) (ν := mP_prime) dI_L_prime_4 (by decide) rfl rfl wl_L_70 wm_P_prime wv_P_prime wb_P_prime wi_P ⟨rfl, rfl⟩ (by decide +kernel) ⟨(Nat.le_of_ble_eq_true rfl), (Nat.le_of_ble_eq_true rfl)⟩ (Nat.le_of_ble_eq_true rfl) rfl (c_P_prime ha hv hdk (fun z1 z2 => ?_) (fun z => ?_))
  · refine px_if_eqN (q := 10) (tgt := 14) dI_L_prime_7 (by omega) (by decide) rfl (fun b7 => ?_) (fun b7 => ?_)
    · exact absurd b7 (by decide)
    · refine px_lconst (q := 11) (v := lN 1) dI_L_prime_10 rfl rfl ?_
      refine px_goto (tgt := 15) dI_L_prime_11 (by decide) ?_
      refine px_last (q := 16) dI_L_prime_15 rfl (by omega) (by omega) rfl ?_
      refine px_goto (tgt := 25) dI_L_prime_16 (by decide) ?_
      refine px_iconst (q := 26) (v := nI 0) dI_L_prime_25 (by decide +kernel) rfl ?_
      exact px_iretH (by decide) (by decide) dI_L_prime_26 rfl (h1 ⟨z1, z2⟩ _ _ (dk_x (by decide) hdk) (fun _ _ => rfl) (by rw [xr_s, pk_uLs]))
  · refine px_if_eqN (q := 10) (tgt := 14) dI_L_prime_7 (by omega) (by decide) rfl (fun b7 => ?_) (fun b7 => ?_)
    · refine px_lconst (q := 15) (v := lN 0) dI_L_prime_14 rfl rfl ?_
      refine px_last (q := 16) dI_L_prime_15 rfl (by omega) (by omega) rfl ?_
      refine px_goto (tgt := 25) dI_L_prime_16 (by decide) ?_
      refine px_iconst (q := 26) (v := nI 0) dI_L_prime_25 (by decide +kernel) rfl ?_
      exact px_iretH (by decide) (by decide) dI_L_prime_26 rfl (h0 z _ _ (dk_x (by decide) hdk) (fun _ _ => rfl) (by rw [xr_s, pk_uLs]))
    · exact absurd rfl b7
end CH
