/-! the law: one step, by operation -/
section LS
variable {l : Launch} {g : pw_G} {sz i L C S : Nat} {xs : Nat → Int32} {F : List Frame → Array Value → State → State → Prop} {X : pw_X} {Y : pw_Y} {v : Nat → Nat}
theorem mz_fq {Y' : pw_Y} (h : mz_ Y v) (f : fq_ Y Y') : mz_ Y' v := by
  obtain ⟨h1, W, h2⟩ := h
  exact ⟨by rw [f 24 (by decide)]; exact h1, W, by rw [f 25 (by decide)]; exact h2⟩
theorem B3_ : 4294967296 ^ 3 = 2 ^ 96 := by decide
theorem B4_ : 4294967296 ^ 4 = 2 ^ 128 := by decide
theorem l_cl (x : Int64) : x < 0 ∨ ∃ k, k < 9223372036854775808 ∧ x = lN k := by
  obtain ⟨n, hn, e⟩ := wb_of x
  by_cases h : n < 9223372036854775808
  · exact Or.inr ⟨n, h, e⟩
  · refine Or.inl ?_
    rw [e, Int64.lt_iff_toInt_lt]
    have e1 : (lN n).toInt = (n : Int) - 2 ^ 64 := by
      have c := BitVec.toInt_eq_toNat_cond (lN n).toBitVec
      rw [wb_tn hn, if_neg (by omega)] at c
      show (lN n).toBitVec.toInt = _
      rw [c]
      omega
    have e0 : (0 : Int64).toInt = 0 := by decide
    omega
theorem pr_1 {n : Nat} (h2 : 2 ≤ n) (h : ∀ d, 2 ≤ d → d * d ≤ n → n % d ≠ 0) : ¬ (n < 2 ∨ ∃ d, 2 ≤ d ∧ d < n ∧ n % d = 0) := by
  rintro (q | ⟨d, d1, d2, d3⟩)
  · omega
  · obtain ⟨e, he⟩ := Nat.dvd_of_mod_eq_zero d3
    have he2 : 2 ≤ e := by
      rcases (show e = 0 ∨ e = 1 ∨ 2 ≤ e by omega) with z | z | z
      · rw [z, Nat.mul_zero] at he; omega
      · rw [z, Nat.mul_one] at he; omega
      · exact z
    rcases Nat.le_total d e with z | z
    · exact h d d1 (by rw [he]; exact Nat.mul_le_mul_left _ z) d3
    · exact h e he2 (by rw [he]; exact Nat.mul_le_mul_right _ z) (by rw [he]; exact Nat.mul_mod_left _ _)
theorem pr_0 {n : Nat} (h : n < 2 ∨ ∃ d, 2 ≤ d ∧ d * d ≤ n ∧ n % d = 0) : ¬ (2 ≤ n ∧ ∀ d, 2 ≤ d → d < n → n % d ≠ 0) := by
  rintro ⟨h2, hn⟩
  rcases h with q | ⟨d, d1, d2, d3⟩
  · omega
  · have : 2 * d ≤ d * d := Nat.mul_le_mul_right _ d1
    exact hn d d1 (by omega) d3
theorem ls_put {x1 x2 x3 x4 : Int32} (hX : xX_ g L xs) (hL : L ≤ 2560) (hE : xE_ g) (hT : xT_ g) (hC4 : xC_ g) (hS0 : l.stackTraces = false) (hi : i + 4 < L) (e1 : xs (i + 1) = x1) (e2 : xs (i + 2) = x2) (e3 : xs (i + 3) = x3) (e4 : xs (i + 4) = x4) (hcz : C + 1 ≤ room_1.cells ∧ S + 6 ≤ room_1.slots) (hdk : dk_ X v) (hm : mz_ Y v) (kx : ∀ X' Y' v', dk_ X' v' → mz_ Y' v' → pw_W l g μL_ sz (C + 1, S + 6, F) 1149 [(0, .ref (ad_ g 29)), (1, .ref (ad_ g 0)), (2, .ref (ad_ g 23)), (3, .ref (ad_ g 27)), (4, .int (nI i))] [] X' Y') : pw_W l g μL_ sz (C, S, F) 116 [(0, .ref (ad_ g 29)), (1, .ref (ad_ g 0)), (2, .ref (ad_ g 23)), (3, .ref (ad_ g 27)), (4, .int (nI i))] [] X Y := by
  by_cases hb : bd_ x1
  · refine px_aload_n (q := 117) dI_L_law_116 rfl rfl ?_
    refine px_aload_n (q := 118) dI_L_law_117 rfl rfl ?_
    refine px_iload (q := 120) dI_L_law_118 rfl rfl ?_
    refine px_iconst (q := 121) (v := nI 1) dI_L_law_120 (by decide +kernel) rfl ?_
    refine px_iaddN (q := 122) dI_L_law_121 rfl ?_
    refine px_ldX (q := 123) hX hL dI_L_law_122 (by omega) e1 rfl ?_
    refine px_aload_n (q := 124) dI_L_law_123 rfl rfl ?_
    refine px_iload (q := 126) dI_L_law_124 rfl rfl ?_
    refine px_iconst (q := 127) (v := nI 2) dI_L_law_126 (by decide +kernel) rfl ?_
    refine px_iaddN (q := 128) dI_L_law_127 rfl ?_
    refine px_ldX (q := 129) hX hL dI_L_law_128 (by omega) e2 rfl ?_
    refine px_i2l (q := 130) dI_L_law_129 rfl rfl ?_
    refine px_bipush (q := 132) (v := nI 32) dI_L_law_130 (by decide +kernel) rfl ?_
    refine px_lshl (q := 133) dI_L_law_132 rfl rfl ?_
    refine px_aload_n (q := 134) dI_L_law_133 rfl rfl ?_
    refine px_iload (q := 136) dI_L_law_134 rfl rfl ?_
    refine px_iconst (q := 137) (v := nI 3) dI_L_law_136 (by decide +kernel) rfl ?_
    refine px_iaddN (q := 138) dI_L_law_137 rfl ?_
    refine px_ldX (q := 139) hX hL dI_L_law_138 (by omega) e3 rfl ?_
    refine px_i2l (q := 140) dI_L_law_139 rfl rfl ?_
    refine px_ldc2 (q := 143) (v2 := lN 4294967295) dI_L_law_140 wk_L_78 (by decide +kernel) rfl ?_
    refine px_land (q := 144) dI_L_law_143 rfl ?_
    refine px_lor (q := 145) dI_L_law_144 rfl ?_
    refine px_callSH3 (q := 148) (hh := hh_put) (ν := tL_put) dI_L_law_145 wl_L_80 ws_L_put wb_L_put wi_L ⟨rfl, rfl⟩ (by decide +kernel) ⟨(Nat.le_of_ble_eq_true rfl), (Nat.le_of_ble_eq_true rfl)⟩ (Nat.le_of_ble_eq_true rfl) hcz rfl (h_L_put_bad hT hC4 hS0 hb ?_)
    refine px_istore (q := 150) dI_L_law_148 (by decide) rfl rfl ?_
    refine px_aload_n (q := 151) dI_L_law_150 rfl rfl ?_
    refine px_aload_n (q := 152) dI_L_law_151 rfl rfl ?_
    refine px_iload (q := 154) dI_L_law_152 rfl rfl ?_
    refine px_iconst (q := 155) (v := nI 1) dI_L_law_154 (by decide +kernel) rfl ?_
    refine px_iaddN (q := 156) dI_L_law_155 rfl ?_
    refine px_ldX (q := 157) hX hL dI_L_law_156 (by omega) e1 rfl ?_
    refine px_aload_n (q := 158) dI_L_law_157 rfl rfl ?_
    refine px_iload (q := 160) dI_L_law_158 rfl rfl ?_
    refine px_iconst (q := 161) (v := nI 2) dI_L_law_160 (by decide +kernel) rfl ?_
    refine px_iaddN (q := 162) dI_L_law_161 rfl ?_
    refine px_ldX (q := 163) hX hL dI_L_law_162 (by omega) e2 rfl ?_
    refine px_i2l (q := 164) dI_L_law_163 rfl rfl ?_
    refine px_bipush (q := 166) (v := nI 32) dI_L_law_164 (by decide +kernel) rfl ?_
    refine px_lshl (q := 167) dI_L_law_166 rfl rfl ?_
    refine px_aload_n (q := 168) dI_L_law_167 rfl rfl ?_
    refine px_iload (q := 170) dI_L_law_168 rfl rfl ?_
    refine px_iconst (q := 171) (v := nI 3) dI_L_law_170 (by decide +kernel) rfl ?_
    refine px_iaddN (q := 172) dI_L_law_171 rfl ?_
    refine px_ldX (q := 173) hX hL dI_L_law_172 (by omega) e3 rfl ?_
    refine px_i2l (q := 174) dI_L_law_173 rfl rfl ?_
    refine px_ldc2 (q := 177) (v2 := lN 4294967295) dI_L_law_174 wk_L_78 (by decide +kernel) rfl ?_
    refine px_land (q := 178) dI_L_law_177 rfl ?_
    refine px_lor (q := 179) dI_L_law_178 rfl ?_
    refine px_callV2 (q := 182) (ν := mM_put) dI_L_law_179 (by decide) rfl rfl wl_L_85 wm_M_put wv_M_put wb_M_put wi_M ⟨rfl, rfl⟩ (by decide +kernel) ⟨(Nat.le_of_ble_eq_true rfl), (Nat.le_of_ble_eq_true rfl)⟩ (Nat.le_of_ble_eq_true rfl) rfl (c_M_put_bad hb hm (fun Y1 m1 f1 c1 => ?_))
    exact lt_put (c := 1) (by decide) c1  (kx _ _ _ hdk m1)
  · obtain ⟨r1, hr1, rfl⟩ := Decidable.not_not.mp hb
    refine px_aload_n (q := 117) dI_L_law_116 rfl rfl ?_
    refine px_aload_n (q := 118) dI_L_law_117 rfl rfl ?_
    refine px_iload (q := 120) dI_L_law_118 rfl rfl ?_
    refine px_iconst (q := 121) (v := nI 1) dI_L_law_120 (by decide +kernel) rfl ?_
    refine px_iaddN (q := 122) dI_L_law_121 rfl ?_
    refine px_ldX (q := 123) hX hL dI_L_law_122 (by omega) e1 rfl ?_
    refine px_aload_n (q := 124) dI_L_law_123 rfl rfl ?_
    refine px_iload (q := 126) dI_L_law_124 rfl rfl ?_
    refine px_iconst (q := 127) (v := nI 2) dI_L_law_126 (by decide +kernel) rfl ?_
    refine px_iaddN (q := 128) dI_L_law_127 rfl ?_
    refine px_ldX (q := 129) hX hL dI_L_law_128 (by omega) e2 rfl ?_
    refine px_i2l (q := 130) dI_L_law_129 rfl rfl ?_
    refine px_bipush (q := 132) (v := nI 32) dI_L_law_130 (by decide +kernel) rfl ?_
    refine px_lshl (q := 133) dI_L_law_132 rfl rfl ?_
    refine px_aload_n (q := 134) dI_L_law_133 rfl rfl ?_
    refine px_iload (q := 136) dI_L_law_134 rfl rfl ?_
    refine px_iconst (q := 137) (v := nI 3) dI_L_law_136 (by decide +kernel) rfl ?_
    refine px_iaddN (q := 138) dI_L_law_137 rfl ?_
    refine px_ldX (q := 139) hX hL dI_L_law_138 (by omega) e3 rfl ?_
    refine px_i2l (q := 140) dI_L_law_139 rfl rfl ?_
    refine px_ldc2 (q := 143) (v2 := lN 4294967295) dI_L_law_140 wk_L_78 (by decide +kernel) rfl ?_
    refine px_land (q := 144) dI_L_law_143 rfl ?_
    refine px_lor (q := 145) dI_L_law_144 rfl ?_
    rcases l_cl (x2.toInt64 <<< ((nI 32).toInt64 &&& 63) ||| x3.toInt64 &&& lN 4294967295) with z | ⟨k, hk, e⟩
    · refine px_callSH3 (q := 148) (hh := hh_put) (ν := tL_put) dI_L_law_145 wl_L_80 ws_L_put wb_L_put wi_L ⟨rfl, rfl⟩ (by decide +kernel) ⟨(Nat.le_of_ble_eq_true rfl), (Nat.le_of_ble_eq_true rfl)⟩ (Nat.le_of_ble_eq_true rfl) hcz rfl (h_L_put_neg hT hC4 hS0 hr1 z ?_)
      refine px_istore (q := 150) dI_L_law_148 (by decide) rfl rfl ?_
      refine px_aload_n (q := 151) dI_L_law_150 rfl rfl ?_
      refine px_aload_n (q := 152) dI_L_law_151 rfl rfl ?_
      refine px_iload (q := 154) dI_L_law_152 rfl rfl ?_
      refine px_iconst (q := 155) (v := nI 1) dI_L_law_154 (by decide +kernel) rfl ?_
      refine px_iaddN (q := 156) dI_L_law_155 rfl ?_
      refine px_ldX (q := 157) hX hL dI_L_law_156 (by omega) e1 rfl ?_
      refine px_aload_n (q := 158) dI_L_law_157 rfl rfl ?_
      refine px_iload (q := 160) dI_L_law_158 rfl rfl ?_
      refine px_iconst (q := 161) (v := nI 2) dI_L_law_160 (by decide +kernel) rfl ?_
      refine px_iaddN (q := 162) dI_L_law_161 rfl ?_
      refine px_ldX (q := 163) hX hL dI_L_law_162 (by omega) e2 rfl ?_
      refine px_i2l (q := 164) dI_L_law_163 rfl rfl ?_
      refine px_bipush (q := 166) (v := nI 32) dI_L_law_164 (by decide +kernel) rfl ?_
      refine px_lshl (q := 167) dI_L_law_166 rfl rfl ?_
      refine px_aload_n (q := 168) dI_L_law_167 rfl rfl ?_
      refine px_iload (q := 170) dI_L_law_168 rfl rfl ?_
      refine px_iconst (q := 171) (v := nI 3) dI_L_law_170 (by decide +kernel) rfl ?_
      refine px_iaddN (q := 172) dI_L_law_171 rfl ?_
      refine px_ldX (q := 173) hX hL dI_L_law_172 (by omega) e3 rfl ?_
      refine px_i2l (q := 174) dI_L_law_173 rfl rfl ?_
      refine px_ldc2 (q := 177) (v2 := lN 4294967295) dI_L_law_174 wk_L_78 (by decide +kernel) rfl ?_
      refine px_land (q := 178) dI_L_law_177 rfl ?_
      refine px_lor (q := 179) dI_L_law_178 rfl ?_
      refine px_callV2 (q := 182) (ν := mM_put) dI_L_law_179 (by decide) rfl rfl wl_L_85 wm_M_put wv_M_put wb_M_put wi_M ⟨rfl, rfl⟩ (by decide +kernel) ⟨(Nat.le_of_ble_eq_true rfl), (Nat.le_of_ble_eq_true rfl)⟩ (Nat.le_of_ble_eq_true rfl) rfl (c_M_put_neg hr1 z hm (fun Y1 m1 f1 c1 => ?_))
      exact lt_put (c := 2) (by decide) c1  (kx _ _ _ hdk m1)
    · refine px_tl e ?_
      refine px_callSH3 (q := 148) (hh := hh_put) (ν := tL_put) dI_L_law_145 wl_L_80 ws_L_put wb_L_put wi_L ⟨rfl, rfl⟩ (by decide +kernel) ⟨(Nat.le_of_ble_eq_true rfl), (Nat.le_of_ble_eq_true rfl)⟩ (Nat.le_of_ble_eq_true rfl) hcz rfl (h_L_put hr1 hk hdk (fun X1 d1 g1 => ?_))
      refine px_istore (q := 150) dI_L_law_148 (by decide) rfl rfl ?_
      refine px_aload_n (q := 151) dI_L_law_150 rfl rfl ?_
      refine px_aload_n (q := 152) dI_L_law_151 rfl rfl ?_
      refine px_iload (q := 154) dI_L_law_152 rfl rfl ?_
      refine px_iconst (q := 155) (v := nI 1) dI_L_law_154 (by decide +kernel) rfl ?_
      refine px_iaddN (q := 156) dI_L_law_155 rfl ?_
      refine px_ldX (q := 157) hX hL dI_L_law_156 (by omega) e1 rfl ?_
      refine px_aload_n (q := 158) dI_L_law_157 rfl rfl ?_
      refine px_iload (q := 160) dI_L_law_158 rfl rfl ?_
      refine px_iconst (q := 161) (v := nI 2) dI_L_law_160 (by decide +kernel) rfl ?_
      refine px_iaddN (q := 162) dI_L_law_161 rfl ?_
      refine px_ldX (q := 163) hX hL dI_L_law_162 (by omega) e2 rfl ?_
      refine px_i2l (q := 164) dI_L_law_163 rfl rfl ?_
      refine px_bipush (q := 166) (v := nI 32) dI_L_law_164 (by decide +kernel) rfl ?_
      refine px_lshl (q := 167) dI_L_law_166 rfl rfl ?_
      refine px_aload_n (q := 168) dI_L_law_167 rfl rfl ?_
      refine px_iload (q := 170) dI_L_law_168 rfl rfl ?_
      refine px_iconst (q := 171) (v := nI 3) dI_L_law_170 (by decide +kernel) rfl ?_
      refine px_iaddN (q := 172) dI_L_law_171 rfl ?_
      refine px_ldX (q := 173) hX hL dI_L_law_172 (by omega) e3 rfl ?_
      refine px_i2l (q := 174) dI_L_law_173 rfl rfl ?_
      refine px_ldc2 (q := 177) (v2 := lN 4294967295) dI_L_law_174 wk_L_78 (by decide +kernel) rfl ?_
      refine px_land (q := 178) dI_L_law_177 rfl ?_
      refine px_lor (q := 179) dI_L_law_178 rfl ?_
      refine px_tl e ?_
      refine px_callV2 (q := 182) (ν := mM_put) dI_L_law_179 (by decide) rfl rfl wl_L_85 wm_M_put wv_M_put wb_M_put wi_M ⟨rfl, rfl⟩ (by decide +kernel) ⟨(Nat.le_of_ble_eq_true rfl), (Nat.le_of_ble_eq_true rfl)⟩ (Nat.le_of_ble_eq_true rfl) rfl (c_M_put hr1 hk (mz_fq hm g1) (fun Y1 m1 f1 c1 => ?_))
      exact lt_put (c := 0) (by decide) c1  (kx _ _ _ d1 m1)
theorem ls_append {x1 x2 x3 x4 : Int32} (hX : xX_ g L xs) (hL : L ≤ 2560) (hE : xE_ g) (hT : xT_ g) (hC4 : xC_ g) (hS0 : l.stackTraces = false) (hi : i + 4 < L) (e1 : xs (i + 1) = x1) (e2 : xs (i + 2) = x2) (e3 : xs (i + 3) = x3) (e4 : xs (i + 4) = x4) (hcz : C + 1 ≤ room_1.cells ∧ S + 6 ≤ room_1.slots) (hdk : dk_ X v) (hm : mz_ Y v) (kx : ∀ X' Y' v', dk_ X' v' → mz_ Y' v' → pw_W l g μL_ sz (C + 1, S + 6, F) 1149 [(0, .ref (ad_ g 29)), (1, .ref (ad_ g 0)), (2, .ref (ad_ g 23)), (3, .ref (ad_ g 27)), (4, .int (nI i))] [] X' Y') : pw_W l g μL_ sz (C, S, F) 196 [(0, .ref (ad_ g 29)), (1, .ref (ad_ g 0)), (2, .ref (ad_ g 23)), (3, .ref (ad_ g 27)), (4, .int (nI i))] [] X Y := by
  obtain ⟨u, hu, rfl⟩ := wb_of32 x2
  by_cases hb : bd_ x1
  · refine px_aload_n (q := 197) dI_L_law_196 rfl rfl ?_
    refine px_aload_n (q := 198) dI_L_law_197 rfl rfl ?_
    refine px_iload (q := 200) dI_L_law_198 rfl rfl ?_
    refine px_iconst (q := 201) (v := nI 1) dI_L_law_200 (by decide +kernel) rfl ?_
    refine px_iaddN (q := 202) dI_L_law_201 rfl ?_
    refine px_ldX (q := 203) hX hL dI_L_law_202 (by omega) e1 rfl ?_
    refine px_aload_n (q := 204) dI_L_law_203 rfl rfl ?_
    refine px_iload (q := 206) dI_L_law_204 rfl rfl ?_
    refine px_iconst (q := 207) (v := nI 2) dI_L_law_206 (by decide +kernel) rfl ?_
    refine px_iaddN (q := 208) dI_L_law_207 rfl ?_
    refine px_ldX (q := 209) hX hL dI_L_law_208 (by omega) e2 rfl ?_
    refine px_callSH3 (q := 212) (hh := hh_append) (ν := tL_append) dI_L_law_209 wl_L_90 ws_L_append wb_L_append wi_L ⟨rfl, rfl⟩ (by decide +kernel) ⟨(Nat.le_of_ble_eq_true rfl), (Nat.le_of_ble_eq_true rfl)⟩ (Nat.le_of_ble_eq_true rfl) hcz rfl (h_L_append_bad hT hC4 hS0 hb ?_)
    refine px_istore (q := 214) dI_L_law_212 (by decide) rfl rfl ?_
    refine px_aload_n (q := 215) dI_L_law_214 rfl rfl ?_
    refine px_aload_n (q := 216) dI_L_law_215 rfl rfl ?_
    refine px_iload (q := 218) dI_L_law_216 rfl rfl ?_
    refine px_iconst (q := 219) (v := nI 1) dI_L_law_218 (by decide +kernel) rfl ?_
    refine px_iaddN (q := 220) dI_L_law_219 rfl ?_
    refine px_ldX (q := 221) hX hL dI_L_law_220 (by omega) e1 rfl ?_
    refine px_aload_n (q := 222) dI_L_law_221 rfl rfl ?_
    refine px_iload (q := 224) dI_L_law_222 rfl rfl ?_
    refine px_iconst (q := 225) (v := nI 2) dI_L_law_224 (by decide +kernel) rfl ?_
    refine px_iaddN (q := 226) dI_L_law_225 rfl ?_
    refine px_ldX (q := 227) hX hL dI_L_law_226 (by omega) e2 rfl ?_
    refine px_callV2 (q := 230) (ν := mM_append) dI_L_law_227 (by decide) rfl rfl wl_L_93 wm_M_append wv_M_append wb_M_append wi_M ⟨rfl, rfl⟩ (by decide +kernel) ⟨(Nat.le_of_ble_eq_true rfl), (Nat.le_of_ble_eq_true rfl)⟩ (Nat.le_of_ble_eq_true rfl) rfl (c_M_append_bad hb hm (fun Y1 m1 f1 c1 => ?_))
    exact lt_append (c := 1) (by decide) c1  (kx _ _ _ hdk m1)
  · obtain ⟨r1, hr1, rfl⟩ := Decidable.not_not.mp hb
    by_cases hs : v r1 < 4294967296 ^ 3
    · refine px_aload_n (q := 197) dI_L_law_196 rfl rfl ?_
      refine px_aload_n (q := 198) dI_L_law_197 rfl rfl ?_
      refine px_iload (q := 200) dI_L_law_198 rfl rfl ?_
      refine px_iconst (q := 201) (v := nI 1) dI_L_law_200 (by decide +kernel) rfl ?_
      refine px_iaddN (q := 202) dI_L_law_201 rfl ?_
      refine px_ldX (q := 203) hX hL dI_L_law_202 (by omega) e1 rfl ?_
      refine px_aload_n (q := 204) dI_L_law_203 rfl rfl ?_
      refine px_iload (q := 206) dI_L_law_204 rfl rfl ?_
      refine px_iconst (q := 207) (v := nI 2) dI_L_law_206 (by decide +kernel) rfl ?_
      refine px_iaddN (q := 208) dI_L_law_207 rfl ?_
      refine px_ldX (q := 209) hX hL dI_L_law_208 (by omega) e2 rfl ?_
      refine px_callSH3 (q := 212) (hh := hh_append) (ν := tL_append) dI_L_law_209 wl_L_90 ws_L_append wb_L_append wi_L ⟨rfl, rfl⟩ (by decide +kernel) ⟨(Nat.le_of_ble_eq_true rfl), (Nat.le_of_ble_eq_true rfl)⟩ (Nat.le_of_ble_eq_true rfl) hcz rfl (h_L_append hr1 hu hs hdk (fun X1 d1 g1 => ?_))
      refine px_istore (q := 214) dI_L_law_212 (by decide) rfl rfl ?_
      refine px_aload_n (q := 215) dI_L_law_214 rfl rfl ?_
      refine px_aload_n (q := 216) dI_L_law_215 rfl rfl ?_
      refine px_iload (q := 218) dI_L_law_216 rfl rfl ?_
      refine px_iconst (q := 219) (v := nI 1) dI_L_law_218 (by decide +kernel) rfl ?_
      refine px_iaddN (q := 220) dI_L_law_219 rfl ?_
      refine px_ldX (q := 221) hX hL dI_L_law_220 (by omega) e1 rfl ?_
      refine px_aload_n (q := 222) dI_L_law_221 rfl rfl ?_
      refine px_iload (q := 224) dI_L_law_222 rfl rfl ?_
      refine px_iconst (q := 225) (v := nI 2) dI_L_law_224 (by decide +kernel) rfl ?_
      refine px_iaddN (q := 226) dI_L_law_225 rfl ?_
      refine px_ldX (q := 227) hX hL dI_L_law_226 (by omega) e2 rfl ?_
      refine px_callV2 (q := 230) (ν := mM_append) dI_L_law_227 (by decide) rfl rfl wl_L_93 wm_M_append wv_M_append wb_M_append wi_M ⟨rfl, rfl⟩ (by decide +kernel) ⟨(Nat.le_of_ble_eq_true rfl), (Nat.le_of_ble_eq_true rfl)⟩ (Nat.le_of_ble_eq_true rfl) rfl (c_M_append hr1 hu (mz_fq hm g1) (fun z => absurd hs (Nat.not_lt.mpr (by rw [B3_]; exact z))) (fun _ Y1 m1 f1 c1 => ?_))
      exact lt_append (c := 0) (by decide) c1  (kx _ _ _ d1 m1)
    · refine px_aload_n (q := 197) dI_L_law_196 rfl rfl ?_
      refine px_aload_n (q := 198) dI_L_law_197 rfl rfl ?_
      refine px_iload (q := 200) dI_L_law_198 rfl rfl ?_
      refine px_iconst (q := 201) (v := nI 1) dI_L_law_200 (by decide +kernel) rfl ?_
      refine px_iaddN (q := 202) dI_L_law_201 rfl ?_
      refine px_ldX (q := 203) hX hL dI_L_law_202 (by omega) e1 rfl ?_
      refine px_aload_n (q := 204) dI_L_law_203 rfl rfl ?_
      refine px_iload (q := 206) dI_L_law_204 rfl rfl ?_
      refine px_iconst (q := 207) (v := nI 2) dI_L_law_206 (by decide +kernel) rfl ?_
      refine px_iaddN (q := 208) dI_L_law_207 rfl ?_
      refine px_ldX (q := 209) hX hL dI_L_law_208 (by omega) e2 rfl ?_
      refine px_callSH3 (q := 212) (hh := hh_append) (ν := tL_append) dI_L_law_209 wl_L_90 ws_L_append wb_L_append wi_L ⟨rfl, rfl⟩ (by decide +kernel) ⟨(Nat.le_of_ble_eq_true rfl), (Nat.le_of_ble_eq_true rfl)⟩ (Nat.le_of_ble_eq_true rfl) hcz rfl (h_L_append_over hT hC4 hS0 hr1 (Nat.not_lt.mp hs) hdk ?_)
      refine px_istore (q := 214) dI_L_law_212 (by decide) rfl rfl ?_
      refine px_aload_n (q := 215) dI_L_law_214 rfl rfl ?_
      refine px_aload_n (q := 216) dI_L_law_215 rfl rfl ?_
      refine px_iload (q := 218) dI_L_law_216 rfl rfl ?_
      refine px_iconst (q := 219) (v := nI 1) dI_L_law_218 (by decide +kernel) rfl ?_
      refine px_iaddN (q := 220) dI_L_law_219 rfl ?_
      refine px_ldX (q := 221) hX hL dI_L_law_220 (by omega) e1 rfl ?_
      refine px_aload_n (q := 222) dI_L_law_221 rfl rfl ?_
      refine px_iload (q := 224) dI_L_law_222 rfl rfl ?_
      refine px_iconst (q := 225) (v := nI 2) dI_L_law_224 (by decide +kernel) rfl ?_
      refine px_iaddN (q := 226) dI_L_law_225 rfl ?_
      refine px_ldX (q := 227) hX hL dI_L_law_226 (by omega) e2 rfl ?_
      refine px_callV2 (q := 230) (ν := mM_append) dI_L_law_227 (by decide) rfl rfl wl_L_93 wm_M_append wv_M_append wb_M_append wi_M ⟨rfl, rfl⟩ (by decide +kernel) ⟨(Nat.le_of_ble_eq_true rfl), (Nat.le_of_ble_eq_true rfl)⟩ (Nat.le_of_ble_eq_true rfl) rfl (c_M_append hr1 hu hm (fun _ Y1 m1 f1 c1 => ?_) (fun z => absurd (by rw [B3_]; exact z) hs))
      exact lt_append (c := 2) (by decide) c1  (kx _ _ _ hdk m1)
theorem ls_add {x1 x2 x3 x4 : Int32} (hX : xX_ g L xs) (hL : L ≤ 2560) (hE : xE_ g) (hT : xT_ g) (hC4 : xC_ g) (hS0 : l.stackTraces = false) (hi : i + 4 < L) (e1 : xs (i + 1) = x1) (e2 : xs (i + 2) = x2) (e3 : xs (i + 3) = x3) (e4 : xs (i + 4) = x4) (hcz : C + 1 ≤ room_1.cells ∧ S + 6 ≤ room_1.slots) (hdk : dk_ X v) (hm : mz_ Y v) (kx : ∀ X' Y' v', dk_ X' v' → mz_ Y' v' → pw_W l g μL_ sz (C + 1, S + 6, F) 1149 [(0, .ref (ad_ g 29)), (1, .ref (ad_ g 0)), (2, .ref (ad_ g 23)), (3, .ref (ad_ g 27)), (4, .int (nI i))] [] X' Y') : pw_W l g μL_ sz (C, S, F) 244 [(0, .ref (ad_ g 29)), (1, .ref (ad_ g 0)), (2, .ref (ad_ g 23)), (3, .ref (ad_ g 27)), (4, .int (nI i))] [] X Y := by
  by_cases hb : bd_ x1 ∨ bd_ x2 ∨ bd_ x3
  · refine px_aload_n (q := 245) dI_L_law_244 rfl rfl ?_
    refine px_aload_n (q := 246) dI_L_law_245 rfl rfl ?_
    refine px_iload (q := 248) dI_L_law_246 rfl rfl ?_
    refine px_iconst (q := 249) (v := nI 1) dI_L_law_248 (by decide +kernel) rfl ?_
    refine px_iaddN (q := 250) dI_L_law_249 rfl ?_
    refine px_ldX (q := 251) hX hL dI_L_law_250 (by omega) e1 rfl ?_
    refine px_aload_n (q := 252) dI_L_law_251 rfl rfl ?_
    refine px_iload (q := 254) dI_L_law_252 rfl rfl ?_
    refine px_iconst (q := 255) (v := nI 2) dI_L_law_254 (by decide +kernel) rfl ?_
    refine px_iaddN (q := 256) dI_L_law_255 rfl ?_
    refine px_ldX (q := 257) hX hL dI_L_law_256 (by omega) e2 rfl ?_
    refine px_aload_n (q := 258) dI_L_law_257 rfl rfl ?_
    refine px_iload (q := 260) dI_L_law_258 rfl rfl ?_
    refine px_iconst (q := 261) (v := nI 3) dI_L_law_260 (by decide +kernel) rfl ?_
    refine px_iaddN (q := 262) dI_L_law_261 rfl ?_
    refine px_ldX (q := 263) hX hL dI_L_law_262 (by omega) e3 rfl ?_
    refine px_callSH4 (q := 266) (hh := hh_add) (ν := tL_add) dI_L_law_263 wl_L_94 ws_L_add wb_L_add wi_L ⟨rfl, rfl⟩ (by decide +kernel) ⟨(Nat.le_of_ble_eq_true rfl), (Nat.le_of_ble_eq_true rfl)⟩ (Nat.le_of_ble_eq_true rfl) hcz rfl (h_L_add_bad hT hC4 hS0 hb ?_)
    refine px_istore (q := 268) dI_L_law_266 (by decide) rfl rfl ?_
    refine px_aload_n (q := 269) dI_L_law_268 rfl rfl ?_
    refine px_aload_n (q := 270) dI_L_law_269 rfl rfl ?_
    refine px_iload (q := 272) dI_L_law_270 rfl rfl ?_
    refine px_iconst (q := 273) (v := nI 1) dI_L_law_272 (by decide +kernel) rfl ?_
    refine px_iaddN (q := 274) dI_L_law_273 rfl ?_
    refine px_ldX (q := 275) hX hL dI_L_law_274 (by omega) e1 rfl ?_
    refine px_aload_n (q := 276) dI_L_law_275 rfl rfl ?_
    refine px_iload (q := 278) dI_L_law_276 rfl rfl ?_
    refine px_iconst (q := 279) (v := nI 2) dI_L_law_278 (by decide +kernel) rfl ?_
    refine px_iaddN (q := 280) dI_L_law_279 rfl ?_
    refine px_ldX (q := 281) hX hL dI_L_law_280 (by omega) e2 rfl ?_
    refine px_aload_n (q := 282) dI_L_law_281 rfl rfl ?_
    refine px_iload (q := 284) dI_L_law_282 rfl rfl ?_
    refine px_iconst (q := 285) (v := nI 3) dI_L_law_284 (by decide +kernel) rfl ?_
    refine px_iaddN (q := 286) dI_L_law_285 rfl ?_
    refine px_ldX (q := 287) hX hL dI_L_law_286 (by omega) e3 rfl ?_
    refine px_callV3 (q := 290) (ν := mM_add) dI_L_law_287 (by decide) rfl rfl wl_L_97 wm_M_add wv_M_add wb_M_add wi_M ⟨rfl, rfl⟩ (by decide +kernel) ⟨(Nat.le_of_ble_eq_true rfl), (Nat.le_of_ble_eq_true rfl)⟩ (Nat.le_of_ble_eq_true rfl) rfl (c_M_add_bad hb hm (fun Y1 m1 f1 c1 => ?_))
    exact lt_add (c := 1) (by decide) c1  (kx _ _ _ hdk m1)
  · obtain ⟨r1, hr1, rfl⟩ := Decidable.not_not.mp (fun z => hb (Or.inl z))
    obtain ⟨r2, hr2, rfl⟩ := Decidable.not_not.mp (fun z => hb (Or.inr (Or.inl z)))
    obtain ⟨r3, hr3, rfl⟩ := Decidable.not_not.mp (fun z => hb (Or.inr (Or.inr z)))
    by_cases hs : v r1 + v r2 < 4294967296 ^ 4
    · refine px_aload_n (q := 245) dI_L_law_244 rfl rfl ?_
      refine px_aload_n (q := 246) dI_L_law_245 rfl rfl ?_
      refine px_iload (q := 248) dI_L_law_246 rfl rfl ?_
      refine px_iconst (q := 249) (v := nI 1) dI_L_law_248 (by decide +kernel) rfl ?_
      refine px_iaddN (q := 250) dI_L_law_249 rfl ?_
      refine px_ldX (q := 251) hX hL dI_L_law_250 (by omega) e1 rfl ?_
      refine px_aload_n (q := 252) dI_L_law_251 rfl rfl ?_
      refine px_iload (q := 254) dI_L_law_252 rfl rfl ?_
      refine px_iconst (q := 255) (v := nI 2) dI_L_law_254 (by decide +kernel) rfl ?_
      refine px_iaddN (q := 256) dI_L_law_255 rfl ?_
      refine px_ldX (q := 257) hX hL dI_L_law_256 (by omega) e2 rfl ?_
      refine px_aload_n (q := 258) dI_L_law_257 rfl rfl ?_
      refine px_iload (q := 260) dI_L_law_258 rfl rfl ?_
      refine px_iconst (q := 261) (v := nI 3) dI_L_law_260 (by decide +kernel) rfl ?_
      refine px_iaddN (q := 262) dI_L_law_261 rfl ?_
      refine px_ldX (q := 263) hX hL dI_L_law_262 (by omega) e3 rfl ?_
      refine px_callSH4 (q := 266) (hh := hh_add) (ν := tL_add) dI_L_law_263 wl_L_94 ws_L_add wb_L_add wi_L ⟨rfl, rfl⟩ (by decide +kernel) ⟨(Nat.le_of_ble_eq_true rfl), (Nat.le_of_ble_eq_true rfl)⟩ (Nat.le_of_ble_eq_true rfl) hcz rfl (h_L_add hr1 hr2 hr3 hs hdk (fun X1 d1 g1 => ?_))
      refine px_istore (q := 268) dI_L_law_266 (by decide) rfl rfl ?_
      refine px_aload_n (q := 269) dI_L_law_268 rfl rfl ?_
      refine px_aload_n (q := 270) dI_L_law_269 rfl rfl ?_
      refine px_iload (q := 272) dI_L_law_270 rfl rfl ?_
      refine px_iconst (q := 273) (v := nI 1) dI_L_law_272 (by decide +kernel) rfl ?_
      refine px_iaddN (q := 274) dI_L_law_273 rfl ?_
      refine px_ldX (q := 275) hX hL dI_L_law_274 (by omega) e1 rfl ?_
      refine px_aload_n (q := 276) dI_L_law_275 rfl rfl ?_
      refine px_iload (q := 278) dI_L_law_276 rfl rfl ?_
      refine px_iconst (q := 279) (v := nI 2) dI_L_law_278 (by decide +kernel) rfl ?_
      refine px_iaddN (q := 280) dI_L_law_279 rfl ?_
      refine px_ldX (q := 281) hX hL dI_L_law_280 (by omega) e2 rfl ?_
      refine px_aload_n (q := 282) dI_L_law_281 rfl rfl ?_
      refine px_iload (q := 284) dI_L_law_282 rfl rfl ?_
      refine px_iconst (q := 285) (v := nI 3) dI_L_law_284 (by decide +kernel) rfl ?_
      refine px_iaddN (q := 286) dI_L_law_285 rfl ?_
      refine px_ldX (q := 287) hX hL dI_L_law_286 (by omega) e3 rfl ?_
      refine px_callV3 (q := 290) (ν := mM_add) dI_L_law_287 (by decide) rfl rfl wl_L_97 wm_M_add wv_M_add wb_M_add wi_M ⟨rfl, rfl⟩ (by decide +kernel) ⟨(Nat.le_of_ble_eq_true rfl), (Nat.le_of_ble_eq_true rfl)⟩ (Nat.le_of_ble_eq_true rfl) rfl (c_M_add hr1 hr2 hr3 (mz_fq hm g1) (fun z => absurd hs (Nat.not_lt.mpr (by rw [B4_]; exact z))) (fun _ Y1 m1 f1 c1 => ?_))
      exact lt_add (c := 0) (by decide) c1  (kx _ _ _ d1 m1)
    · refine px_aload_n (q := 245) dI_L_law_244 rfl rfl ?_
      refine px_aload_n (q := 246) dI_L_law_245 rfl rfl ?_
      refine px_iload (q := 248) dI_L_law_246 rfl rfl ?_
      refine px_iconst (q := 249) (v := nI 1) dI_L_law_248 (by decide +kernel) rfl ?_
      refine px_iaddN (q := 250) dI_L_law_249 rfl ?_
      refine px_ldX (q := 251) hX hL dI_L_law_250 (by omega) e1 rfl ?_
      refine px_aload_n (q := 252) dI_L_law_251 rfl rfl ?_
      refine px_iload (q := 254) dI_L_law_252 rfl rfl ?_
      refine px_iconst (q := 255) (v := nI 2) dI_L_law_254 (by decide +kernel) rfl ?_
      refine px_iaddN (q := 256) dI_L_law_255 rfl ?_
      refine px_ldX (q := 257) hX hL dI_L_law_256 (by omega) e2 rfl ?_
      refine px_aload_n (q := 258) dI_L_law_257 rfl rfl ?_
      refine px_iload (q := 260) dI_L_law_258 rfl rfl ?_
      refine px_iconst (q := 261) (v := nI 3) dI_L_law_260 (by decide +kernel) rfl ?_
      refine px_iaddN (q := 262) dI_L_law_261 rfl ?_
      refine px_ldX (q := 263) hX hL dI_L_law_262 (by omega) e3 rfl ?_
      refine px_callSH4 (q := 266) (hh := hh_add) (ν := tL_add) dI_L_law_263 wl_L_94 ws_L_add wb_L_add wi_L ⟨rfl, rfl⟩ (by decide +kernel) ⟨(Nat.le_of_ble_eq_true rfl), (Nat.le_of_ble_eq_true rfl)⟩ (Nat.le_of_ble_eq_true rfl) hcz rfl (h_L_add_over hT hC4 hS0 hr1 hr2 hr3 (Nat.not_lt.mp hs) hdk (fun X1 d1 g1 => ?_))
      refine px_istore (q := 268) dI_L_law_266 (by decide) rfl rfl ?_
      refine px_aload_n (q := 269) dI_L_law_268 rfl rfl ?_
      refine px_aload_n (q := 270) dI_L_law_269 rfl rfl ?_
      refine px_iload (q := 272) dI_L_law_270 rfl rfl ?_
      refine px_iconst (q := 273) (v := nI 1) dI_L_law_272 (by decide +kernel) rfl ?_
      refine px_iaddN (q := 274) dI_L_law_273 rfl ?_
      refine px_ldX (q := 275) hX hL dI_L_law_274 (by omega) e1 rfl ?_
      refine px_aload_n (q := 276) dI_L_law_275 rfl rfl ?_
      refine px_iload (q := 278) dI_L_law_276 rfl rfl ?_
      refine px_iconst (q := 279) (v := nI 2) dI_L_law_278 (by decide +kernel) rfl ?_
      refine px_iaddN (q := 280) dI_L_law_279 rfl ?_
      refine px_ldX (q := 281) hX hL dI_L_law_280 (by omega) e2 rfl ?_
      refine px_aload_n (q := 282) dI_L_law_281 rfl rfl ?_
      refine px_iload (q := 284) dI_L_law_282 rfl rfl ?_
      refine px_iconst (q := 285) (v := nI 3) dI_L_law_284 (by decide +kernel) rfl ?_
      refine px_iaddN (q := 286) dI_L_law_285 rfl ?_
      refine px_ldX (q := 287) hX hL dI_L_law_286 (by omega) e3 rfl ?_
      refine px_callV3 (q := 290) (ν := mM_add) dI_L_law_287 (by decide) rfl rfl wl_L_97 wm_M_add wv_M_add wb_M_add wi_M ⟨rfl, rfl⟩ (by decide +kernel) ⟨(Nat.le_of_ble_eq_true rfl), (Nat.le_of_ble_eq_true rfl)⟩ (Nat.le_of_ble_eq_true rfl) rfl (c_M_add hr1 hr2 hr3 (mz_fq hm g1.2) (fun _ Y1 m1 f1 c1 => ?_) (fun z => absurd (by rw [B4_]; exact z) hs))
      exact lt_add (c := 2) (by decide) c1  (kx _ _ _ d1 m1)
theorem ls_multiply {x1 x2 x3 x4 : Int32} (hX : xX_ g L xs) (hL : L ≤ 2560) (hE : xE_ g) (hT : xT_ g) (hC4 : xC_ g) (hS0 : l.stackTraces = false) (hi : i + 4 < L) (e1 : xs (i + 1) = x1) (e2 : xs (i + 2) = x2) (e3 : xs (i + 3) = x3) (e4 : xs (i + 4) = x4) (hcz : C + 1 ≤ room_1.cells ∧ S + 6 ≤ room_1.slots) (hdk : dk_ X v) (hm : mz_ Y v) (kx : ∀ X' Y' v', dk_ X' v' → mz_ Y' v' → pw_W l g μL_ sz (C + 1, S + 6, F) 1149 [(0, .ref (ad_ g 29)), (1, .ref (ad_ g 0)), (2, .ref (ad_ g 23)), (3, .ref (ad_ g 27)), (4, .int (nI i))] [] X' Y') : pw_W l g μL_ sz (C, S, F) 364 [(0, .ref (ad_ g 29)), (1, .ref (ad_ g 0)), (2, .ref (ad_ g 23)), (3, .ref (ad_ g 27)), (4, .int (nI i))] [] X Y := by
  by_cases hb : bd_ x1 ∨ bd_ x2 ∨ bd_ x3
  · refine px_aload_n (q := 365) dI_L_law_364 rfl rfl ?_
    refine px_aload_n (q := 366) dI_L_law_365 rfl rfl ?_
    refine px_iload (q := 368) dI_L_law_366 rfl rfl ?_
    refine px_iconst (q := 369) (v := nI 1) dI_L_law_368 (by decide +kernel) rfl ?_
    refine px_iaddN (q := 370) dI_L_law_369 rfl ?_
    refine px_ldX (q := 371) hX hL dI_L_law_370 (by omega) e1 rfl ?_
    refine px_aload_n (q := 372) dI_L_law_371 rfl rfl ?_
    refine px_iload (q := 374) dI_L_law_372 rfl rfl ?_
    refine px_iconst (q := 375) (v := nI 2) dI_L_law_374 (by decide +kernel) rfl ?_
    refine px_iaddN (q := 376) dI_L_law_375 rfl ?_
    refine px_ldX (q := 377) hX hL dI_L_law_376 (by omega) e2 rfl ?_
    refine px_aload_n (q := 378) dI_L_law_377 rfl rfl ?_
    refine px_iload (q := 380) dI_L_law_378 rfl rfl ?_
    refine px_iconst (q := 381) (v := nI 3) dI_L_law_380 (by decide +kernel) rfl ?_
    refine px_iaddN (q := 382) dI_L_law_381 rfl ?_
    refine px_ldX (q := 383) hX hL dI_L_law_382 (by omega) e3 rfl ?_
    refine px_callSH4 (q := 386) (hh := hh_multiply) (ν := tL_multiply) dI_L_law_383 wl_L_101 ws_L_multiply wb_L_multiply wi_L ⟨rfl, rfl⟩ (by decide +kernel) ⟨(Nat.le_of_ble_eq_true rfl), (Nat.le_of_ble_eq_true rfl)⟩ (Nat.le_of_ble_eq_true rfl) hcz rfl (h_L_multiply_bad hT hC4 hS0 hb ?_)
    refine px_istore (q := 388) dI_L_law_386 (by decide) rfl rfl ?_
    refine px_aload_n (q := 389) dI_L_law_388 rfl rfl ?_
    refine px_aload_n (q := 390) dI_L_law_389 rfl rfl ?_
    refine px_iload (q := 392) dI_L_law_390 rfl rfl ?_
    refine px_iconst (q := 393) (v := nI 1) dI_L_law_392 (by decide +kernel) rfl ?_
    refine px_iaddN (q := 394) dI_L_law_393 rfl ?_
    refine px_ldX (q := 395) hX hL dI_L_law_394 (by omega) e1 rfl ?_
    refine px_aload_n (q := 396) dI_L_law_395 rfl rfl ?_
    refine px_iload (q := 398) dI_L_law_396 rfl rfl ?_
    refine px_iconst (q := 399) (v := nI 2) dI_L_law_398 (by decide +kernel) rfl ?_
    refine px_iaddN (q := 400) dI_L_law_399 rfl ?_
    refine px_ldX (q := 401) hX hL dI_L_law_400 (by omega) e2 rfl ?_
    refine px_aload_n (q := 402) dI_L_law_401 rfl rfl ?_
    refine px_iload (q := 404) dI_L_law_402 rfl rfl ?_
    refine px_iconst (q := 405) (v := nI 3) dI_L_law_404 (by decide +kernel) rfl ?_
    refine px_iaddN (q := 406) dI_L_law_405 rfl ?_
    refine px_ldX (q := 407) hX hL dI_L_law_406 (by omega) e3 rfl ?_
    refine px_callV3 (q := 410) (ν := mM_multiply) dI_L_law_407 (by decide) rfl rfl wl_L_103 wm_M_multiply wv_M_multiply wb_M_multiply wi_M ⟨rfl, rfl⟩ (by decide +kernel) ⟨(Nat.le_of_ble_eq_true rfl), (Nat.le_of_ble_eq_true rfl)⟩ (Nat.le_of_ble_eq_true rfl) rfl (c_M_multiply_bad hb hm (fun Y1 m1 f1 c1 => ?_))
    exact lt_multiply (c := 1) (by decide) c1  (kx _ _ _ hdk m1)
  · obtain ⟨r1, hr1, rfl⟩ := Decidable.not_not.mp (fun z => hb (Or.inl z))
    obtain ⟨r2, hr2, rfl⟩ := Decidable.not_not.mp (fun z => hb (Or.inr (Or.inl z)))
    obtain ⟨r3, hr3, rfl⟩ := Decidable.not_not.mp (fun z => hb (Or.inr (Or.inr z)))
    by_cases hs : v r1 * v r2 < 4294967296 ^ 4
    · refine px_aload_n (q := 365) dI_L_law_364 rfl rfl ?_
      refine px_aload_n (q := 366) dI_L_law_365 rfl rfl ?_
      refine px_iload (q := 368) dI_L_law_366 rfl rfl ?_
      refine px_iconst (q := 369) (v := nI 1) dI_L_law_368 (by decide +kernel) rfl ?_
      refine px_iaddN (q := 370) dI_L_law_369 rfl ?_
      refine px_ldX (q := 371) hX hL dI_L_law_370 (by omega) e1 rfl ?_
      refine px_aload_n (q := 372) dI_L_law_371 rfl rfl ?_
      refine px_iload (q := 374) dI_L_law_372 rfl rfl ?_
      refine px_iconst (q := 375) (v := nI 2) dI_L_law_374 (by decide +kernel) rfl ?_
      refine px_iaddN (q := 376) dI_L_law_375 rfl ?_
      refine px_ldX (q := 377) hX hL dI_L_law_376 (by omega) e2 rfl ?_
      refine px_aload_n (q := 378) dI_L_law_377 rfl rfl ?_
      refine px_iload (q := 380) dI_L_law_378 rfl rfl ?_
      refine px_iconst (q := 381) (v := nI 3) dI_L_law_380 (by decide +kernel) rfl ?_
      refine px_iaddN (q := 382) dI_L_law_381 rfl ?_
      refine px_ldX (q := 383) hX hL dI_L_law_382 (by omega) e3 rfl ?_
      refine px_callSH4 (q := 386) (hh := hh_multiply) (ν := tL_multiply) dI_L_law_383 wl_L_101 ws_L_multiply wb_L_multiply wi_L ⟨rfl, rfl⟩ (by decide +kernel) ⟨(Nat.le_of_ble_eq_true rfl), (Nat.le_of_ble_eq_true rfl)⟩ (Nat.le_of_ble_eq_true rfl) hcz rfl (h_L_multiply hr1 hr2 hr3 hs hdk (fun X1 d1 g1 => ?_))
      refine px_istore (q := 388) dI_L_law_386 (by decide) rfl rfl ?_
      refine px_aload_n (q := 389) dI_L_law_388 rfl rfl ?_
      refine px_aload_n (q := 390) dI_L_law_389 rfl rfl ?_
      refine px_iload (q := 392) dI_L_law_390 rfl rfl ?_
      refine px_iconst (q := 393) (v := nI 1) dI_L_law_392 (by decide +kernel) rfl ?_
      refine px_iaddN (q := 394) dI_L_law_393 rfl ?_
      refine px_ldX (q := 395) hX hL dI_L_law_394 (by omega) e1 rfl ?_
      refine px_aload_n (q := 396) dI_L_law_395 rfl rfl ?_
      refine px_iload (q := 398) dI_L_law_396 rfl rfl ?_
      refine px_iconst (q := 399) (v := nI 2) dI_L_law_398 (by decide +kernel) rfl ?_
      refine px_iaddN (q := 400) dI_L_law_399 rfl ?_
      refine px_ldX (q := 401) hX hL dI_L_law_400 (by omega) e2 rfl ?_
      refine px_aload_n (q := 402) dI_L_law_401 rfl rfl ?_
      refine px_iload (q := 404) dI_L_law_402 rfl rfl ?_
      refine px_iconst (q := 405) (v := nI 3) dI_L_law_404 (by decide +kernel) rfl ?_
      refine px_iaddN (q := 406) dI_L_law_405 rfl ?_
      refine px_ldX (q := 407) hX hL dI_L_law_406 (by omega) e3 rfl ?_
      refine px_callV3 (q := 410) (ν := mM_multiply) dI_L_law_407 (by decide) rfl rfl wl_L_103 wm_M_multiply wv_M_multiply wb_M_multiply wi_M ⟨rfl, rfl⟩ (by decide +kernel) ⟨(Nat.le_of_ble_eq_true rfl), (Nat.le_of_ble_eq_true rfl)⟩ (Nat.le_of_ble_eq_true rfl) rfl (c_M_multiply hr1 hr2 hr3 (mz_fq hm g1) (fun z => absurd hs (Nat.not_lt.mpr (by rw [B4_]; exact z))) (fun _ Y1 m1 f1 c1 => ?_))
      exact lt_multiply (c := 0) (by decide) c1  (kx _ _ _ d1 m1)
    · refine px_aload_n (q := 365) dI_L_law_364 rfl rfl ?_
      refine px_aload_n (q := 366) dI_L_law_365 rfl rfl ?_
      refine px_iload (q := 368) dI_L_law_366 rfl rfl ?_
      refine px_iconst (q := 369) (v := nI 1) dI_L_law_368 (by decide +kernel) rfl ?_
      refine px_iaddN (q := 370) dI_L_law_369 rfl ?_
      refine px_ldX (q := 371) hX hL dI_L_law_370 (by omega) e1 rfl ?_
      refine px_aload_n (q := 372) dI_L_law_371 rfl rfl ?_
      refine px_iload (q := 374) dI_L_law_372 rfl rfl ?_
      refine px_iconst (q := 375) (v := nI 2) dI_L_law_374 (by decide +kernel) rfl ?_
      refine px_iaddN (q := 376) dI_L_law_375 rfl ?_
      refine px_ldX (q := 377) hX hL dI_L_law_376 (by omega) e2 rfl ?_
      refine px_aload_n (q := 378) dI_L_law_377 rfl rfl ?_
      refine px_iload (q := 380) dI_L_law_378 rfl rfl ?_
      refine px_iconst (q := 381) (v := nI 3) dI_L_law_380 (by decide +kernel) rfl ?_
      refine px_iaddN (q := 382) dI_L_law_381 rfl ?_
      refine px_ldX (q := 383) hX hL dI_L_law_382 (by omega) e3 rfl ?_
      refine px_callSH4 (q := 386) (hh := hh_multiply) (ν := tL_multiply) dI_L_law_383 wl_L_101 ws_L_multiply wb_L_multiply wi_L ⟨rfl, rfl⟩ (by decide +kernel) ⟨(Nat.le_of_ble_eq_true rfl), (Nat.le_of_ble_eq_true rfl)⟩ (Nat.le_of_ble_eq_true rfl) hcz rfl (h_L_multiply_over hT hC4 hS0 hr1 hr2 hr3 (Nat.not_lt.mp hs) hdk (fun X1 d1 g1 => ?_))
      refine px_istore (q := 388) dI_L_law_386 (by decide) rfl rfl ?_
      refine px_aload_n (q := 389) dI_L_law_388 rfl rfl ?_
      refine px_aload_n (q := 390) dI_L_law_389 rfl rfl ?_
      refine px_iload (q := 392) dI_L_law_390 rfl rfl ?_
      refine px_iconst (q := 393) (v := nI 1) dI_L_law_392 (by decide +kernel) rfl ?_
      refine px_iaddN (q := 394) dI_L_law_393 rfl ?_
      refine px_ldX (q := 395) hX hL dI_L_law_394 (by omega) e1 rfl ?_
      refine px_aload_n (q := 396) dI_L_law_395 rfl rfl ?_
      refine px_iload (q := 398) dI_L_law_396 rfl rfl ?_
      refine px_iconst (q := 399) (v := nI 2) dI_L_law_398 (by decide +kernel) rfl ?_
      refine px_iaddN (q := 400) dI_L_law_399 rfl ?_
      refine px_ldX (q := 401) hX hL dI_L_law_400 (by omega) e2 rfl ?_
      refine px_aload_n (q := 402) dI_L_law_401 rfl rfl ?_
      refine px_iload (q := 404) dI_L_law_402 rfl rfl ?_
      refine px_iconst (q := 405) (v := nI 3) dI_L_law_404 (by decide +kernel) rfl ?_
      refine px_iaddN (q := 406) dI_L_law_405 rfl ?_
      refine px_ldX (q := 407) hX hL dI_L_law_406 (by omega) e3 rfl ?_
      refine px_callV3 (q := 410) (ν := mM_multiply) dI_L_law_407 (by decide) rfl rfl wl_L_103 wm_M_multiply wv_M_multiply wb_M_multiply wi_M ⟨rfl, rfl⟩ (by decide +kernel) ⟨(Nat.le_of_ble_eq_true rfl), (Nat.le_of_ble_eq_true rfl)⟩ (Nat.le_of_ble_eq_true rfl) rfl (c_M_multiply hr1 hr2 hr3 (mz_fq hm g1.2) (fun _ Y1 m1 f1 c1 => ?_) (fun z => absurd (by rw [B4_]; exact z) hs))
      exact lt_multiply (c := 2) (by decide) c1  (kx _ _ _ d1 m1)
theorem ls_subtract {x1 x2 x3 x4 : Int32} (hX : xX_ g L xs) (hL : L ≤ 2560) (hE : xE_ g) (hT : xT_ g) (hC4 : xC_ g) (hS0 : l.stackTraces = false) (hi : i + 4 < L) (e1 : xs (i + 1) = x1) (e2 : xs (i + 2) = x2) (e3 : xs (i + 3) = x3) (e4 : xs (i + 4) = x4) (hcz : C + 1 ≤ room_1.cells ∧ S + 6 ≤ room_1.slots) (hdk : dk_ X v) (hm : mz_ Y v) (kx : ∀ X' Y' v', dk_ X' v' → mz_ Y' v' → pw_W l g μL_ sz (C + 1, S + 6, F) 1149 [(0, .ref (ad_ g 29)), (1, .ref (ad_ g 0)), (2, .ref (ad_ g 23)), (3, .ref (ad_ g 27)), (4, .int (nI i))] [] X' Y') : pw_W l g μL_ sz (C, S, F) 304 [(0, .ref (ad_ g 29)), (1, .ref (ad_ g 0)), (2, .ref (ad_ g 23)), (3, .ref (ad_ g 27)), (4, .int (nI i))] [] X Y := by
  by_cases hb : bd_ x1 ∨ bd_ x2 ∨ bd_ x3
  · refine px_aload_n (q := 305) dI_L_law_304 rfl rfl ?_
    refine px_aload_n (q := 306) dI_L_law_305 rfl rfl ?_
    refine px_iload (q := 308) dI_L_law_306 rfl rfl ?_
    refine px_iconst (q := 309) (v := nI 1) dI_L_law_308 (by decide +kernel) rfl ?_
    refine px_iaddN (q := 310) dI_L_law_309 rfl ?_
    refine px_ldX (q := 311) hX hL dI_L_law_310 (by omega) e1 rfl ?_
    refine px_aload_n (q := 312) dI_L_law_311 rfl rfl ?_
    refine px_iload (q := 314) dI_L_law_312 rfl rfl ?_
    refine px_iconst (q := 315) (v := nI 2) dI_L_law_314 (by decide +kernel) rfl ?_
    refine px_iaddN (q := 316) dI_L_law_315 rfl ?_
    refine px_ldX (q := 317) hX hL dI_L_law_316 (by omega) e2 rfl ?_
    refine px_aload_n (q := 318) dI_L_law_317 rfl rfl ?_
    refine px_iload (q := 320) dI_L_law_318 rfl rfl ?_
    refine px_iconst (q := 321) (v := nI 3) dI_L_law_320 (by decide +kernel) rfl ?_
    refine px_iaddN (q := 322) dI_L_law_321 rfl ?_
    refine px_ldX (q := 323) hX hL dI_L_law_322 (by omega) e3 rfl ?_
    refine px_callSH4 (q := 326) (hh := hh_subtract) (ν := tL_subtract) dI_L_law_323 wl_L_98 ws_L_subtract wb_L_subtract wi_L ⟨rfl, rfl⟩ (by decide +kernel) ⟨(Nat.le_of_ble_eq_true rfl), (Nat.le_of_ble_eq_true rfl)⟩ (Nat.le_of_ble_eq_true rfl) hcz rfl (h_L_subtract_bad hT hC4 hS0 hb ?_)
    refine px_istore (q := 328) dI_L_law_326 (by decide) rfl rfl ?_
    refine px_aload_n (q := 329) dI_L_law_328 rfl rfl ?_
    refine px_aload_n (q := 330) dI_L_law_329 rfl rfl ?_
    refine px_iload (q := 332) dI_L_law_330 rfl rfl ?_
    refine px_iconst (q := 333) (v := nI 1) dI_L_law_332 (by decide +kernel) rfl ?_
    refine px_iaddN (q := 334) dI_L_law_333 rfl ?_
    refine px_ldX (q := 335) hX hL dI_L_law_334 (by omega) e1 rfl ?_
    refine px_aload_n (q := 336) dI_L_law_335 rfl rfl ?_
    refine px_iload (q := 338) dI_L_law_336 rfl rfl ?_
    refine px_iconst (q := 339) (v := nI 2) dI_L_law_338 (by decide +kernel) rfl ?_
    refine px_iaddN (q := 340) dI_L_law_339 rfl ?_
    refine px_ldX (q := 341) hX hL dI_L_law_340 (by omega) e2 rfl ?_
    refine px_aload_n (q := 342) dI_L_law_341 rfl rfl ?_
    refine px_iload (q := 344) dI_L_law_342 rfl rfl ?_
    refine px_iconst (q := 345) (v := nI 3) dI_L_law_344 (by decide +kernel) rfl ?_
    refine px_iaddN (q := 346) dI_L_law_345 rfl ?_
    refine px_ldX (q := 347) hX hL dI_L_law_346 (by omega) e3 rfl ?_
    refine px_callV3 (q := 350) (ν := mM_subtract) dI_L_law_347 (by decide) rfl rfl wl_L_100 wm_M_subtract wv_M_subtract wb_M_subtract wi_M ⟨rfl, rfl⟩ (by decide +kernel) ⟨(Nat.le_of_ble_eq_true rfl), (Nat.le_of_ble_eq_true rfl)⟩ (Nat.le_of_ble_eq_true rfl) rfl (c_M_subtract_bad hb hm (fun Y1 m1 f1 c1 => ?_))
    exact lt_subtract (c := 1) (by decide) c1  (kx _ _ _ hdk m1)
  · obtain ⟨r1, hr1, rfl⟩ := Decidable.not_not.mp (fun z => hb (Or.inl z))
    obtain ⟨r2, hr2, rfl⟩ := Decidable.not_not.mp (fun z => hb (Or.inr (Or.inl z)))
    obtain ⟨r3, hr3, rfl⟩ := Decidable.not_not.mp (fun z => hb (Or.inr (Or.inr z)))
    by_cases hs : v r2 ≤ v r1
    · refine px_aload_n (q := 305) dI_L_law_304 rfl rfl ?_
      refine px_aload_n (q := 306) dI_L_law_305 rfl rfl ?_
      refine px_iload (q := 308) dI_L_law_306 rfl rfl ?_
      refine px_iconst (q := 309) (v := nI 1) dI_L_law_308 (by decide +kernel) rfl ?_
      refine px_iaddN (q := 310) dI_L_law_309 rfl ?_
      refine px_ldX (q := 311) hX hL dI_L_law_310 (by omega) e1 rfl ?_
      refine px_aload_n (q := 312) dI_L_law_311 rfl rfl ?_
      refine px_iload (q := 314) dI_L_law_312 rfl rfl ?_
      refine px_iconst (q := 315) (v := nI 2) dI_L_law_314 (by decide +kernel) rfl ?_
      refine px_iaddN (q := 316) dI_L_law_315 rfl ?_
      refine px_ldX (q := 317) hX hL dI_L_law_316 (by omega) e2 rfl ?_
      refine px_aload_n (q := 318) dI_L_law_317 rfl rfl ?_
      refine px_iload (q := 320) dI_L_law_318 rfl rfl ?_
      refine px_iconst (q := 321) (v := nI 3) dI_L_law_320 (by decide +kernel) rfl ?_
      refine px_iaddN (q := 322) dI_L_law_321 rfl ?_
      refine px_ldX (q := 323) hX hL dI_L_law_322 (by omega) e3 rfl ?_
      refine px_callSH4 (q := 326) (hh := hh_subtract) (ν := tL_subtract) dI_L_law_323 wl_L_98 ws_L_subtract wb_L_subtract wi_L ⟨rfl, rfl⟩ (by decide +kernel) ⟨(Nat.le_of_ble_eq_true rfl), (Nat.le_of_ble_eq_true rfl)⟩ (Nat.le_of_ble_eq_true rfl) hcz rfl (h_L_subtract hr1 hr2 hr3 hs hdk (fun X1 d1 g1 => ?_))
      refine px_istore (q := 328) dI_L_law_326 (by decide) rfl rfl ?_
      refine px_aload_n (q := 329) dI_L_law_328 rfl rfl ?_
      refine px_aload_n (q := 330) dI_L_law_329 rfl rfl ?_
      refine px_iload (q := 332) dI_L_law_330 rfl rfl ?_
      refine px_iconst (q := 333) (v := nI 1) dI_L_law_332 (by decide +kernel) rfl ?_
      refine px_iaddN (q := 334) dI_L_law_333 rfl ?_
      refine px_ldX (q := 335) hX hL dI_L_law_334 (by omega) e1 rfl ?_
      refine px_aload_n (q := 336) dI_L_law_335 rfl rfl ?_
      refine px_iload (q := 338) dI_L_law_336 rfl rfl ?_
      refine px_iconst (q := 339) (v := nI 2) dI_L_law_338 (by decide +kernel) rfl ?_
      refine px_iaddN (q := 340) dI_L_law_339 rfl ?_
      refine px_ldX (q := 341) hX hL dI_L_law_340 (by omega) e2 rfl ?_
      refine px_aload_n (q := 342) dI_L_law_341 rfl rfl ?_
      refine px_iload (q := 344) dI_L_law_342 rfl rfl ?_
      refine px_iconst (q := 345) (v := nI 3) dI_L_law_344 (by decide +kernel) rfl ?_
      refine px_iaddN (q := 346) dI_L_law_345 rfl ?_
      refine px_ldX (q := 347) hX hL dI_L_law_346 (by omega) e3 rfl ?_
      refine px_callV3 (q := 350) (ν := mM_subtract) dI_L_law_347 (by decide) rfl rfl wl_L_100 wm_M_subtract wv_M_subtract wb_M_subtract wi_M ⟨rfl, rfl⟩ (by decide +kernel) ⟨(Nat.le_of_ble_eq_true rfl), (Nat.le_of_ble_eq_true rfl)⟩ (Nat.le_of_ble_eq_true rfl) rfl (c_M_subtract hr1 hr2 hr3 (mz_fq hm g1) (fun z => absurd hs (Nat.not_le.mpr z)) (fun _ Y1 m1 f1 c1 => ?_))
      exact lt_subtract (c := 0) (by decide) c1  (kx _ _ _ d1 m1)
    · refine px_aload_n (q := 305) dI_L_law_304 rfl rfl ?_
      refine px_aload_n (q := 306) dI_L_law_305 rfl rfl ?_
      refine px_iload (q := 308) dI_L_law_306 rfl rfl ?_
      refine px_iconst (q := 309) (v := nI 1) dI_L_law_308 (by decide +kernel) rfl ?_
      refine px_iaddN (q := 310) dI_L_law_309 rfl ?_
      refine px_ldX (q := 311) hX hL dI_L_law_310 (by omega) e1 rfl ?_
      refine px_aload_n (q := 312) dI_L_law_311 rfl rfl ?_
      refine px_iload (q := 314) dI_L_law_312 rfl rfl ?_
      refine px_iconst (q := 315) (v := nI 2) dI_L_law_314 (by decide +kernel) rfl ?_
      refine px_iaddN (q := 316) dI_L_law_315 rfl ?_
      refine px_ldX (q := 317) hX hL dI_L_law_316 (by omega) e2 rfl ?_
      refine px_aload_n (q := 318) dI_L_law_317 rfl rfl ?_
      refine px_iload (q := 320) dI_L_law_318 rfl rfl ?_
      refine px_iconst (q := 321) (v := nI 3) dI_L_law_320 (by decide +kernel) rfl ?_
      refine px_iaddN (q := 322) dI_L_law_321 rfl ?_
      refine px_ldX (q := 323) hX hL dI_L_law_322 (by omega) e3 rfl ?_
      refine px_callSH4 (q := 326) (hh := hh_subtract) (ν := tL_subtract) dI_L_law_323 wl_L_98 ws_L_subtract wb_L_subtract wi_L ⟨rfl, rfl⟩ (by decide +kernel) ⟨(Nat.le_of_ble_eq_true rfl), (Nat.le_of_ble_eq_true rfl)⟩ (Nat.le_of_ble_eq_true rfl) hcz rfl (h_L_subtract_under hT hC4 hS0 hr1 hr2 hr3 (Nat.not_le.mp hs) hdk (fun X1 d1 g1 => ?_))
      refine px_istore (q := 328) dI_L_law_326 (by decide) rfl rfl ?_
      refine px_aload_n (q := 329) dI_L_law_328 rfl rfl ?_
      refine px_aload_n (q := 330) dI_L_law_329 rfl rfl ?_
      refine px_iload (q := 332) dI_L_law_330 rfl rfl ?_
      refine px_iconst (q := 333) (v := nI 1) dI_L_law_332 (by decide +kernel) rfl ?_
      refine px_iaddN (q := 334) dI_L_law_333 rfl ?_
      refine px_ldX (q := 335) hX hL dI_L_law_334 (by omega) e1 rfl ?_
      refine px_aload_n (q := 336) dI_L_law_335 rfl rfl ?_
      refine px_iload (q := 338) dI_L_law_336 rfl rfl ?_
      refine px_iconst (q := 339) (v := nI 2) dI_L_law_338 (by decide +kernel) rfl ?_
      refine px_iaddN (q := 340) dI_L_law_339 rfl ?_
      refine px_ldX (q := 341) hX hL dI_L_law_340 (by omega) e2 rfl ?_
      refine px_aload_n (q := 342) dI_L_law_341 rfl rfl ?_
      refine px_iload (q := 344) dI_L_law_342 rfl rfl ?_
      refine px_iconst (q := 345) (v := nI 3) dI_L_law_344 (by decide +kernel) rfl ?_
      refine px_iaddN (q := 346) dI_L_law_345 rfl ?_
      refine px_ldX (q := 347) hX hL dI_L_law_346 (by omega) e3 rfl ?_
      refine px_callV3 (q := 350) (ν := mM_subtract) dI_L_law_347 (by decide) rfl rfl wl_L_100 wm_M_subtract wv_M_subtract wb_M_subtract wi_M ⟨rfl, rfl⟩ (by decide +kernel) ⟨(Nat.le_of_ble_eq_true rfl), (Nat.le_of_ble_eq_true rfl)⟩ (Nat.le_of_ble_eq_true rfl) rfl (c_M_subtract hr1 hr2 hr3 (mz_fq hm g1.2) (fun _ Y1 m1 f1 c1 => ?_) (fun z => absurd z hs))
      exact lt_subtract (c := 2) (by decide) c1  (kx _ _ _ d1 m1)
theorem ls_gcd {x1 x2 x3 x4 : Int32} (hX : xX_ g L xs) (hL : L ≤ 2560) (hE : xE_ g) (hT : xT_ g) (hC4 : xC_ g) (hS0 : l.stackTraces = false) (hi : i + 4 < L) (e1 : xs (i + 1) = x1) (e2 : xs (i + 2) = x2) (e3 : xs (i + 3) = x3) (e4 : xs (i + 4) = x4) (hcz : C + 1 ≤ room_1.cells ∧ S + 6 ≤ room_1.slots) (hdk : dk_ X v) (hm : mz_ Y v) (kx : ∀ X' Y' v', dk_ X' v' → mz_ Y' v' → pw_W l g μL_ sz (C + 1, S + 6, F) 1149 [(0, .ref (ad_ g 29)), (1, .ref (ad_ g 0)), (2, .ref (ad_ g 23)), (3, .ref (ad_ g 27)), (4, .int (nI i))] [] X' Y') : pw_W l g μL_ sz (C, S, F) 568 [(0, .ref (ad_ g 29)), (1, .ref (ad_ g 0)), (2, .ref (ad_ g 23)), (3, .ref (ad_ g 27)), (4, .int (nI i))] [] X Y := by
  by_cases hb : bd_ x1 ∨ bd_ x2 ∨ bd_ x3
  · refine px_aload_n (q := 569) dI_L_law_568 rfl rfl ?_
    refine px_aload_n (q := 570) dI_L_law_569 rfl rfl ?_
    refine px_iload (q := 572) dI_L_law_570 rfl rfl ?_
    refine px_iconst (q := 573) (v := nI 1) dI_L_law_572 (by decide +kernel) rfl ?_
    refine px_iaddN (q := 574) dI_L_law_573 rfl ?_
    refine px_ldX (q := 575) hX hL dI_L_law_574 (by omega) e1 rfl ?_
    refine px_aload_n (q := 576) dI_L_law_575 rfl rfl ?_
    refine px_iload (q := 578) dI_L_law_576 rfl rfl ?_
    refine px_iconst (q := 579) (v := nI 2) dI_L_law_578 (by decide +kernel) rfl ?_
    refine px_iaddN (q := 580) dI_L_law_579 rfl ?_
    refine px_ldX (q := 581) hX hL dI_L_law_580 (by omega) e2 rfl ?_
    refine px_aload_n (q := 582) dI_L_law_581 rfl rfl ?_
    refine px_iload (q := 584) dI_L_law_582 rfl rfl ?_
    refine px_iconst (q := 585) (v := nI 3) dI_L_law_584 (by decide +kernel) rfl ?_
    refine px_iaddN (q := 586) dI_L_law_585 rfl ?_
    refine px_ldX (q := 587) hX hL dI_L_law_586 (by omega) e3 rfl ?_
    refine px_callSH4 (q := 590) (hh := hh_gcd) (ν := tL_gcd) dI_L_law_587 wl_L_111 ws_L_gcd wb_L_gcd wi_L ⟨rfl, rfl⟩ (by decide +kernel) ⟨(Nat.le_of_ble_eq_true rfl), (Nat.le_of_ble_eq_true rfl)⟩ (Nat.le_of_ble_eq_true rfl) hcz rfl (h_L_gcd_bad hT hC4 hS0 hb ?_)
    refine px_istore (q := 592) dI_L_law_590 (by decide) rfl rfl ?_
    refine px_aload_n (q := 593) dI_L_law_592 rfl rfl ?_
    refine px_aload_n (q := 594) dI_L_law_593 rfl rfl ?_
    refine px_iload (q := 596) dI_L_law_594 rfl rfl ?_
    refine px_iconst (q := 597) (v := nI 1) dI_L_law_596 (by decide +kernel) rfl ?_
    refine px_iaddN (q := 598) dI_L_law_597 rfl ?_
    refine px_ldX (q := 599) hX hL dI_L_law_598 (by omega) e1 rfl ?_
    refine px_aload_n (q := 600) dI_L_law_599 rfl rfl ?_
    refine px_iload (q := 602) dI_L_law_600 rfl rfl ?_
    refine px_iconst (q := 603) (v := nI 2) dI_L_law_602 (by decide +kernel) rfl ?_
    refine px_iaddN (q := 604) dI_L_law_603 rfl ?_
    refine px_ldX (q := 605) hX hL dI_L_law_604 (by omega) e2 rfl ?_
    refine px_aload_n (q := 606) dI_L_law_605 rfl rfl ?_
    refine px_iload (q := 608) dI_L_law_606 rfl rfl ?_
    refine px_iconst (q := 609) (v := nI 3) dI_L_law_608 (by decide +kernel) rfl ?_
    refine px_iaddN (q := 610) dI_L_law_609 rfl ?_
    refine px_ldX (q := 611) hX hL dI_L_law_610 (by omega) e3 rfl ?_
    refine px_callV3 (q := 614) (ν := mM_gcd) dI_L_law_611 (by decide) rfl rfl wl_L_113 wm_M_gcd wv_M_gcd wb_M_gcd wi_M ⟨rfl, rfl⟩ (by decide +kernel) ⟨(Nat.le_of_ble_eq_true rfl), (Nat.le_of_ble_eq_true rfl)⟩ (Nat.le_of_ble_eq_true rfl) rfl (c_M_gcd_bad hb hm (fun Y1 m1 f1 c1 => ?_))
    exact lt_gcd (c := 1) (by decide) c1  (kx _ _ _ hdk m1)
  · obtain ⟨r1, hr1, rfl⟩ := Decidable.not_not.mp (fun z => hb (Or.inl z))
    obtain ⟨r2, hr2, rfl⟩ := Decidable.not_not.mp (fun z => hb (Or.inr (Or.inl z)))
    obtain ⟨r3, hr3, rfl⟩ := Decidable.not_not.mp (fun z => hb (Or.inr (Or.inr z)))
    refine px_aload_n (q := 569) dI_L_law_568 rfl rfl ?_
    refine px_aload_n (q := 570) dI_L_law_569 rfl rfl ?_
    refine px_iload (q := 572) dI_L_law_570 rfl rfl ?_
    refine px_iconst (q := 573) (v := nI 1) dI_L_law_572 (by decide +kernel) rfl ?_
    refine px_iaddN (q := 574) dI_L_law_573 rfl ?_
    refine px_ldX (q := 575) hX hL dI_L_law_574 (by omega) e1 rfl ?_
    refine px_aload_n (q := 576) dI_L_law_575 rfl rfl ?_
    refine px_iload (q := 578) dI_L_law_576 rfl rfl ?_
    refine px_iconst (q := 579) (v := nI 2) dI_L_law_578 (by decide +kernel) rfl ?_
    refine px_iaddN (q := 580) dI_L_law_579 rfl ?_
    refine px_ldX (q := 581) hX hL dI_L_law_580 (by omega) e2 rfl ?_
    refine px_aload_n (q := 582) dI_L_law_581 rfl rfl ?_
    refine px_iload (q := 584) dI_L_law_582 rfl rfl ?_
    refine px_iconst (q := 585) (v := nI 3) dI_L_law_584 (by decide +kernel) rfl ?_
    refine px_iaddN (q := 586) dI_L_law_585 rfl ?_
    refine px_ldX (q := 587) hX hL dI_L_law_586 (by omega) e3 rfl ?_
    refine px_callSH4 (q := 590) (hh := hh_gcd) (ν := tL_gcd) dI_L_law_587 wl_L_111 ws_L_gcd wb_L_gcd wi_L ⟨rfl, rfl⟩ (by decide +kernel) ⟨(Nat.le_of_ble_eq_true rfl), (Nat.le_of_ble_eq_true rfl)⟩ (Nat.le_of_ble_eq_true rfl) hcz rfl (h_L_gcd hr1 hr2 hr3 hdk (fun X1 Y0 d1 g1 => ?_))
    refine px_istore (q := 592) dI_L_law_590 (by decide) rfl rfl ?_
    refine px_aload_n (q := 593) dI_L_law_592 rfl rfl ?_
    refine px_aload_n (q := 594) dI_L_law_593 rfl rfl ?_
    refine px_iload (q := 596) dI_L_law_594 rfl rfl ?_
    refine px_iconst (q := 597) (v := nI 1) dI_L_law_596 (by decide +kernel) rfl ?_
    refine px_iaddN (q := 598) dI_L_law_597 rfl ?_
    refine px_ldX (q := 599) hX hL dI_L_law_598 (by omega) e1 rfl ?_
    refine px_aload_n (q := 600) dI_L_law_599 rfl rfl ?_
    refine px_iload (q := 602) dI_L_law_600 rfl rfl ?_
    refine px_iconst (q := 603) (v := nI 2) dI_L_law_602 (by decide +kernel) rfl ?_
    refine px_iaddN (q := 604) dI_L_law_603 rfl ?_
    refine px_ldX (q := 605) hX hL dI_L_law_604 (by omega) e2 rfl ?_
    refine px_aload_n (q := 606) dI_L_law_605 rfl rfl ?_
    refine px_iload (q := 608) dI_L_law_606 rfl rfl ?_
    refine px_iconst (q := 609) (v := nI 3) dI_L_law_608 (by decide +kernel) rfl ?_
    refine px_iaddN (q := 610) dI_L_law_609 rfl ?_
    refine px_ldX (q := 611) hX hL dI_L_law_610 (by omega) e3 rfl ?_
    refine px_callV3 (q := 614) (ν := mM_gcd) dI_L_law_611 (by decide) rfl rfl wl_L_113 wm_M_gcd wv_M_gcd wb_M_gcd wi_M ⟨rfl, rfl⟩ (by decide +kernel) ⟨(Nat.le_of_ble_eq_true rfl), (Nat.le_of_ble_eq_true rfl)⟩ (Nat.le_of_ble_eq_true rfl) rfl (c_M_gcd hr1 hr2 hr3 (mz_fq hm g1) (fun Y1 m1 f1 c1 => ?_))
    exact lt_gcd (c := 0) (by decide) c1  (kx _ _ _ d1 m1)
theorem ls_divide {x1 x2 x3 x4 : Int32} (hX : xX_ g L xs) (hL : L ≤ 2560) (hE : xE_ g) (hT : xT_ g) (hC4 : xC_ g) (hS0 : l.stackTraces = false) (hi : i + 4 < L) (e1 : xs (i + 1) = x1) (e2 : xs (i + 2) = x2) (e3 : xs (i + 3) = x3) (e4 : xs (i + 4) = x4) (hcz : C + 1 ≤ room_1.cells ∧ S + 6 ≤ room_1.slots) (hdk : dk_ X v) (hm : mz_ Y v) (kx : ∀ X' Y' v', dk_ X' v' → mz_ Y' v' → pw_W l g μL_ sz (C + 1, S + 6, F) 1149 [(0, .ref (ad_ g 29)), (1, .ref (ad_ g 0)), (2, .ref (ad_ g 23)), (3, .ref (ad_ g 27)), (4, .int (nI i))] [] X' Y') : pw_W l g μL_ sz (C, S, F) 424 [(0, .ref (ad_ g 29)), (1, .ref (ad_ g 0)), (2, .ref (ad_ g 23)), (3, .ref (ad_ g 27)), (4, .int (nI i))] [] X Y := by
  by_cases hb : bd_ x1 ∨ bd_ x2 ∨ bd_ x3 ∨ bd_ x4
  · refine px_aload_n (q := 425) dI_L_law_424 rfl rfl ?_
    refine px_aload_n (q := 426) dI_L_law_425 rfl rfl ?_
    refine px_iload (q := 428) dI_L_law_426 rfl rfl ?_
    refine px_iconst (q := 429) (v := nI 1) dI_L_law_428 (by decide +kernel) rfl ?_
    refine px_iaddN (q := 430) dI_L_law_429 rfl ?_
    refine px_ldX (q := 431) hX hL dI_L_law_430 (by omega) e1 rfl ?_
    refine px_aload_n (q := 432) dI_L_law_431 rfl rfl ?_
    refine px_iload (q := 434) dI_L_law_432 rfl rfl ?_
    refine px_iconst (q := 435) (v := nI 2) dI_L_law_434 (by decide +kernel) rfl ?_
    refine px_iaddN (q := 436) dI_L_law_435 rfl ?_
    refine px_ldX (q := 437) hX hL dI_L_law_436 (by omega) e2 rfl ?_
    refine px_aload_n (q := 438) dI_L_law_437 rfl rfl ?_
    refine px_iload (q := 440) dI_L_law_438 rfl rfl ?_
    refine px_iconst (q := 441) (v := nI 3) dI_L_law_440 (by decide +kernel) rfl ?_
    refine px_iaddN (q := 442) dI_L_law_441 rfl ?_
    refine px_ldX (q := 443) hX hL dI_L_law_442 (by omega) e3 rfl ?_
    refine px_aload_n (q := 444) dI_L_law_443 rfl rfl ?_
    refine px_iload (q := 446) dI_L_law_444 rfl rfl ?_
    refine px_iconst (q := 447) (v := nI 4) dI_L_law_446 (by decide +kernel) rfl ?_
    refine px_iaddN (q := 448) dI_L_law_447 rfl ?_
    refine px_ldX (q := 449) hX hL dI_L_law_448 (by omega) e4 rfl ?_
    refine px_callSH5 (q := 452) (hh := hh_divide) (ν := tL_divide) dI_L_law_449 wl_L_104 ws_L_divide wb_L_divide wi_L ⟨rfl, rfl⟩ (by decide +kernel) ⟨(Nat.le_of_ble_eq_true rfl), (Nat.le_of_ble_eq_true rfl)⟩ (Nat.le_of_ble_eq_true rfl) hcz rfl (h_L_divide_bad hT hC4 hS0 hb ?_)
    refine px_istore (q := 454) dI_L_law_452 (by decide) rfl rfl ?_
    refine px_aload_n (q := 455) dI_L_law_454 rfl rfl ?_
    refine px_aload_n (q := 456) dI_L_law_455 rfl rfl ?_
    refine px_iload (q := 458) dI_L_law_456 rfl rfl ?_
    refine px_iconst (q := 459) (v := nI 1) dI_L_law_458 (by decide +kernel) rfl ?_
    refine px_iaddN (q := 460) dI_L_law_459 rfl ?_
    refine px_ldX (q := 461) hX hL dI_L_law_460 (by omega) e1 rfl ?_
    refine px_aload_n (q := 462) dI_L_law_461 rfl rfl ?_
    refine px_iload (q := 464) dI_L_law_462 rfl rfl ?_
    refine px_iconst (q := 465) (v := nI 2) dI_L_law_464 (by decide +kernel) rfl ?_
    refine px_iaddN (q := 466) dI_L_law_465 rfl ?_
    refine px_ldX (q := 467) hX hL dI_L_law_466 (by omega) e2 rfl ?_
    refine px_aload_n (q := 468) dI_L_law_467 rfl rfl ?_
    refine px_iload (q := 470) dI_L_law_468 rfl rfl ?_
    refine px_iconst (q := 471) (v := nI 3) dI_L_law_470 (by decide +kernel) rfl ?_
    refine px_iaddN (q := 472) dI_L_law_471 rfl ?_
    refine px_ldX (q := 473) hX hL dI_L_law_472 (by omega) e3 rfl ?_
    refine px_aload_n (q := 474) dI_L_law_473 rfl rfl ?_
    refine px_iload (q := 476) dI_L_law_474 rfl rfl ?_
    refine px_iconst (q := 477) (v := nI 4) dI_L_law_476 (by decide +kernel) rfl ?_
    refine px_iaddN (q := 478) dI_L_law_477 rfl ?_
    refine px_ldX (q := 479) hX hL dI_L_law_478 (by omega) e4 rfl ?_
    refine px_callV4 (q := 482) (ν := mM_divide) dI_L_law_479 (by decide) rfl rfl wl_L_107 wm_M_divide wv_M_divide wb_M_divide wi_M ⟨rfl, rfl⟩ (by decide +kernel) ⟨(Nat.le_of_ble_eq_true rfl), (Nat.le_of_ble_eq_true rfl)⟩ (Nat.le_of_ble_eq_true rfl) rfl (c_M_divide_bad hb hm (fun Y1 m1 f1 c1 => ?_))
    exact lt_divide (c := 1) (by decide) c1  (kx _ _ _ hdk m1)
  · obtain ⟨r1, hr1, rfl⟩ := Decidable.not_not.mp (fun z => hb (Or.inl z))
    obtain ⟨r2, hr2, rfl⟩ := Decidable.not_not.mp (fun z => hb (Or.inr (Or.inl z)))
    obtain ⟨r3, hr3, rfl⟩ := Decidable.not_not.mp (fun z => hb (Or.inr (Or.inr (Or.inl z))))
    obtain ⟨r4, hr4, rfl⟩ := Decidable.not_not.mp (fun z => hb (Or.inr (Or.inr (Or.inr z))))
    by_cases hq : r3 = r4
    · subst hq
      refine px_aload_n (q := 425) dI_L_law_424 rfl rfl ?_
      refine px_aload_n (q := 426) dI_L_law_425 rfl rfl ?_
      refine px_iload (q := 428) dI_L_law_426 rfl rfl ?_
      refine px_iconst (q := 429) (v := nI 1) dI_L_law_428 (by decide +kernel) rfl ?_
      refine px_iaddN (q := 430) dI_L_law_429 rfl ?_
      refine px_ldX (q := 431) hX hL dI_L_law_430 (by omega) e1 rfl ?_
      refine px_aload_n (q := 432) dI_L_law_431 rfl rfl ?_
      refine px_iload (q := 434) dI_L_law_432 rfl rfl ?_
      refine px_iconst (q := 435) (v := nI 2) dI_L_law_434 (by decide +kernel) rfl ?_
      refine px_iaddN (q := 436) dI_L_law_435 rfl ?_
      refine px_ldX (q := 437) hX hL dI_L_law_436 (by omega) e2 rfl ?_
      refine px_aload_n (q := 438) dI_L_law_437 rfl rfl ?_
      refine px_iload (q := 440) dI_L_law_438 rfl rfl ?_
      refine px_iconst (q := 441) (v := nI 3) dI_L_law_440 (by decide +kernel) rfl ?_
      refine px_iaddN (q := 442) dI_L_law_441 rfl ?_
      refine px_ldX (q := 443) hX hL dI_L_law_442 (by omega) e3 rfl ?_
      refine px_aload_n (q := 444) dI_L_law_443 rfl rfl ?_
      refine px_iload (q := 446) dI_L_law_444 rfl rfl ?_
      refine px_iconst (q := 447) (v := nI 4) dI_L_law_446 (by decide +kernel) rfl ?_
      refine px_iaddN (q := 448) dI_L_law_447 rfl ?_
      refine px_ldX (q := 449) hX hL dI_L_law_448 (by omega) e4 rfl ?_
      refine px_callSH5 (q := 452) (hh := hh_divide) (ν := tL_divide) dI_L_law_449 wl_L_104 ws_L_divide wb_L_divide wi_L ⟨rfl, rfl⟩ (by decide +kernel) ⟨(Nat.le_of_ble_eq_true rfl), (Nat.le_of_ble_eq_true rfl)⟩ (Nat.le_of_ble_eq_true rfl) hcz rfl (h_L_divide_same hT hC4 hS0 hr1 hr2 hr3 ?_)
      refine px_istore (q := 454) dI_L_law_452 (by decide) rfl rfl ?_
      refine px_aload_n (q := 455) dI_L_law_454 rfl rfl ?_
      refine px_aload_n (q := 456) dI_L_law_455 rfl rfl ?_
      refine px_iload (q := 458) dI_L_law_456 rfl rfl ?_
      refine px_iconst (q := 459) (v := nI 1) dI_L_law_458 (by decide +kernel) rfl ?_
      refine px_iaddN (q := 460) dI_L_law_459 rfl ?_
      refine px_ldX (q := 461) hX hL dI_L_law_460 (by omega) e1 rfl ?_
      refine px_aload_n (q := 462) dI_L_law_461 rfl rfl ?_
      refine px_iload (q := 464) dI_L_law_462 rfl rfl ?_
      refine px_iconst (q := 465) (v := nI 2) dI_L_law_464 (by decide +kernel) rfl ?_
      refine px_iaddN (q := 466) dI_L_law_465 rfl ?_
      refine px_ldX (q := 467) hX hL dI_L_law_466 (by omega) e2 rfl ?_
      refine px_aload_n (q := 468) dI_L_law_467 rfl rfl ?_
      refine px_iload (q := 470) dI_L_law_468 rfl rfl ?_
      refine px_iconst (q := 471) (v := nI 3) dI_L_law_470 (by decide +kernel) rfl ?_
      refine px_iaddN (q := 472) dI_L_law_471 rfl ?_
      refine px_ldX (q := 473) hX hL dI_L_law_472 (by omega) e3 rfl ?_
      refine px_aload_n (q := 474) dI_L_law_473 rfl rfl ?_
      refine px_iload (q := 476) dI_L_law_474 rfl rfl ?_
      refine px_iconst (q := 477) (v := nI 4) dI_L_law_476 (by decide +kernel) rfl ?_
      refine px_iaddN (q := 478) dI_L_law_477 rfl ?_
      refine px_ldX (q := 479) hX hL dI_L_law_478 (by omega) e4 rfl ?_
      refine px_callV4 (q := 482) (ν := mM_divide) dI_L_law_479 (by decide) rfl rfl wl_L_107 wm_M_divide wv_M_divide wb_M_divide wi_M ⟨rfl, rfl⟩ (by decide +kernel) ⟨(Nat.le_of_ble_eq_true rfl), (Nat.le_of_ble_eq_true rfl)⟩ (Nat.le_of_ble_eq_true rfl) rfl (c_M_divide hr1 hr2 hr3 hr4 hm (fun _ Y1 m1 f1 c1 => ?_) (fun z => absurd rfl z) (fun z => absurd rfl z))
      exact lt_divide (c := 2) (by decide) c1  (kx _ _ _ hdk m1)
    · by_cases h0 : v r2 = 0
      · refine px_aload_n (q := 425) dI_L_law_424 rfl rfl ?_
        refine px_aload_n (q := 426) dI_L_law_425 rfl rfl ?_
        refine px_iload (q := 428) dI_L_law_426 rfl rfl ?_
        refine px_iconst (q := 429) (v := nI 1) dI_L_law_428 (by decide +kernel) rfl ?_
        refine px_iaddN (q := 430) dI_L_law_429 rfl ?_
        refine px_ldX (q := 431) hX hL dI_L_law_430 (by omega) e1 rfl ?_
        refine px_aload_n (q := 432) dI_L_law_431 rfl rfl ?_
        refine px_iload (q := 434) dI_L_law_432 rfl rfl ?_
        refine px_iconst (q := 435) (v := nI 2) dI_L_law_434 (by decide +kernel) rfl ?_
        refine px_iaddN (q := 436) dI_L_law_435 rfl ?_
        refine px_ldX (q := 437) hX hL dI_L_law_436 (by omega) e2 rfl ?_
        refine px_aload_n (q := 438) dI_L_law_437 rfl rfl ?_
        refine px_iload (q := 440) dI_L_law_438 rfl rfl ?_
        refine px_iconst (q := 441) (v := nI 3) dI_L_law_440 (by decide +kernel) rfl ?_
        refine px_iaddN (q := 442) dI_L_law_441 rfl ?_
        refine px_ldX (q := 443) hX hL dI_L_law_442 (by omega) e3 rfl ?_
        refine px_aload_n (q := 444) dI_L_law_443 rfl rfl ?_
        refine px_iload (q := 446) dI_L_law_444 rfl rfl ?_
        refine px_iconst (q := 447) (v := nI 4) dI_L_law_446 (by decide +kernel) rfl ?_
        refine px_iaddN (q := 448) dI_L_law_447 rfl ?_
        refine px_ldX (q := 449) hX hL dI_L_law_448 (by omega) e4 rfl ?_
        refine px_callSH5 (q := 452) (hh := hh_divide) (ν := tL_divide) dI_L_law_449 wl_L_104 ws_L_divide wb_L_divide wi_L ⟨rfl, rfl⟩ (by decide +kernel) ⟨(Nat.le_of_ble_eq_true rfl), (Nat.le_of_ble_eq_true rfl)⟩ (Nat.le_of_ble_eq_true rfl) hcz rfl (h_L_divide_0 hT hC4 hS0 hr1 hr2 hr3 hr4 hq h0 hdk ?_)
        refine px_istore (q := 454) dI_L_law_452 (by decide) rfl rfl ?_
        refine px_aload_n (q := 455) dI_L_law_454 rfl rfl ?_
        refine px_aload_n (q := 456) dI_L_law_455 rfl rfl ?_
        refine px_iload (q := 458) dI_L_law_456 rfl rfl ?_
        refine px_iconst (q := 459) (v := nI 1) dI_L_law_458 (by decide +kernel) rfl ?_
        refine px_iaddN (q := 460) dI_L_law_459 rfl ?_
        refine px_ldX (q := 461) hX hL dI_L_law_460 (by omega) e1 rfl ?_
        refine px_aload_n (q := 462) dI_L_law_461 rfl rfl ?_
        refine px_iload (q := 464) dI_L_law_462 rfl rfl ?_
        refine px_iconst (q := 465) (v := nI 2) dI_L_law_464 (by decide +kernel) rfl ?_
        refine px_iaddN (q := 466) dI_L_law_465 rfl ?_
        refine px_ldX (q := 467) hX hL dI_L_law_466 (by omega) e2 rfl ?_
        refine px_aload_n (q := 468) dI_L_law_467 rfl rfl ?_
        refine px_iload (q := 470) dI_L_law_468 rfl rfl ?_
        refine px_iconst (q := 471) (v := nI 3) dI_L_law_470 (by decide +kernel) rfl ?_
        refine px_iaddN (q := 472) dI_L_law_471 rfl ?_
        refine px_ldX (q := 473) hX hL dI_L_law_472 (by omega) e3 rfl ?_
        refine px_aload_n (q := 474) dI_L_law_473 rfl rfl ?_
        refine px_iload (q := 476) dI_L_law_474 rfl rfl ?_
        refine px_iconst (q := 477) (v := nI 4) dI_L_law_476 (by decide +kernel) rfl ?_
        refine px_iaddN (q := 478) dI_L_law_477 rfl ?_
        refine px_ldX (q := 479) hX hL dI_L_law_478 (by omega) e4 rfl ?_
        refine px_callV4 (q := 482) (ν := mM_divide) dI_L_law_479 (by decide) rfl rfl wl_L_107 wm_M_divide wv_M_divide wb_M_divide wi_M ⟨rfl, rfl⟩ (by decide +kernel) ⟨(Nat.le_of_ble_eq_true rfl), (Nat.le_of_ble_eq_true rfl)⟩ (Nat.le_of_ble_eq_true rfl) rfl (c_M_divide hr1 hr2 hr3 hr4 hm (fun z => absurd z hq) (fun _ _ Y1 m1 f1 c1 => ?_) (fun _ z => absurd h0 z))
        exact lt_divide (c := 3) (by decide) c1  (kx _ _ _ hdk m1)
      · refine px_aload_n (q := 425) dI_L_law_424 rfl rfl ?_
        refine px_aload_n (q := 426) dI_L_law_425 rfl rfl ?_
        refine px_iload (q := 428) dI_L_law_426 rfl rfl ?_
        refine px_iconst (q := 429) (v := nI 1) dI_L_law_428 (by decide +kernel) rfl ?_
        refine px_iaddN (q := 430) dI_L_law_429 rfl ?_
        refine px_ldX (q := 431) hX hL dI_L_law_430 (by omega) e1 rfl ?_
        refine px_aload_n (q := 432) dI_L_law_431 rfl rfl ?_
        refine px_iload (q := 434) dI_L_law_432 rfl rfl ?_
        refine px_iconst (q := 435) (v := nI 2) dI_L_law_434 (by decide +kernel) rfl ?_
        refine px_iaddN (q := 436) dI_L_law_435 rfl ?_
        refine px_ldX (q := 437) hX hL dI_L_law_436 (by omega) e2 rfl ?_
        refine px_aload_n (q := 438) dI_L_law_437 rfl rfl ?_
        refine px_iload (q := 440) dI_L_law_438 rfl rfl ?_
        refine px_iconst (q := 441) (v := nI 3) dI_L_law_440 (by decide +kernel) rfl ?_
        refine px_iaddN (q := 442) dI_L_law_441 rfl ?_
        refine px_ldX (q := 443) hX hL dI_L_law_442 (by omega) e3 rfl ?_
        refine px_aload_n (q := 444) dI_L_law_443 rfl rfl ?_
        refine px_iload (q := 446) dI_L_law_444 rfl rfl ?_
        refine px_iconst (q := 447) (v := nI 4) dI_L_law_446 (by decide +kernel) rfl ?_
        refine px_iaddN (q := 448) dI_L_law_447 rfl ?_
        refine px_ldX (q := 449) hX hL dI_L_law_448 (by omega) e4 rfl ?_
        refine px_callSH5 (q := 452) (hh := hh_divide) (ν := tL_divide) dI_L_law_449 wl_L_104 ws_L_divide wb_L_divide wi_L ⟨rfl, rfl⟩ (by decide +kernel) ⟨(Nat.le_of_ble_eq_true rfl), (Nat.le_of_ble_eq_true rfl)⟩ (Nat.le_of_ble_eq_true rfl) hcz rfl (h_L_divide hr1 hr2 hr3 hr4 hq h0 hdk (fun X1 Y0 d1 g1 => ?_))
        refine px_istore (q := 454) dI_L_law_452 (by decide) rfl rfl ?_
        refine px_aload_n (q := 455) dI_L_law_454 rfl rfl ?_
        refine px_aload_n (q := 456) dI_L_law_455 rfl rfl ?_
        refine px_iload (q := 458) dI_L_law_456 rfl rfl ?_
        refine px_iconst (q := 459) (v := nI 1) dI_L_law_458 (by decide +kernel) rfl ?_
        refine px_iaddN (q := 460) dI_L_law_459 rfl ?_
        refine px_ldX (q := 461) hX hL dI_L_law_460 (by omega) e1 rfl ?_
        refine px_aload_n (q := 462) dI_L_law_461 rfl rfl ?_
        refine px_iload (q := 464) dI_L_law_462 rfl rfl ?_
        refine px_iconst (q := 465) (v := nI 2) dI_L_law_464 (by decide +kernel) rfl ?_
        refine px_iaddN (q := 466) dI_L_law_465 rfl ?_
        refine px_ldX (q := 467) hX hL dI_L_law_466 (by omega) e2 rfl ?_
        refine px_aload_n (q := 468) dI_L_law_467 rfl rfl ?_
        refine px_iload (q := 470) dI_L_law_468 rfl rfl ?_
        refine px_iconst (q := 471) (v := nI 3) dI_L_law_470 (by decide +kernel) rfl ?_
        refine px_iaddN (q := 472) dI_L_law_471 rfl ?_
        refine px_ldX (q := 473) hX hL dI_L_law_472 (by omega) e3 rfl ?_
        refine px_aload_n (q := 474) dI_L_law_473 rfl rfl ?_
        refine px_iload (q := 476) dI_L_law_474 rfl rfl ?_
        refine px_iconst (q := 477) (v := nI 4) dI_L_law_476 (by decide +kernel) rfl ?_
        refine px_iaddN (q := 478) dI_L_law_477 rfl ?_
        refine px_ldX (q := 479) hX hL dI_L_law_478 (by omega) e4 rfl ?_
        refine px_callV4 (q := 482) (ν := mM_divide) dI_L_law_479 (by decide) rfl rfl wl_L_107 wm_M_divide wv_M_divide wb_M_divide wi_M ⟨rfl, rfl⟩ (by decide +kernel) ⟨(Nat.le_of_ble_eq_true rfl), (Nat.le_of_ble_eq_true rfl)⟩ (Nat.le_of_ble_eq_true rfl) rfl (c_M_divide hr1 hr2 hr3 hr4 (mz_fq hm g1) (fun z => absurd z hq) (fun _ z => absurd z h0) (fun _ _ Y1 m1 f1 c1 => ?_))
        exact lt_divide (c := 0) (by decide) c1  (kx _ _ _ d1 m1)
theorem ls_power {x1 x2 x3 x4 : Int32} (hX : xX_ g L xs) (hL : L ≤ 2560) (hE : xE_ g) (hT : xT_ g) (hC4 : xC_ g) (hS0 : l.stackTraces = false) (hi : i + 4 < L) (e1 : xs (i + 1) = x1) (e2 : xs (i + 2) = x2) (e3 : xs (i + 3) = x3) (e4 : xs (i + 4) = x4) (hcz : C + 1 ≤ room_1.cells ∧ S + 6 ≤ room_1.slots) (hdk : dk_ X v) (hm : mz_ Y v) (kx : ∀ X' Y' v', dk_ X' v' → mz_ Y' v' → pw_W l g μL_ sz (C + 1, S + 6, F) 1149 [(0, .ref (ad_ g 29)), (1, .ref (ad_ g 0)), (2, .ref (ad_ g 23)), (3, .ref (ad_ g 27)), (4, .int (nI i))] [] X' Y') : pw_W l g μL_ sz (C, S, F) 496 [(0, .ref (ad_ g 29)), (1, .ref (ad_ g 0)), (2, .ref (ad_ g 23)), (3, .ref (ad_ g 27)), (4, .int (nI i))] [] X Y := by
  by_cases hb : bd_ x1 ∨ bd_ x2 ∨ bd_ x3 ∨ bd_ x4
  · refine px_aload_n (q := 497) dI_L_law_496 rfl rfl ?_
    refine px_aload_n (q := 498) dI_L_law_497 rfl rfl ?_
    refine px_iload (q := 500) dI_L_law_498 rfl rfl ?_
    refine px_iconst (q := 501) (v := nI 1) dI_L_law_500 (by decide +kernel) rfl ?_
    refine px_iaddN (q := 502) dI_L_law_501 rfl ?_
    refine px_ldX (q := 503) hX hL dI_L_law_502 (by omega) e1 rfl ?_
    refine px_aload_n (q := 504) dI_L_law_503 rfl rfl ?_
    refine px_iload (q := 506) dI_L_law_504 rfl rfl ?_
    refine px_iconst (q := 507) (v := nI 2) dI_L_law_506 (by decide +kernel) rfl ?_
    refine px_iaddN (q := 508) dI_L_law_507 rfl ?_
    refine px_ldX (q := 509) hX hL dI_L_law_508 (by omega) e2 rfl ?_
    refine px_aload_n (q := 510) dI_L_law_509 rfl rfl ?_
    refine px_iload (q := 512) dI_L_law_510 rfl rfl ?_
    refine px_iconst (q := 513) (v := nI 3) dI_L_law_512 (by decide +kernel) rfl ?_
    refine px_iaddN (q := 514) dI_L_law_513 rfl ?_
    refine px_ldX (q := 515) hX hL dI_L_law_514 (by omega) e3 rfl ?_
    refine px_aload_n (q := 516) dI_L_law_515 rfl rfl ?_
    refine px_iload (q := 518) dI_L_law_516 rfl rfl ?_
    refine px_iconst (q := 519) (v := nI 4) dI_L_law_518 (by decide +kernel) rfl ?_
    refine px_iaddN (q := 520) dI_L_law_519 rfl ?_
    refine px_ldX (q := 521) hX hL dI_L_law_520 (by omega) e4 rfl ?_
    refine px_callSH5 (q := 524) (hh := hh_power) (ν := tL_power) dI_L_law_521 wl_L_108 ws_L_power wb_L_power wi_L ⟨rfl, rfl⟩ (by decide +kernel) ⟨(Nat.le_of_ble_eq_true rfl), (Nat.le_of_ble_eq_true rfl)⟩ (Nat.le_of_ble_eq_true rfl) hcz rfl (h_L_power_bad hT hC4 hS0 hb ?_)
    refine px_istore (q := 526) dI_L_law_524 (by decide) rfl rfl ?_
    refine px_aload_n (q := 527) dI_L_law_526 rfl rfl ?_
    refine px_aload_n (q := 528) dI_L_law_527 rfl rfl ?_
    refine px_iload (q := 530) dI_L_law_528 rfl rfl ?_
    refine px_iconst (q := 531) (v := nI 1) dI_L_law_530 (by decide +kernel) rfl ?_
    refine px_iaddN (q := 532) dI_L_law_531 rfl ?_
    refine px_ldX (q := 533) hX hL dI_L_law_532 (by omega) e1 rfl ?_
    refine px_aload_n (q := 534) dI_L_law_533 rfl rfl ?_
    refine px_iload (q := 536) dI_L_law_534 rfl rfl ?_
    refine px_iconst (q := 537) (v := nI 2) dI_L_law_536 (by decide +kernel) rfl ?_
    refine px_iaddN (q := 538) dI_L_law_537 rfl ?_
    refine px_ldX (q := 539) hX hL dI_L_law_538 (by omega) e2 rfl ?_
    refine px_aload_n (q := 540) dI_L_law_539 rfl rfl ?_
    refine px_iload (q := 542) dI_L_law_540 rfl rfl ?_
    refine px_iconst (q := 543) (v := nI 3) dI_L_law_542 (by decide +kernel) rfl ?_
    refine px_iaddN (q := 544) dI_L_law_543 rfl ?_
    refine px_ldX (q := 545) hX hL dI_L_law_544 (by omega) e3 rfl ?_
    refine px_aload_n (q := 546) dI_L_law_545 rfl rfl ?_
    refine px_iload (q := 548) dI_L_law_546 rfl rfl ?_
    refine px_iconst (q := 549) (v := nI 4) dI_L_law_548 (by decide +kernel) rfl ?_
    refine px_iaddN (q := 550) dI_L_law_549 rfl ?_
    refine px_ldX (q := 551) hX hL dI_L_law_550 (by omega) e4 rfl ?_
    refine px_callV4 (q := 554) (ν := mM_power) dI_L_law_551 (by decide) rfl rfl wl_L_110 wm_M_power wv_M_power wb_M_power wi_M ⟨rfl, rfl⟩ (by decide +kernel) ⟨(Nat.le_of_ble_eq_true rfl), (Nat.le_of_ble_eq_true rfl)⟩ (Nat.le_of_ble_eq_true rfl) rfl (c_M_power_bad hb hm (fun Y1 m1 f1 c1 => ?_))
    exact lt_power (c := 1) (by decide) c1  (kx _ _ _ hdk m1)
  · obtain ⟨r1, hr1, rfl⟩ := Decidable.not_not.mp (fun z => hb (Or.inl z))
    obtain ⟨r2, hr2, rfl⟩ := Decidable.not_not.mp (fun z => hb (Or.inr (Or.inl z)))
    obtain ⟨r3, hr3, rfl⟩ := Decidable.not_not.mp (fun z => hb (Or.inr (Or.inr (Or.inl z))))
    obtain ⟨r4, hr4, rfl⟩ := Decidable.not_not.mp (fun z => hb (Or.inr (Or.inr (Or.inr z))))
    by_cases h0 : v r3 = 0
    · refine px_aload_n (q := 497) dI_L_law_496 rfl rfl ?_
      refine px_aload_n (q := 498) dI_L_law_497 rfl rfl ?_
      refine px_iload (q := 500) dI_L_law_498 rfl rfl ?_
      refine px_iconst (q := 501) (v := nI 1) dI_L_law_500 (by decide +kernel) rfl ?_
      refine px_iaddN (q := 502) dI_L_law_501 rfl ?_
      refine px_ldX (q := 503) hX hL dI_L_law_502 (by omega) e1 rfl ?_
      refine px_aload_n (q := 504) dI_L_law_503 rfl rfl ?_
      refine px_iload (q := 506) dI_L_law_504 rfl rfl ?_
      refine px_iconst (q := 507) (v := nI 2) dI_L_law_506 (by decide +kernel) rfl ?_
      refine px_iaddN (q := 508) dI_L_law_507 rfl ?_
      refine px_ldX (q := 509) hX hL dI_L_law_508 (by omega) e2 rfl ?_
      refine px_aload_n (q := 510) dI_L_law_509 rfl rfl ?_
      refine px_iload (q := 512) dI_L_law_510 rfl rfl ?_
      refine px_iconst (q := 513) (v := nI 3) dI_L_law_512 (by decide +kernel) rfl ?_
      refine px_iaddN (q := 514) dI_L_law_513 rfl ?_
      refine px_ldX (q := 515) hX hL dI_L_law_514 (by omega) e3 rfl ?_
      refine px_aload_n (q := 516) dI_L_law_515 rfl rfl ?_
      refine px_iload (q := 518) dI_L_law_516 rfl rfl ?_
      refine px_iconst (q := 519) (v := nI 4) dI_L_law_518 (by decide +kernel) rfl ?_
      refine px_iaddN (q := 520) dI_L_law_519 rfl ?_
      refine px_ldX (q := 521) hX hL dI_L_law_520 (by omega) e4 rfl ?_
      refine px_callSH5 (q := 524) (hh := hh_power) (ν := tL_power) dI_L_law_521 wl_L_108 ws_L_power wb_L_power wi_L ⟨rfl, rfl⟩ (by decide +kernel) ⟨(Nat.le_of_ble_eq_true rfl), (Nat.le_of_ble_eq_true rfl)⟩ (Nat.le_of_ble_eq_true rfl) hcz rfl (h_L_power_0 hT hC4 hS0 hr1 hr2 hr3 hr4 h0 hdk ?_)
      refine px_istore (q := 526) dI_L_law_524 (by decide) rfl rfl ?_
      refine px_aload_n (q := 527) dI_L_law_526 rfl rfl ?_
      refine px_aload_n (q := 528) dI_L_law_527 rfl rfl ?_
      refine px_iload (q := 530) dI_L_law_528 rfl rfl ?_
      refine px_iconst (q := 531) (v := nI 1) dI_L_law_530 (by decide +kernel) rfl ?_
      refine px_iaddN (q := 532) dI_L_law_531 rfl ?_
      refine px_ldX (q := 533) hX hL dI_L_law_532 (by omega) e1 rfl ?_
      refine px_aload_n (q := 534) dI_L_law_533 rfl rfl ?_
      refine px_iload (q := 536) dI_L_law_534 rfl rfl ?_
      refine px_iconst (q := 537) (v := nI 2) dI_L_law_536 (by decide +kernel) rfl ?_
      refine px_iaddN (q := 538) dI_L_law_537 rfl ?_
      refine px_ldX (q := 539) hX hL dI_L_law_538 (by omega) e2 rfl ?_
      refine px_aload_n (q := 540) dI_L_law_539 rfl rfl ?_
      refine px_iload (q := 542) dI_L_law_540 rfl rfl ?_
      refine px_iconst (q := 543) (v := nI 3) dI_L_law_542 (by decide +kernel) rfl ?_
      refine px_iaddN (q := 544) dI_L_law_543 rfl ?_
      refine px_ldX (q := 545) hX hL dI_L_law_544 (by omega) e3 rfl ?_
      refine px_aload_n (q := 546) dI_L_law_545 rfl rfl ?_
      refine px_iload (q := 548) dI_L_law_546 rfl rfl ?_
      refine px_iconst (q := 549) (v := nI 4) dI_L_law_548 (by decide +kernel) rfl ?_
      refine px_iaddN (q := 550) dI_L_law_549 rfl ?_
      refine px_ldX (q := 551) hX hL dI_L_law_550 (by omega) e4 rfl ?_
      refine px_callV4 (q := 554) (ν := mM_power) dI_L_law_551 (by decide) rfl rfl wl_L_110 wm_M_power wv_M_power wb_M_power wi_M ⟨rfl, rfl⟩ (by decide +kernel) ⟨(Nat.le_of_ble_eq_true rfl), (Nat.le_of_ble_eq_true rfl)⟩ (Nat.le_of_ble_eq_true rfl) rfl (c_M_power hr1 hr2 hr3 hr4 hm (fun _ Y1 m1 f1 c1 => ?_) (fun z => absurd h0 z))
      exact lt_power (c := 2) (by decide) c1  (kx _ _ _ hdk m1)
    · refine px_aload_n (q := 497) dI_L_law_496 rfl rfl ?_
      refine px_aload_n (q := 498) dI_L_law_497 rfl rfl ?_
      refine px_iload (q := 500) dI_L_law_498 rfl rfl ?_
      refine px_iconst (q := 501) (v := nI 1) dI_L_law_500 (by decide +kernel) rfl ?_
      refine px_iaddN (q := 502) dI_L_law_501 rfl ?_
      refine px_ldX (q := 503) hX hL dI_L_law_502 (by omega) e1 rfl ?_
      refine px_aload_n (q := 504) dI_L_law_503 rfl rfl ?_
      refine px_iload (q := 506) dI_L_law_504 rfl rfl ?_
      refine px_iconst (q := 507) (v := nI 2) dI_L_law_506 (by decide +kernel) rfl ?_
      refine px_iaddN (q := 508) dI_L_law_507 rfl ?_
      refine px_ldX (q := 509) hX hL dI_L_law_508 (by omega) e2 rfl ?_
      refine px_aload_n (q := 510) dI_L_law_509 rfl rfl ?_
      refine px_iload (q := 512) dI_L_law_510 rfl rfl ?_
      refine px_iconst (q := 513) (v := nI 3) dI_L_law_512 (by decide +kernel) rfl ?_
      refine px_iaddN (q := 514) dI_L_law_513 rfl ?_
      refine px_ldX (q := 515) hX hL dI_L_law_514 (by omega) e3 rfl ?_
      refine px_aload_n (q := 516) dI_L_law_515 rfl rfl ?_
      refine px_iload (q := 518) dI_L_law_516 rfl rfl ?_
      refine px_iconst (q := 519) (v := nI 4) dI_L_law_518 (by decide +kernel) rfl ?_
      refine px_iaddN (q := 520) dI_L_law_519 rfl ?_
      refine px_ldX (q := 521) hX hL dI_L_law_520 (by omega) e4 rfl ?_
      refine px_callSH5 (q := 524) (hh := hh_power) (ν := tL_power) dI_L_law_521 wl_L_108 ws_L_power wb_L_power wi_L ⟨rfl, rfl⟩ (by decide +kernel) ⟨(Nat.le_of_ble_eq_true rfl), (Nat.le_of_ble_eq_true rfl)⟩ (Nat.le_of_ble_eq_true rfl) hcz rfl (h_L_power hr1 hr2 hr3 hr4 h0 hdk (fun X1 Y0 d1 g1 => ?_))
      refine px_istore (q := 526) dI_L_law_524 (by decide) rfl rfl ?_
      refine px_aload_n (q := 527) dI_L_law_526 rfl rfl ?_
      refine px_aload_n (q := 528) dI_L_law_527 rfl rfl ?_
      refine px_iload (q := 530) dI_L_law_528 rfl rfl ?_
      refine px_iconst (q := 531) (v := nI 1) dI_L_law_530 (by decide +kernel) rfl ?_
      refine px_iaddN (q := 532) dI_L_law_531 rfl ?_
      refine px_ldX (q := 533) hX hL dI_L_law_532 (by omega) e1 rfl ?_
      refine px_aload_n (q := 534) dI_L_law_533 rfl rfl ?_
      refine px_iload (q := 536) dI_L_law_534 rfl rfl ?_
      refine px_iconst (q := 537) (v := nI 2) dI_L_law_536 (by decide +kernel) rfl ?_
      refine px_iaddN (q := 538) dI_L_law_537 rfl ?_
      refine px_ldX (q := 539) hX hL dI_L_law_538 (by omega) e2 rfl ?_
      refine px_aload_n (q := 540) dI_L_law_539 rfl rfl ?_
      refine px_iload (q := 542) dI_L_law_540 rfl rfl ?_
      refine px_iconst (q := 543) (v := nI 3) dI_L_law_542 (by decide +kernel) rfl ?_
      refine px_iaddN (q := 544) dI_L_law_543 rfl ?_
      refine px_ldX (q := 545) hX hL dI_L_law_544 (by omega) e3 rfl ?_
      refine px_aload_n (q := 546) dI_L_law_545 rfl rfl ?_
      refine px_iload (q := 548) dI_L_law_546 rfl rfl ?_
      refine px_iconst (q := 549) (v := nI 4) dI_L_law_548 (by decide +kernel) rfl ?_
      refine px_iaddN (q := 550) dI_L_law_549 rfl ?_
      refine px_ldX (q := 551) hX hL dI_L_law_550 (by omega) e4 rfl ?_
      refine px_callV4 (q := 554) (ν := mM_power) dI_L_law_551 (by decide) rfl rfl wl_L_110 wm_M_power wv_M_power wb_M_power wi_M ⟨rfl, rfl⟩ (by decide +kernel) ⟨(Nat.le_of_ble_eq_true rfl), (Nat.le_of_ble_eq_true rfl)⟩ (Nat.le_of_ble_eq_true rfl) rfl (c_M_power hr1 hr2 hr3 hr4 (mz_fq hm g1) (fun z => absurd z h0) (fun _ Y1 m1 f1 c1 => ?_))
      exact lt_power (c := 0) (by decide) c1  (kx _ _ _ d1 m1)
theorem ls_compare {x1 x2 x3 x4 : Int32} (hX : xX_ g L xs) (hL : L ≤ 2560) (hE : xE_ g) (hT : xT_ g) (hC4 : xC_ g) (hS0 : l.stackTraces = false) (hi : i + 4 < L) (e1 : xs (i + 1) = x1) (e2 : xs (i + 2) = x2) (e3 : xs (i + 3) = x3) (e4 : xs (i + 4) = x4) (hcz : C + 1 ≤ room_1.cells ∧ S + 6 ≤ room_1.slots) (hdk : dk_ X v) (hm : mz_ Y v) (kx : ∀ X' Y' v', dk_ X' v' → mz_ Y' v' → pw_W l g μL_ sz (C + 1, S + 6, F) 1149 [(0, .ref (ad_ g 29)), (1, .ref (ad_ g 0)), (2, .ref (ad_ g 23)), (3, .ref (ad_ g 27)), (4, .int (nI i))] [] X' Y') : pw_W l g μL_ sz (C, S, F) 628 [(0, .ref (ad_ g 29)), (1, .ref (ad_ g 0)), (2, .ref (ad_ g 23)), (3, .ref (ad_ g 27)), (4, .int (nI i))] [] X Y := by
  by_cases hb : bd_ x1 ∨ bd_ x2
  · refine px_aload_n (q := 629) dI_L_law_628 rfl rfl ?_
    refine px_aload_n (q := 630) dI_L_law_629 rfl rfl ?_
    refine px_iload (q := 632) dI_L_law_630 rfl rfl ?_
    refine px_iconst (q := 633) (v := nI 1) dI_L_law_632 (by decide +kernel) rfl ?_
    refine px_iaddN (q := 634) dI_L_law_633 rfl ?_
    refine px_ldX (q := 635) hX hL dI_L_law_634 (by omega) e1 rfl ?_
    refine px_aload_n (q := 636) dI_L_law_635 rfl rfl ?_
    refine px_iload (q := 638) dI_L_law_636 rfl rfl ?_
    refine px_iconst (q := 639) (v := nI 2) dI_L_law_638 (by decide +kernel) rfl ?_
    refine px_iaddN (q := 640) dI_L_law_639 rfl ?_
    refine px_ldX (q := 641) hX hL dI_L_law_640 (by omega) e2 rfl ?_
    refine px_aload_n (q := 642) dI_L_law_641 rfl rfl ?_
    refine px_callSH4 (q := 645) (hh := hh_compare) (ν := tL_compare) dI_L_law_642 wl_L_114 ws_L_compare wb_L_compare wi_L ⟨rfl, rfl⟩ (by decide +kernel) ⟨(Nat.le_of_ble_eq_true rfl), (Nat.le_of_ble_eq_true rfl)⟩ (Nat.le_of_ble_eq_true rfl) hcz rfl (h_L_compare_bad hT hC4 hS0 hb ?_)
    refine px_istore (q := 647) dI_L_law_645 (by decide) rfl rfl ?_
    refine px_aload_n (q := 648) dI_L_law_647 rfl rfl ?_
    refine px_aload_n (q := 649) dI_L_law_648 rfl rfl ?_
    refine px_iload (q := 651) dI_L_law_649 rfl rfl ?_
    refine px_iconst (q := 652) (v := nI 1) dI_L_law_651 (by decide +kernel) rfl ?_
    refine px_iaddN (q := 653) dI_L_law_652 rfl ?_
    refine px_ldX (q := 654) hX hL dI_L_law_653 (by omega) e1 rfl ?_
    refine px_aload_n (q := 655) dI_L_law_654 rfl rfl ?_
    refine px_iload (q := 657) dI_L_law_655 rfl rfl ?_
    refine px_iconst (q := 658) (v := nI 2) dI_L_law_657 (by decide +kernel) rfl ?_
    refine px_iaddN (q := 659) dI_L_law_658 rfl ?_
    refine px_ldX (q := 660) hX hL dI_L_law_659 (by omega) e2 rfl ?_
    refine px_callV2 (q := 663) (ν := mM_compare) dI_L_law_660 (by decide) rfl rfl wl_L_117 wm_M_compare wv_M_compare wb_M_compare wi_M ⟨rfl, rfl⟩ (by decide +kernel) ⟨(Nat.le_of_ble_eq_true rfl), (Nat.le_of_ble_eq_true rfl)⟩ (Nat.le_of_ble_eq_true rfl) rfl (c_M_compare_bad hb hm (fun Y1 m1 f1 c1 => ?_))
    exact lt_compare (c := 1) (by decide) c1 _ (fun z => absurd z (by decide)) (kx _ _ _ hdk m1)
  · obtain ⟨r1, hr1, rfl⟩ := Decidable.not_not.mp (fun z => hb (Or.inl z))
    obtain ⟨r2, hr2, rfl⟩ := Decidable.not_not.mp (fun z => hb (Or.inr z))
    refine px_aload_n (q := 629) dI_L_law_628 rfl rfl ?_
    refine px_aload_n (q := 630) dI_L_law_629 rfl rfl ?_
    refine px_iload (q := 632) dI_L_law_630 rfl rfl ?_
    refine px_iconst (q := 633) (v := nI 1) dI_L_law_632 (by decide +kernel) rfl ?_
    refine px_iaddN (q := 634) dI_L_law_633 rfl ?_
    refine px_ldX (q := 635) hX hL dI_L_law_634 (by omega) e1 rfl ?_
    refine px_aload_n (q := 636) dI_L_law_635 rfl rfl ?_
    refine px_iload (q := 638) dI_L_law_636 rfl rfl ?_
    refine px_iconst (q := 639) (v := nI 2) dI_L_law_638 (by decide +kernel) rfl ?_
    refine px_iaddN (q := 640) dI_L_law_639 rfl ?_
    refine px_ldX (q := 641) hX hL dI_L_law_640 (by omega) e2 rfl ?_
    refine px_aload_n (q := 642) dI_L_law_641 rfl rfl ?_
    refine px_callSH4 (q := 645) (hh := hh_compare) (ν := tL_compare) dI_L_law_642 wl_L_114 ws_L_compare wb_L_compare wi_L ⟨rfl, rfl⟩ (by decide +kernel) ⟨(Nat.le_of_ble_eq_true rfl), (Nat.le_of_ble_eq_true rfl)⟩ (Nat.le_of_ble_eq_true rfl) hcz rfl (h_L_compare hr1 hr2 hdk (fun X1 r hr d1 o1 => ?_))
    refine px_istore (q := 647) dI_L_law_645 (by decide) rfl rfl ?_
    refine px_aload_n (q := 648) dI_L_law_647 rfl rfl ?_
    refine px_aload_n (q := 649) dI_L_law_648 rfl rfl ?_
    refine px_iload (q := 651) dI_L_law_649 rfl rfl ?_
    refine px_iconst (q := 652) (v := nI 1) dI_L_law_651 (by decide +kernel) rfl ?_
    refine px_iaddN (q := 653) dI_L_law_652 rfl ?_
    refine px_ldX (q := 654) hX hL dI_L_law_653 (by omega) e1 rfl ?_
    refine px_aload_n (q := 655) dI_L_law_654 rfl rfl ?_
    refine px_iload (q := 657) dI_L_law_655 rfl rfl ?_
    refine px_iconst (q := 658) (v := nI 2) dI_L_law_657 (by decide +kernel) rfl ?_
    refine px_iaddN (q := 659) dI_L_law_658 rfl ?_
    refine px_ldX (q := 660) hX hL dI_L_law_659 (by omega) e2 rfl ?_
    refine px_callV2 (q := 663) (ν := mM_compare) dI_L_law_660 (by decide) rfl rfl wl_L_117 wm_M_compare wv_M_compare wb_M_compare wi_M ⟨rfl, rfl⟩ (by decide +kernel) ⟨(Nat.le_of_ble_eq_true rfl), (Nat.le_of_ble_eq_true rfl)⟩ (Nat.le_of_ble_eq_true rfl) rfl (c_M_compare hr1 hr2 hm (fun z Y1 m1 f1 c1 => ?_) (fun z Y1 m1 f1 c1 => ?_) (fun z Y1 m1 f1 c1 => ?_))
    · have er : r = -1 := by
        rcases hr with ⟨q, w⟩ | ⟨q, w⟩ | ⟨q, w⟩
        · exact w
        · omega
        · omega
      subst er
      exact lt_compare (c := 0) (by decide) c1 _ (fun _ => o1) (kx _ _ _ d1 m1)
    · have er : r = nI 0 := by
        rcases hr with ⟨q, w⟩ | ⟨q, w⟩ | ⟨q, w⟩
        · omega
        · exact w
        · omega
      subst er
      exact lt_compare (c := 0) (by decide) c1 _ (fun _ => o1) (kx _ _ _ d1 m1)
    · have er : r = nI 1 := by
        rcases hr with ⟨q, w⟩ | ⟨q, w⟩ | ⟨q, w⟩
        · omega
        · omega
        · exact w
      subst er
      exact lt_compare (c := 0) (by decide) c1 _ (fun _ => o1) (kx _ _ _ d1 m1)
theorem ls_bits {x1 x2 x3 x4 : Int32} (hX : xX_ g L xs) (hL : L ≤ 2560) (hE : xE_ g) (hT : xT_ g) (hC4 : xC_ g) (hS0 : l.stackTraces = false) (hi : i + 4 < L) (e1 : xs (i + 1) = x1) (e2 : xs (i + 2) = x2) (e3 : xs (i + 3) = x3) (e4 : xs (i + 4) = x4) (hcz : C + 1 ≤ room_1.cells ∧ S + 6 ≤ room_1.slots) (hdk : dk_ X v) (hm : mz_ Y v) (kx : ∀ X' Y' v', dk_ X' v' → mz_ Y' v' → pw_W l g μL_ sz (C + 1, S + 6, F) 1149 [(0, .ref (ad_ g 29)), (1, .ref (ad_ g 0)), (2, .ref (ad_ g 23)), (3, .ref (ad_ g 27)), (4, .int (nI i))] [] X' Y') : pw_W l g μL_ sz (C, S, F) 696 [(0, .ref (ad_ g 29)), (1, .ref (ad_ g 0)), (2, .ref (ad_ g 23)), (3, .ref (ad_ g 27)), (4, .int (nI i))] [] X Y := by
  by_cases hb : bd_ x1
  · refine px_aload_n (q := 697) dI_L_law_696 rfl rfl ?_
    refine px_aload_n (q := 698) dI_L_law_697 rfl rfl ?_
    refine px_iload (q := 700) dI_L_law_698 rfl rfl ?_
    refine px_iconst (q := 701) (v := nI 1) dI_L_law_700 (by decide +kernel) rfl ?_
    refine px_iaddN (q := 702) dI_L_law_701 rfl ?_
    refine px_ldX (q := 703) hX hL dI_L_law_702 (by omega) e1 rfl ?_
    refine px_aload_n (q := 704) dI_L_law_703 rfl rfl ?_
    refine px_callSH3 (q := 707) (hh := hh_bits) (ν := tL_bits) dI_L_law_704 wl_L_118 ws_L_bits wb_L_bits wi_L ⟨rfl, rfl⟩ (by decide +kernel) ⟨(Nat.le_of_ble_eq_true rfl), (Nat.le_of_ble_eq_true rfl)⟩ (Nat.le_of_ble_eq_true rfl) hcz rfl (h_L_bits_bad hT hC4 hS0 hb ?_)
    refine px_istore (q := 709) dI_L_law_707 (by decide) rfl rfl ?_
    refine px_aload_n (q := 710) dI_L_law_709 rfl rfl ?_
    refine px_aload_n (q := 711) dI_L_law_710 rfl rfl ?_
    refine px_iload (q := 713) dI_L_law_711 rfl rfl ?_
    refine px_iconst (q := 714) (v := nI 1) dI_L_law_713 (by decide +kernel) rfl ?_
    refine px_iaddN (q := 715) dI_L_law_714 rfl ?_
    refine px_ldX (q := 716) hX hL dI_L_law_715 (by omega) e1 rfl ?_
    refine px_callV1 (q := 719) (ν := mM_bits) dI_L_law_716 (by decide) rfl rfl wl_L_121 wm_M_bits wv_M_bits wb_M_bits wi_M ⟨rfl, rfl⟩ (by decide +kernel) ⟨(Nat.le_of_ble_eq_true rfl), (Nat.le_of_ble_eq_true rfl)⟩ (Nat.le_of_ble_eq_true rfl) rfl (c_M_bits_bad hb hm (fun Y1 m1 f1 c1 => ?_))
    exact lt_bits (c := 1) (by decide) c1 _ (fun z => absurd z (by decide)) (kx _ _ _ hdk m1)
  · obtain ⟨r1, hr1, rfl⟩ := Decidable.not_not.mp hb
    refine px_aload_n (q := 697) dI_L_law_696 rfl rfl ?_
    refine px_aload_n (q := 698) dI_L_law_697 rfl rfl ?_
    refine px_iload (q := 700) dI_L_law_698 rfl rfl ?_
    refine px_iconst (q := 701) (v := nI 1) dI_L_law_700 (by decide +kernel) rfl ?_
    refine px_iaddN (q := 702) dI_L_law_701 rfl ?_
    refine px_ldX (q := 703) hX hL dI_L_law_702 (by omega) e1 rfl ?_
    refine px_aload_n (q := 704) dI_L_law_703 rfl rfl ?_
    refine px_callSH3 (q := 707) (hh := hh_bits) (ν := tL_bits) dI_L_law_704 wl_L_118 ws_L_bits wb_L_bits wi_L ⟨rfl, rfl⟩ (by decide +kernel) ⟨(Nat.le_of_ble_eq_true rfl), (Nat.le_of_ble_eq_true rfl)⟩ (Nat.le_of_ble_eq_true rfl) hcz rfl (h_L_bits hr1 hdk (fun X1 T hT1 hbl d1 o1 => ?_))
    refine px_istore (q := 709) dI_L_law_707 (by decide) rfl rfl ?_
    refine px_aload_n (q := 710) dI_L_law_709 rfl rfl ?_
    refine px_aload_n (q := 711) dI_L_law_710 rfl rfl ?_
    refine px_iload (q := 713) dI_L_law_711 rfl rfl ?_
    refine px_iconst (q := 714) (v := nI 1) dI_L_law_713 (by decide +kernel) rfl ?_
    refine px_iaddN (q := 715) dI_L_law_714 rfl ?_
    refine px_ldX (q := 716) hX hL dI_L_law_715 (by omega) e1 rfl ?_
    refine px_callV1 (q := 719) (ν := mM_bits) dI_L_law_716 (by decide) rfl rfl wl_L_121 wm_M_bits wv_M_bits wb_M_bits wi_M ⟨rfl, rfl⟩ (by decide +kernel) ⟨(Nat.le_of_ble_eq_true rfl), (Nat.le_of_ble_eq_true rfl)⟩ (Nat.le_of_ble_eq_true rfl) rfl (c_M_bits hr1 hm (fun Y1 T2 hT2 hbl2 m1 f1 c1 => ?_))
    obtain rfl := bl_u hbl hbl2
    exact lt_bits (c := 0) (by decide) c1 _ (fun _ => o1) (kx _ _ _ d1 m1)
theorem ls_word {x1 x2 x3 x4 : Int32} (hX : xX_ g L xs) (hL : L ≤ 2560) (hE : xE_ g) (hT : xT_ g) (hC4 : xC_ g) (hS0 : l.stackTraces = false) (hi : i + 4 < L) (e1 : xs (i + 1) = x1) (e2 : xs (i + 2) = x2) (e3 : xs (i + 3) = x3) (e4 : xs (i + 4) = x4) (hcz : C + 1 ≤ room_1.cells ∧ S + 6 ≤ room_1.slots) (hdk : dk_ X v) (hm : mz_ Y v) (kx : ∀ X' Y' v', dk_ X' v' → mz_ Y' v' → pw_W l g μL_ sz (C + 1, S + 6, F) 1149 [(0, .ref (ad_ g 29)), (1, .ref (ad_ g 0)), (2, .ref (ad_ g 23)), (3, .ref (ad_ g 27)), (4, .int (nI i))] [] X' Y') : pw_W l g μL_ sz (C, S, F) 752 [(0, .ref (ad_ g 29)), (1, .ref (ad_ g 0)), (2, .ref (ad_ g 23)), (3, .ref (ad_ g 27)), (4, .int (nI i))] [] X Y := by
  by_cases hb : bd_ x1 ∨ ¬ ∃ j, j < 4 ∧ x2 = nI j
  · refine px_aload_n (q := 753) dI_L_law_752 rfl rfl ?_
    refine px_aload_n (q := 754) dI_L_law_753 rfl rfl ?_
    refine px_iload (q := 756) dI_L_law_754 rfl rfl ?_
    refine px_iconst (q := 757) (v := nI 1) dI_L_law_756 (by decide +kernel) rfl ?_
    refine px_iaddN (q := 758) dI_L_law_757 rfl ?_
    refine px_ldX (q := 759) hX hL dI_L_law_758 (by omega) e1 rfl ?_
    refine px_aload_n (q := 760) dI_L_law_759 rfl rfl ?_
    refine px_iload (q := 762) dI_L_law_760 rfl rfl ?_
    refine px_iconst (q := 763) (v := nI 2) dI_L_law_762 (by decide +kernel) rfl ?_
    refine px_iaddN (q := 764) dI_L_law_763 rfl ?_
    refine px_ldX (q := 765) hX hL dI_L_law_764 (by omega) e2 rfl ?_
    refine px_aload_n (q := 766) dI_L_law_765 rfl rfl ?_
    refine px_callSH4 (q := 769) (hh := hh_word) (ν := tL_word) dI_L_law_766 wl_L_122 ws_L_word wb_L_word wi_L ⟨rfl, rfl⟩ (by decide +kernel) ⟨(Nat.le_of_ble_eq_true rfl), (Nat.le_of_ble_eq_true rfl)⟩ (Nat.le_of_ble_eq_true rfl) hcz rfl (h_L_word_bad hT hC4 hS0 hb ?_)
    refine px_istore (q := 771) dI_L_law_769 (by decide) rfl rfl ?_
    refine px_aload_n (q := 772) dI_L_law_771 rfl rfl ?_
    refine px_aload_n (q := 773) dI_L_law_772 rfl rfl ?_
    refine px_iload (q := 775) dI_L_law_773 rfl rfl ?_
    refine px_iconst (q := 776) (v := nI 1) dI_L_law_775 (by decide +kernel) rfl ?_
    refine px_iaddN (q := 777) dI_L_law_776 rfl ?_
    refine px_ldX (q := 778) hX hL dI_L_law_777 (by omega) e1 rfl ?_
    refine px_aload_n (q := 779) dI_L_law_778 rfl rfl ?_
    refine px_iload (q := 781) dI_L_law_779 rfl rfl ?_
    refine px_iconst (q := 782) (v := nI 2) dI_L_law_781 (by decide +kernel) rfl ?_
    refine px_iaddN (q := 783) dI_L_law_782 rfl ?_
    refine px_ldX (q := 784) hX hL dI_L_law_783 (by omega) e2 rfl ?_
    refine px_callV2 (q := 787) (ν := mM_word) dI_L_law_784 (by decide) rfl rfl wl_L_124 wm_M_word wv_M_word wb_M_word wi_M ⟨rfl, rfl⟩ (by decide +kernel) ⟨(Nat.le_of_ble_eq_true rfl), (Nat.le_of_ble_eq_true rfl)⟩ (Nat.le_of_ble_eq_true rfl) rfl (c_M_word_bad hb hm (fun Y1 m1 f1 c1 => ?_))
    exact lt_word (c := 1) (by decide) c1 _ (fun z => absurd z (by decide)) (kx _ _ _ hdk m1)
  · obtain ⟨r1, hr1, rfl⟩ := Decidable.not_not.mp (fun z => hb (Or.inl z))
    obtain ⟨k2, hk2, rfl⟩ := Decidable.not_not.mp (fun z => hb (Or.inr z))
    refine px_aload_n (q := 753) dI_L_law_752 rfl rfl ?_
    refine px_aload_n (q := 754) dI_L_law_753 rfl rfl ?_
    refine px_iload (q := 756) dI_L_law_754 rfl rfl ?_
    refine px_iconst (q := 757) (v := nI 1) dI_L_law_756 (by decide +kernel) rfl ?_
    refine px_iaddN (q := 758) dI_L_law_757 rfl ?_
    refine px_ldX (q := 759) hX hL dI_L_law_758 (by omega) e1 rfl ?_
    refine px_aload_n (q := 760) dI_L_law_759 rfl rfl ?_
    refine px_iload (q := 762) dI_L_law_760 rfl rfl ?_
    refine px_iconst (q := 763) (v := nI 2) dI_L_law_762 (by decide +kernel) rfl ?_
    refine px_iaddN (q := 764) dI_L_law_763 rfl ?_
    refine px_ldX (q := 765) hX hL dI_L_law_764 (by omega) e2 rfl ?_
    refine px_aload_n (q := 766) dI_L_law_765 rfl rfl ?_
    refine px_callSH4 (q := 769) (hh := hh_word) (ν := tL_word) dI_L_law_766 wl_L_122 ws_L_word wb_L_word wi_L ⟨rfl, rfl⟩ (by decide +kernel) ⟨(Nat.le_of_ble_eq_true rfl), (Nat.le_of_ble_eq_true rfl)⟩ (Nat.le_of_ble_eq_true rfl) hcz rfl (h_L_word hr1 hk2 hdk (fun X1 d1 o1 => ?_))
    refine px_istore (q := 771) dI_L_law_769 (by decide) rfl rfl ?_
    refine px_aload_n (q := 772) dI_L_law_771 rfl rfl ?_
    refine px_aload_n (q := 773) dI_L_law_772 rfl rfl ?_
    refine px_iload (q := 775) dI_L_law_773 rfl rfl ?_
    refine px_iconst (q := 776) (v := nI 1) dI_L_law_775 (by decide +kernel) rfl ?_
    refine px_iaddN (q := 777) dI_L_law_776 rfl ?_
    refine px_ldX (q := 778) hX hL dI_L_law_777 (by omega) e1 rfl ?_
    refine px_aload_n (q := 779) dI_L_law_778 rfl rfl ?_
    refine px_iload (q := 781) dI_L_law_779 rfl rfl ?_
    refine px_iconst (q := 782) (v := nI 2) dI_L_law_781 (by decide +kernel) rfl ?_
    refine px_iaddN (q := 783) dI_L_law_782 rfl ?_
    refine px_ldX (q := 784) hX hL dI_L_law_783 (by omega) e2 rfl ?_
    refine px_callV2 (q := 787) (ν := mM_word) dI_L_law_784 (by decide) rfl rfl wl_L_124 wm_M_word wv_M_word wb_M_word wi_M ⟨rfl, rfl⟩ (by decide +kernel) ⟨(Nat.le_of_ble_eq_true rfl), (Nat.le_of_ble_eq_true rfl)⟩ (Nat.le_of_ble_eq_true rfl) rfl (c_M_word hr1 hk2 hm (fun Y1 m1 f1 c1 => ?_))
    exact lt_word (c := 0) (by decide) c1 _ (fun _ => o1) (kx _ _ _ d1 m1)
theorem ls_perfect {x1 x2 x3 x4 : Int32} (hX : xX_ g L xs) (hL : L ≤ 2560) (hE : xE_ g) (hT : xT_ g) (hC4 : xC_ g) (hS0 : l.stackTraces = false) (hi : i + 4 < L) (e1 : xs (i + 1) = x1) (e2 : xs (i + 2) = x2) (e3 : xs (i + 3) = x3) (e4 : xs (i + 4) = x4) (hcz : C + 1 ≤ room_1.cells ∧ S + 6 ≤ room_1.slots) (hdk : dk_ X v) (hm : mz_ Y v) (kx : ∀ X' Y' v', dk_ X' v' → mz_ Y' v' → pw_W l g μL_ sz (C + 1, S + 6, F) 1149 [(0, .ref (ad_ g 29)), (1, .ref (ad_ g 0)), (2, .ref (ad_ g 23)), (3, .ref (ad_ g 27)), (4, .int (nI i))] [] X' Y') : pw_W l g μL_ sz (C, S, F) 819 [(0, .ref (ad_ g 29)), (1, .ref (ad_ g 0)), (2, .ref (ad_ g 23)), (3, .ref (ad_ g 27)), (4, .int (nI i))] [] X Y := by
  by_cases hb : bd_ x1
  · refine px_aload_n (q := 820) dI_L_law_819 rfl rfl ?_
    refine px_aload_n (q := 821) dI_L_law_820 rfl rfl ?_
    refine px_iload (q := 823) dI_L_law_821 rfl rfl ?_
    refine px_iconst (q := 824) (v := nI 1) dI_L_law_823 (by decide +kernel) rfl ?_
    refine px_iaddN (q := 825) dI_L_law_824 rfl ?_
    refine px_ldX (q := 826) hX hL dI_L_law_825 (by omega) e1 rfl ?_
    refine px_aload_n (q := 827) dI_L_law_826 rfl rfl ?_
    refine px_callSH3 (q := 830) (hh := hh_perfect) (ν := tL_perfect) dI_L_law_827 wl_L_125 ws_L_perfect wb_L_perfect wi_L ⟨rfl, rfl⟩ (by decide +kernel) ⟨(Nat.le_of_ble_eq_true rfl), (Nat.le_of_ble_eq_true rfl)⟩ (Nat.le_of_ble_eq_true rfl) hcz rfl (h_L_perfect_bad hT hC4 hS0 hb ?_)
    refine px_istore (q := 832) dI_L_law_830 (by decide) rfl rfl ?_
    refine px_aload_n (q := 833) dI_L_law_832 rfl rfl ?_
    refine px_aload_n (q := 834) dI_L_law_833 rfl rfl ?_
    refine px_iload (q := 836) dI_L_law_834 rfl rfl ?_
    refine px_iconst (q := 837) (v := nI 1) dI_L_law_836 (by decide +kernel) rfl ?_
    refine px_iaddN (q := 838) dI_L_law_837 rfl ?_
    refine px_ldX (q := 839) hX hL dI_L_law_838 (by omega) e1 rfl ?_
    refine px_callV1 (q := 842) (ν := mM_perfect) dI_L_law_839 (by decide) rfl rfl wl_L_127 wm_M_perfect wv_M_perfect wb_M_perfect wi_M ⟨rfl, rfl⟩ (by decide +kernel) ⟨(Nat.le_of_ble_eq_true rfl), (Nat.le_of_ble_eq_true rfl)⟩ (Nat.le_of_ble_eq_true rfl) rfl (c_M_perfect_bad hb hm (fun Y1 m1 f1 c1 => ?_))
    exact lt_perfect (c := 1) (by decide) c1 _ (fun z => absurd z (by decide)) (kx _ _ _ hdk m1)
  · obtain ⟨r1, hr1, rfl⟩ := Decidable.not_not.mp hb
    refine px_aload_n (q := 820) dI_L_law_819 rfl rfl ?_
    refine px_aload_n (q := 821) dI_L_law_820 rfl rfl ?_
    refine px_iload (q := 823) dI_L_law_821 rfl rfl ?_
    refine px_iconst (q := 824) (v := nI 1) dI_L_law_823 (by decide +kernel) rfl ?_
    refine px_iaddN (q := 825) dI_L_law_824 rfl ?_
    refine px_ldX (q := 826) hX hL dI_L_law_825 (by omega) e1 rfl ?_
    refine px_aload_n (q := 827) dI_L_law_826 rfl rfl ?_
    refine px_callSH3 (q := 830) (hh := hh_perfect) (ν := tL_perfect) dI_L_law_827 wl_L_125 ws_L_perfect wb_L_perfect wi_L ⟨rfl, rfl⟩ (by decide +kernel) ⟨(Nat.le_of_ble_eq_true rfl), (Nat.le_of_ble_eq_true rfl)⟩ (Nat.le_of_ble_eq_true rfl) hcz rfl (h_L_perfect hE hr1 hdk (fun X1 e0 he0 hle d1 o1 => ?_))
    refine px_istore (q := 832) dI_L_law_830 (by decide) rfl rfl ?_
    refine px_aload_n (q := 833) dI_L_law_832 rfl rfl ?_
    refine px_aload_n (q := 834) dI_L_law_833 rfl rfl ?_
    refine px_iload (q := 836) dI_L_law_834 rfl rfl ?_
    refine px_iconst (q := 837) (v := nI 1) dI_L_law_836 (by decide +kernel) rfl ?_
    refine px_iaddN (q := 838) dI_L_law_837 rfl ?_
    refine px_ldX (q := 839) hX hL dI_L_law_838 (by omega) e1 rfl ?_
    refine px_callV1 (q := 842) (ν := mM_perfect) dI_L_law_839 (by decide) rfl rfl wl_L_127 wm_M_perfect wv_M_perfect wb_M_perfect wi_M ⟨rfl, rfl⟩ (by decide +kernel) ⟨(Nat.le_of_ble_eq_true rfl), (Nat.le_of_ble_eq_true rfl)⟩ (Nat.le_of_ble_eq_true rfl) rfl (c_M_perfect hr1 hm (fun e9 he9 hle9 Y1 m1 f1 c1 => ?_))
    obtain rfl := le_u hle hle9
    exact lt_perfect (c := 0) (by decide) c1 _ (fun _ => o1) (kx _ _ _ d1 m1)
theorem ls_order {x1 x2 x3 x4 : Int32} (hX : xX_ g L xs) (hL : L ≤ 2560) (hE : xE_ g) (hT : xT_ g) (hC4 : xC_ g) (hS0 : l.stackTraces = false) (hi : i + 4 < L) (e1 : xs (i + 1) = x1) (e2 : xs (i + 2) = x2) (e3 : xs (i + 3) = x3) (e4 : xs (i + 4) = x4) (hcz : C + 1 ≤ room_1.cells ∧ S + 6 ≤ room_1.slots) (hdk : dk_ X v) (hm : mz_ Y v) (kx : ∀ X' Y' v', dk_ X' v' → mz_ Y' v' → pw_W l g μL_ sz (C + 1, S + 6, F) 1149 [(0, .ref (ad_ g 29)), (1, .ref (ad_ g 0)), (2, .ref (ad_ g 23)), (3, .ref (ad_ g 27)), (4, .int (nI i))] [] X' Y') : pw_W l g μL_ sz (C, S, F) 875 [(0, .ref (ad_ g 29)), (1, .ref (ad_ g 0)), (2, .ref (ad_ g 23)), (3, .ref (ad_ g 27)), (4, .int (nI i))] [] X Y := by
  by_cases hb : bd_ x1
  · refine px_aload_n (q := 876) dI_L_law_875 rfl rfl ?_
    refine px_aload_n (q := 877) dI_L_law_876 rfl rfl ?_
    refine px_iload (q := 879) dI_L_law_877 rfl rfl ?_
    refine px_iconst (q := 880) (v := nI 1) dI_L_law_879 (by decide +kernel) rfl ?_
    refine px_iaddN (q := 881) dI_L_law_880 rfl ?_
    refine px_ldX (q := 882) hX hL dI_L_law_881 (by omega) e1 rfl ?_
    refine px_aload_n (q := 883) dI_L_law_882 rfl rfl ?_
    refine px_iload (q := 885) dI_L_law_883 rfl rfl ?_
    refine px_iconst (q := 886) (v := nI 2) dI_L_law_885 (by decide +kernel) rfl ?_
    refine px_iaddN (q := 887) dI_L_law_886 rfl ?_
    refine px_ldX (q := 888) hX hL dI_L_law_887 (by omega) e2 rfl ?_
    refine px_aload_n (q := 889) dI_L_law_888 rfl rfl ?_
    refine px_callSH4 (q := 892) (hh := hh_order) (ν := tL_order) dI_L_law_889 wl_L_128 ws_L_order wb_L_order wi_L ⟨rfl, rfl⟩ (by decide +kernel) ⟨(Nat.le_of_ble_eq_true rfl), (Nat.le_of_ble_eq_true rfl)⟩ (Nat.le_of_ble_eq_true rfl) hcz rfl (h_L_order_bad hT hC4 hS0 hb ?_)
    refine px_istore (q := 894) dI_L_law_892 (by decide) rfl rfl ?_
    refine px_aload_n (q := 895) dI_L_law_894 rfl rfl ?_
    refine px_aload_n (q := 896) dI_L_law_895 rfl rfl ?_
    refine px_iload (q := 898) dI_L_law_896 rfl rfl ?_
    refine px_iconst (q := 899) (v := nI 1) dI_L_law_898 (by decide +kernel) rfl ?_
    refine px_iaddN (q := 900) dI_L_law_899 rfl ?_
    refine px_ldX (q := 901) hX hL dI_L_law_900 (by omega) e1 rfl ?_
    refine px_aload_n (q := 902) dI_L_law_901 rfl rfl ?_
    refine px_iload (q := 904) dI_L_law_902 rfl rfl ?_
    refine px_iconst (q := 905) (v := nI 2) dI_L_law_904 (by decide +kernel) rfl ?_
    refine px_iaddN (q := 906) dI_L_law_905 rfl ?_
    refine px_ldX (q := 907) hX hL dI_L_law_906 (by omega) e2 rfl ?_
    refine px_callV2 (q := 910) (ν := mM_order) dI_L_law_907 (by decide) rfl rfl wl_L_130 wm_M_order wv_M_order wb_M_order wi_M ⟨rfl, rfl⟩ (by decide +kernel) ⟨(Nat.le_of_ble_eq_true rfl), (Nat.le_of_ble_eq_true rfl)⟩ (Nat.le_of_ble_eq_true rfl) rfl (c_M_order_bad hb hm (fun Y1 m1 f1 c1 => ?_))
    exact lt_order (c := 1) (by decide) c1 _ (fun z => absurd z (by decide)) (kx _ _ _ hdk m1)
  · obtain ⟨r1, hr1, rfl⟩ := Decidable.not_not.mp hb
    by_cases hk : ∃ k, 2 ≤ k ∧ k ≤ 1000 ∧ x2 = nI k
    · obtain ⟨m0, hm2, hm1, rfl⟩ := hk
      obtain ⟨k0, hod⟩ := od_tot (v r1 % m0) m0
      by_cases hk0 : k0 = 0
      · subst hk0
        refine px_aload_n (q := 876) dI_L_law_875 rfl rfl ?_
        refine px_aload_n (q := 877) dI_L_law_876 rfl rfl ?_
        refine px_iload (q := 879) dI_L_law_877 rfl rfl ?_
        refine px_iconst (q := 880) (v := nI 1) dI_L_law_879 (by decide +kernel) rfl ?_
        refine px_iaddN (q := 881) dI_L_law_880 rfl ?_
        refine px_ldX (q := 882) hX hL dI_L_law_881 (by omega) e1 rfl ?_
        refine px_aload_n (q := 883) dI_L_law_882 rfl rfl ?_
        refine px_iload (q := 885) dI_L_law_883 rfl rfl ?_
        refine px_iconst (q := 886) (v := nI 2) dI_L_law_885 (by decide +kernel) rfl ?_
        refine px_iaddN (q := 887) dI_L_law_886 rfl ?_
        refine px_ldX (q := 888) hX hL dI_L_law_887 (by omega) e2 rfl ?_
        refine px_aload_n (q := 889) dI_L_law_888 rfl rfl ?_
        refine px_callSH4 (q := 892) (hh := hh_order) (ν := tL_order) dI_L_law_889 wl_L_128 ws_L_order wb_L_order wi_L ⟨rfl, rfl⟩ (by decide +kernel) ⟨(Nat.le_of_ble_eq_true rfl), (Nat.le_of_ble_eq_true rfl)⟩ (Nat.le_of_ble_eq_true rfl) hcz rfl (h_L_order_0 hT hC4 hS0 hr1 hm2 hm1 hod hdk ?_)
        refine px_istore (q := 894) dI_L_law_892 (by decide) rfl rfl ?_
        refine px_aload_n (q := 895) dI_L_law_894 rfl rfl ?_
        refine px_aload_n (q := 896) dI_L_law_895 rfl rfl ?_
        refine px_iload (q := 898) dI_L_law_896 rfl rfl ?_
        refine px_iconst (q := 899) (v := nI 1) dI_L_law_898 (by decide +kernel) rfl ?_
        refine px_iaddN (q := 900) dI_L_law_899 rfl ?_
        refine px_ldX (q := 901) hX hL dI_L_law_900 (by omega) e1 rfl ?_
        refine px_aload_n (q := 902) dI_L_law_901 rfl rfl ?_
        refine px_iload (q := 904) dI_L_law_902 rfl rfl ?_
        refine px_iconst (q := 905) (v := nI 2) dI_L_law_904 (by decide +kernel) rfl ?_
        refine px_iaddN (q := 906) dI_L_law_905 rfl ?_
        refine px_ldX (q := 907) hX hL dI_L_law_906 (by omega) e2 rfl ?_
        refine px_callV2 (q := 910) (ν := mM_order) dI_L_law_907 (by decide) rfl rfl wl_L_130 wm_M_order wv_M_order wb_M_order wi_M ⟨rfl, rfl⟩ (by decide +kernel) ⟨(Nat.le_of_ble_eq_true rfl), (Nat.le_of_ble_eq_true rfl)⟩ (Nat.le_of_ble_eq_true rfl) rfl (c_M_order hr1 hm2 hm1 hod hm (fun _ Y1 m1 f1 c1 => ?_) (fun z => absurd rfl z))
        exact lt_order (c := 3) (by decide) c1 _ (fun z => absurd z (by decide)) (kx _ _ _ hdk m1)
      · refine px_aload_n (q := 876) dI_L_law_875 rfl rfl ?_
        refine px_aload_n (q := 877) dI_L_law_876 rfl rfl ?_
        refine px_iload (q := 879) dI_L_law_877 rfl rfl ?_
        refine px_iconst (q := 880) (v := nI 1) dI_L_law_879 (by decide +kernel) rfl ?_
        refine px_iaddN (q := 881) dI_L_law_880 rfl ?_
        refine px_ldX (q := 882) hX hL dI_L_law_881 (by omega) e1 rfl ?_
        refine px_aload_n (q := 883) dI_L_law_882 rfl rfl ?_
        refine px_iload (q := 885) dI_L_law_883 rfl rfl ?_
        refine px_iconst (q := 886) (v := nI 2) dI_L_law_885 (by decide +kernel) rfl ?_
        refine px_iaddN (q := 887) dI_L_law_886 rfl ?_
        refine px_ldX (q := 888) hX hL dI_L_law_887 (by omega) e2 rfl ?_
        refine px_aload_n (q := 889) dI_L_law_888 rfl rfl ?_
        refine px_callSH4 (q := 892) (hh := hh_order) (ν := tL_order) dI_L_law_889 wl_L_128 ws_L_order wb_L_order wi_L ⟨rfl, rfl⟩ (by decide +kernel) ⟨(Nat.le_of_ble_eq_true rfl), (Nat.le_of_ble_eq_true rfl)⟩ (Nat.le_of_ble_eq_true rfl) hcz rfl (h_L_order hr1 hm2 hm1 hod hk0 hdk (fun X1 d1 o1 => ?_))
        refine px_istore (q := 894) dI_L_law_892 (by decide) rfl rfl ?_
        refine px_aload_n (q := 895) dI_L_law_894 rfl rfl ?_
        refine px_aload_n (q := 896) dI_L_law_895 rfl rfl ?_
        refine px_iload (q := 898) dI_L_law_896 rfl rfl ?_
        refine px_iconst (q := 899) (v := nI 1) dI_L_law_898 (by decide +kernel) rfl ?_
        refine px_iaddN (q := 900) dI_L_law_899 rfl ?_
        refine px_ldX (q := 901) hX hL dI_L_law_900 (by omega) e1 rfl ?_
        refine px_aload_n (q := 902) dI_L_law_901 rfl rfl ?_
        refine px_iload (q := 904) dI_L_law_902 rfl rfl ?_
        refine px_iconst (q := 905) (v := nI 2) dI_L_law_904 (by decide +kernel) rfl ?_
        refine px_iaddN (q := 906) dI_L_law_905 rfl ?_
        refine px_ldX (q := 907) hX hL dI_L_law_906 (by omega) e2 rfl ?_
        refine px_callV2 (q := 910) (ν := mM_order) dI_L_law_907 (by decide) rfl rfl wl_L_130 wm_M_order wv_M_order wb_M_order wi_M ⟨rfl, rfl⟩ (by decide +kernel) ⟨(Nat.le_of_ble_eq_true rfl), (Nat.le_of_ble_eq_true rfl)⟩ (Nat.le_of_ble_eq_true rfl) rfl (c_M_order hr1 hm2 hm1 hod hm (fun z => absurd z hk0) (fun _ Y1 m1 f1 c1 => ?_))
        exact lt_order (c := 0) (by decide) c1 _ (fun _ => o1) (kx _ _ _ d1 m1)
    · refine px_aload_n (q := 876) dI_L_law_875 rfl rfl ?_
      refine px_aload_n (q := 877) dI_L_law_876 rfl rfl ?_
      refine px_iload (q := 879) dI_L_law_877 rfl rfl ?_
      refine px_iconst (q := 880) (v := nI 1) dI_L_law_879 (by decide +kernel) rfl ?_
      refine px_iaddN (q := 881) dI_L_law_880 rfl ?_
      refine px_ldX (q := 882) hX hL dI_L_law_881 (by omega) e1 rfl ?_
      refine px_aload_n (q := 883) dI_L_law_882 rfl rfl ?_
      refine px_iload (q := 885) dI_L_law_883 rfl rfl ?_
      refine px_iconst (q := 886) (v := nI 2) dI_L_law_885 (by decide +kernel) rfl ?_
      refine px_iaddN (q := 887) dI_L_law_886 rfl ?_
      refine px_ldX (q := 888) hX hL dI_L_law_887 (by omega) e2 rfl ?_
      refine px_aload_n (q := 889) dI_L_law_888 rfl rfl ?_
      refine px_callSH4 (q := 892) (hh := hh_order) (ν := tL_order) dI_L_law_889 wl_L_128 ws_L_order wb_L_order wi_L ⟨rfl, rfl⟩ (by decide +kernel) ⟨(Nat.le_of_ble_eq_true rfl), (Nat.le_of_ble_eq_true rfl)⟩ (Nat.le_of_ble_eq_true rfl) hcz rfl (h_L_order_m hT hC4 hS0 hr1 hk ?_)
      refine px_istore (q := 894) dI_L_law_892 (by decide) rfl rfl ?_
      refine px_aload_n (q := 895) dI_L_law_894 rfl rfl ?_
      refine px_aload_n (q := 896) dI_L_law_895 rfl rfl ?_
      refine px_iload (q := 898) dI_L_law_896 rfl rfl ?_
      refine px_iconst (q := 899) (v := nI 1) dI_L_law_898 (by decide +kernel) rfl ?_
      refine px_iaddN (q := 900) dI_L_law_899 rfl ?_
      refine px_ldX (q := 901) hX hL dI_L_law_900 (by omega) e1 rfl ?_
      refine px_aload_n (q := 902) dI_L_law_901 rfl rfl ?_
      refine px_iload (q := 904) dI_L_law_902 rfl rfl ?_
      refine px_iconst (q := 905) (v := nI 2) dI_L_law_904 (by decide +kernel) rfl ?_
      refine px_iaddN (q := 906) dI_L_law_905 rfl ?_
      refine px_ldX (q := 907) hX hL dI_L_law_906 (by omega) e2 rfl ?_
      refine px_callV2 (q := 910) (ν := mM_order) dI_L_law_907 (by decide) rfl rfl wl_L_130 wm_M_order wv_M_order wb_M_order wi_M ⟨rfl, rfl⟩ (by decide +kernel) ⟨(Nat.le_of_ble_eq_true rfl), (Nat.le_of_ble_eq_true rfl)⟩ (Nat.le_of_ble_eq_true rfl) rfl (c_M_order_m hr1 hk hm (fun Y1 m1 f1 c1 => ?_))
      exact lt_order (c := 2) (by decide) c1 _ (fun z => absurd z (by decide)) (kx _ _ _ hdk m1)
theorem ls_modulus {x1 x2 x3 x4 : Int32} (hX : xX_ g L xs) (hL : L ≤ 2560) (hE : xE_ g) (hT : xT_ g) (hC4 : xC_ g) (hS0 : l.stackTraces = false) (hi : i + 4 < L) (e1 : xs (i + 1) = x1) (e2 : xs (i + 2) = x2) (e3 : xs (i + 3) = x3) (e4 : xs (i + 4) = x4) (hcz : C + 1 ≤ room_1.cells ∧ S + 6 ≤ room_1.slots) (hdk : dk_ X v) (hm : mz_ Y v) (kx : ∀ X' Y' v', dk_ X' v' → mz_ Y' v' → pw_W l g μL_ sz (C + 1, S + 6, F) 1149 [(0, .ref (ad_ g 29)), (1, .ref (ad_ g 0)), (2, .ref (ad_ g 23)), (3, .ref (ad_ g 27)), (4, .int (nI i))] [] X' Y') : pw_W l g μL_ sz (C, S, F) 943 [(0, .ref (ad_ g 29)), (1, .ref (ad_ g 0)), (2, .ref (ad_ g 23)), (3, .ref (ad_ g 27)), (4, .int (nI i))] [] X Y := by
  by_cases hb : bd_ x1
  · refine px_aload_n (q := 944) dI_L_law_943 rfl rfl ?_
    refine px_aload_n (q := 945) dI_L_law_944 rfl rfl ?_
    refine px_iload (q := 947) dI_L_law_945 rfl rfl ?_
    refine px_iconst (q := 948) (v := nI 1) dI_L_law_947 (by decide +kernel) rfl ?_
    refine px_iaddN (q := 949) dI_L_law_948 rfl ?_
    refine px_ldX (q := 950) hX hL dI_L_law_949 (by omega) e1 rfl ?_
    refine px_aload_n (q := 951) dI_L_law_950 rfl rfl ?_
    refine px_callSH3 (q := 954) (hh := hh_modulus) (ν := tL_modulus) dI_L_law_951 wl_L_131 ws_L_modulus wb_L_modulus wi_L ⟨rfl, rfl⟩ (by decide +kernel) ⟨(Nat.le_of_ble_eq_true rfl), (Nat.le_of_ble_eq_true rfl)⟩ (Nat.le_of_ble_eq_true rfl) hcz rfl (h_L_modulus_bad hT hC4 hS0 hb ?_)
    refine px_istore (q := 956) dI_L_law_954 (by decide) rfl rfl ?_
    refine px_aload_n (q := 957) dI_L_law_956 rfl rfl ?_
    refine px_aload_n (q := 958) dI_L_law_957 rfl rfl ?_
    refine px_iload (q := 960) dI_L_law_958 rfl rfl ?_
    refine px_iconst (q := 961) (v := nI 1) dI_L_law_960 (by decide +kernel) rfl ?_
    refine px_iaddN (q := 962) dI_L_law_961 rfl ?_
    refine px_ldX (q := 963) hX hL dI_L_law_962 (by omega) e1 rfl ?_
    refine px_callV1 (q := 966) (ν := mM_modulus) dI_L_law_963 (by decide) rfl rfl wl_L_133 wm_M_modulus wv_M_modulus wb_M_modulus wi_M ⟨rfl, rfl⟩ (by decide +kernel) ⟨(Nat.le_of_ble_eq_true rfl), (Nat.le_of_ble_eq_true rfl)⟩ (Nat.le_of_ble_eq_true rfl) rfl (c_M_modulus_bad hb hm (fun Y1 m1 f1 c1 => ?_))
    exact lt_modulus (c := 1) (by decide) c1 _ (fun z => absurd z (by decide)) (kx _ _ _ hdk m1)
  · obtain ⟨r1, hr1, rfl⟩ := Decidable.not_not.mp hb
    by_cases hv : v r1 < 2 ∨ 511 < v r1
    · refine px_aload_n (q := 944) dI_L_law_943 rfl rfl ?_
      refine px_aload_n (q := 945) dI_L_law_944 rfl rfl ?_
      refine px_iload (q := 947) dI_L_law_945 rfl rfl ?_
      refine px_iconst (q := 948) (v := nI 1) dI_L_law_947 (by decide +kernel) rfl ?_
      refine px_iaddN (q := 949) dI_L_law_948 rfl ?_
      refine px_ldX (q := 950) hX hL dI_L_law_949 (by omega) e1 rfl ?_
      refine px_aload_n (q := 951) dI_L_law_950 rfl rfl ?_
      refine px_callSH3 (q := 954) (hh := hh_modulus) (ν := tL_modulus) dI_L_law_951 wl_L_131 ws_L_modulus wb_L_modulus wi_L ⟨rfl, rfl⟩ (by decide +kernel) ⟨(Nat.le_of_ble_eq_true rfl), (Nat.le_of_ble_eq_true rfl)⟩ (Nat.le_of_ble_eq_true rfl) hcz rfl (h_L_modulus_n hT hC4 hS0 hr1 hv hdk ?_)
      refine px_istore (q := 956) dI_L_law_954 (by decide) rfl rfl ?_
      refine px_aload_n (q := 957) dI_L_law_956 rfl rfl ?_
      refine px_aload_n (q := 958) dI_L_law_957 rfl rfl ?_
      refine px_iload (q := 960) dI_L_law_958 rfl rfl ?_
      refine px_iconst (q := 961) (v := nI 1) dI_L_law_960 (by decide +kernel) rfl ?_
      refine px_iaddN (q := 962) dI_L_law_961 rfl ?_
      refine px_ldX (q := 963) hX hL dI_L_law_962 (by omega) e1 rfl ?_
      refine px_callV1 (q := 966) (ν := mM_modulus) dI_L_law_963 (by decide) rfl rfl wl_L_133 wm_M_modulus wv_M_modulus wb_M_modulus wi_M ⟨rfl, rfl⟩ (by decide +kernel) ⟨(Nat.le_of_ble_eq_true rfl), (Nat.le_of_ble_eq_true rfl)⟩ (Nat.le_of_ble_eq_true rfl) rfl (c_M_modulus_n hr1 hv hm (fun Y1 m1 f1 c1 => ?_))
      exact lt_modulus (c := 2) (by decide) c1 _ (fun z => absurd z (by decide)) (kx _ _ _ hdk m1)
    · refine px_aload_n (q := 944) dI_L_law_943 rfl rfl ?_
      refine px_aload_n (q := 945) dI_L_law_944 rfl rfl ?_
      refine px_iload (q := 947) dI_L_law_945 rfl rfl ?_
      refine px_iconst (q := 948) (v := nI 1) dI_L_law_947 (by decide +kernel) rfl ?_
      refine px_iaddN (q := 949) dI_L_law_948 rfl ?_
      refine px_ldX (q := 950) hX hL dI_L_law_949 (by omega) e1 rfl ?_
      refine px_aload_n (q := 951) dI_L_law_950 rfl rfl ?_
      refine px_callSH3 (q := 954) (hh := hh_modulus) (ν := tL_modulus) dI_L_law_951 wl_L_131 ws_L_modulus wb_L_modulus wi_L ⟨rfl, rfl⟩ (by decide +kernel) ⟨(Nat.le_of_ble_eq_true rfl), (Nat.le_of_ble_eq_true rfl)⟩ (Nat.le_of_ble_eq_true rfl) hcz rfl (h_L_modulus hr1 (by omega) (by omega) hdk (fun X1 T m0 k0 q1 q2 q3 q4 q5 q6 d1 o1 => ?_))
      refine px_istore (q := 956) dI_L_law_954 (by decide) rfl rfl ?_
      refine px_aload_n (q := 957) dI_L_law_956 rfl rfl ?_
      refine px_aload_n (q := 958) dI_L_law_957 rfl rfl ?_
      refine px_iload (q := 960) dI_L_law_958 rfl rfl ?_
      refine px_iconst (q := 961) (v := nI 1) dI_L_law_960 (by decide +kernel) rfl ?_
      refine px_iaddN (q := 962) dI_L_law_961 rfl ?_
      refine px_ldX (q := 963) hX hL dI_L_law_962 (by omega) e1 rfl ?_
      refine px_callV1 (q := 966) (ν := mM_modulus) dI_L_law_963 (by decide) rfl rfl wl_L_133 wm_M_modulus wv_M_modulus wb_M_modulus wi_M ⟨rfl, rfl⟩ (by decide +kernel) ⟨(Nat.le_of_ble_eq_true rfl), (Nat.le_of_ble_eq_true rfl)⟩ (Nat.le_of_ble_eq_true rfl) rfl (c_M_modulus hr1 (by omega) (by omega) q1 q2 q3 q4 q5 q6 hm (fun Y1 m1 f1 c1 => ?_))
      exact lt_modulus (c := 0) (by decide) c1 _ (fun _ => o1) (kx _ _ _ d1 m1)
theorem ls_congruent {x1 x2 x3 x4 : Int32} (hX : xX_ g L xs) (hL : L ≤ 2560) (hE : xE_ g) (hT : xT_ g) (hC4 : xC_ g) (hS0 : l.stackTraces = false) (hi : i + 4 < L) (e1 : xs (i + 1) = x1) (e2 : xs (i + 2) = x2) (e3 : xs (i + 3) = x3) (e4 : xs (i + 4) = x4) (hcz : C + 1 ≤ room_1.cells ∧ S + 6 ≤ room_1.slots) (hdk : dk_ X v) (hm : mz_ Y v) (kx : ∀ X' Y' v', dk_ X' v' → mz_ Y' v' → pw_W l g μL_ sz (C + 1, S + 6, F) 1149 [(0, .ref (ad_ g 29)), (1, .ref (ad_ g 0)), (2, .ref (ad_ g 23)), (3, .ref (ad_ g 27)), (4, .int (nI i))] [] X' Y') : pw_W l g μL_ sz (C, S, F) 999 [(0, .ref (ad_ g 29)), (1, .ref (ad_ g 0)), (2, .ref (ad_ g 23)), (3, .ref (ad_ g 27)), (4, .int (nI i))] [] X Y := by
  by_cases hb : bd_ x1
  · refine px_aload_n (q := 1000) dI_L_law_999 rfl rfl ?_
    refine px_aload_n (q := 1001) dI_L_law_1000 rfl rfl ?_
    refine px_iload (q := 1003) dI_L_law_1001 rfl rfl ?_
    refine px_iconst (q := 1004) (v := nI 1) dI_L_law_1003 (by decide +kernel) rfl ?_
    refine px_iaddN (q := 1005) dI_L_law_1004 rfl ?_
    refine px_ldX (q := 1006) hX hL dI_L_law_1005 (by omega) e1 rfl ?_
    refine px_aload_n (q := 1007) dI_L_law_1006 rfl rfl ?_
    refine px_iload (q := 1009) dI_L_law_1007 rfl rfl ?_
    refine px_iconst (q := 1010) (v := nI 2) dI_L_law_1009 (by decide +kernel) rfl ?_
    refine px_iaddN (q := 1011) dI_L_law_1010 rfl ?_
    refine px_ldX (q := 1012) hX hL dI_L_law_1011 (by omega) e2 rfl ?_
    refine px_aload_n (q := 1013) dI_L_law_1012 rfl rfl ?_
    refine px_iload (q := 1015) dI_L_law_1013 rfl rfl ?_
    refine px_iconst (q := 1016) (v := nI 3) dI_L_law_1015 (by decide +kernel) rfl ?_
    refine px_iaddN (q := 1017) dI_L_law_1016 rfl ?_
    refine px_ldX (q := 1018) hX hL dI_L_law_1017 (by omega) e3 rfl ?_
    refine px_aload_n (q := 1019) dI_L_law_1018 rfl rfl ?_
    refine px_callSH5 (q := 1022) (hh := hh_congruent) (ν := tL_congruent) dI_L_law_1019 wl_L_134 ws_L_congruent wb_L_congruent wi_L ⟨rfl, rfl⟩ (by decide +kernel) ⟨(Nat.le_of_ble_eq_true rfl), (Nat.le_of_ble_eq_true rfl)⟩ (Nat.le_of_ble_eq_true rfl) hcz rfl (h_L_congruent_bad hT hC4 hS0 hb ?_)
    refine px_istore (q := 1024) dI_L_law_1022 (by decide) rfl rfl ?_
    refine px_aload_n (q := 1025) dI_L_law_1024 rfl rfl ?_
    refine px_aload_n (q := 1026) dI_L_law_1025 rfl rfl ?_
    refine px_iload (q := 1028) dI_L_law_1026 rfl rfl ?_
    refine px_iconst (q := 1029) (v := nI 1) dI_L_law_1028 (by decide +kernel) rfl ?_
    refine px_iaddN (q := 1030) dI_L_law_1029 rfl ?_
    refine px_ldX (q := 1031) hX hL dI_L_law_1030 (by omega) e1 rfl ?_
    refine px_aload_n (q := 1032) dI_L_law_1031 rfl rfl ?_
    refine px_iload (q := 1034) dI_L_law_1032 rfl rfl ?_
    refine px_iconst (q := 1035) (v := nI 2) dI_L_law_1034 (by decide +kernel) rfl ?_
    refine px_iaddN (q := 1036) dI_L_law_1035 rfl ?_
    refine px_ldX (q := 1037) hX hL dI_L_law_1036 (by omega) e2 rfl ?_
    refine px_aload_n (q := 1038) dI_L_law_1037 rfl rfl ?_
    refine px_iload (q := 1040) dI_L_law_1038 rfl rfl ?_
    refine px_iconst (q := 1041) (v := nI 3) dI_L_law_1040 (by decide +kernel) rfl ?_
    refine px_iaddN (q := 1042) dI_L_law_1041 rfl ?_
    refine px_ldX (q := 1043) hX hL dI_L_law_1042 (by omega) e3 rfl ?_
    refine px_callV3 (q := 1046) (ν := mM_congruent) dI_L_law_1043 (by decide) rfl rfl wl_L_137 wm_M_congruent wv_M_congruent wb_M_congruent wi_M ⟨rfl, rfl⟩ (by decide +kernel) ⟨(Nat.le_of_ble_eq_true rfl), (Nat.le_of_ble_eq_true rfl)⟩ (Nat.le_of_ble_eq_true rfl) rfl (c_M_congruent_bad hb hm (fun Y1 m1 f1 c1 => ?_))
    exact lt_congruent (c := 1) (by decide) c1 0 (by decide) (fun z => absurd z (by decide)) (kx _ _ _ hdk m1)
  · obtain ⟨r1, hr1, rfl⟩ := Decidable.not_not.mp hb
    by_cases hk : (¬ ∃ k, 1 ≤ k ∧ k ≤ 64 ∧ x2 = nI k) ∨ ¬ ∃ k, k ≤ 4095 ∧ x3 = nI k
    · refine px_aload_n (q := 1000) dI_L_law_999 rfl rfl ?_
      refine px_aload_n (q := 1001) dI_L_law_1000 rfl rfl ?_
      refine px_iload (q := 1003) dI_L_law_1001 rfl rfl ?_
      refine px_iconst (q := 1004) (v := nI 1) dI_L_law_1003 (by decide +kernel) rfl ?_
      refine px_iaddN (q := 1005) dI_L_law_1004 rfl ?_
      refine px_ldX (q := 1006) hX hL dI_L_law_1005 (by omega) e1 rfl ?_
      refine px_aload_n (q := 1007) dI_L_law_1006 rfl rfl ?_
      refine px_iload (q := 1009) dI_L_law_1007 rfl rfl ?_
      refine px_iconst (q := 1010) (v := nI 2) dI_L_law_1009 (by decide +kernel) rfl ?_
      refine px_iaddN (q := 1011) dI_L_law_1010 rfl ?_
      refine px_ldX (q := 1012) hX hL dI_L_law_1011 (by omega) e2 rfl ?_
      refine px_aload_n (q := 1013) dI_L_law_1012 rfl rfl ?_
      refine px_iload (q := 1015) dI_L_law_1013 rfl rfl ?_
      refine px_iconst (q := 1016) (v := nI 3) dI_L_law_1015 (by decide +kernel) rfl ?_
      refine px_iaddN (q := 1017) dI_L_law_1016 rfl ?_
      refine px_ldX (q := 1018) hX hL dI_L_law_1017 (by omega) e3 rfl ?_
      refine px_aload_n (q := 1019) dI_L_law_1018 rfl rfl ?_
      refine px_callSH5 (q := 1022) (hh := hh_congruent) (ν := tL_congruent) dI_L_law_1019 wl_L_134 ws_L_congruent wb_L_congruent wi_L ⟨rfl, rfl⟩ (by decide +kernel) ⟨(Nat.le_of_ble_eq_true rfl), (Nat.le_of_ble_eq_true rfl)⟩ (Nat.le_of_ble_eq_true rfl) hcz rfl (h_L_congruent_m hT hC4 hS0 hr1 hk ?_)
      refine px_istore (q := 1024) dI_L_law_1022 (by decide) rfl rfl ?_
      refine px_aload_n (q := 1025) dI_L_law_1024 rfl rfl ?_
      refine px_aload_n (q := 1026) dI_L_law_1025 rfl rfl ?_
      refine px_iload (q := 1028) dI_L_law_1026 rfl rfl ?_
      refine px_iconst (q := 1029) (v := nI 1) dI_L_law_1028 (by decide +kernel) rfl ?_
      refine px_iaddN (q := 1030) dI_L_law_1029 rfl ?_
      refine px_ldX (q := 1031) hX hL dI_L_law_1030 (by omega) e1 rfl ?_
      refine px_aload_n (q := 1032) dI_L_law_1031 rfl rfl ?_
      refine px_iload (q := 1034) dI_L_law_1032 rfl rfl ?_
      refine px_iconst (q := 1035) (v := nI 2) dI_L_law_1034 (by decide +kernel) rfl ?_
      refine px_iaddN (q := 1036) dI_L_law_1035 rfl ?_
      refine px_ldX (q := 1037) hX hL dI_L_law_1036 (by omega) e2 rfl ?_
      refine px_aload_n (q := 1038) dI_L_law_1037 rfl rfl ?_
      refine px_iload (q := 1040) dI_L_law_1038 rfl rfl ?_
      refine px_iconst (q := 1041) (v := nI 3) dI_L_law_1040 (by decide +kernel) rfl ?_
      refine px_iaddN (q := 1042) dI_L_law_1041 rfl ?_
      refine px_ldX (q := 1043) hX hL dI_L_law_1042 (by omega) e3 rfl ?_
      refine px_callV3 (q := 1046) (ν := mM_congruent) dI_L_law_1043 (by decide) rfl rfl wl_L_137 wm_M_congruent wv_M_congruent wb_M_congruent wi_M ⟨rfl, rfl⟩ (by decide +kernel) ⟨(Nat.le_of_ble_eq_true rfl), (Nat.le_of_ble_eq_true rfl)⟩ (Nat.le_of_ble_eq_true rfl) rfl (c_M_congruent_m hr1 hk hm (fun Y1 m1 f1 c1 => ?_))
      exact lt_congruent (c := 2) (by decide) c1 0 (by decide) (fun z => absurd z (by decide)) (kx _ _ _ hdk m1)
    · obtain ⟨m0, hm1, hm2, rfl⟩ := Classical.not_not.mp (fun z => hk (Or.inl z))
      obtain ⟨c0, hc0, rfl⟩ := Classical.not_not.mp (fun z => hk (Or.inr z))
      by_cases hv : v r1 < 2 ∨ 4095 < v r1
      · refine px_aload_n (q := 1000) dI_L_law_999 rfl rfl ?_
        refine px_aload_n (q := 1001) dI_L_law_1000 rfl rfl ?_
        refine px_iload (q := 1003) dI_L_law_1001 rfl rfl ?_
        refine px_iconst (q := 1004) (v := nI 1) dI_L_law_1003 (by decide +kernel) rfl ?_
        refine px_iaddN (q := 1005) dI_L_law_1004 rfl ?_
        refine px_ldX (q := 1006) hX hL dI_L_law_1005 (by omega) e1 rfl ?_
        refine px_aload_n (q := 1007) dI_L_law_1006 rfl rfl ?_
        refine px_iload (q := 1009) dI_L_law_1007 rfl rfl ?_
        refine px_iconst (q := 1010) (v := nI 2) dI_L_law_1009 (by decide +kernel) rfl ?_
        refine px_iaddN (q := 1011) dI_L_law_1010 rfl ?_
        refine px_ldX (q := 1012) hX hL dI_L_law_1011 (by omega) e2 rfl ?_
        refine px_aload_n (q := 1013) dI_L_law_1012 rfl rfl ?_
        refine px_iload (q := 1015) dI_L_law_1013 rfl rfl ?_
        refine px_iconst (q := 1016) (v := nI 3) dI_L_law_1015 (by decide +kernel) rfl ?_
        refine px_iaddN (q := 1017) dI_L_law_1016 rfl ?_
        refine px_ldX (q := 1018) hX hL dI_L_law_1017 (by omega) e3 rfl ?_
        refine px_aload_n (q := 1019) dI_L_law_1018 rfl rfl ?_
        refine px_callSH5 (q := 1022) (hh := hh_congruent) (ν := tL_congruent) dI_L_law_1019 wl_L_134 ws_L_congruent wb_L_congruent wi_L ⟨rfl, rfl⟩ (by decide +kernel) ⟨(Nat.le_of_ble_eq_true rfl), (Nat.le_of_ble_eq_true rfl)⟩ (Nat.le_of_ble_eq_true rfl) hcz rfl (h_L_congruent_n hT hC4 hS0 hr1 hm1 hm2 hc0 hv hdk ?_)
        refine px_istore (q := 1024) dI_L_law_1022 (by decide) rfl rfl ?_
        refine px_aload_n (q := 1025) dI_L_law_1024 rfl rfl ?_
        refine px_aload_n (q := 1026) dI_L_law_1025 rfl rfl ?_
        refine px_iload (q := 1028) dI_L_law_1026 rfl rfl ?_
        refine px_iconst (q := 1029) (v := nI 1) dI_L_law_1028 (by decide +kernel) rfl ?_
        refine px_iaddN (q := 1030) dI_L_law_1029 rfl ?_
        refine px_ldX (q := 1031) hX hL dI_L_law_1030 (by omega) e1 rfl ?_
        refine px_aload_n (q := 1032) dI_L_law_1031 rfl rfl ?_
        refine px_iload (q := 1034) dI_L_law_1032 rfl rfl ?_
        refine px_iconst (q := 1035) (v := nI 2) dI_L_law_1034 (by decide +kernel) rfl ?_
        refine px_iaddN (q := 1036) dI_L_law_1035 rfl ?_
        refine px_ldX (q := 1037) hX hL dI_L_law_1036 (by omega) e2 rfl ?_
        refine px_aload_n (q := 1038) dI_L_law_1037 rfl rfl ?_
        refine px_iload (q := 1040) dI_L_law_1038 rfl rfl ?_
        refine px_iconst (q := 1041) (v := nI 3) dI_L_law_1040 (by decide +kernel) rfl ?_
        refine px_iaddN (q := 1042) dI_L_law_1041 rfl ?_
        refine px_ldX (q := 1043) hX hL dI_L_law_1042 (by omega) e3 rfl ?_
        refine px_callV3 (q := 1046) (ν := mM_congruent) dI_L_law_1043 (by decide) rfl rfl wl_L_137 wm_M_congruent wv_M_congruent wb_M_congruent wi_M ⟨rfl, rfl⟩ (by decide +kernel) ⟨(Nat.le_of_ble_eq_true rfl), (Nat.le_of_ble_eq_true rfl)⟩ (Nat.le_of_ble_eq_true rfl) rfl (c_M_congruent hr1 hm1 hm2 hc0 hm (fun _ Y1 m1 f1 c1 => ?_) (fun z z2 => by omega) (fun z z2 => by omega))
        exact lt_congruent (c := 3) (by decide) c1 0 (by decide) (fun z => absurd z (by decide)) (kx _ _ _ hdk m1)
      · refine px_aload_n (q := 1000) dI_L_law_999 rfl rfl ?_
        refine px_aload_n (q := 1001) dI_L_law_1000 rfl rfl ?_
        refine px_iload (q := 1003) dI_L_law_1001 rfl rfl ?_
        refine px_iconst (q := 1004) (v := nI 1) dI_L_law_1003 (by decide +kernel) rfl ?_
        refine px_iaddN (q := 1005) dI_L_law_1004 rfl ?_
        refine px_ldX (q := 1006) hX hL dI_L_law_1005 (by omega) e1 rfl ?_
        refine px_aload_n (q := 1007) dI_L_law_1006 rfl rfl ?_
        refine px_iload (q := 1009) dI_L_law_1007 rfl rfl ?_
        refine px_iconst (q := 1010) (v := nI 2) dI_L_law_1009 (by decide +kernel) rfl ?_
        refine px_iaddN (q := 1011) dI_L_law_1010 rfl ?_
        refine px_ldX (q := 1012) hX hL dI_L_law_1011 (by omega) e2 rfl ?_
        refine px_aload_n (q := 1013) dI_L_law_1012 rfl rfl ?_
        refine px_iload (q := 1015) dI_L_law_1013 rfl rfl ?_
        refine px_iconst (q := 1016) (v := nI 3) dI_L_law_1015 (by decide +kernel) rfl ?_
        refine px_iaddN (q := 1017) dI_L_law_1016 rfl ?_
        refine px_ldX (q := 1018) hX hL dI_L_law_1017 (by omega) e3 rfl ?_
        refine px_aload_n (q := 1019) dI_L_law_1018 rfl rfl ?_
        refine px_callSH5 (q := 1022) (hh := hh_congruent) (ν := tL_congruent) dI_L_law_1019 wl_L_134 ws_L_congruent wb_L_congruent wi_L ⟨rfl, rfl⟩ (by decide +kernel) ⟨(Nat.le_of_ble_eq_true rfl), (Nat.le_of_ble_eq_true rfl)⟩ (Nat.le_of_ble_eq_true rfl) hcz rfl (h_L_congruent hr1 hm1 hm2 hc0 (by omega) (by omega) hdk (fun z X1 Y0 d1 g1 o1 => ?_) (fun z X1 Y0 d1 g1 o1 => ?_))
        · refine px_istore (q := 1024) dI_L_law_1022 (by decide) rfl rfl ?_
          refine px_aload_n (q := 1025) dI_L_law_1024 rfl rfl ?_
          refine px_aload_n (q := 1026) dI_L_law_1025 rfl rfl ?_
          refine px_iload (q := 1028) dI_L_law_1026 rfl rfl ?_
          refine px_iconst (q := 1029) (v := nI 1) dI_L_law_1028 (by decide +kernel) rfl ?_
          refine px_iaddN (q := 1030) dI_L_law_1029 rfl ?_
          refine px_ldX (q := 1031) hX hL dI_L_law_1030 (by omega) e1 rfl ?_
          refine px_aload_n (q := 1032) dI_L_law_1031 rfl rfl ?_
          refine px_iload (q := 1034) dI_L_law_1032 rfl rfl ?_
          refine px_iconst (q := 1035) (v := nI 2) dI_L_law_1034 (by decide +kernel) rfl ?_
          refine px_iaddN (q := 1036) dI_L_law_1035 rfl ?_
          refine px_ldX (q := 1037) hX hL dI_L_law_1036 (by omega) e2 rfl ?_
          refine px_aload_n (q := 1038) dI_L_law_1037 rfl rfl ?_
          refine px_iload (q := 1040) dI_L_law_1038 rfl rfl ?_
          refine px_iconst (q := 1041) (v := nI 3) dI_L_law_1040 (by decide +kernel) rfl ?_
          refine px_iaddN (q := 1042) dI_L_law_1041 rfl ?_
          refine px_ldX (q := 1043) hX hL dI_L_law_1042 (by omega) e3 rfl ?_
          refine px_callV3 (q := 1046) (ν := mM_congruent) dI_L_law_1043 (by decide) rfl rfl wl_L_137 wm_M_congruent wv_M_congruent wb_M_congruent wi_M ⟨rfl, rfl⟩ (by decide +kernel) ⟨(Nat.le_of_ble_eq_true rfl), (Nat.le_of_ble_eq_true rfl)⟩ (Nat.le_of_ble_eq_true rfl) rfl (c_M_congruent hr1 hm1 hm2 hc0 (mz_fq hm g1) (fun q => absurd q hv) (fun _ _ _ Y1 m1 f1 c1 => ?_) (fun _ _ q => absurd z q))
          exact lt_congruent (c := 0) (by decide) c1 1 (by decide) (fun _ => o1) (kx _ _ _ d1 m1)
        · refine px_istore (q := 1024) dI_L_law_1022 (by decide) rfl rfl ?_
          refine px_aload_n (q := 1025) dI_L_law_1024 rfl rfl ?_
          refine px_aload_n (q := 1026) dI_L_law_1025 rfl rfl ?_
          refine px_iload (q := 1028) dI_L_law_1026 rfl rfl ?_
          refine px_iconst (q := 1029) (v := nI 1) dI_L_law_1028 (by decide +kernel) rfl ?_
          refine px_iaddN (q := 1030) dI_L_law_1029 rfl ?_
          refine px_ldX (q := 1031) hX hL dI_L_law_1030 (by omega) e1 rfl ?_
          refine px_aload_n (q := 1032) dI_L_law_1031 rfl rfl ?_
          refine px_iload (q := 1034) dI_L_law_1032 rfl rfl ?_
          refine px_iconst (q := 1035) (v := nI 2) dI_L_law_1034 (by decide +kernel) rfl ?_
          refine px_iaddN (q := 1036) dI_L_law_1035 rfl ?_
          refine px_ldX (q := 1037) hX hL dI_L_law_1036 (by omega) e2 rfl ?_
          refine px_aload_n (q := 1038) dI_L_law_1037 rfl rfl ?_
          refine px_iload (q := 1040) dI_L_law_1038 rfl rfl ?_
          refine px_iconst (q := 1041) (v := nI 3) dI_L_law_1040 (by decide +kernel) rfl ?_
          refine px_iaddN (q := 1042) dI_L_law_1041 rfl ?_
          refine px_ldX (q := 1043) hX hL dI_L_law_1042 (by omega) e3 rfl ?_
          refine px_callV3 (q := 1046) (ν := mM_congruent) dI_L_law_1043 (by decide) rfl rfl wl_L_137 wm_M_congruent wv_M_congruent wb_M_congruent wi_M ⟨rfl, rfl⟩ (by decide +kernel) ⟨(Nat.le_of_ble_eq_true rfl), (Nat.le_of_ble_eq_true rfl)⟩ (Nat.le_of_ble_eq_true rfl) rfl (c_M_congruent hr1 hm1 hm2 hc0 (mz_fq hm g1) (fun q => absurd q hv) (fun _ _ q => absurd q z) (fun _ _ _ Y1 m1 f1 c1 => ?_))
          exact lt_congruent (c := 0) (by decide) c1 0 (by decide) (fun _ => o1) (kx _ _ _ d1 m1)
theorem ls_prime {x1 x2 x3 x4 : Int32} (hX : xX_ g L xs) (hL : L ≤ 2560) (hE : xE_ g) (hT : xT_ g) (hC4 : xC_ g) (hS0 : l.stackTraces = false) (hi : i + 4 < L) (e1 : xs (i + 1) = x1) (e2 : xs (i + 2) = x2) (e3 : xs (i + 3) = x3) (e4 : xs (i + 4) = x4) (hcz : C + 1 ≤ room_1.cells ∧ S + 6 ≤ room_1.slots) (hdk : dk_ X v) (hm : mz_ Y v) (kx : ∀ X' Y' v', dk_ X' v' → mz_ Y' v' → pw_W l g μL_ sz (C + 1, S + 6, F) 1149 [(0, .ref (ad_ g 29)), (1, .ref (ad_ g 0)), (2, .ref (ad_ g 23)), (3, .ref (ad_ g 27)), (4, .int (nI i))] [] X' Y') : pw_W l g μL_ sz (C, S, F) 1086 [(0, .ref (ad_ g 29)), (1, .ref (ad_ g 0)), (2, .ref (ad_ g 23)), (3, .ref (ad_ g 27)), (4, .int (nI i))] [] X Y := by
  by_cases hb : bd_ x1
  · refine px_aload_n (q := 1087) dI_L_law_1086 rfl rfl ?_
    refine px_aload_n (q := 1088) dI_L_law_1087 rfl rfl ?_
    refine px_iload (q := 1090) dI_L_law_1088 rfl rfl ?_
    refine px_iconst (q := 1091) (v := nI 1) dI_L_law_1090 (by decide +kernel) rfl ?_
    refine px_iaddN (q := 1092) dI_L_law_1091 rfl ?_
    refine px_ldX (q := 1093) hX hL dI_L_law_1092 (by omega) e1 rfl ?_
    refine px_aload_n (q := 1094) dI_L_law_1093 rfl rfl ?_
    refine px_callSH3 (q := 1097) (hh := hh_prime) (ν := tL_prime) dI_L_law_1094 wl_L_138 ws_L_prime wb_L_prime wi_L ⟨rfl, rfl⟩ (by decide +kernel) ⟨(Nat.le_of_ble_eq_true rfl), (Nat.le_of_ble_eq_true rfl)⟩ (Nat.le_of_ble_eq_true rfl) hcz rfl (h_L_prime_bad hT hC4 hS0 hb ?_)
    refine px_istore (q := 1099) dI_L_law_1097 (by decide) rfl rfl ?_
    refine px_aload_n (q := 1100) dI_L_law_1099 rfl rfl ?_
    refine px_aload_n (q := 1101) dI_L_law_1100 rfl rfl ?_
    refine px_iload (q := 1103) dI_L_law_1101 rfl rfl ?_
    refine px_iconst (q := 1104) (v := nI 1) dI_L_law_1103 (by decide +kernel) rfl ?_
    refine px_iaddN (q := 1105) dI_L_law_1104 rfl ?_
    refine px_ldX (q := 1106) hX hL dI_L_law_1105 (by omega) e1 rfl ?_
    refine px_callV1 (q := 1109) (ν := mM_prime) dI_L_law_1106 (by decide) rfl rfl wl_L_140 wm_M_prime wv_M_prime wb_M_prime wi_M ⟨rfl, rfl⟩ (by decide +kernel) ⟨(Nat.le_of_ble_eq_true rfl), (Nat.le_of_ble_eq_true rfl)⟩ (Nat.le_of_ble_eq_true rfl) rfl (c_M_prime_bad hb hm (fun Y1 m1 f1 c1 => ?_))
    exact lt_prime (c := 1) (by decide) c1 0 (by decide) (fun z => absurd z (by decide)) (kx _ _ _ hdk m1)
  · obtain ⟨r1, hr1, rfl⟩ := Decidable.not_not.mp hb
    by_cases hv : v r1 ≤ 511
    · refine px_aload_n (q := 1087) dI_L_law_1086 rfl rfl ?_
      refine px_aload_n (q := 1088) dI_L_law_1087 rfl rfl ?_
      refine px_iload (q := 1090) dI_L_law_1088 rfl rfl ?_
      refine px_iconst (q := 1091) (v := nI 1) dI_L_law_1090 (by decide +kernel) rfl ?_
      refine px_iaddN (q := 1092) dI_L_law_1091 rfl ?_
      refine px_ldX (q := 1093) hX hL dI_L_law_1092 (by omega) e1 rfl ?_
      refine px_aload_n (q := 1094) dI_L_law_1093 rfl rfl ?_
      refine px_callSH3 (q := 1097) (hh := hh_prime) (ν := tL_prime) dI_L_law_1094 wl_L_138 ws_L_prime wb_L_prime wi_L ⟨rfl, rfl⟩ (by decide +kernel) ⟨(Nat.le_of_ble_eq_true rfl), (Nat.le_of_ble_eq_true rfl)⟩ (Nat.le_of_ble_eq_true rfl) hcz rfl (h_L_prime hr1 hv hdk (fun z X1 Y0 d1 g1 o1 => ?_) (fun z X1 Y0 d1 g1 o1 => ?_))
      · refine px_istore (q := 1099) dI_L_law_1097 (by decide) rfl rfl ?_
        refine px_aload_n (q := 1100) dI_L_law_1099 rfl rfl ?_
        refine px_aload_n (q := 1101) dI_L_law_1100 rfl rfl ?_
        refine px_iload (q := 1103) dI_L_law_1101 rfl rfl ?_
        refine px_iconst (q := 1104) (v := nI 1) dI_L_law_1103 (by decide +kernel) rfl ?_
        refine px_iaddN (q := 1105) dI_L_law_1104 rfl ?_
        refine px_ldX (q := 1106) hX hL dI_L_law_1105 (by omega) e1 rfl ?_
        refine px_callV1 (q := 1109) (ν := mM_prime) dI_L_law_1106 (by decide) rfl rfl wl_L_140 wm_M_prime wv_M_prime wb_M_prime wi_M ⟨rfl, rfl⟩ (by decide +kernel) ⟨(Nat.le_of_ble_eq_true rfl), (Nat.le_of_ble_eq_true rfl)⟩ (Nat.le_of_ble_eq_true rfl) rfl (c_M_prime hr1 (mz_fq hm g1) (fun q => absurd q (by omega)) (fun _ _ _ Y1 m1 f1 c1 => ?_) (fun _ q => absurd q (pr_1 z.1 z.2)))
        exact lt_prime (c := 0) (by decide) c1 1 (by decide) (fun _ => o1) (kx _ _ _ d1 m1)
      · refine px_istore (q := 1099) dI_L_law_1097 (by decide) rfl rfl ?_
        refine px_aload_n (q := 1100) dI_L_law_1099 rfl rfl ?_
        refine px_aload_n (q := 1101) dI_L_law_1100 rfl rfl ?_
        refine px_iload (q := 1103) dI_L_law_1101 rfl rfl ?_
        refine px_iconst (q := 1104) (v := nI 1) dI_L_law_1103 (by decide +kernel) rfl ?_
        refine px_iaddN (q := 1105) dI_L_law_1104 rfl ?_
        refine px_ldX (q := 1106) hX hL dI_L_law_1105 (by omega) e1 rfl ?_
        refine px_callV1 (q := 1109) (ν := mM_prime) dI_L_law_1106 (by decide) rfl rfl wl_L_140 wm_M_prime wv_M_prime wb_M_prime wi_M ⟨rfl, rfl⟩ (by decide +kernel) ⟨(Nat.le_of_ble_eq_true rfl), (Nat.le_of_ble_eq_true rfl)⟩ (Nat.le_of_ble_eq_true rfl) rfl (c_M_prime hr1 (mz_fq hm g1) (fun q => absurd q (by omega)) (fun _ q1 q2 => absurd ⟨q1, q2⟩ (pr_0 z)) (fun _ _ Y1 m1 f1 c1 => ?_))
        exact lt_prime (c := 0) (by decide) c1 0 (by decide) (fun _ => o1) (kx _ _ _ d1 m1)
    · refine px_aload_n (q := 1087) dI_L_law_1086 rfl rfl ?_
      refine px_aload_n (q := 1088) dI_L_law_1087 rfl rfl ?_
      refine px_iload (q := 1090) dI_L_law_1088 rfl rfl ?_
      refine px_iconst (q := 1091) (v := nI 1) dI_L_law_1090 (by decide +kernel) rfl ?_
      refine px_iaddN (q := 1092) dI_L_law_1091 rfl ?_
      refine px_ldX (q := 1093) hX hL dI_L_law_1092 (by omega) e1 rfl ?_
      refine px_aload_n (q := 1094) dI_L_law_1093 rfl rfl ?_
      refine px_callSH3 (q := 1097) (hh := hh_prime) (ν := tL_prime) dI_L_law_1094 wl_L_138 ws_L_prime wb_L_prime wi_L ⟨rfl, rfl⟩ (by decide +kernel) ⟨(Nat.le_of_ble_eq_true rfl), (Nat.le_of_ble_eq_true rfl)⟩ (Nat.le_of_ble_eq_true rfl) hcz rfl (h_L_prime_n hT hC4 hS0 hr1 (by omega) hdk ?_)
      refine px_istore (q := 1099) dI_L_law_1097 (by decide) rfl rfl ?_
      refine px_aload_n (q := 1100) dI_L_law_1099 rfl rfl ?_
      refine px_aload_n (q := 1101) dI_L_law_1100 rfl rfl ?_
      refine px_iload (q := 1103) dI_L_law_1101 rfl rfl ?_
      refine px_iconst (q := 1104) (v := nI 1) dI_L_law_1103 (by decide +kernel) rfl ?_
      refine px_iaddN (q := 1105) dI_L_law_1104 rfl ?_
      refine px_ldX (q := 1106) hX hL dI_L_law_1105 (by omega) e1 rfl ?_
      refine px_callV1 (q := 1109) (ν := mM_prime) dI_L_law_1106 (by decide) rfl rfl wl_L_140 wm_M_prime wv_M_prime wb_M_prime wi_M ⟨rfl, rfl⟩ (by decide +kernel) ⟨(Nat.le_of_ble_eq_true rfl), (Nat.le_of_ble_eq_true rfl)⟩ (Nat.le_of_ble_eq_true rfl) rfl (c_M_prime hr1 hm (fun _ Y1 m1 f1 c1 => ?_) (fun q => absurd q hv) (fun q => absurd q hv))
      exact lt_prime (c := 2) (by decide) c1 0 (by decide) (fun z => absurd z (by decide)) (kx _ _ _ hdk m1)
end LS
