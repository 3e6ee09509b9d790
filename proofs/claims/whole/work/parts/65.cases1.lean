theorem k_order {x x' : Bk} {a b v : Int} {k o : Int} (h : S_order x a b v k o x') : 0 ≤ k ∧ k ≤ 3 := by
  unfold S_order at h
  rcases h with ⟨rfl, -⟩ | ⟨rfl, -⟩ | ⟨rfl, -⟩ <;> omega
theorem k_joined {x x' : Bk} {a b v : Int} {k o : Int} (h : S_joined x a b v k o x') : 0 ≤ k ∧ k ≤ 3 := by
  unfold S_joined at h
  rcases h with ⟨rfl, -⟩ | ⟨rfl, -⟩ | ⟨rfl, -⟩ <;> omega
theorem k_saving {x x' : Bk} {a b : Int} {k o : Int} (h : S_saving x a b k o x') : 0 ≤ k ∧ k ≤ 3 := by
  unfold S_saving at h
  rcases h with ⟨rfl, -⟩ | ⟨rfl, -⟩ | ⟨rfl, -⟩ <;> omega
theorem k_rule {x x' : Bk} {a b v : Int} {k o : Int} (h : S_rule x a b v k o x') : 0 ≤ k ∧ k ≤ 3 := by
  unfold S_rule at h
  rcases h with ⟨rfl, -⟩ | ⟨rfl, -⟩ | ⟨rfl, -⟩ <;> omega
theorem k_weight {x x' : Bk} {a v : Int} {k o : Int} (h : S_weight x a v k o x') : 0 ≤ k ∧ k ≤ 3 := by
  unfold S_weight at h
  rcases h with ⟨rfl, -⟩ | ⟨rfl, -⟩ | ⟨rfl, -⟩ | ⟨rfl, -⟩ <;> omega
theorem k_near {x x' : Bk} {a b v : Int} {k o : Int} (h : S_near x a b v k o x') : 0 ≤ k ∧ k ≤ 3 := by
  unfold S_near at h
  rcases h with ⟨rfl, -⟩ | ⟨rfl, -⟩ <;> omega
theorem k_limit {x x' : Bk} {a b : Int} {k o : Int} (h : S_limit x a b k o x') : 0 ≤ k ∧ k ≤ 3 := by
  unfold S_limit at h
  rcases h with ⟨rfl, -⟩ | ⟨rfl, -⟩ <;> omega
theorem k_match {x x' : Bk} {v : Int} {k o : Int} (h : S_match x v k o x') : 0 ≤ k ∧ k ≤ 3 := by
  unfold S_match at h
  rcases h with ⟨rfl, -⟩ | ⟨rfl, -⟩ <;> omega
theorem k_with {x x' : Bk} {a : Int} {k o : Int} (h : S_with x a k o x') : 0 ≤ k ∧ k ≤ 3 := by
  unfold S_with at h
  rcases h with ⟨rfl, -⟩ | ⟨rfl, -⟩ <;> omega
theorem k_open {x x' : Bk} {a : Int} {k o : Int} (h : S_open x a k o x') : 0 ≤ k ∧ k ≤ 3 := by
  unfold S_open at h
  rcases h with ⟨rfl, -⟩ | ⟨rfl, -⟩ | ⟨rfl, -⟩ | ⟨rfl, -⟩ <;> omega
theorem k_join {x x' : Bk} {a b : Int} {k o : Int} (h : S_join x a b k o x') : 0 ≤ k ∧ k ≤ 3 := by
  unfold S_join at h
  rcases h with ⟨rfl, -⟩ | ⟨rfl, -⟩ | ⟨rfl, -⟩ | ⟨rfl, -⟩ <;> omega
theorem k_leave {x x' : Bk} {a : Int} {k o : Int} (h : S_leave x a k o x') : 0 ≤ k ∧ k ≤ 3 := by
  unfold S_leave at h
  rcases h with ⟨rfl, -⟩ | ⟨rfl, -⟩ | ⟨rfl, -⟩ <;> omega
theorem k_batch {x x' : Bk} {a : Int} {k o : Int} (h : S_batch x a k o x') : 0 ≤ k ∧ k ≤ 3 := by
  unfold S_batch at h
  rcases h with ⟨rfl, -⟩ | ⟨rfl, -⟩ <;> omega
theorem k_told {x x' : Bk} {b a v : Int} {k o : Int} (h : S_told x b a v k o x') : 0 ≤ k ∧ k ≤ 3 := by
  unfold S_told at h
  rcases h with ⟨rfl, -⟩ | ⟨rfl, -⟩ | ⟨rfl, -⟩ <;> omega
theorem k_best {x x' : Bk} {a : Int} {k o : Int} (h : S_best x a k o x') : 0 ≤ k ∧ k ≤ 3 := by
  unfold S_best at h
  rcases h with ⟨rfl, -⟩ | ⟨rfl, -⟩ | ⟨rfl, -⟩ <;> omega
theorem k_share {x x' : Bk} {a b : Int} {k o : Int} (h : S_share x a b k o x') : 0 ≤ k ∧ k ≤ 3 := by
  unfold S_share at h
  rcases h with ⟨rfl, -⟩ | ⟨rfl, -⟩ | ⟨rfl, -⟩ <;> omega
theorem k_mean {x x' : Bk} {k o : Int} (h : S_mean x k o x') : 0 ≤ k ∧ k ≤ 3 := by
  unfold S_mean at h
  rcases h with ⟨rfl, -⟩ | ⟨rfl, -⟩ <;> omega
theorem o_rule {x x' : Bk} {a b v : Int} {k o : Int} (h : S_rule x a b v k o x') (hk : k = 0) : o = 0 ∨ o = 1 := by
  unfold S_rule at h
  rcases h with ⟨e, -⟩ | ⟨e, -⟩ | ⟨-, -, rfl, -⟩
  · omega
  · omega
  · by_cases q : okP (rulX x a b v) a b
    · exact Or.inr (c01_t q)
    · exact Or.inl (c01_f q)
theorem o_weight {x x' : Bk} {a v : Int} {k o : Int} (h : S_weight x a v k o x') (hk : k = 0) : o = 0 ∨ o = 1 := by
  unfold S_weight at h
  rcases h with ⟨e, -⟩ | ⟨e, -⟩ | ⟨e, -⟩ | ⟨-, -, ⟨-, e, -⟩ | ⟨-, e, -⟩⟩ <;> omega
set_option maxRecDepth 100000 in
set_option maxHeartbeats 4000000 in
theorem lw_order {p : Program} {l : Launch} {e : Env} {s : State} {m : MethodId} {args : Array Value} {below : List Frame} {meth : Method} {c : Code} {D : va_G} {cI cZ cJ : ClassId} {base : Nat} {ad md : Nat → Nat} {A : Nat → Prop} {Q : State → Prop} {b L qo : Nat} {xs : Nat → Int32} {cells slots : Nat} (C : gC p s m args meth c D cls9 (tyl cI cZ cJ) A code 7 "BatchSavingsLaw" lw_tbl base (zz base)) (hX : va_X b L xs s s.heap) (hbl : b < s.heap.size) (hbA : ¬ A b) (hl : l.stackTraces = false) (hL : L ≤ 2048) (hcs : cells + 1 ≤ 1071 ∧ slots + 6 ≤ 11127) (x y : Bk) (jf : Nat → Int64) (j : Nat) (hj4 : 4 * j + 4 ≤ L) (hI : I2 x y)
    (K : ∀ (x' y' : Bk) (jf' : Nat → Int64), I2 x' y' → gW p l e room_1 s m args below meth c D cls9 A 7 (cells + 1) (slots + 6) Q (lbw ad md cI cZ cJ qo jf' x' y') [(0, .ref b), (1, .ref (ad 0)), (2, .ref (md 0)), (3, .ref qo), (4, .int (iI (4 * (j : Int))))] 1312 []) : gW p l e room_1 s m args below meth c D cls9 A 7 cells slots Q (lbw ad md cI cZ cJ qo jf x y) [(0, .ref b), (1, .ref (ad 0)), (2, .ref (md 0)), (3, .ref qo), (4, .int (iI (4 * (j : Int))))] 128 [] := by
  refine g_aload_n C (q := 1) d_law_128 rfl rfl ?_
  refine g_aload_n C (q := 0) d_law_129 rfl rfl ?_
  refine g_iload C (q := 4) d_law_130 rfl ?_
  refine g_iconst C d_law_132 ?_
  refine g_iadd C d_law_133 ?_
  refine g_sld C hX hbl hbA (n := 4 * j + 1) (by omega) (by omega) hL d_law_134 ?_
  refine g_aload_n C (q := 0) d_law_135 rfl rfl ?_
  refine g_iload C (q := 4) d_law_136 rfl ?_
  refine g_iconst C d_law_138 ?_
  refine g_iadd C d_law_139 ?_
  refine g_sld C hX hbl hbA (n := 4 * j + 2) (by omega) (by omega) hL d_law_140 ?_
  refine g_aload_n C (q := 0) d_law_141 rfl rfl ?_
  refine g_iload C (q := 4) d_law_142 rfl ?_
  refine g_iconst C d_law_144 ?_
  refine g_iadd C d_law_145 ?_
  refine g_sld C hX hbl hbA (n := 4 * j + 3) (by omega) (by omega) hL d_law_146 ?_
  refine g_aload_n C (q := 3) d_law_147 rfl rfl ?_
  refine gSWF C lw_in (st := []) (wr := mw md cI cZ y) (m_L_order hl x qo jf ((xs (4 * j + 1)).toInt) ((xs (4 * j + 2)).toInt) ((xs (4 * j + 3)).toInt) (InR_x (xs (4 * j + 1))) (InR_x (xs (4 * j + 2))) (InR_x (xs (4 * j + 3))) hI.1.ok) i020 i2033 lbw_c lbw_c1 lbw_r rfl rfl (by decide) k_193 k_191 k_192 k_0 ho_L_order rfl rfl ⟨by decide, by decide⟩ rfl rfl (Nat.le_of_ble_eq_true rfl) d_law_148 ⟨hcs.1, hcs.2⟩ (fun r w hq => ?_)
  obtain ⟨k, o, x', jf', rfl, rfl, hj, hc⟩ := hq
  have hk3 := k_order hc
  refine g_eq (ws' := (lbm ad md cI cZ cJ qo jf' x' y)) (lv' := [(0, .ref b), (1, .ref (ad 0)), (2, .ref (md 0)), (3, .ref qo), (4, .int (iI (4 * (j : Int))))]) (pc' := 151) (st' := [.int (iI k)]) rfl rfl rfl rfl ?_
  refine g_istore C (lv' := [(0, .ref b), (1, .ref (ad 0)), (2, .ref (md 0)), (3, .ref qo), (4, .int (iI (4 * (j : Int)))), (5, .int (iI k))]) d_law_151 (by decide) rfl rfl ?_
  refine g_aload_n C (q := 2) d_law_153 rfl rfl ?_
  refine g_aload_n C (q := 0) d_law_154 rfl rfl ?_
  refine g_iload C (q := 4) d_law_155 rfl ?_
  refine g_iconst C d_law_157 ?_
  refine g_iadd C d_law_158 ?_
  refine g_sld C hX hbl hbA (n := 4 * j + 1) (by omega) (by omega) hL d_law_159 ?_
  refine g_aload_n C (q := 0) d_law_160 rfl rfl ?_
  refine g_iload C (q := 4) d_law_161 rfl ?_
  refine g_iconst C d_law_163 ?_
  refine g_iadd C d_law_164 ?_
  refine g_sld C hX hbl hbA (n := 4 * j + 2) (by omega) (by omega) hL d_law_165 ?_
  refine g_aload_n C (q := 0) d_law_166 rfl rfl ?_
  refine g_iload C (q := 4) d_law_167 rfl ?_
  refine g_iconst C d_law_169 ?_
  refine g_iadd C d_law_170 ?_
  refine g_sld C hX hbl hbA (n := 4 * j + 3) (by omega) (by omega) hL d_law_171 ?_
  refine gVF C lw_in (st := []) (wr := lwd ad cI cZ cJ qo jf' x') (m_Tw_order y ((xs (4 * j + 1)).toInt) ((xs (4 * j + 2)).toInt) ((xs (4 * j + 3)).toInt) (InR_x (xs (4 * j + 1))) (InR_x (xs (4 * j + 2))) (InR_x (xs (4 * j + 3))) hI.oky) i013 i1333 lbm_c lbm_c1 lbm_r rfl rfl (by decide) k_710 k_707 k_708 k_709 k_7 rfl ho_Tw_order rfl rfl ⟨by decide, by decide⟩ 0 (lbm_0.trans (mwo_0 _)) rfl rfl rfl (Nat.le_of_ble_eq_true rfl) d_law_172 ⟨hcs.1, hcs.2⟩ (fun r w hq => ?_)
  obtain ⟨z, rfl, hm⟩ := hq
  obtain ⟨e1, e2, ⟨u, rfl⟩, e3⟩ := P_order hI hc hm
  clear hm
  refine g_eq (ws' := (lbw ad md cI cZ cJ qo jf' x' z)) (lv' := [(0, .ref b), (1, .ref (ad 0)), (2, .ref (md 0)), (3, .ref qo), (4, .int (iI (4 * (j : Int)))), (5, .int (iI k))]) (pc' := 175) (st' := [.int (iI u)]) rfl rfl rfl rfl ?_
  refine g_widen (k := cells + 1) (n := slots + 6) (by omega) (by omega) ?_
  refine g_istore C (lv' := [(0, .ref b), (1, .ref (ad 0)), (2, .ref (md 0)), (3, .ref qo), (4, .int (iI (4 * (j : Int)))), (5, .int (iI k)), (6, .int (iI u))]) d_law_175 (by decide) rfl rfl ?_
  refine g_aload_n C (q := 2) d_law_177 rfl rfl ?_
  refine gVF C lw_in (st := []) (wr := lwd ad cI cZ cJ qo jf' x') (m_Tw_thrown z) i2033 i020 lbw_d lbw_d1 lbw_e rfl rfl (by decide) k_706 k_703 k_704 k_705 k_7 rfl ho_Tw_thrown rfl rfl ⟨by decide, by decide⟩ 20 (lbw_20.trans (mwo_0 _)) rfl rfl rfl (Nat.le_of_ble_eq_true rfl) d_law_178 ⟨hcs.1, hcs.2⟩ (fun r w hq => ?_)
  obtain ⟨rfl, rfl⟩ := hq
  refine g_eq (ws' := (lbw ad md cI cZ cJ qo jf' x' z)) (lv' := [(0, .ref b), (1, .ref (ad 0)), (2, .ref (md 0)), (3, .ref qo), (4, .int (iI (4 * (j : Int)))), (5, .int (iI k)), (6, .int (iI u))]) (pc' := 181) (st' := [.int (iI k)]) rfl rfl rfl (by rw [← e1] <;> rfl) ?_
  refine g_widen (k := cells + 1) (n := slots + 6) (by omega) (by omega) ?_
  refine g_iload C (q := 5) d_law_181 rfl ?_
  refine g_same C (tgt := 188) d_law_183 rfl ?_
  refine g_iload C (q := 5) d_law_188 rfl ?_
  refine g_if_ne C (tgt := 205) d_law_190 rfl (by omega) (fun h190_2 => ?_) (fun h190_2 => ?_)
  · refine g_goto C (tgt := 1312) d_law_205 rfl ?_
    refine g_lv (lv' := [(0, .ref b), (1, .ref (ad 0)), (2, .ref (md 0)), (3, .ref qo), (4, .int (iI (4 * (j : Int))))]) [0, 1, 2, 3, 4] rfl ?_
    exact K _ _ _ e3
  · refine g_aload_n C (q := 3) d_law_193 rfl rfl ?_
    refine g_iconst C d_law_194 ?_
    refine g_lald C 0 2 lbw_0 rfl (by decide) (by decide) d_law_195 ?_
    have hu : u = o := Option.some.inj (e2 h190_2)
    refine g_long (z := (iI u).toInt64) ((hj h190_2).trans (by rw [hu])) ?_
    refine g_iload C (q := 6) d_law_196 rfl ?_
    refine g_i2l C d_law_198 ?_
    refine g_lcmp0 C d_law_199 ?_
    refine g_if_eq C (tgt := 205) d_law_200 rfl (by omega) (fun h200_3 => ?_) (fun h200_3 => ?_)
    · refine g_goto C (tgt := 1312) d_law_205 rfl ?_
      refine g_lv (lv' := [(0, .ref b), (1, .ref (ad 0)), (2, .ref (md 0)), (3, .ref qo), (4, .int (iI (4 * (j : Int))))]) [0, 1, 2, 3, 4] rfl ?_
      exact K _ _ _ e3
    · exfalso
      omega
set_option maxRecDepth 100000 in
set_option maxHeartbeats 4000000 in
theorem lw_joined {p : Program} {l : Launch} {e : Env} {s : State} {m : MethodId} {args : Array Value} {below : List Frame} {meth : Method} {c : Code} {D : va_G} {cI cZ cJ : ClassId} {base : Nat} {ad md : Nat → Nat} {A : Nat → Prop} {Q : State → Prop} {b L qo : Nat} {xs : Nat → Int32} {cells slots : Nat} (C : gC p s m args meth c D cls9 (tyl cI cZ cJ) A code 7 "BatchSavingsLaw" lw_tbl base (zz base)) (hX : va_X b L xs s s.heap) (hbl : b < s.heap.size) (hbA : ¬ A b) (hl : l.stackTraces = false) (hL : L ≤ 2048) (hcs : cells + 1 ≤ 1071 ∧ slots + 6 ≤ 11127) (x y : Bk) (jf : Nat → Int64) (j : Nat) (hj4 : 4 * j + 4 ≤ L) (hI : I2 x y)
    (K : ∀ (x' y' : Bk) (jf' : Nat → Int64), I2 x' y' → gW p l e room_1 s m args below meth c D cls9 A 7 (cells + 1) (slots + 6) Q (lbw ad md cI cZ cJ qo jf' x' y') [(0, .ref b), (1, .ref (ad 0)), (2, .ref (md 0)), (3, .ref qo), (4, .int (iI (4 * (j : Int))))] 1312 []) : gW p l e room_1 s m args below meth c D cls9 A 7 cells slots Q (lbw ad md cI cZ cJ qo jf x y) [(0, .ref b), (1, .ref (ad 0)), (2, .ref (md 0)), (3, .ref qo), (4, .int (iI (4 * (j : Int))))] 208 [] := by
  refine g_aload_n C (q := 1) d_law_208 rfl rfl ?_
  refine g_aload_n C (q := 0) d_law_209 rfl rfl ?_
  refine g_iload C (q := 4) d_law_210 rfl ?_
  refine g_iconst C d_law_212 ?_
  refine g_iadd C d_law_213 ?_
  refine g_sld C hX hbl hbA (n := 4 * j + 1) (by omega) (by omega) hL d_law_214 ?_
  refine g_aload_n C (q := 0) d_law_215 rfl rfl ?_
  refine g_iload C (q := 4) d_law_216 rfl ?_
  refine g_iconst C d_law_218 ?_
  refine g_iadd C d_law_219 ?_
  refine g_sld C hX hbl hbA (n := 4 * j + 2) (by omega) (by omega) hL d_law_220 ?_
  refine g_aload_n C (q := 0) d_law_221 rfl rfl ?_
  refine g_iload C (q := 4) d_law_222 rfl ?_
  refine g_iconst C d_law_224 ?_
  refine g_iadd C d_law_225 ?_
  refine g_sld C hX hbl hbA (n := 4 * j + 3) (by omega) (by omega) hL d_law_226 ?_
  refine g_aload_n C (q := 3) d_law_227 rfl rfl ?_
  refine gSWF C lw_in (st := []) (wr := mw md cI cZ y) (m_L_joined hl x qo jf ((xs (4 * j + 1)).toInt) ((xs (4 * j + 2)).toInt) ((xs (4 * j + 3)).toInt) (InR_x (xs (4 * j + 1))) (InR_x (xs (4 * j + 2))) (InR_x (xs (4 * j + 3))) hI.1.ok) i020 i2033 lbw_c lbw_c1 lbw_r rfl rfl (by decide) k_295 k_293 k_294 k_0 ho_L_joined rfl rfl ⟨by decide, by decide⟩ rfl rfl (Nat.le_of_ble_eq_true rfl) d_law_228 ⟨hcs.1, hcs.2⟩ (fun r w hq => ?_)
  obtain ⟨k, o, x', jf', rfl, rfl, hj, hc⟩ := hq
  have hk3 := k_joined hc
  refine g_eq (ws' := (lbm ad md cI cZ cJ qo jf' x' y)) (lv' := [(0, .ref b), (1, .ref (ad 0)), (2, .ref (md 0)), (3, .ref qo), (4, .int (iI (4 * (j : Int))))]) (pc' := 231) (st' := [.int (iI k)]) rfl rfl rfl rfl ?_
  refine g_istore C (lv' := [(0, .ref b), (1, .ref (ad 0)), (2, .ref (md 0)), (3, .ref qo), (4, .int (iI (4 * (j : Int)))), (5, .int (iI k))]) d_law_231 (by decide) rfl rfl ?_
  refine g_aload_n C (q := 2) d_law_233 rfl rfl ?_
  refine g_aload_n C (q := 0) d_law_234 rfl rfl ?_
  refine g_iload C (q := 4) d_law_235 rfl ?_
  refine g_iconst C d_law_237 ?_
  refine g_iadd C d_law_238 ?_
  refine g_sld C hX hbl hbA (n := 4 * j + 1) (by omega) (by omega) hL d_law_239 ?_
  refine g_aload_n C (q := 0) d_law_240 rfl rfl ?_
  refine g_iload C (q := 4) d_law_241 rfl ?_
  refine g_iconst C d_law_243 ?_
  refine g_iadd C d_law_244 ?_
  refine g_sld C hX hbl hbA (n := 4 * j + 2) (by omega) (by omega) hL d_law_245 ?_
  refine g_aload_n C (q := 0) d_law_246 rfl rfl ?_
  refine g_iload C (q := 4) d_law_247 rfl ?_
  refine g_iconst C d_law_249 ?_
  refine g_iadd C d_law_250 ?_
  refine g_sld C hX hbl hbA (n := 4 * j + 3) (by omega) (by omega) hL d_law_251 ?_
  refine gVF C lw_in (st := []) (wr := lwd ad cI cZ cJ qo jf' x') (m_Tw_joined y ((xs (4 * j + 1)).toInt) ((xs (4 * j + 2)).toInt) ((xs (4 * j + 3)).toInt) (InR_x (xs (4 * j + 1))) (InR_x (xs (4 * j + 2))) (InR_x (xs (4 * j + 3))) hI.oky) i013 i1333 lbm_c lbm_c1 lbm_r rfl rfl (by decide) k_717 k_714 k_715 k_716 k_7 rfl ho_Tw_joined rfl rfl ⟨by decide, by decide⟩ 0 (lbm_0.trans (mwo_0 _)) rfl rfl rfl (Nat.le_of_ble_eq_true rfl) d_law_252 ⟨hcs.1, hcs.2⟩ (fun r w hq => ?_)
  obtain ⟨z, rfl, hm⟩ := hq
  obtain ⟨e1, e2, ⟨u, rfl⟩, e3⟩ := P_joined hI hc hm
  clear hm
  refine g_eq (ws' := (lbw ad md cI cZ cJ qo jf' x' z)) (lv' := [(0, .ref b), (1, .ref (ad 0)), (2, .ref (md 0)), (3, .ref qo), (4, .int (iI (4 * (j : Int)))), (5, .int (iI k))]) (pc' := 255) (st' := [.int (iI u)]) rfl rfl rfl rfl ?_
  refine g_widen (k := cells + 1) (n := slots + 6) (by omega) (by omega) ?_
  refine g_istore C (lv' := [(0, .ref b), (1, .ref (ad 0)), (2, .ref (md 0)), (3, .ref qo), (4, .int (iI (4 * (j : Int)))), (5, .int (iI k)), (6, .int (iI u))]) d_law_255 (by decide) rfl rfl ?_
  refine g_aload_n C (q := 2) d_law_257 rfl rfl ?_
  refine gVF C lw_in (st := []) (wr := lwd ad cI cZ cJ qo jf' x') (m_Tw_thrown z) i2033 i020 lbw_d lbw_d1 lbw_e rfl rfl (by decide) k_706 k_703 k_704 k_705 k_7 rfl ho_Tw_thrown rfl rfl ⟨by decide, by decide⟩ 20 (lbw_20.trans (mwo_0 _)) rfl rfl rfl (Nat.le_of_ble_eq_true rfl) d_law_258 ⟨hcs.1, hcs.2⟩ (fun r w hq => ?_)
  obtain ⟨rfl, rfl⟩ := hq
  refine g_eq (ws' := (lbw ad md cI cZ cJ qo jf' x' z)) (lv' := [(0, .ref b), (1, .ref (ad 0)), (2, .ref (md 0)), (3, .ref qo), (4, .int (iI (4 * (j : Int)))), (5, .int (iI k)), (6, .int (iI u))]) (pc' := 261) (st' := [.int (iI k)]) rfl rfl rfl (by rw [← e1] <;> rfl) ?_
  refine g_widen (k := cells + 1) (n := slots + 6) (by omega) (by omega) ?_
  refine g_iload C (q := 5) d_law_261 rfl ?_
  refine g_same C (tgt := 268) d_law_263 rfl ?_
  refine g_iload C (q := 5) d_law_268 rfl ?_
  refine g_if_ne C (tgt := 285) d_law_270 rfl (by omega) (fun h270_2 => ?_) (fun h270_2 => ?_)
  · refine g_goto C (tgt := 1312) d_law_285 rfl ?_
    refine g_lv (lv' := [(0, .ref b), (1, .ref (ad 0)), (2, .ref (md 0)), (3, .ref qo), (4, .int (iI (4 * (j : Int))))]) [0, 1, 2, 3, 4] rfl ?_
    exact K _ _ _ e3
  · refine g_aload_n C (q := 3) d_law_273 rfl rfl ?_
    refine g_iconst C d_law_274 ?_
    refine g_lald C 0 2 lbw_0 rfl (by decide) (by decide) d_law_275 ?_
    have hu : u = o := Option.some.inj (e2 h270_2)
    refine g_long (z := (iI u).toInt64) ((hj h270_2).trans (by rw [hu])) ?_
    refine g_iload C (q := 6) d_law_276 rfl ?_
    refine g_i2l C d_law_278 ?_
    refine g_lcmp0 C d_law_279 ?_
    refine g_if_eq C (tgt := 285) d_law_280 rfl (by omega) (fun h280_3 => ?_) (fun h280_3 => ?_)
    · refine g_goto C (tgt := 1312) d_law_285 rfl ?_
      refine g_lv (lv' := [(0, .ref b), (1, .ref (ad 0)), (2, .ref (md 0)), (3, .ref qo), (4, .int (iI (4 * (j : Int))))]) [0, 1, 2, 3, 4] rfl ?_
      exact K _ _ _ e3
    · exfalso
      omega
set_option maxRecDepth 100000 in
set_option maxHeartbeats 4000000 in
theorem lw_saving {p : Program} {l : Launch} {e : Env} {s : State} {m : MethodId} {args : Array Value} {below : List Frame} {meth : Method} {c : Code} {D : va_G} {cI cZ cJ : ClassId} {base : Nat} {ad md : Nat → Nat} {A : Nat → Prop} {Q : State → Prop} {b L qo : Nat} {xs : Nat → Int32} {cells slots : Nat} (C : gC p s m args meth c D cls9 (tyl cI cZ cJ) A code 7 "BatchSavingsLaw" lw_tbl base (zz base)) (hX : va_X b L xs s s.heap) (hbl : b < s.heap.size) (hbA : ¬ A b) (hl : l.stackTraces = false) (hL : L ≤ 2048) (hcs : cells + 1 ≤ 1071 ∧ slots + 6 ≤ 11127) (x y : Bk) (jf : Nat → Int64) (j : Nat) (hj4 : 4 * j + 4 ≤ L) (hI : I2 x y)
    (K : ∀ (x' y' : Bk) (jf' : Nat → Int64), I2 x' y' → gW p l e room_1 s m args below meth c D cls9 A 7 (cells + 1) (slots + 6) Q (lbw ad md cI cZ cJ qo jf' x' y') [(0, .ref b), (1, .ref (ad 0)), (2, .ref (md 0)), (3, .ref qo), (4, .int (iI (4 * (j : Int))))] 1312 []) : gW p l e room_1 s m args below meth c D cls9 A 7 cells slots Q (lbw ad md cI cZ cJ qo jf x y) [(0, .ref b), (1, .ref (ad 0)), (2, .ref (md 0)), (3, .ref qo), (4, .int (iI (4 * (j : Int))))] 288 [] := by
  refine g_aload_n C (q := 1) d_law_288 rfl rfl ?_
  refine g_aload_n C (q := 0) d_law_289 rfl rfl ?_
  refine g_iload C (q := 4) d_law_290 rfl ?_
  refine g_iconst C d_law_292 ?_
  refine g_iadd C d_law_293 ?_
  refine g_sld C hX hbl hbA (n := 4 * j + 1) (by omega) (by omega) hL d_law_294 ?_
  refine g_aload_n C (q := 0) d_law_295 rfl rfl ?_
  refine g_iload C (q := 4) d_law_296 rfl ?_
  refine g_iconst C d_law_298 ?_
  refine g_iadd C d_law_299 ?_
  refine g_sld C hX hbl hbA (n := 4 * j + 2) (by omega) (by omega) hL d_law_300 ?_
  refine g_aload_n C (q := 3) d_law_301 rfl rfl ?_
  refine gSWF C lw_in (st := []) (wr := mw md cI cZ y) (m_L_saving hl x qo jf ((xs (4 * j + 1)).toInt) ((xs (4 * j + 2)).toInt) (InR_x (xs (4 * j + 1))) (InR_x (xs (4 * j + 2))) hI.1.ok) i020 i2033 lbw_c lbw_c1 lbw_r rfl rfl (by decide) k_340 k_338 k_339 k_0 ho_L_saving rfl rfl ⟨by decide, by decide⟩ rfl rfl (Nat.le_of_ble_eq_true rfl) d_law_302 ⟨hcs.1, hcs.2⟩ (fun r w hq => ?_)
  obtain ⟨k, o, x', jf', rfl, rfl, hj, hc⟩ := hq
  have hk3 := k_saving hc
  refine g_eq (ws' := (lbm ad md cI cZ cJ qo jf' x' y)) (lv' := [(0, .ref b), (1, .ref (ad 0)), (2, .ref (md 0)), (3, .ref qo), (4, .int (iI (4 * (j : Int))))]) (pc' := 305) (st' := [.int (iI k)]) rfl rfl rfl rfl ?_
  refine g_istore C (lv' := [(0, .ref b), (1, .ref (ad 0)), (2, .ref (md 0)), (3, .ref qo), (4, .int (iI (4 * (j : Int)))), (5, .int (iI k))]) d_law_305 (by decide) rfl rfl ?_
  refine g_aload_n C (q := 2) d_law_307 rfl rfl ?_
  refine g_aload_n C (q := 0) d_law_308 rfl rfl ?_
  refine g_iload C (q := 4) d_law_309 rfl ?_
  refine g_iconst C d_law_311 ?_
  refine g_iadd C d_law_312 ?_
  refine g_sld C hX hbl hbA (n := 4 * j + 1) (by omega) (by omega) hL d_law_313 ?_
  refine g_aload_n C (q := 0) d_law_314 rfl rfl ?_
  refine g_iload C (q := 4) d_law_315 rfl ?_
  refine g_iconst C d_law_317 ?_
  refine g_iadd C d_law_318 ?_
  refine g_sld C hX hbl hbA (n := 4 * j + 2) (by omega) (by omega) hL d_law_319 ?_
  refine gVF C lw_in (st := []) (wr := lwd ad cI cZ cJ qo jf' x') (m_Tw_saving y ((xs (4 * j + 1)).toInt) ((xs (4 * j + 2)).toInt) (InR_x (xs (4 * j + 1))) (InR_x (xs (4 * j + 2))) hI.oky) i013 i1333 lbm_c lbm_c1 lbm_r rfl rfl (by decide) k_729 k_726 k_727 k_728 k_7 rfl ho_Tw_saving rfl rfl ⟨by decide, by decide⟩ 0 (lbm_0.trans (mwo_0 _)) rfl rfl rfl (Nat.le_of_ble_eq_true rfl) d_law_320 ⟨hcs.1, hcs.2⟩ (fun r w hq => ?_)
  obtain ⟨z, rfl, hm⟩ := hq
  obtain ⟨e1, e2, ⟨u, rfl⟩, e3⟩ := P_saving hI hc hm
  clear hm
  refine g_eq (ws' := (lbw ad md cI cZ cJ qo jf' x' z)) (lv' := [(0, .ref b), (1, .ref (ad 0)), (2, .ref (md 0)), (3, .ref qo), (4, .int (iI (4 * (j : Int)))), (5, .int (iI k))]) (pc' := 323) (st' := [.int (iI u)]) rfl rfl rfl rfl ?_
  refine g_widen (k := cells + 1) (n := slots + 6) (by omega) (by omega) ?_
  refine g_istore C (lv' := [(0, .ref b), (1, .ref (ad 0)), (2, .ref (md 0)), (3, .ref qo), (4, .int (iI (4 * (j : Int)))), (5, .int (iI k)), (6, .int (iI u))]) d_law_323 (by decide) rfl rfl ?_
  refine g_aload_n C (q := 2) d_law_325 rfl rfl ?_
  refine gVF C lw_in (st := []) (wr := lwd ad cI cZ cJ qo jf' x') (m_Tw_thrown z) i2033 i020 lbw_d lbw_d1 lbw_e rfl rfl (by decide) k_706 k_703 k_704 k_705 k_7 rfl ho_Tw_thrown rfl rfl ⟨by decide, by decide⟩ 20 (lbw_20.trans (mwo_0 _)) rfl rfl rfl (Nat.le_of_ble_eq_true rfl) d_law_326 ⟨hcs.1, hcs.2⟩ (fun r w hq => ?_)
  obtain ⟨rfl, rfl⟩ := hq
  refine g_eq (ws' := (lbw ad md cI cZ cJ qo jf' x' z)) (lv' := [(0, .ref b), (1, .ref (ad 0)), (2, .ref (md 0)), (3, .ref qo), (4, .int (iI (4 * (j : Int)))), (5, .int (iI k)), (6, .int (iI u))]) (pc' := 329) (st' := [.int (iI k)]) rfl rfl rfl (by rw [← e1] <;> rfl) ?_
  refine g_widen (k := cells + 1) (n := slots + 6) (by omega) (by omega) ?_
  refine g_iload C (q := 5) d_law_329 rfl ?_
  refine g_same C (tgt := 336) d_law_331 rfl ?_
  refine g_iload C (q := 5) d_law_336 rfl ?_
  refine g_if_ne C (tgt := 353) d_law_338 rfl (by omega) (fun h338_2 => ?_) (fun h338_2 => ?_)
  · refine g_goto C (tgt := 1312) d_law_353 rfl ?_
    refine g_lv (lv' := [(0, .ref b), (1, .ref (ad 0)), (2, .ref (md 0)), (3, .ref qo), (4, .int (iI (4 * (j : Int))))]) [0, 1, 2, 3, 4] rfl ?_
    exact K _ _ _ e3
  · refine g_aload_n C (q := 3) d_law_341 rfl rfl ?_
    refine g_iconst C d_law_342 ?_
    refine g_lald C 0 2 lbw_0 rfl (by decide) (by decide) d_law_343 ?_
    have hu : u = o := Option.some.inj (e2 h338_2)
    refine g_long (z := (iI u).toInt64) ((hj h338_2).trans (by rw [hu])) ?_
    refine g_iload C (q := 6) d_law_344 rfl ?_
    refine g_i2l C d_law_346 ?_
    refine g_lcmp0 C d_law_347 ?_
    refine g_if_eq C (tgt := 353) d_law_348 rfl (by omega) (fun h348_3 => ?_) (fun h348_3 => ?_)
    · refine g_goto C (tgt := 1312) d_law_353 rfl ?_
      refine g_lv (lv' := [(0, .ref b), (1, .ref (ad 0)), (2, .ref (md 0)), (3, .ref qo), (4, .int (iI (4 * (j : Int))))]) [0, 1, 2, 3, 4] rfl ?_
      exact K _ _ _ e3
    · exfalso
      omega
set_option maxRecDepth 100000 in
set_option maxHeartbeats 4000000 in
theorem lw_rule {p : Program} {l : Launch} {e : Env} {s : State} {m : MethodId} {args : Array Value} {below : List Frame} {meth : Method} {c : Code} {D : va_G} {cI cZ cJ : ClassId} {base : Nat} {ad md : Nat → Nat} {A : Nat → Prop} {Q : State → Prop} {b L qo : Nat} {xs : Nat → Int32} {cells slots : Nat} (C : gC p s m args meth c D cls9 (tyl cI cZ cJ) A code 7 "BatchSavingsLaw" lw_tbl base (zz base)) (hX : va_X b L xs s s.heap) (hbl : b < s.heap.size) (hbA : ¬ A b) (hl : l.stackTraces = false) (hL : L ≤ 2048) (hcs : cells + 1 ≤ 1071 ∧ slots + 6 ≤ 11127) (x y : Bk) (jf : Nat → Int64) (j : Nat) (hj4 : 4 * j + 4 ≤ L) (hI : I2 x y)
    (K : ∀ (x' y' : Bk) (jf' : Nat → Int64), I2 x' y' → gW p l e room_1 s m args below meth c D cls9 A 7 (cells + 1) (slots + 6) Q (lbw ad md cI cZ cJ qo jf' x' y') [(0, .ref b), (1, .ref (ad 0)), (2, .ref (md 0)), (3, .ref qo), (4, .int (iI (4 * (j : Int))))] 1312 []) : gW p l e room_1 s m args below meth c D cls9 A 7 cells slots Q (lbw ad md cI cZ cJ qo jf x y) [(0, .ref b), (1, .ref (ad 0)), (2, .ref (md 0)), (3, .ref qo), (4, .int (iI (4 * (j : Int))))] 356 [] := by
  refine g_aload_n C (q := 1) d_law_356 rfl rfl ?_
  refine g_aload_n C (q := 0) d_law_357 rfl rfl ?_
  refine g_iload C (q := 4) d_law_358 rfl ?_
  refine g_iconst C d_law_360 ?_
  refine g_iadd C d_law_361 ?_
  refine g_sld C hX hbl hbA (n := 4 * j + 1) (by omega) (by omega) hL d_law_362 ?_
  refine g_aload_n C (q := 0) d_law_363 rfl rfl ?_
  refine g_iload C (q := 4) d_law_364 rfl ?_
  refine g_iconst C d_law_366 ?_
  refine g_iadd C d_law_367 ?_
  refine g_sld C hX hbl hbA (n := 4 * j + 2) (by omega) (by omega) hL d_law_368 ?_
  refine g_aload_n C (q := 0) d_law_369 rfl rfl ?_
  refine g_iload C (q := 4) d_law_370 rfl ?_
  refine g_iconst C d_law_372 ?_
  refine g_iadd C d_law_373 ?_
  refine g_sld C hX hbl hbA (n := 4 * j + 3) (by omega) (by omega) hL d_law_374 ?_
  refine g_if_eq C (tgt := 382) d_law_375 rfl (InR_x _) (fun h375_1 => ?_) (fun h375_1 => ?_)
  · refine g_iconst C d_law_382 ?_
    refine g_aload_n C (q := 3) d_law_383 rfl rfl ?_
    refine gSWF C lw_in (st := []) (wr := mw md cI cZ y) (m_L_rule hl x qo jf ((xs (4 * j + 1)).toInt) ((xs (4 * j + 2)).toInt) 0 (InR_x (xs (4 * j + 1))) (InR_x (xs (4 * j + 2))) (by omega) hI.1.ok) i020 i2033 lbw_c lbw_c1 lbw_r rfl rfl (by decide) k_347 k_345 k_346 k_0 ho_L_rule rfl rfl ⟨by decide, by decide⟩ rfl rfl (Nat.le_of_ble_eq_true rfl) d_law_384 ⟨hcs.1, hcs.2⟩ (fun r w hq => ?_)
    obtain ⟨k, o, x', jf', rfl, rfl, hj, hc⟩ := hq
    have hk3 := k_rule hc
    refine g_eq (ws' := (lbm ad md cI cZ cJ qo jf' x' y)) (lv' := [(0, .ref b), (1, .ref (ad 0)), (2, .ref (md 0)), (3, .ref qo), (4, .int (iI (4 * (j : Int))))]) (pc' := 387) (st' := [.int (iI k)]) rfl rfl rfl rfl ?_
    refine g_istore C (lv' := [(0, .ref b), (1, .ref (ad 0)), (2, .ref (md 0)), (3, .ref qo), (4, .int (iI (4 * (j : Int)))), (5, .int (iI k))]) d_law_387 (by decide) rfl rfl ?_
    refine g_aload_n C (q := 2) d_law_389 rfl rfl ?_
    refine g_aload_n C (q := 0) d_law_390 rfl rfl ?_
    refine g_iload C (q := 4) d_law_391 rfl ?_
    refine g_iconst C d_law_393 ?_
    refine g_iadd C d_law_394 ?_
    refine g_sld C hX hbl hbA (n := 4 * j + 1) (by omega) (by omega) hL d_law_395 ?_
    refine g_aload_n C (q := 0) d_law_396 rfl rfl ?_
    refine g_iload C (q := 4) d_law_397 rfl ?_
    refine g_iconst C d_law_399 ?_
    refine g_iadd C d_law_400 ?_
    refine g_sld C hX hbl hbA (n := 4 * j + 2) (by omega) (by omega) hL d_law_401 ?_
    refine g_aload_n C (q := 0) d_law_402 rfl rfl ?_
    refine g_iload C (q := 4) d_law_403 rfl ?_
    refine g_iconst C d_law_405 ?_
    refine g_iadd C d_law_406 ?_
    refine g_sld C hX hbl hbA (n := 4 * j + 3) (by omega) (by omega) hL d_law_407 ?_
    refine g_if_eq C (tgt := 415) d_law_408 rfl (InR_x _) (fun h408_1 => ?_) (fun h408_1 => ?_)
    · refine g_iconst C d_law_415 ?_
      refine gVF C lw_in (st := []) (wr := lwd ad cI cZ cJ qo jf' x') (m_Tw_rule y ((xs (4 * j + 1)).toInt) ((xs (4 * j + 2)).toInt) 0 (InR_x (xs (4 * j + 1))) (InR_x (xs (4 * j + 2))) (by omega) hI.oky hI.syy) i013 i1333 lbm_c lbm_c1 lbm_r rfl rfl (by decide) k_733 k_730 k_731 k_732 k_7 rfl ho_Tw_rule rfl rfl ⟨by decide, by decide⟩ 0 (lbm_0.trans (mwo_0 _)) rfl rfl rfl (Nat.le_of_ble_eq_true rfl) d_law_416 ⟨hcs.1, hcs.2⟩ (fun r w hq => ?_)
      obtain ⟨z, rfl, hm⟩ := hq
      obtain ⟨e1, e2, ⟨u, rfl⟩, e3⟩ := P_rule hI (by omega) hc hm
      clear hm
      refine g_eq (ws' := (lbw ad md cI cZ cJ qo jf' x' z)) (lv' := [(0, .ref b), (1, .ref (ad 0)), (2, .ref (md 0)), (3, .ref qo), (4, .int (iI (4 * (j : Int)))), (5, .int (iI k))]) (pc' := 419) (st' := [.int (iI u)]) rfl rfl rfl rfl ?_
      refine g_widen (k := cells + 1) (n := slots + 6) (by omega) (by omega) ?_
      refine g_istore C (lv' := [(0, .ref b), (1, .ref (ad 0)), (2, .ref (md 0)), (3, .ref qo), (4, .int (iI (4 * (j : Int)))), (5, .int (iI k)), (6, .int (iI u))]) d_law_419 (by decide) rfl rfl ?_
      refine g_aload_n C (q := 2) d_law_421 rfl rfl ?_
      refine gVF C lw_in (st := []) (wr := lwd ad cI cZ cJ qo jf' x') (m_Tw_thrown z) i2033 i020 lbw_d lbw_d1 lbw_e rfl rfl (by decide) k_706 k_703 k_704 k_705 k_7 rfl ho_Tw_thrown rfl rfl ⟨by decide, by decide⟩ 20 (lbw_20.trans (mwo_0 _)) rfl rfl rfl (Nat.le_of_ble_eq_true rfl) d_law_422 ⟨hcs.1, hcs.2⟩ (fun r w hq => ?_)
      obtain ⟨rfl, rfl⟩ := hq
      refine g_eq (ws' := (lbw ad md cI cZ cJ qo jf' x' z)) (lv' := [(0, .ref b), (1, .ref (ad 0)), (2, .ref (md 0)), (3, .ref qo), (4, .int (iI (4 * (j : Int)))), (5, .int (iI k)), (6, .int (iI u))]) (pc' := 425) (st' := [.int (iI k)]) rfl rfl rfl (by rw [← e1] <;> rfl) ?_
      refine g_widen (k := cells + 1) (n := slots + 6) (by omega) (by omega) ?_
      refine g_iload C (q := 5) d_law_425 rfl ?_
      refine g_same C (tgt := 432) d_law_427 rfl ?_
      refine g_iload C (q := 5) d_law_432 rfl ?_
      refine g_if_ne C (tgt := 456) d_law_434 rfl (by omega) (fun h434_3 => ?_) (fun h434_3 => ?_)
      · refine g_goto C (tgt := 1312) d_law_456 rfl ?_
        refine g_lv (lv' := [(0, .ref b), (1, .ref (ad 0)), (2, .ref (md 0)), (3, .ref qo), (4, .int (iI (4 * (j : Int))))]) [0, 1, 2, 3, 4] rfl ?_
        exact K _ _ _ e3
      · refine g_aload_n C (q := 3) d_law_437 rfl rfl ?_
        refine g_iconst C d_law_438 ?_
        refine g_lald C 0 2 lbw_0 rfl (by decide) (by decide) d_law_439 ?_
        have ho := o_rule hc h434_3
        have hu : u = o := Option.some.inj (e2 h434_3)
        have hjj := hj h434_3
        rcases ho with rfl | rfl
        · subst hu
          refine g_long (z := (iI 0).toInt64) hjj ?_
          refine g_iload C (q := 6) d_law_440 rfl ?_
          refine g_if_eq C (tgt := 449) d_law_442 rfl (by omega) (fun h442_4 => ?_) (fun h442_4 => ?_)
          · refine g_lconst C (v := (iI 0).toInt64) d_law_449 (by decide) ?_
            refine g_lcmp0 C d_law_450 ?_
            refine g_if_eq C (tgt := 456) d_law_451 rfl (by omega) (fun h451_5 => ?_) (fun h451_5 => ?_)
            · refine g_goto C (tgt := 1312) d_law_456 rfl ?_
              refine g_lv (lv' := [(0, .ref b), (1, .ref (ad 0)), (2, .ref (md 0)), (3, .ref qo), (4, .int (iI (4 * (j : Int))))]) [0, 1, 2, 3, 4] rfl ?_
              exact K _ _ _ e3
            · exfalso
              omega
          · exfalso
            omega
        · subst hu
          refine g_long (z := (iI 1).toInt64) hjj ?_
          refine g_iload C (q := 6) d_law_440 rfl ?_
          refine g_if_eq C (tgt := 449) d_law_442 rfl (by omega) (fun h442_6 => ?_) (fun h442_6 => ?_)
          · exfalso
            omega
          · refine g_lconst C (v := (iI 1).toInt64) d_law_445 (by decide) ?_
            refine g_goto C (tgt := 450) d_law_446 rfl ?_
            refine g_lcmp0 C d_law_450 ?_
            refine g_if_eq C (tgt := 456) d_law_451 rfl (by omega) (fun h451_7 => ?_) (fun h451_7 => ?_)
            · refine g_goto C (tgt := 1312) d_law_456 rfl ?_
              refine g_lv (lv' := [(0, .ref b), (1, .ref (ad 0)), (2, .ref (md 0)), (3, .ref qo), (4, .int (iI (4 * (j : Int))))]) [0, 1, 2, 3, 4] rfl ?_
              exact K _ _ _ e3
            · exfalso
              omega
    · exfalso
      omega
  · refine g_iconst C d_law_378 ?_
    refine g_goto C (tgt := 383) d_law_379 rfl ?_
    refine g_aload_n C (q := 3) d_law_383 rfl rfl ?_
    refine gSWF C lw_in (st := []) (wr := mw md cI cZ y) (m_L_rule hl x qo jf ((xs (4 * j + 1)).toInt) ((xs (4 * j + 2)).toInt) 1 (InR_x (xs (4 * j + 1))) (InR_x (xs (4 * j + 2))) (by omega) hI.1.ok) i020 i2033 lbw_c lbw_c1 lbw_r rfl rfl (by decide) k_347 k_345 k_346 k_0 ho_L_rule rfl rfl ⟨by decide, by decide⟩ rfl rfl (Nat.le_of_ble_eq_true rfl) d_law_384 ⟨hcs.1, hcs.2⟩ (fun r w hq => ?_)
    obtain ⟨k, o, x', jf', rfl, rfl, hj, hc⟩ := hq
    have hk3 := k_rule hc
    refine g_eq (ws' := (lbm ad md cI cZ cJ qo jf' x' y)) (lv' := [(0, .ref b), (1, .ref (ad 0)), (2, .ref (md 0)), (3, .ref qo), (4, .int (iI (4 * (j : Int))))]) (pc' := 387) (st' := [.int (iI k)]) rfl rfl rfl rfl ?_
    refine g_istore C (lv' := [(0, .ref b), (1, .ref (ad 0)), (2, .ref (md 0)), (3, .ref qo), (4, .int (iI (4 * (j : Int)))), (5, .int (iI k))]) d_law_387 (by decide) rfl rfl ?_
    refine g_aload_n C (q := 2) d_law_389 rfl rfl ?_
    refine g_aload_n C (q := 0) d_law_390 rfl rfl ?_
    refine g_iload C (q := 4) d_law_391 rfl ?_
    refine g_iconst C d_law_393 ?_
    refine g_iadd C d_law_394 ?_
    refine g_sld C hX hbl hbA (n := 4 * j + 1) (by omega) (by omega) hL d_law_395 ?_
    refine g_aload_n C (q := 0) d_law_396 rfl rfl ?_
    refine g_iload C (q := 4) d_law_397 rfl ?_
    refine g_iconst C d_law_399 ?_
    refine g_iadd C d_law_400 ?_
    refine g_sld C hX hbl hbA (n := 4 * j + 2) (by omega) (by omega) hL d_law_401 ?_
    refine g_aload_n C (q := 0) d_law_402 rfl rfl ?_
    refine g_iload C (q := 4) d_law_403 rfl ?_
    refine g_iconst C d_law_405 ?_
    refine g_iadd C d_law_406 ?_
    refine g_sld C hX hbl hbA (n := 4 * j + 3) (by omega) (by omega) hL d_law_407 ?_
    refine g_if_eq C (tgt := 415) d_law_408 rfl (InR_x _) (fun h408_1 => ?_) (fun h408_1 => ?_)
    · exfalso
      omega
    · refine g_iconst C d_law_411 ?_
      refine g_goto C (tgt := 416) d_law_412 rfl ?_
      refine gVF C lw_in (st := []) (wr := lwd ad cI cZ cJ qo jf' x') (m_Tw_rule y ((xs (4 * j + 1)).toInt) ((xs (4 * j + 2)).toInt) 1 (InR_x (xs (4 * j + 1))) (InR_x (xs (4 * j + 2))) (by omega) hI.oky hI.syy) i013 i1333 lbm_c lbm_c1 lbm_r rfl rfl (by decide) k_733 k_730 k_731 k_732 k_7 rfl ho_Tw_rule rfl rfl ⟨by decide, by decide⟩ 0 (lbm_0.trans (mwo_0 _)) rfl rfl rfl (Nat.le_of_ble_eq_true rfl) d_law_416 ⟨hcs.1, hcs.2⟩ (fun r w hq => ?_)
      obtain ⟨z, rfl, hm⟩ := hq
      obtain ⟨e1, e2, ⟨u, rfl⟩, e3⟩ := P_rule hI (by omega) hc hm
      clear hm
      refine g_eq (ws' := (lbw ad md cI cZ cJ qo jf' x' z)) (lv' := [(0, .ref b), (1, .ref (ad 0)), (2, .ref (md 0)), (3, .ref qo), (4, .int (iI (4 * (j : Int)))), (5, .int (iI k))]) (pc' := 419) (st' := [.int (iI u)]) rfl rfl rfl rfl ?_
      refine g_widen (k := cells + 1) (n := slots + 6) (by omega) (by omega) ?_
      refine g_istore C (lv' := [(0, .ref b), (1, .ref (ad 0)), (2, .ref (md 0)), (3, .ref qo), (4, .int (iI (4 * (j : Int)))), (5, .int (iI k)), (6, .int (iI u))]) d_law_419 (by decide) rfl rfl ?_
      refine g_aload_n C (q := 2) d_law_421 rfl rfl ?_
      refine gVF C lw_in (st := []) (wr := lwd ad cI cZ cJ qo jf' x') (m_Tw_thrown z) i2033 i020 lbw_d lbw_d1 lbw_e rfl rfl (by decide) k_706 k_703 k_704 k_705 k_7 rfl ho_Tw_thrown rfl rfl ⟨by decide, by decide⟩ 20 (lbw_20.trans (mwo_0 _)) rfl rfl rfl (Nat.le_of_ble_eq_true rfl) d_law_422 ⟨hcs.1, hcs.2⟩ (fun r w hq => ?_)
      obtain ⟨rfl, rfl⟩ := hq
      refine g_eq (ws' := (lbw ad md cI cZ cJ qo jf' x' z)) (lv' := [(0, .ref b), (1, .ref (ad 0)), (2, .ref (md 0)), (3, .ref qo), (4, .int (iI (4 * (j : Int)))), (5, .int (iI k)), (6, .int (iI u))]) (pc' := 425) (st' := [.int (iI k)]) rfl rfl rfl (by rw [← e1] <;> rfl) ?_
      refine g_widen (k := cells + 1) (n := slots + 6) (by omega) (by omega) ?_
      refine g_iload C (q := 5) d_law_425 rfl ?_
      refine g_same C (tgt := 432) d_law_427 rfl ?_
      refine g_iload C (q := 5) d_law_432 rfl ?_
      refine g_if_ne C (tgt := 456) d_law_434 rfl (by omega) (fun h434_3 => ?_) (fun h434_3 => ?_)
      · refine g_goto C (tgt := 1312) d_law_456 rfl ?_
        refine g_lv (lv' := [(0, .ref b), (1, .ref (ad 0)), (2, .ref (md 0)), (3, .ref qo), (4, .int (iI (4 * (j : Int))))]) [0, 1, 2, 3, 4] rfl ?_
        exact K _ _ _ e3
      · refine g_aload_n C (q := 3) d_law_437 rfl rfl ?_
        refine g_iconst C d_law_438 ?_
        refine g_lald C 0 2 lbw_0 rfl (by decide) (by decide) d_law_439 ?_
        have ho := o_rule hc h434_3
        have hu : u = o := Option.some.inj (e2 h434_3)
        have hjj := hj h434_3
        rcases ho with rfl | rfl
        · subst hu
          refine g_long (z := (iI 0).toInt64) hjj ?_
          refine g_iload C (q := 6) d_law_440 rfl ?_
          refine g_if_eq C (tgt := 449) d_law_442 rfl (by omega) (fun h442_4 => ?_) (fun h442_4 => ?_)
          · refine g_lconst C (v := (iI 0).toInt64) d_law_449 (by decide) ?_
            refine g_lcmp0 C d_law_450 ?_
            refine g_if_eq C (tgt := 456) d_law_451 rfl (by omega) (fun h451_5 => ?_) (fun h451_5 => ?_)
            · refine g_goto C (tgt := 1312) d_law_456 rfl ?_
              refine g_lv (lv' := [(0, .ref b), (1, .ref (ad 0)), (2, .ref (md 0)), (3, .ref qo), (4, .int (iI (4 * (j : Int))))]) [0, 1, 2, 3, 4] rfl ?_
              exact K _ _ _ e3
            · exfalso
              omega
          · exfalso
            omega
        · subst hu
          refine g_long (z := (iI 1).toInt64) hjj ?_
          refine g_iload C (q := 6) d_law_440 rfl ?_
          refine g_if_eq C (tgt := 449) d_law_442 rfl (by omega) (fun h442_6 => ?_) (fun h442_6 => ?_)
          · exfalso
            omega
          · refine g_lconst C (v := (iI 1).toInt64) d_law_445 (by decide) ?_
            refine g_goto C (tgt := 450) d_law_446 rfl ?_
            refine g_lcmp0 C d_law_450 ?_
            refine g_if_eq C (tgt := 456) d_law_451 rfl (by omega) (fun h451_7 => ?_) (fun h451_7 => ?_)
            · refine g_goto C (tgt := 1312) d_law_456 rfl ?_
              refine g_lv (lv' := [(0, .ref b), (1, .ref (ad 0)), (2, .ref (md 0)), (3, .ref qo), (4, .int (iI (4 * (j : Int))))]) [0, 1, 2, 3, 4] rfl ?_
              exact K _ _ _ e3
            · exfalso
              omega
set_option maxRecDepth 100000 in
set_option maxHeartbeats 4000000 in
theorem lw_weight {p : Program} {l : Launch} {e : Env} {s : State} {m : MethodId} {args : Array Value} {below : List Frame} {meth : Method} {c : Code} {D : va_G} {cI cZ cJ : ClassId} {base : Nat} {ad md : Nat → Nat} {A : Nat → Prop} {Q : State → Prop} {b L qo : Nat} {xs : Nat → Int32} {cells slots : Nat} (C : gC p s m args meth c D cls9 (tyl cI cZ cJ) A code 7 "BatchSavingsLaw" lw_tbl base (zz base)) (hX : va_X b L xs s s.heap) (hbl : b < s.heap.size) (hbA : ¬ A b) (hl : l.stackTraces = false) (hL : L ≤ 2048) (hcs : cells + 1 ≤ 1071 ∧ slots + 6 ≤ 11127) (x y : Bk) (jf : Nat → Int64) (j : Nat) (hj4 : 4 * j + 4 ≤ L) (hI : I2 x y)
    (K : ∀ (x' y' : Bk) (jf' : Nat → Int64), I2 x' y' → gW p l e room_1 s m args below meth c D cls9 A 7 (cells + 1) (slots + 6) Q (lbw ad md cI cZ cJ qo jf' x' y') [(0, .ref b), (1, .ref (ad 0)), (2, .ref (md 0)), (3, .ref qo), (4, .int (iI (4 * (j : Int))))] 1312 []) : gW p l e room_1 s m args below meth c D cls9 A 7 cells slots Q (lbw ad md cI cZ cJ qo jf x y) [(0, .ref b), (1, .ref (ad 0)), (2, .ref (md 0)), (3, .ref qo), (4, .int (iI (4 * (j : Int))))] 459 [] := by
  refine g_aload_n C (q := 1) d_law_459 rfl rfl ?_
  refine g_aload_n C (q := 0) d_law_460 rfl rfl ?_
  refine g_iload C (q := 4) d_law_461 rfl ?_
  refine g_iconst C d_law_463 ?_
  refine g_iadd C d_law_464 ?_
  refine g_sld C hX hbl hbA (n := 4 * j + 1) (by omega) (by omega) hL d_law_465 ?_
  refine g_aload_n C (q := 0) d_law_466 rfl rfl ?_
  refine g_iload C (q := 4) d_law_467 rfl ?_
  refine g_iconst C d_law_469 ?_
  refine g_iadd C d_law_470 ?_
  refine g_sld C hX hbl hbA (n := 4 * j + 2) (by omega) (by omega) hL d_law_471 ?_
  refine g_aload_n C (q := 3) d_law_472 rfl rfl ?_
  refine gSWF C lw_in (st := []) (wr := mw md cI cZ y) (m_L_weight hl x qo jf ((xs (4 * j + 1)).toInt) ((xs (4 * j + 2)).toInt) (InR_x (xs (4 * j + 1))) (InR_x (xs (4 * j + 2))) hI.1.ok) i020 i2033 lbw_c lbw_c1 lbw_r rfl rfl (by decide) k_379 k_377 k_378 k_0 ho_L_weight rfl rfl ⟨by decide, by decide⟩ rfl rfl (Nat.le_of_ble_eq_true rfl) d_law_473 ⟨hcs.1, hcs.2⟩ (fun r w hq => ?_)
  obtain ⟨k, o, x', jf', rfl, rfl, hj, hc⟩ := hq
  have hk3 := k_weight hc
  refine g_eq (ws' := (lbm ad md cI cZ cJ qo jf' x' y)) (lv' := [(0, .ref b), (1, .ref (ad 0)), (2, .ref (md 0)), (3, .ref qo), (4, .int (iI (4 * (j : Int))))]) (pc' := 476) (st' := [.int (iI k)]) rfl rfl rfl rfl ?_
  refine g_istore C (lv' := [(0, .ref b), (1, .ref (ad 0)), (2, .ref (md 0)), (3, .ref qo), (4, .int (iI (4 * (j : Int)))), (5, .int (iI k))]) d_law_476 (by decide) rfl rfl ?_
  refine g_aload_n C (q := 2) d_law_478 rfl rfl ?_
  refine g_aload_n C (q := 0) d_law_479 rfl rfl ?_
  refine g_iload C (q := 4) d_law_480 rfl ?_
  refine g_iconst C d_law_482 ?_
  refine g_iadd C d_law_483 ?_
  refine g_sld C hX hbl hbA (n := 4 * j + 1) (by omega) (by omega) hL d_law_484 ?_
  refine g_aload_n C (q := 0) d_law_485 rfl rfl ?_
  refine g_iload C (q := 4) d_law_486 rfl ?_
  refine g_iconst C d_law_488 ?_
  refine g_iadd C d_law_489 ?_
  refine g_sld C hX hbl hbA (n := 4 * j + 2) (by omega) (by omega) hL d_law_490 ?_
  refine gVF C lw_in (st := []) (wr := lwd ad cI cZ cJ qo jf' x') (m_Tw_weight y ((xs (4 * j + 1)).toInt) ((xs (4 * j + 2)).toInt) (InR_x (xs (4 * j + 1))) (InR_x (xs (4 * j + 2))) hI.oky) i013 i1333 lbm_c lbm_c1 lbm_r rfl rfl (by decide) k_745 k_742 k_743 k_744 k_7 rfl ho_Tw_weight rfl rfl ⟨by decide, by decide⟩ 0 (lbm_0.trans (mwo_0 _)) rfl rfl rfl (Nat.le_of_ble_eq_true rfl) d_law_491 ⟨hcs.1, hcs.2⟩ (fun r w hq => ?_)
  obtain ⟨z, rfl, hm⟩ := hq
  obtain ⟨e1, e2, ⟨u, rfl⟩, e3⟩ := P_weight hI hc hm
  clear hm
  refine g_eq (ws' := (lbw ad md cI cZ cJ qo jf' x' z)) (lv' := [(0, .ref b), (1, .ref (ad 0)), (2, .ref (md 0)), (3, .ref qo), (4, .int (iI (4 * (j : Int)))), (5, .int (iI k))]) (pc' := 494) (st' := [.int (iI u)]) rfl rfl rfl rfl ?_
  refine g_widen (k := cells + 1) (n := slots + 6) (by omega) (by omega) ?_
  refine g_istore C (lv' := [(0, .ref b), (1, .ref (ad 0)), (2, .ref (md 0)), (3, .ref qo), (4, .int (iI (4 * (j : Int)))), (5, .int (iI k)), (6, .int (iI u))]) d_law_494 (by decide) rfl rfl ?_
  refine g_aload_n C (q := 2) d_law_496 rfl rfl ?_
  refine gVF C lw_in (st := []) (wr := lwd ad cI cZ cJ qo jf' x') (m_Tw_thrown z) i2033 i020 lbw_d lbw_d1 lbw_e rfl rfl (by decide) k_706 k_703 k_704 k_705 k_7 rfl ho_Tw_thrown rfl rfl ⟨by decide, by decide⟩ 20 (lbw_20.trans (mwo_0 _)) rfl rfl rfl (Nat.le_of_ble_eq_true rfl) d_law_497 ⟨hcs.1, hcs.2⟩ (fun r w hq => ?_)
  obtain ⟨rfl, rfl⟩ := hq
  refine g_eq (ws' := (lbw ad md cI cZ cJ qo jf' x' z)) (lv' := [(0, .ref b), (1, .ref (ad 0)), (2, .ref (md 0)), (3, .ref qo), (4, .int (iI (4 * (j : Int)))), (5, .int (iI k)), (6, .int (iI u))]) (pc' := 500) (st' := [.int (iI k)]) rfl rfl rfl (by rw [← e1] <;> rfl) ?_
  refine g_widen (k := cells + 1) (n := slots + 6) (by omega) (by omega) ?_
  refine g_iload C (q := 5) d_law_500 rfl ?_
  refine g_same C (tgt := 507) d_law_502 rfl ?_
  refine g_iload C (q := 5) d_law_507 rfl ?_
  refine g_if_ne C (tgt := 531) d_law_509 rfl (by omega) (fun h509_2 => ?_) (fun h509_2 => ?_)
  · refine g_goto C (tgt := 1312) d_law_531 rfl ?_
    refine g_lv (lv' := [(0, .ref b), (1, .ref (ad 0)), (2, .ref (md 0)), (3, .ref qo), (4, .int (iI (4 * (j : Int))))]) [0, 1, 2, 3, 4] rfl ?_
    exact K _ _ _ e3
  · refine g_aload_n C (q := 3) d_law_512 rfl rfl ?_
    refine g_iconst C d_law_513 ?_
    refine g_lald C 0 2 lbw_0 rfl (by decide) (by decide) d_law_514 ?_
    have ho := o_weight hc h509_2
    have hu : u = o := Option.some.inj (e2 h509_2)
    have hjj := hj h509_2
    rcases ho with rfl | rfl
    · subst hu
      refine g_long (z := (iI 0).toInt64) hjj ?_
      refine g_iload C (q := 6) d_law_515 rfl ?_
      refine g_if_eq C (tgt := 524) d_law_517 rfl (by omega) (fun h517_3 => ?_) (fun h517_3 => ?_)
      · refine g_lconst C (v := (iI 0).toInt64) d_law_524 (by decide) ?_
        refine g_lcmp0 C d_law_525 ?_
        refine g_if_eq C (tgt := 531) d_law_526 rfl (by omega) (fun h526_4 => ?_) (fun h526_4 => ?_)
        · refine g_goto C (tgt := 1312) d_law_531 rfl ?_
          refine g_lv (lv' := [(0, .ref b), (1, .ref (ad 0)), (2, .ref (md 0)), (3, .ref qo), (4, .int (iI (4 * (j : Int))))]) [0, 1, 2, 3, 4] rfl ?_
          exact K _ _ _ e3
        · exfalso
          omega
      · exfalso
        omega
    · subst hu
      refine g_long (z := (iI 1).toInt64) hjj ?_
      refine g_iload C (q := 6) d_law_515 rfl ?_
      refine g_if_eq C (tgt := 524) d_law_517 rfl (by omega) (fun h517_5 => ?_) (fun h517_5 => ?_)
      · exfalso
        omega
      · refine g_lconst C (v := (iI 1).toInt64) d_law_520 (by decide) ?_
        refine g_goto C (tgt := 525) d_law_521 rfl ?_
        refine g_lcmp0 C d_law_525 ?_
        refine g_if_eq C (tgt := 531) d_law_526 rfl (by omega) (fun h526_6 => ?_) (fun h526_6 => ?_)
        · refine g_goto C (tgt := 1312) d_law_531 rfl ?_
          refine g_lv (lv' := [(0, .ref b), (1, .ref (ad 0)), (2, .ref (md 0)), (3, .ref qo), (4, .int (iI (4 * (j : Int))))]) [0, 1, 2, 3, 4] rfl ?_
          exact K _ _ _ e3
        · exfalso
          omega
set_option maxRecDepth 100000 in
set_option maxHeartbeats 4000000 in
theorem lw_near {p : Program} {l : Launch} {e : Env} {s : State} {m : MethodId} {args : Array Value} {below : List Frame} {meth : Method} {c : Code} {D : va_G} {cI cZ cJ : ClassId} {base : Nat} {ad md : Nat → Nat} {A : Nat → Prop} {Q : State → Prop} {b L qo : Nat} {xs : Nat → Int32} {cells slots : Nat} (C : gC p s m args meth c D cls9 (tyl cI cZ cJ) A code 7 "BatchSavingsLaw" lw_tbl base (zz base)) (hX : va_X b L xs s s.heap) (hbl : b < s.heap.size) (hbA : ¬ A b) (hl : l.stackTraces = false) (hL : L ≤ 2048) (hcs : cells + 1 ≤ 1071 ∧ slots + 6 ≤ 11127) (x y : Bk) (jf : Nat → Int64) (j : Nat) (hj4 : 4 * j + 4 ≤ L) (hI : I2 x y)
    (K : ∀ (x' y' : Bk) (jf' : Nat → Int64), I2 x' y' → gW p l e room_1 s m args below meth c D cls9 A 7 (cells + 1) (slots + 6) Q (lbw ad md cI cZ cJ qo jf' x' y') [(0, .ref b), (1, .ref (ad 0)), (2, .ref (md 0)), (3, .ref qo), (4, .int (iI (4 * (j : Int))))] 1312 []) : gW p l e room_1 s m args below meth c D cls9 A 7 cells slots Q (lbw ad md cI cZ cJ qo jf x y) [(0, .ref b), (1, .ref (ad 0)), (2, .ref (md 0)), (3, .ref qo), (4, .int (iI (4 * (j : Int))))] 534 [] := by
  refine g_aload_n C (q := 1) d_law_534 rfl rfl ?_
  refine g_aload_n C (q := 0) d_law_535 rfl rfl ?_
  refine g_iload C (q := 4) d_law_536 rfl ?_
  refine g_iconst C d_law_538 ?_
  refine g_iadd C d_law_539 ?_
  refine g_sld C hX hbl hbA (n := 4 * j + 1) (by omega) (by omega) hL d_law_540 ?_
  refine g_aload_n C (q := 0) d_law_541 rfl rfl ?_
  refine g_iload C (q := 4) d_law_542 rfl ?_
  refine g_iconst C d_law_544 ?_
  refine g_iadd C d_law_545 ?_
  refine g_sld C hX hbl hbA (n := 4 * j + 2) (by omega) (by omega) hL d_law_546 ?_
  refine g_aload_n C (q := 0) d_law_547 rfl rfl ?_
  refine g_iload C (q := 4) d_law_548 rfl ?_
  refine g_iconst C d_law_550 ?_
  refine g_iadd C d_law_551 ?_
  refine g_sld C hX hbl hbA (n := 4 * j + 3) (by omega) (by omega) hL d_law_552 ?_
  refine g_if_eq C (tgt := 560) d_law_553 rfl (InR_x _) (fun h553_1 => ?_) (fun h553_1 => ?_)
  · refine g_iconst C d_law_560 ?_
    refine gSWF C lw_in (st := []) (wr := mw md cI cZ y) (m_L_near hl x qo jf ((xs (4 * j + 1)).toInt) ((xs (4 * j + 2)).toInt) 0 (InR_x (xs (4 * j + 1))) (InR_x (xs (4 * j + 2))) (by omega) hI.1.ok) i020 i2033 lbw_c lbw_c1 lbw_r rfl rfl (by decide) k_408 k_406 k_407 k_0 ho_L_near rfl rfl ⟨by decide, by decide⟩ rfl rfl (Nat.le_of_ble_eq_true rfl) d_law_561 ⟨hcs.1, hcs.2⟩ (fun r w hq => ?_)
    obtain ⟨k, o, x', jf', rfl, rfl, hc⟩ := hq
    have hk3 := k_near hc
    refine g_eq (ws' := (lbm ad md cI cZ cJ qo jf' x' y)) (lv' := [(0, .ref b), (1, .ref (ad 0)), (2, .ref (md 0)), (3, .ref qo), (4, .int (iI (4 * (j : Int))))]) (pc' := 564) (st' := [.int (iI k)]) rfl rfl rfl rfl ?_
    refine g_istore C (lv' := [(0, .ref b), (1, .ref (ad 0)), (2, .ref (md 0)), (3, .ref qo), (4, .int (iI (4 * (j : Int)))), (5, .int (iI k))]) d_law_564 (by decide) rfl rfl ?_
    refine g_aload_n C (q := 2) d_law_566 rfl rfl ?_
    refine g_aload_n C (q := 0) d_law_567 rfl rfl ?_
    refine g_iload C (q := 4) d_law_568 rfl ?_
    refine g_iconst C d_law_570 ?_
    refine g_iadd C d_law_571 ?_
    refine g_sld C hX hbl hbA (n := 4 * j + 1) (by omega) (by omega) hL d_law_572 ?_
    refine g_aload_n C (q := 0) d_law_573 rfl rfl ?_
    refine g_iload C (q := 4) d_law_574 rfl ?_
    refine g_iconst C d_law_576 ?_
    refine g_iadd C d_law_577 ?_
    refine g_sld C hX hbl hbA (n := 4 * j + 2) (by omega) (by omega) hL d_law_578 ?_
    refine g_aload_n C (q := 0) d_law_579 rfl rfl ?_
    refine g_iload C (q := 4) d_law_580 rfl ?_
    refine g_iconst C d_law_582 ?_
    refine g_iadd C d_law_583 ?_
    refine g_sld C hX hbl hbA (n := 4 * j + 3) (by omega) (by omega) hL d_law_584 ?_
    refine g_if_eq C (tgt := 592) d_law_585 rfl (InR_x _) (fun h585_1 => ?_) (fun h585_1 => ?_)
    · refine g_iconst C d_law_592 ?_
      refine gVF C lw_in (st := []) (wr := lwd ad cI cZ cJ qo jf' x') (m_Tw_near y ((xs (4 * j + 1)).toInt) ((xs (4 * j + 2)).toInt) 0 (InR_x (xs (4 * j + 1))) (InR_x (xs (4 * j + 2))) (by omega) hI.oky) i013 i1333 lbm_c lbm_c1 lbm_r rfl rfl (by decide) k_753 k_750 k_751 k_752 k_7 rfl ho_Tw_near rfl rfl ⟨by decide, by decide⟩ 0 (lbm_0.trans (mwo_0 _)) rfl rfl rfl (Nat.le_of_ble_eq_true rfl) d_law_593 ⟨hcs.1, hcs.2⟩ (fun r w hq => ?_)
      obtain ⟨z, rfl, hm⟩ := hq
      have er : r = none := by rcases hm with ⟨_, _, q, _⟩ | ⟨_, _, q, _⟩ <;> exact q
      obtain ⟨e1, e3⟩ := P_near hI (by omega) hc hm
      subst er
      clear hm
      refine g_eq (ws' := (lbw ad md cI cZ cJ qo jf' x' z)) (lv' := [(0, .ref b), (1, .ref (ad 0)), (2, .ref (md 0)), (3, .ref qo), (4, .int (iI (4 * (j : Int)))), (5, .int (iI k))]) (pc' := 596) (st' := []) rfl rfl rfl rfl ?_
      refine g_widen (k := cells + 1) (n := slots + 6) (by omega) (by omega) ?_
      refine g_aload_n C (q := 2) d_law_596 rfl rfl ?_
      refine gVF C lw_in (st := []) (wr := lwd ad cI cZ cJ qo jf' x') (m_Tw_thrown z) i2033 i020 lbw_d lbw_d1 lbw_e rfl rfl (by decide) k_706 k_703 k_704 k_705 k_7 rfl ho_Tw_thrown rfl rfl ⟨by decide, by decide⟩ 20 (lbw_20.trans (mwo_0 _)) rfl rfl rfl (Nat.le_of_ble_eq_true rfl) d_law_597 ⟨hcs.1, hcs.2⟩ (fun r w hq => ?_)
      obtain ⟨rfl, rfl⟩ := hq
      refine g_eq (ws' := (lbw ad md cI cZ cJ qo jf' x' z)) (lv' := [(0, .ref b), (1, .ref (ad 0)), (2, .ref (md 0)), (3, .ref qo), (4, .int (iI (4 * (j : Int)))), (5, .int (iI k))]) (pc' := 600) (st' := [.int (iI k)]) rfl rfl rfl (by rw [← e1] <;> rfl) ?_
      refine g_widen (k := cells + 1) (n := slots + 6) (by omega) (by omega) ?_
      refine g_iload C (q := 5) d_law_600 rfl ?_
      refine g_same C (tgt := 607) d_law_602 rfl ?_
      refine g_goto C (tgt := 1312) d_law_607 rfl ?_
      refine g_lv (lv' := [(0, .ref b), (1, .ref (ad 0)), (2, .ref (md 0)), (3, .ref qo), (4, .int (iI (4 * (j : Int))))]) [0, 1, 2, 3, 4] rfl ?_
      exact K _ _ _ e3
    · exfalso
      omega
  · refine g_iconst C d_law_556 ?_
    refine g_goto C (tgt := 561) d_law_557 rfl ?_
    refine gSWF C lw_in (st := []) (wr := mw md cI cZ y) (m_L_near hl x qo jf ((xs (4 * j + 1)).toInt) ((xs (4 * j + 2)).toInt) 1 (InR_x (xs (4 * j + 1))) (InR_x (xs (4 * j + 2))) (by omega) hI.1.ok) i020 i2033 lbw_c lbw_c1 lbw_r rfl rfl (by decide) k_408 k_406 k_407 k_0 ho_L_near rfl rfl ⟨by decide, by decide⟩ rfl rfl (Nat.le_of_ble_eq_true rfl) d_law_561 ⟨hcs.1, hcs.2⟩ (fun r w hq => ?_)
    obtain ⟨k, o, x', jf', rfl, rfl, hc⟩ := hq
    have hk3 := k_near hc
    refine g_eq (ws' := (lbm ad md cI cZ cJ qo jf' x' y)) (lv' := [(0, .ref b), (1, .ref (ad 0)), (2, .ref (md 0)), (3, .ref qo), (4, .int (iI (4 * (j : Int))))]) (pc' := 564) (st' := [.int (iI k)]) rfl rfl rfl rfl ?_
    refine g_istore C (lv' := [(0, .ref b), (1, .ref (ad 0)), (2, .ref (md 0)), (3, .ref qo), (4, .int (iI (4 * (j : Int)))), (5, .int (iI k))]) d_law_564 (by decide) rfl rfl ?_
    refine g_aload_n C (q := 2) d_law_566 rfl rfl ?_
    refine g_aload_n C (q := 0) d_law_567 rfl rfl ?_
    refine g_iload C (q := 4) d_law_568 rfl ?_
    refine g_iconst C d_law_570 ?_
    refine g_iadd C d_law_571 ?_
    refine g_sld C hX hbl hbA (n := 4 * j + 1) (by omega) (by omega) hL d_law_572 ?_
    refine g_aload_n C (q := 0) d_law_573 rfl rfl ?_
    refine g_iload C (q := 4) d_law_574 rfl ?_
    refine g_iconst C d_law_576 ?_
    refine g_iadd C d_law_577 ?_
    refine g_sld C hX hbl hbA (n := 4 * j + 2) (by omega) (by omega) hL d_law_578 ?_
    refine g_aload_n C (q := 0) d_law_579 rfl rfl ?_
    refine g_iload C (q := 4) d_law_580 rfl ?_
    refine g_iconst C d_law_582 ?_
    refine g_iadd C d_law_583 ?_
    refine g_sld C hX hbl hbA (n := 4 * j + 3) (by omega) (by omega) hL d_law_584 ?_
    refine g_if_eq C (tgt := 592) d_law_585 rfl (InR_x _) (fun h585_1 => ?_) (fun h585_1 => ?_)
    · exfalso
      omega
    · refine g_iconst C d_law_588 ?_
      refine g_goto C (tgt := 593) d_law_589 rfl ?_
      refine gVF C lw_in (st := []) (wr := lwd ad cI cZ cJ qo jf' x') (m_Tw_near y ((xs (4 * j + 1)).toInt) ((xs (4 * j + 2)).toInt) 1 (InR_x (xs (4 * j + 1))) (InR_x (xs (4 * j + 2))) (by omega) hI.oky) i013 i1333 lbm_c lbm_c1 lbm_r rfl rfl (by decide) k_753 k_750 k_751 k_752 k_7 rfl ho_Tw_near rfl rfl ⟨by decide, by decide⟩ 0 (lbm_0.trans (mwo_0 _)) rfl rfl rfl (Nat.le_of_ble_eq_true rfl) d_law_593 ⟨hcs.1, hcs.2⟩ (fun r w hq => ?_)
      obtain ⟨z, rfl, hm⟩ := hq
      have er : r = none := by rcases hm with ⟨_, _, q, _⟩ | ⟨_, _, q, _⟩ <;> exact q
      obtain ⟨e1, e3⟩ := P_near hI (by omega) hc hm
      subst er
      clear hm
      refine g_eq (ws' := (lbw ad md cI cZ cJ qo jf' x' z)) (lv' := [(0, .ref b), (1, .ref (ad 0)), (2, .ref (md 0)), (3, .ref qo), (4, .int (iI (4 * (j : Int)))), (5, .int (iI k))]) (pc' := 596) (st' := []) rfl rfl rfl rfl ?_
      refine g_widen (k := cells + 1) (n := slots + 6) (by omega) (by omega) ?_
      refine g_aload_n C (q := 2) d_law_596 rfl rfl ?_
      refine gVF C lw_in (st := []) (wr := lwd ad cI cZ cJ qo jf' x') (m_Tw_thrown z) i2033 i020 lbw_d lbw_d1 lbw_e rfl rfl (by decide) k_706 k_703 k_704 k_705 k_7 rfl ho_Tw_thrown rfl rfl ⟨by decide, by decide⟩ 20 (lbw_20.trans (mwo_0 _)) rfl rfl rfl (Nat.le_of_ble_eq_true rfl) d_law_597 ⟨hcs.1, hcs.2⟩ (fun r w hq => ?_)
      obtain ⟨rfl, rfl⟩ := hq
      refine g_eq (ws' := (lbw ad md cI cZ cJ qo jf' x' z)) (lv' := [(0, .ref b), (1, .ref (ad 0)), (2, .ref (md 0)), (3, .ref qo), (4, .int (iI (4 * (j : Int)))), (5, .int (iI k))]) (pc' := 600) (st' := [.int (iI k)]) rfl rfl rfl (by rw [← e1] <;> rfl) ?_
      refine g_widen (k := cells + 1) (n := slots + 6) (by omega) (by omega) ?_
      refine g_iload C (q := 5) d_law_600 rfl ?_
      refine g_same C (tgt := 607) d_law_602 rfl ?_
      refine g_goto C (tgt := 1312) d_law_607 rfl ?_
      refine g_lv (lv' := [(0, .ref b), (1, .ref (ad 0)), (2, .ref (md 0)), (3, .ref qo), (4, .int (iI (4 * (j : Int))))]) [0, 1, 2, 3, 4] rfl ?_
      exact K _ _ _ e3
set_option maxRecDepth 100000 in
set_option maxHeartbeats 4000000 in
theorem lw_limit {p : Program} {l : Launch} {e : Env} {s : State} {m : MethodId} {args : Array Value} {below : List Frame} {meth : Method} {c : Code} {D : va_G} {cI cZ cJ : ClassId} {base : Nat} {ad md : Nat → Nat} {A : Nat → Prop} {Q : State → Prop} {b L qo : Nat} {xs : Nat → Int32} {cells slots : Nat} (C : gC p s m args meth c D cls9 (tyl cI cZ cJ) A code 7 "BatchSavingsLaw" lw_tbl base (zz base)) (hX : va_X b L xs s s.heap) (hbl : b < s.heap.size) (hbA : ¬ A b) (hl : l.stackTraces = false) (hL : L ≤ 2048) (hcs : cells + 1 ≤ 1071 ∧ slots + 6 ≤ 11127) (x y : Bk) (jf : Nat → Int64) (j : Nat) (hj4 : 4 * j + 4 ≤ L) (hI : I2 x y)
    (K : ∀ (x' y' : Bk) (jf' : Nat → Int64), I2 x' y' → gW p l e room_1 s m args below meth c D cls9 A 7 (cells + 1) (slots + 6) Q (lbw ad md cI cZ cJ qo jf' x' y') [(0, .ref b), (1, .ref (ad 0)), (2, .ref (md 0)), (3, .ref qo), (4, .int (iI (4 * (j : Int))))] 1312 []) : gW p l e room_1 s m args below meth c D cls9 A 7 cells slots Q (lbw ad md cI cZ cJ qo jf x y) [(0, .ref b), (1, .ref (ad 0)), (2, .ref (md 0)), (3, .ref qo), (4, .int (iI (4 * (j : Int))))] 610 [] := by
  refine g_aload_n C (q := 1) d_law_610 rfl rfl ?_
  refine g_aload_n C (q := 0) d_law_611 rfl rfl ?_
  refine g_iload C (q := 4) d_law_612 rfl ?_
  refine g_iconst C d_law_614 ?_
  refine g_iadd C d_law_615 ?_
  refine g_sld C hX hbl hbA (n := 4 * j + 1) (by omega) (by omega) hL d_law_616 ?_
  refine g_aload_n C (q := 0) d_law_617 rfl rfl ?_
  refine g_iload C (q := 4) d_law_618 rfl ?_
  refine g_iconst C d_law_620 ?_
  refine g_iadd C d_law_621 ?_
  refine g_sld C hX hbl hbA (n := 4 * j + 2) (by omega) (by omega) hL d_law_622 ?_
  refine g_aload_n C (q := 3) d_law_623 rfl rfl ?_
  refine gSWF C lw_in (st := []) (wr := mw md cI cZ y) (m_L_limit hl x qo jf ((xs (4 * j + 1)).toInt) ((xs (4 * j + 2)).toInt) (InR_x (xs (4 * j + 1))) (InR_x (xs (4 * j + 2))) hI.1.ok) i020 i2033 lbw_c lbw_c1 lbw_r rfl rfl (by decide) k_419 k_417 k_418 k_0 ho_L_limit rfl rfl ⟨by decide, by decide⟩ rfl rfl (Nat.le_of_ble_eq_true rfl) d_law_624 ⟨hcs.1, hcs.2⟩ (fun r w hq => ?_)
  obtain ⟨k, o, x', jf', rfl, rfl, hj, hc⟩ := hq
  have hk3 := k_limit hc
  refine g_eq (ws' := (lbm ad md cI cZ cJ qo jf' x' y)) (lv' := [(0, .ref b), (1, .ref (ad 0)), (2, .ref (md 0)), (3, .ref qo), (4, .int (iI (4 * (j : Int))))]) (pc' := 627) (st' := [.int (iI k)]) rfl rfl rfl rfl ?_
  refine g_istore C (lv' := [(0, .ref b), (1, .ref (ad 0)), (2, .ref (md 0)), (3, .ref qo), (4, .int (iI (4 * (j : Int)))), (5, .int (iI k))]) d_law_627 (by decide) rfl rfl ?_
  refine g_aload_n C (q := 2) d_law_629 rfl rfl ?_
  refine g_aload_n C (q := 0) d_law_630 rfl rfl ?_
  refine g_iload C (q := 4) d_law_631 rfl ?_
  refine g_iconst C d_law_633 ?_
  refine g_iadd C d_law_634 ?_
  refine g_sld C hX hbl hbA (n := 4 * j + 1) (by omega) (by omega) hL d_law_635 ?_
  refine g_aload_n C (q := 0) d_law_636 rfl rfl ?_
  refine g_iload C (q := 4) d_law_637 rfl ?_
  refine g_iconst C d_law_639 ?_
  refine g_iadd C d_law_640 ?_
  refine g_sld C hX hbl hbA (n := 4 * j + 2) (by omega) (by omega) hL d_law_641 ?_
  refine gVF C lw_in (st := []) (wr := lwd ad cI cZ cJ qo jf' x') (m_Tw_limit y ((xs (4 * j + 1)).toInt) ((xs (4 * j + 2)).toInt) (InR_x (xs (4 * j + 1))) (InR_x (xs (4 * j + 2))) hI.oky) i013 i1333 lbm_c lbm_c1 lbm_r rfl rfl (by decide) k_757 k_754 k_755 k_756 k_7 rfl ho_Tw_limit rfl rfl ⟨by decide, by decide⟩ 0 (lbm_0.trans (mwo_0 _)) rfl rfl rfl (Nat.le_of_ble_eq_true rfl) d_law_642 ⟨hcs.1, hcs.2⟩ (fun r w hq => ?_)
  obtain ⟨z, rfl, hm⟩ := hq
  obtain ⟨e1, e2, ⟨u, rfl⟩, e3⟩ := P_limit hI hc hm
  clear hm
  refine g_eq (ws' := (lbw ad md cI cZ cJ qo jf' x' z)) (lv' := [(0, .ref b), (1, .ref (ad 0)), (2, .ref (md 0)), (3, .ref qo), (4, .int (iI (4 * (j : Int)))), (5, .int (iI k))]) (pc' := 645) (st' := [.int (iI u)]) rfl rfl rfl rfl ?_
  refine g_widen (k := cells + 1) (n := slots + 6) (by omega) (by omega) ?_
  refine g_istore C (lv' := [(0, .ref b), (1, .ref (ad 0)), (2, .ref (md 0)), (3, .ref qo), (4, .int (iI (4 * (j : Int)))), (5, .int (iI k)), (6, .int (iI u))]) d_law_645 (by decide) rfl rfl ?_
  refine g_aload_n C (q := 2) d_law_647 rfl rfl ?_
  refine gVF C lw_in (st := []) (wr := lwd ad cI cZ cJ qo jf' x') (m_Tw_thrown z) i2033 i020 lbw_d lbw_d1 lbw_e rfl rfl (by decide) k_706 k_703 k_704 k_705 k_7 rfl ho_Tw_thrown rfl rfl ⟨by decide, by decide⟩ 20 (lbw_20.trans (mwo_0 _)) rfl rfl rfl (Nat.le_of_ble_eq_true rfl) d_law_648 ⟨hcs.1, hcs.2⟩ (fun r w hq => ?_)
  obtain ⟨rfl, rfl⟩ := hq
  refine g_eq (ws' := (lbw ad md cI cZ cJ qo jf' x' z)) (lv' := [(0, .ref b), (1, .ref (ad 0)), (2, .ref (md 0)), (3, .ref qo), (4, .int (iI (4 * (j : Int)))), (5, .int (iI k)), (6, .int (iI u))]) (pc' := 651) (st' := [.int (iI k)]) rfl rfl rfl (by rw [← e1] <;> rfl) ?_
  refine g_widen (k := cells + 1) (n := slots + 6) (by omega) (by omega) ?_
  refine g_iload C (q := 5) d_law_651 rfl ?_
  refine g_same C (tgt := 658) d_law_653 rfl ?_
  refine g_iload C (q := 5) d_law_658 rfl ?_
  refine g_if_ne C (tgt := 675) d_law_660 rfl (by omega) (fun h660_2 => ?_) (fun h660_2 => ?_)
  · refine g_goto C (tgt := 1312) d_law_675 rfl ?_
    refine g_lv (lv' := [(0, .ref b), (1, .ref (ad 0)), (2, .ref (md 0)), (3, .ref qo), (4, .int (iI (4 * (j : Int))))]) [0, 1, 2, 3, 4] rfl ?_
    exact K _ _ _ e3
  · refine g_aload_n C (q := 3) d_law_663 rfl rfl ?_
    refine g_iconst C d_law_664 ?_
    refine g_lald C 0 2 lbw_0 rfl (by decide) (by decide) d_law_665 ?_
    have hu : u = o := Option.some.inj (e2 h660_2)
    refine g_long (z := (iI u).toInt64) ((hj h660_2).trans (by rw [hu])) ?_
    refine g_iload C (q := 6) d_law_666 rfl ?_
    refine g_i2l C d_law_668 ?_
    refine g_lcmp0 C d_law_669 ?_
    refine g_if_eq C (tgt := 675) d_law_670 rfl (by omega) (fun h670_3 => ?_) (fun h670_3 => ?_)
    · refine g_goto C (tgt := 1312) d_law_675 rfl ?_
      refine g_lv (lv' := [(0, .ref b), (1, .ref (ad 0)), (2, .ref (md 0)), (3, .ref qo), (4, .int (iI (4 * (j : Int))))]) [0, 1, 2, 3, 4] rfl ?_
      exact K _ _ _ e3
    · exfalso
      omega
set_option maxRecDepth 100000 in
set_option maxHeartbeats 4000000 in
theorem lw_match {p : Program} {l : Launch} {e : Env} {s : State} {m : MethodId} {args : Array Value} {below : List Frame} {meth : Method} {c : Code} {D : va_G} {cI cZ cJ : ClassId} {base : Nat} {ad md : Nat → Nat} {A : Nat → Prop} {Q : State → Prop} {b L qo : Nat} {xs : Nat → Int32} {cells slots : Nat} (C : gC p s m args meth c D cls9 (tyl cI cZ cJ) A code 7 "BatchSavingsLaw" lw_tbl base (zz base)) (hX : va_X b L xs s s.heap) (hbl : b < s.heap.size) (hbA : ¬ A b) (hl : l.stackTraces = false) (hL : L ≤ 2048) (hcs : cells + 1 ≤ 1071 ∧ slots + 6 ≤ 11127) (x y : Bk) (jf : Nat → Int64) (j : Nat) (hj4 : 4 * j + 4 ≤ L) (hI : I2 x y)
    (K : ∀ (x' y' : Bk) (jf' : Nat → Int64), I2 x' y' → gW p l e room_1 s m args below meth c D cls9 A 7 (cells + 1) (slots + 6) Q (lbw ad md cI cZ cJ qo jf' x' y') [(0, .ref b), (1, .ref (ad 0)), (2, .ref (md 0)), (3, .ref qo), (4, .int (iI (4 * (j : Int))))] 1312 []) : gW p l e room_1 s m args below meth c D cls9 A 7 cells slots Q (lbw ad md cI cZ cJ qo jf x y) [(0, .ref b), (1, .ref (ad 0)), (2, .ref (md 0)), (3, .ref qo), (4, .int (iI (4 * (j : Int))))] 678 [] := by
  refine g_aload_n C (q := 1) d_law_678 rfl rfl ?_
  refine g_aload_n C (q := 0) d_law_679 rfl rfl ?_
  refine g_iload C (q := 4) d_law_680 rfl ?_
  refine g_iconst C d_law_682 ?_
  refine g_iadd C d_law_683 ?_
  refine g_sld C hX hbl hbA (n := 4 * j + 1) (by omega) (by omega) hL d_law_684 ?_
  refine g_aload_n C (q := 3) d_law_685 rfl rfl ?_
  refine gSWF C lw_in (st := []) (wr := mw md cI cZ y) (m_L_match hl x qo jf ((xs (4 * j + 1)).toInt) (InR_x (xs (4 * j + 1))) hI.1.ok hI.1.g hI.1.t) i020 i2033 lbw_c lbw_c1 lbw_r rfl rfl (by decide) k_430 k_428 k_429 k_0 ho_L_match rfl rfl ⟨by decide, by decide⟩ rfl rfl (Nat.le_of_ble_eq_true rfl) d_law_686 ⟨hcs.1, hcs.2⟩ (fun r w hq => ?_)
  obtain ⟨k, o, x', jf', rfl, rfl, hj, hc⟩ := hq
  have hk3 := k_match hc
  refine g_eq (ws' := (lbm ad md cI cZ cJ qo jf' x' y)) (lv' := [(0, .ref b), (1, .ref (ad 0)), (2, .ref (md 0)), (3, .ref qo), (4, .int (iI (4 * (j : Int))))]) (pc' := 689) (st' := [.int (iI k)]) rfl rfl rfl rfl ?_
  refine g_istore C (lv' := [(0, .ref b), (1, .ref (ad 0)), (2, .ref (md 0)), (3, .ref qo), (4, .int (iI (4 * (j : Int)))), (5, .int (iI k))]) d_law_689 (by decide) rfl rfl ?_
  refine g_aload_n C (q := 2) d_law_691 rfl rfl ?_
  refine g_aload_n C (q := 0) d_law_692 rfl rfl ?_
  refine g_iload C (q := 4) d_law_693 rfl ?_
  refine g_iconst C d_law_695 ?_
  refine g_iadd C d_law_696 ?_
  refine g_sld C hX hbl hbA (n := 4 * j + 1) (by omega) (by omega) hL d_law_697 ?_
  refine gVF C lw_in (st := []) (wr := lwd ad cI cZ cJ qo jf' x') (m_Tw_match y ((xs (4 * j + 1)).toInt) (InR_x (xs (4 * j + 1))) hI.oky hI.syy hI.2.2) i013 i1333 lbm_c lbm_c1 lbm_r rfl rfl (by decide) k_761 k_758 k_759 k_760 k_7 rfl ho_Tw_match rfl rfl ⟨by decide, by decide⟩ 0 (lbm_0.trans (mwo_0 _)) rfl rfl rfl (Nat.le_of_ble_eq_true rfl) d_law_698 ⟨hcs.1, hcs.2⟩ (fun r w hq => ?_)
  obtain ⟨z, rfl, hm⟩ := hq
  obtain ⟨e1, e2, ⟨u, rfl⟩, e3⟩ := P_match hI hc hm
  clear hm
  refine g_eq (ws' := (lbw ad md cI cZ cJ qo jf' x' z)) (lv' := [(0, .ref b), (1, .ref (ad 0)), (2, .ref (md 0)), (3, .ref qo), (4, .int (iI (4 * (j : Int)))), (5, .int (iI k))]) (pc' := 701) (st' := [.int (iI u)]) rfl rfl rfl rfl ?_
  refine g_widen (k := cells + 1) (n := slots + 6) (by omega) (by omega) ?_
  refine g_istore C (lv' := [(0, .ref b), (1, .ref (ad 0)), (2, .ref (md 0)), (3, .ref qo), (4, .int (iI (4 * (j : Int)))), (5, .int (iI k)), (6, .int (iI u))]) d_law_701 (by decide) rfl rfl ?_
  refine g_aload_n C (q := 2) d_law_703 rfl rfl ?_
  refine gVF C lw_in (st := []) (wr := lwd ad cI cZ cJ qo jf' x') (m_Tw_thrown z) i2033 i020 lbw_d lbw_d1 lbw_e rfl rfl (by decide) k_706 k_703 k_704 k_705 k_7 rfl ho_Tw_thrown rfl rfl ⟨by decide, by decide⟩ 20 (lbw_20.trans (mwo_0 _)) rfl rfl rfl (Nat.le_of_ble_eq_true rfl) d_law_704 ⟨hcs.1, hcs.2⟩ (fun r w hq => ?_)
  obtain ⟨rfl, rfl⟩ := hq
  refine g_eq (ws' := (lbw ad md cI cZ cJ qo jf' x' z)) (lv' := [(0, .ref b), (1, .ref (ad 0)), (2, .ref (md 0)), (3, .ref qo), (4, .int (iI (4 * (j : Int)))), (5, .int (iI k)), (6, .int (iI u))]) (pc' := 707) (st' := [.int (iI k)]) rfl rfl rfl (by rw [← e1] <;> rfl) ?_
  refine g_widen (k := cells + 1) (n := slots + 6) (by omega) (by omega) ?_
  refine g_iload C (q := 5) d_law_707 rfl ?_
  refine g_same C (tgt := 714) d_law_709 rfl ?_
  refine g_iload C (q := 5) d_law_714 rfl ?_
  refine g_if_ne C (tgt := 731) d_law_716 rfl (by omega) (fun h716_2 => ?_) (fun h716_2 => ?_)
  · refine g_goto C (tgt := 1312) d_law_731 rfl ?_
    refine g_lv (lv' := [(0, .ref b), (1, .ref (ad 0)), (2, .ref (md 0)), (3, .ref qo), (4, .int (iI (4 * (j : Int))))]) [0, 1, 2, 3, 4] rfl ?_
    exact K _ _ _ e3
  · refine g_aload_n C (q := 3) d_law_719 rfl rfl ?_
    refine g_iconst C d_law_720 ?_
    refine g_lald C 0 2 lbw_0 rfl (by decide) (by decide) d_law_721 ?_
    have hu : u = o := Option.some.inj (e2 h716_2)
    refine g_long (z := (iI u).toInt64) ((hj h716_2).trans (by rw [hu])) ?_
    refine g_iload C (q := 6) d_law_722 rfl ?_
    refine g_i2l C d_law_724 ?_
    refine g_lcmp0 C d_law_725 ?_
    refine g_if_eq C (tgt := 731) d_law_726 rfl (by omega) (fun h726_3 => ?_) (fun h726_3 => ?_)
    · refine g_goto C (tgt := 1312) d_law_731 rfl ?_
      refine g_lv (lv' := [(0, .ref b), (1, .ref (ad 0)), (2, .ref (md 0)), (3, .ref qo), (4, .int (iI (4 * (j : Int))))]) [0, 1, 2, 3, 4] rfl ?_
      exact K _ _ _ e3
    · exfalso
      omega
set_option maxRecDepth 100000 in
set_option maxHeartbeats 4000000 in
theorem lw_exact {p : Program} {l : Launch} {e : Env} {s : State} {m : MethodId} {args : Array Value} {below : List Frame} {meth : Method} {c : Code} {D : va_G} {cI cZ cJ : ClassId} {base : Nat} {ad md : Nat → Nat} {A : Nat → Prop} {Q : State → Prop} {b L qo : Nat} {xs : Nat → Int32} {cells slots : Nat} (C : gC p s m args meth c D cls9 (tyl cI cZ cJ) A code 7 "BatchSavingsLaw" lw_tbl base (zz base)) (hX : va_X b L xs s s.heap) (hbl : b < s.heap.size) (hbA : ¬ A b) (hl : l.stackTraces = false) (hL : L ≤ 2048) (hcs : cells + 1 ≤ 1071 ∧ slots + 6 ≤ 11127) (x y : Bk) (jf : Nat → Int64) (j : Nat) (hj4 : 4 * j + 4 ≤ L) (hI : I2 x y)
    (K : ∀ (x' y' : Bk) (jf' : Nat → Int64), I2 x' y' → gW p l e room_1 s m args below meth c D cls9 A 7 (cells + 1) (slots + 6) Q (lbw ad md cI cZ cJ qo jf' x' y') [(0, .ref b), (1, .ref (ad 0)), (2, .ref (md 0)), (3, .ref qo), (4, .int (iI (4 * (j : Int))))] 1312 []) : gW p l e room_1 s m args below meth c D cls9 A 7 cells slots Q (lbw ad md cI cZ cJ qo jf x y) [(0, .ref b), (1, .ref (ad 0)), (2, .ref (md 0)), (3, .ref qo), (4, .int (iI (4 * (j : Int))))] 734 [] := by
  have hc0 : cells ≤ 1071 ∧ slots ≤ 11127 := by omega
  refine g_aload_n C (q := 1) d_law_734 rfl rfl ?_
  refine gVF C lw_in (st := []) (wr := (qo, .inl (cJ, 1, .inr (.inl jf))) :: mw md cI cZ y) (m_S_exact x hI.1.ok) i120 i02033 lbw_k lbw_k1 lbw_kr rfl rfl (by decide) k_163 k_160 k_161 k_162 k_1 rfl ho_S_exact rfl rfl ⟨by decide, by decide⟩ 1 lbw_1 rfl rfl rfl (Nat.le_of_ble_eq_true rfl) d_law_735 ⟨hc0.1, hc0.2⟩ (fun r w hq => ?_)
  obtain ⟨rfl, rfl⟩ := hq
  refine g_eq (ws' := (lbe ad md cI cZ cJ qo jf x y)) (lv' := [(0, .ref b), (1, .ref (ad 0)), (2, .ref (md 0)), (3, .ref qo), (4, .int (iI (4 * (j : Int))))]) (pc' := 738) (st' := [.int (iI (x 4 0))]) rfl rfl rfl rfl ?_
  refine g_widen (k := cells) (n := slots) (by omega) (by omega) ?_
  refine g_aload_n C (q := 2) d_law_738 rfl rfl ?_
  refine gVF C lw_in (st := [.int (iI (x 4 0))]) (wr := lwd ad cI cZ cJ qo jf x) (m_Tw_exact y hI.oky) i114 i01433 lbe_c lbe_c1 lbe_r rfl rfl (by decide) k_792 k_789 k_790 k_791 k_7 rfl ho_Tw_exact rfl rfl ⟨by decide, by decide⟩ 1 (lbe_1.trans (mwo_0 _)) rfl rfl rfl (Nat.le_of_ble_eq_true rfl) d_law_739 ⟨hc0.1, hc0.2⟩ (fun r w hq => ?_)
  obtain ⟨z, rfl, m0, m1, rfl, m3⟩ := hq
  have e1 : y 4 0 = x 4 0 := congrFun (hI.2.1.k 4 (by decide)) 0
  refine g_eq (ws' := (lbw ad md cI cZ cJ qo jf x z)) (lv' := [(0, .ref b), (1, .ref (ad 0)), (2, .ref (md 0)), (3, .ref qo), (4, .int (iI (4 * (j : Int))))]) (pc' := 742) (st' := [.int (iI (x 4 0)), .int (iI (x 4 0))]) rfl rfl rfl (by rw [← e1] <;> rfl) ?_
  refine g_widen (k := cells + 1) (n := slots + 6) (by omega) (by omega) ?_
  refine g_same C (tgt := 1312) d_law_742 rfl ?_
  refine g_lv (lv' := [(0, .ref b), (1, .ref (ad 0)), (2, .ref (md 0)), (3, .ref qo), (4, .int (iI (4 * (j : Int))))]) [0, 1, 2, 3, 4] rfl ?_
  exact K _ _ _ (hI.thr (scr.rf x) m3)
set_option maxRecDepth 100000 in
set_option maxHeartbeats 4000000 in
theorem lw_with {p : Program} {l : Launch} {e : Env} {s : State} {m : MethodId} {args : Array Value} {below : List Frame} {meth : Method} {c : Code} {D : va_G} {cI cZ cJ : ClassId} {base : Nat} {ad md : Nat → Nat} {A : Nat → Prop} {Q : State → Prop} {b L qo : Nat} {xs : Nat → Int32} {cells slots : Nat} (C : gC p s m args meth c D cls9 (tyl cI cZ cJ) A code 7 "BatchSavingsLaw" lw_tbl base (zz base)) (hX : va_X b L xs s s.heap) (hbl : b < s.heap.size) (hbA : ¬ A b) (hl : l.stackTraces = false) (hL : L ≤ 2048) (hcs : cells + 1 ≤ 1071 ∧ slots + 6 ≤ 11127) (x y : Bk) (jf : Nat → Int64) (j : Nat) (hj4 : 4 * j + 4 ≤ L) (hI : I2 x y)
    (K : ∀ (x' y' : Bk) (jf' : Nat → Int64), I2 x' y' → gW p l e room_1 s m args below meth c D cls9 A 7 (cells + 1) (slots + 6) Q (lbw ad md cI cZ cJ qo jf' x' y') [(0, .ref b), (1, .ref (ad 0)), (2, .ref (md 0)), (3, .ref qo), (4, .int (iI (4 * (j : Int))))] 1312 []) : gW p l e room_1 s m args below meth c D cls9 A 7 cells slots Q (lbw ad md cI cZ cJ qo jf x y) [(0, .ref b), (1, .ref (ad 0)), (2, .ref (md 0)), (3, .ref qo), (4, .int (iI (4 * (j : Int))))] 747 [] := by
  refine g_aload_n C (q := 1) d_law_747 rfl rfl ?_
  refine g_aload_n C (q := 0) d_law_748 rfl rfl ?_
  refine g_iload C (q := 4) d_law_749 rfl ?_
  refine g_iconst C d_law_751 ?_
  refine g_iadd C d_law_752 ?_
  refine g_sld C hX hbl hbA (n := 4 * j + 1) (by omega) (by omega) hL d_law_753 ?_
  refine g_aload_n C (q := 3) d_law_754 rfl rfl ?_
  refine gSWF C lw_in (st := []) (wr := mw md cI cZ y) (m_L_with hl x qo jf ((xs (4 * j + 1)).toInt) (InR_x (xs (4 * j + 1))) hI.1.ok) i020 i2033 lbw_c lbw_c1 lbw_r rfl rfl (by decide) k_492 k_490 k_491 k_0 ho_L_with rfl rfl ⟨by decide, by decide⟩ rfl rfl (Nat.le_of_ble_eq_true rfl) d_law_755 ⟨hcs.1, hcs.2⟩ (fun r w hq => ?_)
  obtain ⟨k, o, x', jf', rfl, rfl, hj, hc⟩ := hq
  have hk3 := k_with hc
  refine g_eq (ws' := (lbm ad md cI cZ cJ qo jf' x' y)) (lv' := [(0, .ref b), (1, .ref (ad 0)), (2, .ref (md 0)), (3, .ref qo), (4, .int (iI (4 * (j : Int))))]) (pc' := 758) (st' := [.int (iI k)]) rfl rfl rfl rfl ?_
  refine g_istore C (lv' := [(0, .ref b), (1, .ref (ad 0)), (2, .ref (md 0)), (3, .ref qo), (4, .int (iI (4 * (j : Int)))), (5, .int (iI k))]) d_law_758 (by decide) rfl rfl ?_
  refine g_aload_n C (q := 2) d_law_760 rfl rfl ?_
  refine g_aload_n C (q := 0) d_law_761 rfl rfl ?_
  refine g_iload C (q := 4) d_law_762 rfl ?_
  refine g_iconst C d_law_764 ?_
  refine g_iadd C d_law_765 ?_
  refine g_sld C hX hbl hbA (n := 4 * j + 1) (by omega) (by omega) hL d_law_766 ?_
  refine gVF C lw_in (st := []) (wr := lwd ad cI cZ cJ qo jf' x') (m_Tw_with y ((xs (4 * j + 1)).toInt) (InR_x (xs (4 * j + 1))) hI.oky) i013 i1333 lbm_c lbm_c1 lbm_r rfl rfl (by decide) k_796 k_793 k_794 k_795 k_7 rfl ho_Tw_with rfl rfl ⟨by decide, by decide⟩ 0 (lbm_0.trans (mwo_0 _)) rfl rfl rfl (Nat.le_of_ble_eq_true rfl) d_law_767 ⟨hcs.1, hcs.2⟩ (fun r w hq => ?_)
  obtain ⟨z, rfl, hm⟩ := hq
  obtain ⟨e1, e2, ⟨u, rfl⟩, e3⟩ := P_with hI hc hm
  clear hm
  refine g_eq (ws' := (lbw ad md cI cZ cJ qo jf' x' z)) (lv' := [(0, .ref b), (1, .ref (ad 0)), (2, .ref (md 0)), (3, .ref qo), (4, .int (iI (4 * (j : Int)))), (5, .int (iI k))]) (pc' := 770) (st' := [.int (iI u)]) rfl rfl rfl rfl ?_
  refine g_widen (k := cells + 1) (n := slots + 6) (by omega) (by omega) ?_
  refine g_istore C (lv' := [(0, .ref b), (1, .ref (ad 0)), (2, .ref (md 0)), (3, .ref qo), (4, .int (iI (4 * (j : Int)))), (5, .int (iI k)), (6, .int (iI u))]) d_law_770 (by decide) rfl rfl ?_
  refine g_aload_n C (q := 2) d_law_772 rfl rfl ?_
  refine gVF C lw_in (st := []) (wr := lwd ad cI cZ cJ qo jf' x') (m_Tw_thrown z) i2033 i020 lbw_d lbw_d1 lbw_e rfl rfl (by decide) k_706 k_703 k_704 k_705 k_7 rfl ho_Tw_thrown rfl rfl ⟨by decide, by decide⟩ 20 (lbw_20.trans (mwo_0 _)) rfl rfl rfl (Nat.le_of_ble_eq_true rfl) d_law_773 ⟨hcs.1, hcs.2⟩ (fun r w hq => ?_)
  obtain ⟨rfl, rfl⟩ := hq
  refine g_eq (ws' := (lbw ad md cI cZ cJ qo jf' x' z)) (lv' := [(0, .ref b), (1, .ref (ad 0)), (2, .ref (md 0)), (3, .ref qo), (4, .int (iI (4 * (j : Int)))), (5, .int (iI k)), (6, .int (iI u))]) (pc' := 776) (st' := [.int (iI k)]) rfl rfl rfl (by rw [← e1] <;> rfl) ?_
  refine g_widen (k := cells + 1) (n := slots + 6) (by omega) (by omega) ?_
  refine g_iload C (q := 5) d_law_776 rfl ?_
  refine g_same C (tgt := 783) d_law_778 rfl ?_
  refine g_iload C (q := 5) d_law_783 rfl ?_
  refine g_if_ne C (tgt := 800) d_law_785 rfl (by omega) (fun h785_2 => ?_) (fun h785_2 => ?_)
  · refine g_goto C (tgt := 1312) d_law_800 rfl ?_
    refine g_lv (lv' := [(0, .ref b), (1, .ref (ad 0)), (2, .ref (md 0)), (3, .ref qo), (4, .int (iI (4 * (j : Int))))]) [0, 1, 2, 3, 4] rfl ?_
    exact K _ _ _ e3
  · refine g_aload_n C (q := 3) d_law_788 rfl rfl ?_
    refine g_iconst C d_law_789 ?_
    refine g_lald C 0 2 lbw_0 rfl (by decide) (by decide) d_law_790 ?_
    have hu : u = o := Option.some.inj (e2 h785_2)
    refine g_long (z := (iI u).toInt64) ((hj h785_2).trans (by rw [hu])) ?_
    refine g_iload C (q := 6) d_law_791 rfl ?_
    refine g_i2l C d_law_793 ?_
    refine g_lcmp0 C d_law_794 ?_
    refine g_if_eq C (tgt := 800) d_law_795 rfl (by omega) (fun h795_3 => ?_) (fun h795_3 => ?_)
    · refine g_goto C (tgt := 1312) d_law_800 rfl ?_
      refine g_lv (lv' := [(0, .ref b), (1, .ref (ad 0)), (2, .ref (md 0)), (3, .ref qo), (4, .int (iI (4 * (j : Int))))]) [0, 1, 2, 3, 4] rfl ?_
      exact K _ _ _ e3
    · exfalso
      omega
