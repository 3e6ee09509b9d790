def S_order (x : Bk) (a b v : Int) (k o : Int) (x' : Bk) : Prop := (k = 1 ∧ (¬ ((1 ≤ a ∧ a ≤ 10000) ∧ (1 ≤ b ∧ b ≤ 100) ∧ (0 ≤ v ∧ v ≤ 3))) ∧ scr x' x) ∨ (k = 2 ∧ ((((1 ≤ a ∧ a ≤ 10000) ∧ (1 ≤ b ∧ b ≤ 100) ∧ (0 ≤ v ∧ v ≤ 3)) ∧ ¬ x 1 0 < 10)) ∧ scr x' x) ∨ (k = 0 ∧ ((((1 ≤ a ∧ a ≤ 10000) ∧ (1 ≤ b ∧ b ≤ 100) ∧ (0 ≤ v ∧ v ≤ 3)) ∧ x 1 0 < 10)) ∧ o = x 1 0 ∧ x' = ordX x a b v)
def S_joined (x : Bk) (a b v : Int) (k o : Int) (x' : Bk) : Prop := (k = 1 ∧ (¬ ((0 ≤ a ∧ a < x 1 0) ∧ (0 ≤ b ∧ b < x 1 0))) ∧ scr x' x) ∨ (k = 2 ∧ ((((0 ≤ a ∧ a < x 1 0) ∧ (0 ≤ b ∧ b < x 1 0)) ∧ (a = b ∨ ¬ (0 ≤ v ∧ v ≤ 20000)))) ∧ scr x' x) ∨ (k = 0 ∧ ((((0 ≤ a ∧ a < x 1 0) ∧ (0 ≤ b ∧ b < x 1 0)) ∧ ¬ a = b ∧ 0 ≤ v ∧ v ≤ 20000)) ∧ o = sv (joiX x a b v) a b ∧ x' = joiX x a b v)
def S_saving (x : Bk) (a b : Int) (k o : Int) (x' : Bk) : Prop := (k = 1 ∧ (¬ ((0 ≤ a ∧ a < x 1 0) ∧ (0 ≤ b ∧ b < x 1 0))) ∧ scr x' x) ∨ (k = 2 ∧ ((((0 ≤ a ∧ a < x 1 0) ∧ (0 ≤ b ∧ b < x 1 0)) ∧ a = b)) ∧ scr x' x) ∨ (k = 0 ∧ ((((0 ≤ a ∧ a < x 1 0) ∧ (0 ≤ b ∧ b < x 1 0)) ∧ ¬ a = b)) ∧ o = sv x a b ∧ x' = x)
def S_rule (x : Bk) (a b v : Int) (k o : Int) (x' : Bk) : Prop := (k = 1 ∧ (¬ ((0 ≤ a ∧ a < x 1 0) ∧ (0 ≤ b ∧ b < x 1 0))) ∧ scr x' x) ∨ (k = 2 ∧ ((((0 ≤ a ∧ a < x 1 0) ∧ (0 ≤ b ∧ b < x 1 0)) ∧ a = b)) ∧ scr x' x) ∨ (k = 0 ∧ ((((0 ≤ a ∧ a < x 1 0) ∧ (0 ≤ b ∧ b < x 1 0)) ∧ ¬ a = b)) ∧ o = c01 (okP (rulX x a b v) a b) ∧ scr x' (rulX x a b v))
def S_weight (x : Bk) (a v : Int) (k o : Int) (x' : Bk) : Prop := (k = 1 ∧ (¬ (0 ≤ a ∧ a < x 1 0)) ∧ scr x' x) ∨ (k = 2 ∧ (((0 ≤ a ∧ a < x 1 0) ∧ ¬ (0 ≤ v ∧ v ≤ 1000))) ∧ scr x' x) ∨ (k = 3 ∧ ((((0 ≤ a ∧ a < x 1 0) ∧ (0 ≤ v ∧ v ≤ 1000)) ∧ ¬ x 15 a = -1)) ∧ scr x' x) ∨ (k = 0 ∧ (((0 ≤ a ∧ a < x 1 0) ∧ (0 ≤ v ∧ v ≤ 1000) ∧ x 15 a = -1)) ∧ ((x 2 1 < v ∧ o = 0 ∧ x' = x) ∨ (v ≤ x 2 1 ∧ o = 1 ∧ x' = bu x 8 (updI (x 8) a v))))
def S_near (x : Bk) (a b v : Int) (k o : Int) (x' : Bk) : Prop := (k = 1 ∧ (¬ ((0 ≤ a ∧ a ≤ 3) ∧ (0 ≤ b ∧ b ≤ 3) ∧ ¬ a = b)) ∧ scr x' x) ∨ (k = 0 ∧ (((0 ≤ a ∧ a ≤ 3) ∧ (0 ≤ b ∧ b ≤ 3) ∧ ¬ a = b)) ∧ x' = bu x 11 (updI (updI (x 11) (a * 4 + b) v) (b * 4 + a) v))
def S_limit (x : Bk) (a b : Int) (k o : Int) (x' : Bk) : Prop := (k = 1 ∧ (¬ ((0 ≤ a ∧ a ≤ 4000) ∧ (1 ≤ b ∧ b ≤ 400))) ∧ scr x' x) ∨ (k = 0 ∧ (((0 ≤ a ∧ a ≤ 4000) ∧ (1 ≤ b ∧ b ≤ 400))) ∧ o = above (limX x a b) ∧ x' = limX x a b)
def S_match (x : Bk) (v : Int) (k o : Int) (x' : Bk) : Prop := (k = 1 ∧ (¬ (0 ≤ v ∧ v ≤ 10)) ∧ scr x' x) ∨ (k = 0 ∧ ((0 ≤ v ∧ v ≤ 10)) ∧ ∃ (xg : Bk) (u : Int), gok xg x (x 1 0) (x 1 0 + 1) ∧ u = cif (frees x ≤ v) 1 0 ∧ o = svd (pan xg u) ∧ x' = pan xg u)
def S_with (x : Bk) (a : Int) (k o : Int) (x' : Bk) : Prop := (k = 1 ∧ (¬ (0 ≤ a ∧ a < x 1 0)) ∧ scr x' x) ∨ (k = 0 ∧ ((0 ≤ a ∧ a < x 1 0)) ∧ o = x 16 a ∧ x' = x)
def S_open (x : Bk) (a : Int) (k o : Int) (x' : Bk) : Prop := (k = 1 ∧ (¬ (0 ≤ a ∧ a < x 1 0)) ∧ scr x' x) ∨ (k = 2 ∧ (((0 ≤ a ∧ a < x 1 0) ∧ ¬ x 15 a = -1)) ∧ scr x' x) ∨ (k = 3 ∧ ((((0 ≤ a ∧ a < x 1 0) ∧ x 15 a = -1) ∧ ¬ x 3 0 < 10)) ∧ scr x' x) ∨ (k = 0 ∧ (((0 ≤ a ∧ a < x 1 0) ∧ x 15 a = -1 ∧ x 3 0 < 10)) ∧ o = x 3 0 ∧ x' = opX x a)
def S_join (x : Bk) (a b : Int) (k o : Int) (x' : Bk) : Prop := (k = 1 ∧ (¬ ((0 ≤ a ∧ a < x 1 0) ∧ (0 ≤ b ∧ b < x 3 0))) ∧ scr x' x) ∨ (k = 2 ∧ ((((0 ≤ a ∧ a < x 1 0) ∧ (0 ≤ b ∧ b < x 3 0)) ∧ (¬ x 15 a = -1 ∨ ¬ mayC x a b))) ∧ scr x' x) ∨ (k = 3 ∧ (((((0 ≤ a ∧ a < x 1 0) ∧ (0 ≤ b ∧ b < x 3 0)) ∧ x 15 a = -1 ∧ mayC x a b) ∧ 4 ≤ x 14 b)) ∧ scr x' x) ∨ (k = 0 ∧ ((((0 ≤ a ∧ a < x 1 0) ∧ (0 ≤ b ∧ b < x 3 0)) ∧ x 15 a = -1 ∧ mayC x a b ∧ ¬ 4 ≤ x 14 b)) ∧ ∃ y : Bk, scr y x ∧ o = wayB (ptB (unX y a) a b) b ∧ x' = ptB (unX y a) a b)
def S_leave (x : Bk) (a : Int) (k o : Int) (x' : Bk) : Prop := (k = 1 ∧ (¬ (0 ≤ a ∧ a < x 1 0)) ∧ scr x' x) ∨ (k = 2 ∧ (((0 ≤ a ∧ a < x 1 0) ∧ x 15 a = -1)) ∧ scr x' x) ∨ (k = 0 ∧ (((0 ≤ a ∧ a < x 1 0) ∧ ¬ x 15 a = -1)) ∧ o = (tk (x 15 a) a (x 13) (x 14 (x 15 a)).toNat).2 ∧ x' = leX x a)
def S_batch (x : Bk) (a : Int) (k o : Int) (x' : Bk) : Prop := (k = 1 ∧ (¬ (0 ≤ a ∧ a < x 1 0)) ∧ scr x' x) ∨ (k = 0 ∧ ((0 ≤ a ∧ a < x 1 0)) ∧ o = x 15 a ∧ x' = x)
def S_told (x : Bk) (b a v : Int) (k o : Int) (x' : Bk) : Prop := (k = 1 ∧ (¬ (0 ≤ b ∧ b < x 3 0)) ∧ scr x' x) ∨ (k = 2 ∧ (((0 ≤ b ∧ b < x 3 0) ∧ ¬ ((0 ≤ v ∧ v ≤ 4) ∧ (v = 0 → 0 ≤ a ∧ a ≤ x 14 b - 1)))) ∧ scr x' x) ∨ (k = 0 ∧ (((0 ≤ b ∧ b < x 3 0) ∧ ((0 ≤ v ∧ v ≤ 4) ∧ (v = 0 → 0 ≤ a ∧ a ≤ x 14 b - 1)))) ∧ ((v = 0 ∧ o = x 13 (b * 4 + a)) ∨ (v = 1 ∧ o = wayB x b) ∨ (v = 2 ∧ o = sby x b) ∨ (v = 3 ∧ o = sumB x (x 6) b) ∨ (v = 4 ∧ o = sumB x (x 8) b)) ∧ x' = x)
def S_best (x : Bk) (a : Int) (k o : Int) (x' : Bk) : Prop := (k = 1 ∧ (¬ (0 ≤ a ∧ a < x 1 0)) ∧ scr x' x) ∨ (k = 2 ∧ (((0 ≤ a ∧ a < x 1 0) ∧ ¬ x 15 a = -1)) ∧ scr x' x) ∨ (k = 0 ∧ (((0 ≤ a ∧ a < x 1 0) ∧ x 15 a = -1)) ∧ o = (bsf x a (x 3 0).toNat).1 ∧ scr x' x)
def S_share (x : Bk) (a b : Int) (k o : Int) (x' : Bk) : Prop := (k = 1 ∧ (¬ ((0 ≤ a ∧ a ≤ 1000000) ∧ 0 ≤ b)) ∧ scr x' x) ∨ (k = 2 ∧ ((((0 ≤ a ∧ a ≤ 1000000) ∧ 0 ≤ b) ∧ b = 0)) ∧ scr x' x) ∨ (k = 0 ∧ ((((0 ≤ a ∧ a ≤ 1000000) ∧ 0 ≤ b) ∧ ¬ b = 0)) ∧ o = (100 * a).tdiv b ∧ x' = x)
def S_mean (x : Bk) (k o : Int) (x' : Bk) : Prop := (k = 1 ∧ (x 1 0 = 0) ∧ scr x' x) ∨ (k = 0 ∧ (¬ x 1 0 = 0) ∧ o = (sg (sby x) (x 3 0).toNat + svd x).tdiv (x 1 0) ∧ x' = x)
/-- the class's world with the law's answer cell -/
def lwd (ad : Nat → Nat) (cI cZ cJ : ClassId) (qo : Nat) (jf : Nat → Int64) (x : Bk) : va_W := (qo, .inl (cJ, 1, .inr (.inl jf))) :: cw ad cI cZ x
theorem lwd_0 {ad : Nat → Nat} {cI cZ cJ : ClassId} {qo : Nat} {jf : Nat → Int64} (x : Bk) : (lwd ad cI cZ cJ qo jf x)[0]? = some (qo, .inl (cJ, 1, .inr (.inl jf))) := rfl
theorem lwd_1 {ad : Nat → Nat} {cI cZ cJ : ClassId} {qo : Nat} {jf : Nat → Int64} (x : Bk) : (lwd ad cI cZ cJ qo jf x)[1]? = some (ad 0, .inr (0, [.ref (ad 1), .ref (ad 2), .ref (ad 3), .ref (ad 4)])) := rfl
theorem lwd_s {ad : Nat → Nat} {cI cZ cJ : ClassId} {qo : Nat} {jf : Nat → Int64} (x : Bk) (g : Nat → Int64) : (lwd ad cI cZ cJ qo jf x).set 0 (qo, .inl (cJ, 1, .inr (.inl g))) = lwd ad cI cZ cJ qo g x := rfl
set_option maxRecDepth 100000 in
set_option maxHeartbeats 4000000 in
theorem m_L_order {l : Launch} {D : va_G} {cI cZ cJ : ClassId} {base : Nat} {ad : Nat → Nat} (hl : l.stackTraces = false) (x : Bk) (qo : Nat) (jf : Nat → Int64) (a b v : Int) (ha : InR a) (hb : InR b) (hv : InR v) (hok : Ok x) : Cn l D cls9 (tyl cI cZ cJ) base (zz base) y_L_order (wzh y_L_order c_L_order 6 (some FieldType.int) [(0, 12, 15, 13), (0, 12, 19, 15)]) ({ frames := 8, cells := 1, slots := 6, locals := 127 } : Room) [.ref (ad 0), .int (iI a), .int (iI b), .int (iI v), .ref qo] (lwd ad cI cZ cJ qo jf x) (fun r w => ∃ (k o : Int) (x' : Bk) (jf' : Nat → Int64), r = some k ∧ w = lwd ad cI cZ cJ qo jf' x' ∧ (k = 0 → jf' 0 = (iI o).toInt64) ∧ S_order x a b v k o x') 1 6 := by
  refine Ch_of (zzG base) (by decide) rfl (Nat.le_of_ble_eq_true rfl) ?_
  intro p e s m args below meth c A C hr hA htab
  have C : gC p s m args meth c D cls9 (tyl cI cZ cJ) A c_L_order 6 "BatchSavingsLaw" (wzh y_L_order c_L_order 6 (some FieldType.int) [(0, 12, 15, 13), (0, 12, 19, 15)]) base (zz base) := C
  refine g_lve (lv' := [(0, .ref (ad 0)), (1, .int (iI a)), (2, .int (iI b)), (3, .int (iI v)), (4, .ref qo)]) rfl ?_
  refine g_aload C (q := 4) d_L_order_0 rfl ?_
  refine g_iconst C d_L_order_2 ?_
  refine g_aload_n C (q := 0) d_L_order_3 rfl rfl ?_
  refine g_iload_n C (q := 1) d_L_order_4 rfl rfl ?_
  refine g_iload_n C (q := 2) d_L_order_5 rfl rfl ?_
  refine g_iload_n C (q := 3) d_L_order_6 rfl rfl ?_
  refine gVxF C gws_inh (st := [.int (iI 0), .ref qo]) (wr := [(qo, .inl (cJ, 1, .inr (.inl jf)))]) (m_S_order hl x a b v ha hb hv hok) [1, 2, 3, 4, 5, 6, 7, 8, 9, 10, 11, 12, 13, 14, 15, 16, 17, 18, 19] [0] rfl rfl rfl rfl rfl (by decide) k_199 k_196 k_197 k_198 k_1 rfl ho_S_order rfl rfl ⟨by decide, by decide⟩ 1 (lwd_1 x) rfl rfl rfl (Nat.le_of_ble_eq_true rfl) d_L_order_7 ⟨by decide, by decide⟩ (fun E w hq => ?_) (fun r w hq => ?_)
  · obtain ⟨y, rfl, hsc, hE⟩ := hq
    rcases hE with ⟨rfl, hc⟩ | ⟨rfl, hc⟩
    · refine g_catch C gws_inh (hh := [(0, 12, 15, 13), (0, 12, 19, 15)]) htab [] ⟨0, 12, 15, 13⟩ [⟨0, 12, 19, 15⟩] rfl (fun z hz => nomatch hz) rfl (by decide) k_194 kn_205 (tgt := 15) rfl (fun q9 => ?_)
      refine g_ws (ws' := (lwd ad cI cZ cJ qo jf y)) rfl ?_
      refine g_astore C (lv' := [(0, .ref (ad 0)), (1, .int (iI a)), (2, .int (iI b)), (3, .int (iI v)), (4, .ref qo), (5, .ref q9)]) d_L_order_15 (by decide) rfl rfl ?_
      refine g_iconst C d_L_order_17 ?_
      exact g_iret C hA hr d_L_order_18 (by decide) (by decide) ⟨1, 0, y, jf, rfl, rfl, (fun z => by omega), Or.inl (⟨rfl, hc, hsc⟩)⟩
    · refine g_catch C gws_inh (hh := [(0, 12, 15, 13), (0, 12, 19, 15)]) htab [⟨0, 12, 15, 13⟩] ⟨0, 12, 19, 15⟩ [] rfl (fun z hz => by simp only [List.mem_cons, List.not_mem_nil, or_false] at hz; subst hz; exact ⟨by decide, _, k_194, by decide⟩) rfl (by decide) k_195 kn_275 (tgt := 19) rfl (fun q9 => ?_)
      refine g_ws (ws' := (lwd ad cI cZ cJ qo jf y)) rfl ?_
      refine g_astore C (lv' := [(0, .ref (ad 0)), (1, .int (iI a)), (2, .int (iI b)), (3, .int (iI v)), (4, .ref qo), (5, .ref q9)]) d_L_order_19 (by decide) rfl rfl ?_
      refine g_iconst C d_L_order_21 ?_
      exact g_iret C hA hr d_L_order_22 (by decide) (by decide) ⟨2, 0, y, jf, rfl, rfl, (fun z => by omega), Or.inr (Or.inl (⟨rfl, hc, hsc⟩))⟩
  · obtain ⟨hc, rfl, rfl⟩ := hq
    refine g_eq (ws' := (lwd ad cI cZ cJ qo jf (ordX x a b v))) (lv' := [(0, .ref (ad 0)), (1, .int (iI a)), (2, .int (iI b)), (3, .int (iI v)), (4, .ref qo)]) (pc' := 10) (st' := [.int (iI (x 1 0)), .int (iI 0), .ref qo]) rfl rfl rfl rfl ?_
    refine g_i2l C d_L_order_10 ?_
    refine g_last C 0 2 (lwd_0 (ordX x a b v)) rfl (by decide) (by decide) d_L_order_11 (lwd_s (ordX x a b v) _) ?_
    refine g_ws (ws' := (lwd ad cI cZ cJ qo (vp_updL jf 0 ((iI (x 1 0)).toInt64)) (ordX x a b v))) rfl ?_
    refine g_goto C (tgt := 23) d_L_order_12 rfl ?_
    refine g_iconst C d_L_order_23 ?_
    exact g_iret C hA hr d_L_order_24 (by decide) (by decide) ⟨0, (x 1 0), (ordX x a b v), (vp_updL jf 0 ((iI (x 1 0)).toInt64)), rfl, rfl, (fun _ => rfl), Or.inr (Or.inr (⟨rfl, hc, rfl, rfl⟩))⟩
set_option maxRecDepth 100000 in
set_option maxHeartbeats 4000000 in
theorem m_L_joined {l : Launch} {D : va_G} {cI cZ cJ : ClassId} {base : Nat} {ad : Nat → Nat} (hl : l.stackTraces = false) (x : Bk) (qo : Nat) (jf : Nat → Int64) (a b v : Int) (ha : InR a) (hb : InR b) (hv : InR v) (hok : Ok x) : Cn l D cls9 (tyl cI cZ cJ) base (zz base) y_L_joined (wzh y_L_joined c_L_joined 6 (some FieldType.int) [(0, 12, 15, 20), (0, 12, 19, 13)]) ({ frames := 9, cells := 1, slots := 6, locals := 148 } : Room) [.ref (ad 0), .int (iI a), .int (iI b), .int (iI v), .ref qo] (lwd ad cI cZ cJ qo jf x) (fun r w => ∃ (k o : Int) (x' : Bk) (jf' : Nat → Int64), r = some k ∧ w = lwd ad cI cZ cJ qo jf' x' ∧ (k = 0 → jf' 0 = (iI o).toInt64) ∧ S_joined x a b v k o x') 1 6 := by
  refine Ch_of (zzG base) (by decide) rfl (Nat.le_of_ble_eq_true rfl) ?_
  intro p e s m args below meth c A C hr hA htab
  have C : gC p s m args meth c D cls9 (tyl cI cZ cJ) A c_L_joined 6 "BatchSavingsLaw" (wzh y_L_joined c_L_joined 6 (some FieldType.int) [(0, 12, 15, 20), (0, 12, 19, 13)]) base (zz base) := C
  refine g_lve (lv' := [(0, .ref (ad 0)), (1, .int (iI a)), (2, .int (iI b)), (3, .int (iI v)), (4, .ref qo)]) rfl ?_
  refine g_aload C (q := 4) d_L_joined_0 rfl ?_
  refine g_iconst C d_L_joined_2 ?_
  refine g_aload_n C (q := 0) d_L_joined_3 rfl rfl ?_
  refine g_iload_n C (q := 1) d_L_joined_4 rfl rfl ?_
  refine g_iload_n C (q := 2) d_L_joined_5 rfl rfl ?_
  refine g_iload_n C (q := 3) d_L_joined_6 rfl rfl ?_
  refine gVxF C gws_inh (st := [.int (iI 0), .ref qo]) (wr := [(qo, .inl (cJ, 1, .inr (.inl jf)))]) (m_S_joined hl x a b v ha hb hv hok) [1, 2, 3, 4, 5, 6, 7, 8, 9, 10, 11, 12, 13, 14, 15, 16, 17, 18, 19] [0] rfl rfl rfl rfl rfl (by decide) k_300 k_297 k_298 k_299 k_1 rfl ho_S_joined rfl rfl ⟨by decide, by decide⟩ 1 (lwd_1 x) rfl rfl rfl (Nat.le_of_ble_eq_true rfl) d_L_joined_7 ⟨by decide, by decide⟩ (fun E w hq => ?_) (fun r w hq => ?_)
  · obtain ⟨y, rfl, hsc, hE⟩ := hq
    rcases hE with ⟨rfl, hc⟩ | ⟨rfl, hc⟩
    · refine g_catch C gws_inh (hh := [(0, 12, 15, 20), (0, 12, 19, 13)]) htab [] ⟨0, 12, 15, 20⟩ [⟨0, 12, 19, 13⟩] rfl (fun z hz => nomatch hz) rfl (by decide) k_296 kn_315 (tgt := 15) rfl (fun q9 => ?_)
      refine g_ws (ws' := (lwd ad cI cZ cJ qo jf y)) rfl ?_
      refine g_astore C (lv' := [(0, .ref (ad 0)), (1, .int (iI a)), (2, .int (iI b)), (3, .int (iI v)), (4, .ref qo), (5, .ref q9)]) d_L_joined_15 (by decide) rfl rfl ?_
      refine g_iconst C d_L_joined_17 ?_
      exact g_iret C hA hr d_L_joined_18 (by decide) (by decide) ⟨1, 0, y, jf, rfl, rfl, (fun z => by omega), Or.inl (⟨rfl, hc, hsc⟩)⟩
    · refine g_catch C gws_inh (hh := [(0, 12, 15, 20), (0, 12, 19, 13)]) htab [⟨0, 12, 15, 20⟩] ⟨0, 12, 19, 13⟩ [] rfl (fun z hz => by simp only [List.mem_cons, List.not_mem_nil, or_false] at hz; subst hz; exact ⟨by decide, _, k_296, by decide⟩) rfl (by decide) k_194 kn_205 (tgt := 19) rfl (fun q9 => ?_)
      refine g_ws (ws' := (lwd ad cI cZ cJ qo jf y)) rfl ?_
      refine g_astore C (lv' := [(0, .ref (ad 0)), (1, .int (iI a)), (2, .int (iI b)), (3, .int (iI v)), (4, .ref qo), (5, .ref q9)]) d_L_joined_19 (by decide) rfl rfl ?_
      refine g_iconst C d_L_joined_21 ?_
      exact g_iret C hA hr d_L_joined_22 (by decide) (by decide) ⟨2, 0, y, jf, rfl, rfl, (fun z => by omega), Or.inr (Or.inl (⟨rfl, hc, hsc⟩))⟩
  · obtain ⟨hc, rfl, rfl⟩ := hq
    refine g_eq (ws' := (lwd ad cI cZ cJ qo jf (joiX x a b v))) (lv' := [(0, .ref (ad 0)), (1, .int (iI a)), (2, .int (iI b)), (3, .int (iI v)), (4, .ref qo)]) (pc' := 10) (st' := [.int (iI (sv (joiX x a b v) a b)), .int (iI 0), .ref qo]) rfl rfl rfl rfl ?_
    refine g_i2l C d_L_joined_10 ?_
    refine g_last C 0 2 (lwd_0 (joiX x a b v)) rfl (by decide) (by decide) d_L_joined_11 (lwd_s (joiX x a b v) _) ?_
    refine g_ws (ws' := (lwd ad cI cZ cJ qo (vp_updL jf 0 ((iI (sv (joiX x a b v) a b)).toInt64)) (joiX x a b v))) rfl ?_
    refine g_goto C (tgt := 23) d_L_joined_12 rfl ?_
    refine g_iconst C d_L_joined_23 ?_
    exact g_iret C hA hr d_L_joined_24 (by decide) (by decide) ⟨0, (sv (joiX x a b v) a b), (joiX x a b v), (vp_updL jf 0 ((iI (sv (joiX x a b v) a b)).toInt64)), rfl, rfl, (fun _ => rfl), Or.inr (Or.inr (⟨rfl, hc, rfl, rfl⟩))⟩
set_option maxRecDepth 100000 in
set_option maxHeartbeats 4000000 in
theorem m_L_saving {l : Launch} {D : va_G} {cI cZ cJ : ClassId} {base : Nat} {ad : Nat → Nat} (hl : l.stackTraces = false) (x : Bk) (qo : Nat) (jf : Nat → Int64) (a b : Int) (ha : InR a) (hb : InR b) (hok : Ok x) : Cn l D cls9 (tyl cI cZ cJ) base (zz base) y_L_saving (wzh y_L_saving c_L_saving 5 (some FieldType.int) [(0, 10, 13, 20), (0, 10, 17, 13)]) ({ frames := 9, cells := 1, slots := 6, locals := 147 } : Room) [.ref (ad 0), .int (iI a), .int (iI b), .ref qo] (lwd ad cI cZ cJ qo jf x) (fun r w => ∃ (k o : Int) (x' : Bk) (jf' : Nat → Int64), r = some k ∧ w = lwd ad cI cZ cJ qo jf' x' ∧ (k = 0 → jf' 0 = (iI o).toInt64) ∧ S_saving x a b k o x') 1 6 := by
  refine Ch_of (zzG base) (by decide) rfl (Nat.le_of_ble_eq_true rfl) ?_
  intro p e s m args below meth c A C hr hA htab
  have C : gC p s m args meth c D cls9 (tyl cI cZ cJ) A c_L_saving 5 "BatchSavingsLaw" (wzh y_L_saving c_L_saving 5 (some FieldType.int) [(0, 10, 13, 20), (0, 10, 17, 13)]) base (zz base) := C
  refine g_lve (lv' := [(0, .ref (ad 0)), (1, .int (iI a)), (2, .int (iI b)), (3, .ref qo)]) rfl ?_
  refine g_aload_n C (q := 3) d_L_saving_0 rfl rfl ?_
  refine g_iconst C d_L_saving_1 ?_
  refine g_aload_n C (q := 0) d_L_saving_2 rfl rfl ?_
  refine g_iload_n C (q := 1) d_L_saving_3 rfl rfl ?_
  refine g_iload_n C (q := 2) d_L_saving_4 rfl rfl ?_
  refine gVxF C gws_inh (st := [.int (iI 0), .ref qo]) (wr := [(qo, .inl (cJ, 1, .inr (.inl jf)))]) (m_S_saving hl x a b ha hb hok) [1, 2, 3, 4, 5, 6, 7, 8, 9, 10, 11, 12, 13, 14, 15, 16, 17, 18, 19] [0] rfl rfl rfl rfl rfl (by decide) k_344 k_341 k_342 k_343 k_1 rfl ho_S_saving rfl rfl ⟨by decide, by decide⟩ 1 (lwd_1 x) rfl rfl rfl (Nat.le_of_ble_eq_true rfl) d_L_saving_5 ⟨by decide, by decide⟩ (fun E w hq => ?_) (fun r w hq => ?_)
  · obtain ⟨y, rfl, hsc, hE⟩ := hq
    rcases hE with ⟨rfl, hc⟩ | ⟨rfl, hc⟩
    · refine g_catch C gws_inh (hh := [(0, 10, 13, 20), (0, 10, 17, 13)]) htab [] ⟨0, 10, 13, 20⟩ [⟨0, 10, 17, 13⟩] rfl (fun z hz => nomatch hz) rfl (by decide) k_296 kn_315 (tgt := 13) rfl (fun q9 => ?_)
      refine g_ws (ws' := (lwd ad cI cZ cJ qo jf y)) rfl ?_
      refine g_astore C (lv' := [(0, .ref (ad 0)), (1, .int (iI a)), (2, .int (iI b)), (3, .ref qo), (4, .ref q9)]) d_L_saving_13 (by decide) rfl rfl ?_
      refine g_iconst C d_L_saving_15 ?_
      exact g_iret C hA hr d_L_saving_16 (by decide) (by decide) ⟨1, 0, y, jf, rfl, rfl, (fun z => by omega), Or.inl (⟨rfl, hc, hsc⟩)⟩
    · refine g_catch C gws_inh (hh := [(0, 10, 13, 20), (0, 10, 17, 13)]) htab [⟨0, 10, 13, 20⟩] ⟨0, 10, 17, 13⟩ [] rfl (fun z hz => by simp only [List.mem_cons, List.not_mem_nil, or_false] at hz; subst hz; exact ⟨by decide, _, k_296, by decide⟩) rfl (by decide) k_194 kn_205 (tgt := 17) rfl (fun q9 => ?_)
      refine g_ws (ws' := (lwd ad cI cZ cJ qo jf y)) rfl ?_
      refine g_astore C (lv' := [(0, .ref (ad 0)), (1, .int (iI a)), (2, .int (iI b)), (3, .ref qo), (4, .ref q9)]) d_L_saving_17 (by decide) rfl rfl ?_
      refine g_iconst C d_L_saving_19 ?_
      exact g_iret C hA hr d_L_saving_20 (by decide) (by decide) ⟨2, 0, y, jf, rfl, rfl, (fun z => by omega), Or.inr (Or.inl (⟨rfl, hc, hsc⟩))⟩
  · obtain ⟨hc, rfl, rfl⟩ := hq
    refine g_eq (ws' := (lwd ad cI cZ cJ qo jf x)) (lv' := [(0, .ref (ad 0)), (1, .int (iI a)), (2, .int (iI b)), (3, .ref qo)]) (pc' := 8) (st' := [.int (iI (sv x a b)), .int (iI 0), .ref qo]) rfl rfl rfl rfl ?_
    refine g_i2l C d_L_saving_8 ?_
    refine g_last C 0 2 (lwd_0 x) rfl (by decide) (by decide) d_L_saving_9 (lwd_s x _) ?_
    refine g_ws (ws' := (lwd ad cI cZ cJ qo (vp_updL jf 0 ((iI (sv x a b)).toInt64)) x)) rfl ?_
    refine g_goto C (tgt := 21) d_L_saving_10 rfl ?_
    refine g_iconst C d_L_saving_21 ?_
    exact g_iret C hA hr d_L_saving_22 (by decide) (by decide) ⟨0, (sv x a b), x, (vp_updL jf 0 ((iI (sv x a b)).toInt64)), rfl, rfl, (fun _ => rfl), Or.inr (Or.inr (⟨rfl, hc, rfl, rfl⟩))⟩
set_option maxRecDepth 100000 in
set_option maxHeartbeats 4000000 in
theorem m_L_rule {l : Launch} {D : va_G} {cI cZ cJ : ClassId} {base : Nat} {ad : Nat → Nat} (hl : l.stackTraces = false) (x : Bk) (qo : Nat) (jf : Nat → Int64) (a b v : Int) (ha : InR a) (hb : InR b) (hv : v = 0 ∨ v = 1) (hok : Ok x) : Cn l D cls9 (tyl cI cZ cJ) base (zz base) y_L_rule (wzh y_L_rule c_L_rule 6 (some FieldType.int) [(0, 19, 22, 20), (0, 19, 26, 13)]) ({ frames := 9, cells := 1, slots := 6, locals := 148 } : Room) [.ref (ad 0), .int (iI a), .int (iI b), .int (iI v), .ref qo] (lwd ad cI cZ cJ qo jf x) (fun r w => ∃ (k o : Int) (x' : Bk) (jf' : Nat → Int64), r = some k ∧ w = lwd ad cI cZ cJ qo jf' x' ∧ (k = 0 → jf' 0 = (iI o).toInt64) ∧ S_rule x a b v k o x') 1 6 := by
  refine Ch_of (zzG base) (by decide) rfl (Nat.le_of_ble_eq_true rfl) ?_
  intro p e s m args below meth c A C hr hA htab
  have C : gC p s m args meth c D cls9 (tyl cI cZ cJ) A c_L_rule 6 "BatchSavingsLaw" (wzh y_L_rule c_L_rule 6 (some FieldType.int) [(0, 19, 22, 20), (0, 19, 26, 13)]) base (zz base) := C
  refine g_lve (lv' := [(0, .ref (ad 0)), (1, .int (iI a)), (2, .int (iI b)), (3, .int (iI v)), (4, .ref qo)]) rfl ?_
  refine g_aload C (q := 4) d_L_rule_0 rfl ?_
  refine g_iconst C d_L_rule_2 ?_
  refine g_aload_n C (q := 0) d_L_rule_3 rfl rfl ?_
  refine g_iload_n C (q := 1) d_L_rule_4 rfl rfl ?_
  refine g_iload_n C (q := 2) d_L_rule_5 rfl rfl ?_
  refine g_iload_n C (q := 3) d_L_rule_6 rfl rfl ?_
  refine gVxF C gws_inh (st := [.int (iI 0), .ref qo]) (wr := [(qo, .inl (cJ, 1, .inr (.inl jf)))]) (m_S_rule hl x a b v ha hb hv hok) [1, 2, 3, 4, 5, 6, 7, 8, 9, 10, 11, 12, 13, 14, 15, 16, 17, 18, 19] [0] rfl rfl rfl rfl rfl (by decide) k_351 k_348 k_349 k_350 k_1 rfl ho_S_rule rfl rfl ⟨by decide, by decide⟩ 1 (lwd_1 x) rfl rfl rfl (Nat.le_of_ble_eq_true rfl) d_L_rule_7 ⟨by decide, by decide⟩ (fun E w hq => ?_) (fun r w hq => ?_)
  · obtain ⟨y, rfl, hsc, hE⟩ := hq
    rcases hE with ⟨rfl, hc⟩ | ⟨rfl, hc⟩
    · refine g_catch C gws_inh (hh := [(0, 19, 22, 20), (0, 19, 26, 13)]) htab [] ⟨0, 19, 22, 20⟩ [⟨0, 19, 26, 13⟩] rfl (fun z hz => nomatch hz) rfl (by decide) k_296 kn_315 (tgt := 22) rfl (fun q9 => ?_)
      refine g_ws (ws' := (lwd ad cI cZ cJ qo jf y)) rfl ?_
      refine g_astore C (lv' := [(0, .ref (ad 0)), (1, .int (iI a)), (2, .int (iI b)), (3, .int (iI v)), (4, .ref qo), (5, .ref q9)]) d_L_rule_22 (by decide) rfl rfl ?_
      refine g_iconst C d_L_rule_24 ?_
      exact g_iret C hA hr d_L_rule_25 (by decide) (by decide) ⟨1, 0, y, jf, rfl, rfl, (fun z => by omega), Or.inl (⟨rfl, hc, hsc⟩)⟩
    · refine g_catch C gws_inh (hh := [(0, 19, 22, 20), (0, 19, 26, 13)]) htab [⟨0, 19, 22, 20⟩] ⟨0, 19, 26, 13⟩ [] rfl (fun z hz => by simp only [List.mem_cons, List.not_mem_nil, or_false] at hz; subst hz; exact ⟨by decide, _, k_296, by decide⟩) rfl (by decide) k_194 kn_205 (tgt := 26) rfl (fun q9 => ?_)
      refine g_ws (ws' := (lwd ad cI cZ cJ qo jf y)) rfl ?_
      refine g_astore C (lv' := [(0, .ref (ad 0)), (1, .int (iI a)), (2, .int (iI b)), (3, .int (iI v)), (4, .ref qo), (5, .ref q9)]) d_L_rule_26 (by decide) rfl rfl ?_
      refine g_iconst C d_L_rule_28 ?_
      exact g_iret C hA hr d_L_rule_29 (by decide) (by decide) ⟨2, 0, y, jf, rfl, rfl, (fun z => by omega), Or.inr (Or.inl (⟨rfl, hc, hsc⟩))⟩
  · obtain ⟨hc, u, y, rfl, hu, hui, hsc, rfl⟩ := hq
    refine g_eq (ws' := (lwd ad cI cZ cJ qo jf y)) (lv' := [(0, .ref (ad 0)), (1, .int (iI a)), (2, .int (iI b)), (3, .int (iI v)), (4, .ref qo)]) (pc' := 10) (st' := [.int (iI u), .int (iI 0), .ref qo]) rfl rfl rfl rfl ?_
    refine g_if_eq C (tgt := 17) d_L_rule_10 rfl (by omega) (fun h10_1 => ?_) (fun h10_1 => ?_)
    · refine g_lconst C (v := (iI 0).toInt64) d_L_rule_17 (by decide) ?_
      refine g_last C 0 2 (lwd_0 y) rfl (by decide) (by decide) d_L_rule_18 (lwd_s y _) ?_
      refine g_ws (ws' := (lwd ad cI cZ cJ qo (vp_updL jf 0 ((iI 0).toInt64)) y)) rfl ?_
      refine g_goto C (tgt := 30) d_L_rule_19 rfl ?_
      refine g_iconst C d_L_rule_30 ?_
      exact g_iret C hA hr d_L_rule_31 (by decide) (by decide) ⟨0, u, y, (vp_updL jf 0 ((iI 0).toInt64)), rfl, rfl, (fun _ => by rw [show u = 0 by omega]; rfl), Or.inr (Or.inr (⟨rfl, hc, (c01_iff hu hui).symm, hsc⟩))⟩
    · refine g_lconst C (v := (iI 1).toInt64) d_L_rule_13 (by decide) ?_
      refine g_goto C (tgt := 18) d_L_rule_14 rfl ?_
      refine g_last C 0 2 (lwd_0 y) rfl (by decide) (by decide) d_L_rule_18 (lwd_s y _) ?_
      refine g_ws (ws' := (lwd ad cI cZ cJ qo (vp_updL jf 0 ((iI 1).toInt64)) y)) rfl ?_
      refine g_goto C (tgt := 30) d_L_rule_19 rfl ?_
      refine g_iconst C d_L_rule_30 ?_
      exact g_iret C hA hr d_L_rule_31 (by decide) (by decide) ⟨0, u, y, (vp_updL jf 0 ((iI 1).toInt64)), rfl, rfl, (fun _ => by rw [show u = 1 by omega]; rfl), Or.inr (Or.inr (⟨rfl, hc, (c01_iff hu hui).symm, hsc⟩))⟩
set_option maxRecDepth 100000 in
set_option maxHeartbeats 4000000 in
theorem m_L_weight {l : Launch} {D : va_G} {cI cZ cJ : ClassId} {base : Nat} {ad : Nat → Nat} (hl : l.stackTraces = false) (x : Bk) (qo : Nat) (jf : Nat → Int64) (a v : Int) (ha : InR a) (hv : InR v) (hok : Ok x) : Cn l D cls9 (tyl cI cZ cJ) base (zz base) y_L_weight (wzh y_L_weight c_L_weight 5 (some FieldType.int) [(0, 17, 20, 20), (0, 17, 24, 13), (0, 17, 28, 34)]) ({ frames := 8, cells := 1, slots := 6, locals := 126 } : Room) [.ref (ad 0), .int (iI a), .int (iI v), .ref qo] (lwd ad cI cZ cJ qo jf x) (fun r w => ∃ (k o : Int) (x' : Bk) (jf' : Nat → Int64), r = some k ∧ w = lwd ad cI cZ cJ qo jf' x' ∧ (k = 0 → jf' 0 = (iI o).toInt64) ∧ S_weight x a v k o x') 1 6 := by
  refine Ch_of (zzG base) (by decide) rfl (Nat.le_of_ble_eq_true rfl) ?_
  intro p e s m args below meth c A C hr hA htab
  have C : gC p s m args meth c D cls9 (tyl cI cZ cJ) A c_L_weight 5 "BatchSavingsLaw" (wzh y_L_weight c_L_weight 5 (some FieldType.int) [(0, 17, 20, 20), (0, 17, 24, 13), (0, 17, 28, 34)]) base (zz base) := C
  refine g_lve (lv' := [(0, .ref (ad 0)), (1, .int (iI a)), (2, .int (iI v)), (3, .ref qo)]) rfl ?_
  refine g_aload_n C (q := 3) d_L_weight_0 rfl rfl ?_
  refine g_iconst C d_L_weight_1 ?_
  refine g_aload_n C (q := 0) d_L_weight_2 rfl rfl ?_
  refine g_iload_n C (q := 1) d_L_weight_3 rfl rfl ?_
  refine g_iload_n C (q := 2) d_L_weight_4 rfl rfl ?_
  refine gVxF C gws_inh (st := [.int (iI 0), .ref qo]) (wr := [(qo, .inl (cJ, 1, .inr (.inl jf)))]) (m_S_weight hl x a v ha hv hok) [1, 2, 3, 4, 5, 6, 7, 8, 9, 10, 11, 12, 13, 14, 15, 16, 17, 18, 19] [0] rfl rfl rfl rfl rfl (by decide) k_384 k_381 k_382 k_383 k_1 rfl ho_S_weight rfl rfl ⟨by decide, by decide⟩ 1 (lwd_1 x) rfl rfl rfl (Nat.le_of_ble_eq_true rfl) d_L_weight_5 ⟨by decide, by decide⟩ (fun E w hq => ?_) (fun r w hq => ?_)
  · obtain ⟨y, rfl, hsc, hE⟩ := hq
    rcases hE with ⟨rfl, hc⟩ | ⟨rfl, hc⟩ | ⟨rfl, hc⟩
    · refine g_catch C gws_inh (hh := [(0, 17, 20, 20), (0, 17, 24, 13), (0, 17, 28, 34)]) htab [] ⟨0, 17, 20, 20⟩ [⟨0, 17, 24, 13⟩, ⟨0, 17, 28, 34⟩] rfl (fun z hz => nomatch hz) rfl (by decide) k_296 kn_315 (tgt := 20) rfl (fun q9 => ?_)
      refine g_ws (ws' := (lwd ad cI cZ cJ qo jf y)) rfl ?_
      refine g_astore C (lv' := [(0, .ref (ad 0)), (1, .int (iI a)), (2, .int (iI v)), (3, .ref qo), (4, .ref q9)]) d_L_weight_20 (by decide) rfl rfl ?_
      refine g_iconst C d_L_weight_22 ?_
      exact g_iret C hA hr d_L_weight_23 (by decide) (by decide) ⟨1, 0, y, jf, rfl, rfl, (fun z => by omega), Or.inl (⟨rfl, hc, hsc⟩)⟩
    · refine g_catch C gws_inh (hh := [(0, 17, 20, 20), (0, 17, 24, 13), (0, 17, 28, 34)]) htab [⟨0, 17, 20, 20⟩] ⟨0, 17, 24, 13⟩ [⟨0, 17, 28, 34⟩] rfl (fun z hz => by simp only [List.mem_cons, List.not_mem_nil, or_false] at hz; subst hz; exact ⟨by decide, _, k_296, by decide⟩) rfl (by decide) k_194 kn_205 (tgt := 24) rfl (fun q9 => ?_)
      refine g_ws (ws' := (lwd ad cI cZ cJ qo jf y)) rfl ?_
      refine g_astore C (lv' := [(0, .ref (ad 0)), (1, .int (iI a)), (2, .int (iI v)), (3, .ref qo), (4, .ref q9)]) d_L_weight_24 (by decide) rfl rfl ?_
      refine g_iconst C d_L_weight_26 ?_
      exact g_iret C hA hr d_L_weight_27 (by decide) (by decide) ⟨2, 0, y, jf, rfl, rfl, (fun z => by omega), Or.inr (Or.inl (⟨rfl, hc, hsc⟩))⟩
    · refine g_catch C gws_inh (hh := [(0, 17, 20, 20), (0, 17, 24, 13), (0, 17, 28, 34)]) htab [⟨0, 17, 20, 20⟩, ⟨0, 17, 24, 13⟩] ⟨0, 17, 28, 34⟩ [] rfl (fun z hz => by simp only [List.mem_cons, List.not_mem_nil, or_false] at hz; rcases hz with rfl | rfl <;> first | exact ⟨by decide, _, k_296, by decide⟩ | exact ⟨by decide, _, k_194, by decide⟩) rfl (by decide) k_380 kn_392 (tgt := 28) rfl (fun q9 => ?_)
      refine g_ws (ws' := (lwd ad cI cZ cJ qo jf y)) rfl ?_
      refine g_astore C (lv' := [(0, .ref (ad 0)), (1, .int (iI a)), (2, .int (iI v)), (3, .ref qo), (4, .ref q9)]) d_L_weight_28 (by decide) rfl rfl ?_
      refine g_iconst C d_L_weight_30 ?_
      exact g_iret C hA hr d_L_weight_31 (by decide) (by decide) ⟨3, 0, y, jf, rfl, rfl, (fun z => by omega), Or.inr (Or.inr (Or.inl (⟨rfl, hc, hsc⟩)))⟩
  · obtain ⟨hc, ⟨h1, rfl, rfl⟩ | ⟨h1, rfl, rfl⟩⟩ := hq
    · refine g_eq (ws' := (lwd ad cI cZ cJ qo jf x)) (lv' := [(0, .ref (ad 0)), (1, .int (iI a)), (2, .int (iI v)), (3, .ref qo)]) (pc' := 8) (st' := [.int (iI 0), .int (iI 0), .ref qo]) rfl rfl rfl rfl ?_
      refine g_if_eq C (tgt := 15) d_L_weight_8 rfl (by omega) (fun h8_1 => ?_) (fun h8_1 => ?_)
      · refine g_lconst C (v := (iI 0).toInt64) d_L_weight_15 (by decide) ?_
        refine g_last C 0 2 (lwd_0 x) rfl (by decide) (by decide) d_L_weight_16 (lwd_s x _) ?_
        refine g_ws (ws' := (lwd ad cI cZ cJ qo (vp_updL jf 0 ((iI 0).toInt64)) x)) rfl ?_
        refine g_goto C (tgt := 32) d_L_weight_17 rfl ?_
        refine g_iconst C d_L_weight_32 ?_
        exact g_iret C hA hr d_L_weight_33 (by decide) (by decide) ⟨0, 0, x, (vp_updL jf 0 ((iI 0).toInt64)), rfl, rfl, (fun _ => by rfl), Or.inr (Or.inr (Or.inr (⟨rfl, hc, Or.inl ⟨h1, rfl, rfl⟩⟩)))⟩
      · exfalso
        omega
    · refine g_eq (ws' := (lwd ad cI cZ cJ qo jf (bu x 8 (updI (x 8) a v)))) (lv' := [(0, .ref (ad 0)), (1, .int (iI a)), (2, .int (iI v)), (3, .ref qo)]) (pc' := 8) (st' := [.int (iI 1), .int (iI 0), .ref qo]) rfl rfl rfl rfl ?_
      refine g_if_eq C (tgt := 15) d_L_weight_8 rfl (by omega) (fun h8_1 => ?_) (fun h8_1 => ?_)
      · exfalso
        omega
      · refine g_lconst C (v := (iI 1).toInt64) d_L_weight_11 (by decide) ?_
        refine g_goto C (tgt := 16) d_L_weight_12 rfl ?_
        refine g_last C 0 2 (lwd_0 (bu x 8 (updI (x 8) a v))) rfl (by decide) (by decide) d_L_weight_16 (lwd_s (bu x 8 (updI (x 8) a v)) _) ?_
        refine g_ws (ws' := (lwd ad cI cZ cJ qo (vp_updL jf 0 ((iI 1).toInt64)) (bu x 8 (updI (x 8) a v)))) rfl ?_
        refine g_goto C (tgt := 32) d_L_weight_17 rfl ?_
        refine g_iconst C d_L_weight_32 ?_
        exact g_iret C hA hr d_L_weight_33 (by decide) (by decide) ⟨0, 1, (bu x 8 (updI (x 8) a v)), (vp_updL jf 0 ((iI 1).toInt64)), rfl, rfl, (fun _ => by rfl), Or.inr (Or.inr (Or.inr (⟨rfl, hc, Or.inr ⟨h1, rfl, rfl⟩⟩)))⟩
set_option maxRecDepth 100000 in
set_option maxHeartbeats 4000000 in
theorem m_L_near {l : Launch} {D : va_G} {cI cZ cJ : ClassId} {base : Nat} {ad : Nat → Nat} (hl : l.stackTraces = false) (x : Bk) (qo : Nat) (jf : Nat → Int64) (a b v : Int) (ha : InR a) (hb : InR b) (hv : v = 0 ∨ v = 1) (hok : Ok x) : Cn l D cls9 (tyl cI cZ cJ) base (zz base) y_L_near (wzh y_L_near c_L_near 5 (some FieldType.int) [(0, 7, 10, 13)]) ({ frames := 8, cells := 1, slots := 6, locals := 127 } : Room) [.ref (ad 0), .int (iI a), .int (iI b), .int (iI v)] (lwd ad cI cZ cJ qo jf x) (fun r w => ∃ (k o : Int) (x' : Bk) (jf' : Nat → Int64), r = some k ∧ w = lwd ad cI cZ cJ qo jf' x' ∧ S_near x a b v k o x') 1 6 := by
  refine Ch_of (zzG base) (by decide) rfl (Nat.le_of_ble_eq_true rfl) ?_
  intro p e s m args below meth c A C hr hA htab
  have C : gC p s m args meth c D cls9 (tyl cI cZ cJ) A c_L_near 5 "BatchSavingsLaw" (wzh y_L_near c_L_near 5 (some FieldType.int) [(0, 7, 10, 13)]) base (zz base) := C
  refine g_lve (lv' := [(0, .ref (ad 0)), (1, .int (iI a)), (2, .int (iI b)), (3, .int (iI v))]) rfl ?_
  refine g_aload_n C (q := 0) d_L_near_0 rfl rfl ?_
  refine g_iload_n C (q := 1) d_L_near_1 rfl rfl ?_
  refine g_iload_n C (q := 2) d_L_near_2 rfl rfl ?_
  refine g_iload_n C (q := 3) d_L_near_3 rfl rfl ?_
  refine gVxF C gws_inh (st := []) (wr := [(qo, .inl (cJ, 1, .inr (.inl jf)))]) (m_S_near hl x a b v ha hb hv hok) [1, 2, 3, 4, 5, 6, 7, 8, 9, 10, 11, 12, 13, 14, 15, 16, 17, 18, 19] [0] rfl rfl rfl rfl rfl (by decide) k_412 k_409 k_410 k_411 k_1 rfl ho_S_near rfl rfl ⟨by decide, by decide⟩ 1 (lwd_1 x) rfl rfl rfl (Nat.le_of_ble_eq_true rfl) d_L_near_4 ⟨by decide, by decide⟩ (fun E w hq => ?_) (fun r w hq => ?_)
  · obtain ⟨y, rfl, hsc, hE⟩ := hq
    obtain ⟨rfl, hc⟩ := hE
    refine g_catch C gws_inh (hh := [(0, 7, 10, 13)]) htab [] ⟨0, 7, 10, 13⟩ [] rfl (fun z hz => nomatch hz) rfl (by decide) k_194 kn_205 (tgt := 10) rfl (fun q9 => ?_)
    refine g_ws (ws' := (lwd ad cI cZ cJ qo jf y)) rfl ?_
    refine g_astore C (lv' := [(0, .ref (ad 0)), (1, .int (iI a)), (2, .int (iI b)), (3, .int (iI v)), (4, .ref q9)]) d_L_near_10 (by decide) rfl rfl ?_
    refine g_iconst C d_L_near_12 ?_
    exact g_iret C hA hr d_L_near_13 (by decide) (by decide) ⟨1, 0, y, jf, rfl, rfl, Or.inl (⟨rfl, hc, hsc⟩)⟩
  · obtain ⟨hc, rfl, rfl⟩ := hq
    refine g_eq (ws' := (lwd ad cI cZ cJ qo jf (bu x 11 (updI (updI (x 11) (a * 4 + b) v) (b * 4 + a) v)))) (lv' := [(0, .ref (ad 0)), (1, .int (iI a)), (2, .int (iI b)), (3, .int (iI v))]) (pc' := 7) (st' := []) rfl rfl rfl rfl ?_
    refine g_goto C (tgt := 14) d_L_near_7 rfl ?_
    refine g_iconst C d_L_near_14 ?_
    exact g_iret C hA hr d_L_near_15 (by decide) (by decide) ⟨0, 0, (bu x 11 (updI (updI (x 11) (a * 4 + b) v) (b * 4 + a) v)), jf, rfl, rfl, Or.inr (⟨rfl, hc, rfl⟩)⟩
set_option maxRecDepth 100000 in
set_option maxHeartbeats 4000000 in
theorem m_L_limit {l : Launch} {D : va_G} {cI cZ cJ : ClassId} {base : Nat} {ad : Nat → Nat} (hl : l.stackTraces = false) (x : Bk) (qo : Nat) (jf : Nat → Int64) (a b : Int) (ha : InR a) (hb : InR b) (hok : Ok x) : Cn l D cls9 (tyl cI cZ cJ) base (zz base) y_L_limit (wzh y_L_limit c_L_limit 5 (some FieldType.int) [(0, 10, 13, 13)]) ({ frames := 8, cells := 1, slots := 6, locals := 126 } : Room) [.ref (ad 0), .int (iI a), .int (iI b), .ref qo] (lwd ad cI cZ cJ qo jf x) (fun r w => ∃ (k o : Int) (x' : Bk) (jf' : Nat → Int64), r = some k ∧ w = lwd ad cI cZ cJ qo jf' x' ∧ (k = 0 → jf' 0 = (iI o).toInt64) ∧ S_limit x a b k o x') 1 6 := by
  refine Ch_of (zzG base) (by decide) rfl (Nat.le_of_ble_eq_true rfl) ?_
  intro p e s m args below meth c A C hr hA htab
  have C : gC p s m args meth c D cls9 (tyl cI cZ cJ) A c_L_limit 5 "BatchSavingsLaw" (wzh y_L_limit c_L_limit 5 (some FieldType.int) [(0, 10, 13, 13)]) base (zz base) := C
  refine g_lve (lv' := [(0, .ref (ad 0)), (1, .int (iI a)), (2, .int (iI b)), (3, .ref qo)]) rfl ?_
  refine g_aload_n C (q := 3) d_L_limit_0 rfl rfl ?_
  refine g_iconst C d_L_limit_1 ?_
  refine g_aload_n C (q := 0) d_L_limit_2 rfl rfl ?_
  refine g_iload_n C (q := 1) d_L_limit_3 rfl rfl ?_
  refine g_iload_n C (q := 2) d_L_limit_4 rfl rfl ?_
  refine gVxF C gws_inh (st := [.int (iI 0), .ref qo]) (wr := [(qo, .inl (cJ, 1, .inr (.inl jf)))]) (m_S_limit hl x a b ha hb hok) [1, 2, 3, 4, 5, 6, 7, 8, 9, 10, 11, 12, 13, 14, 15, 16, 17, 18, 19] [0] rfl rfl rfl rfl rfl (by decide) k_423 k_420 k_421 k_422 k_1 rfl ho_S_limit rfl rfl ⟨by decide, by decide⟩ 1 (lwd_1 x) rfl rfl rfl (Nat.le_of_ble_eq_true rfl) d_L_limit_5 ⟨by decide, by decide⟩ (fun E w hq => ?_) (fun r w hq => ?_)
  · obtain ⟨y, rfl, hsc, hE⟩ := hq
    obtain ⟨rfl, hc⟩ := hE
    refine g_catch C gws_inh (hh := [(0, 10, 13, 13)]) htab [] ⟨0, 10, 13, 13⟩ [] rfl (fun z hz => nomatch hz) rfl (by decide) k_194 kn_205 (tgt := 13) rfl (fun q9 => ?_)
    refine g_ws (ws' := (lwd ad cI cZ cJ qo jf y)) rfl ?_
    refine g_astore C (lv' := [(0, .ref (ad 0)), (1, .int (iI a)), (2, .int (iI b)), (3, .ref qo), (4, .ref q9)]) d_L_limit_13 (by decide) rfl rfl ?_
    refine g_iconst C d_L_limit_15 ?_
    exact g_iret C hA hr d_L_limit_16 (by decide) (by decide) ⟨1, 0, y, jf, rfl, rfl, (fun z => by omega), Or.inl (⟨rfl, hc, hsc⟩)⟩
  · obtain ⟨hc, rfl, rfl⟩ := hq
    refine g_eq (ws' := (lwd ad cI cZ cJ qo jf (limX x a b))) (lv' := [(0, .ref (ad 0)), (1, .int (iI a)), (2, .int (iI b)), (3, .ref qo)]) (pc' := 8) (st' := [.int (iI (above (limX x a b))), .int (iI 0), .ref qo]) rfl rfl rfl rfl ?_
    refine g_i2l C d_L_limit_8 ?_
    refine g_last C 0 2 (lwd_0 (limX x a b)) rfl (by decide) (by decide) d_L_limit_9 (lwd_s (limX x a b) _) ?_
    refine g_ws (ws' := (lwd ad cI cZ cJ qo (vp_updL jf 0 ((iI (above (limX x a b))).toInt64)) (limX x a b))) rfl ?_
    refine g_goto C (tgt := 17) d_L_limit_10 rfl ?_
    refine g_iconst C d_L_limit_17 ?_
    exact g_iret C hA hr d_L_limit_18 (by decide) (by decide) ⟨0, (above (limX x a b)), (limX x a b), (vp_updL jf 0 ((iI (above (limX x a b))).toInt64)), rfl, rfl, (fun _ => rfl), Or.inr (⟨rfl, hc, rfl, rfl⟩)⟩
set_option maxRecDepth 100000 in
set_option maxHeartbeats 4000000 in
theorem m_L_match {l : Launch} {D : va_G} {cI cZ cJ : ClassId} {base : Nat} {ad : Nat → Nat} (hl : l.stackTraces = false) (x : Bk) (qo : Nat) (jf : Nat → Int64) (v : Int) (hv : InR v) (hok : Ok x) (hg : rng x 17 100 0 20000) (htb : tb (x 18)) : Cn l D cls9 (tyl cI cZ cJ) base (zz base) y_L_match (wzh y_L_match c_L_match 4 (some FieldType.int) [(0, 9, 12, 13)]) ({ frames := 8, cells := 1, slots := 6, locals := 134 } : Room) [.ref (ad 0), .int (iI v), .ref qo] (lwd ad cI cZ cJ qo jf x) (fun r w => ∃ (k o : Int) (x' : Bk) (jf' : Nat → Int64), r = some k ∧ w = lwd ad cI cZ cJ qo jf' x' ∧ (k = 0 → jf' 0 = (iI o).toInt64) ∧ S_match x v k o x') 1 6 := by
  refine Ch_of (zzG base) (by decide) rfl (Nat.le_of_ble_eq_true rfl) ?_
  intro p e s m args below meth c A C hr hA htab
  have C : gC p s m args meth c D cls9 (tyl cI cZ cJ) A c_L_match 4 "BatchSavingsLaw" (wzh y_L_match c_L_match 4 (some FieldType.int) [(0, 9, 12, 13)]) base (zz base) := C
  refine g_lve (lv' := [(0, .ref (ad 0)), (1, .int (iI v)), (2, .ref qo)]) rfl ?_
  refine g_aload_n C (q := 2) d_L_match_0 rfl rfl ?_
  refine g_iconst C d_L_match_1 ?_
  refine g_aload_n C (q := 0) d_L_match_2 rfl rfl ?_
  refine g_iload_n C (q := 1) d_L_match_3 rfl rfl ?_
  refine gVxF C gws_inh (st := [.int (iI 0), .ref qo]) (wr := [(qo, .inl (cJ, 1, .inr (.inl jf)))]) (m_S_match hl x v hv hok hg htb) [1, 2, 3, 4, 5, 6, 7, 8, 9, 10, 11, 12, 13, 14, 15, 16, 17, 18, 19] [0] rfl rfl rfl rfl rfl (by decide) k_434 k_431 k_432 k_433 k_1 rfl ho_S_match rfl rfl ⟨by decide, by decide⟩ 1 (lwd_1 x) rfl rfl rfl (Nat.le_of_ble_eq_true rfl) d_L_match_4 ⟨by decide, by decide⟩ (fun E w hq => ?_) (fun r w hq => ?_)
  · obtain ⟨y, rfl, hsc, hE⟩ := hq
    obtain ⟨rfl, hc⟩ := hE
    refine g_catch C gws_inh (hh := [(0, 9, 12, 13)]) htab [] ⟨0, 9, 12, 13⟩ [] rfl (fun z hz => nomatch hz) rfl (by decide) k_194 kn_205 (tgt := 12) rfl (fun q9 => ?_)
    refine g_ws (ws' := (lwd ad cI cZ cJ qo jf y)) rfl ?_
    refine g_astore_n C (lv' := [(0, .ref (ad 0)), (1, .int (iI v)), (2, .ref qo), (3, .ref q9)]) d_L_match_12 rfl (by decide) rfl rfl ?_
    refine g_iconst C d_L_match_13 ?_
    exact g_iret C hA hr d_L_match_14 (by decide) (by decide) ⟨1, 0, y, jf, rfl, rfl, (fun z => by omega), Or.inl (⟨rfl, hc, hsc⟩)⟩
  · obtain ⟨hc, xg, u, hgk, hu, rfl, rfl⟩ := hq
    refine g_eq (ws' := (lwd ad cI cZ cJ qo jf (pan xg u))) (lv' := [(0, .ref (ad 0)), (1, .int (iI v)), (2, .ref qo)]) (pc' := 7) (st' := [.int (iI (svd (pan xg u))), .int (iI 0), .ref qo]) rfl rfl rfl rfl ?_
    refine g_i2l C d_L_match_7 ?_
    refine g_last C 0 2 (lwd_0 (pan xg u)) rfl (by decide) (by decide) d_L_match_8 (lwd_s (pan xg u) _) ?_
    refine g_ws (ws' := (lwd ad cI cZ cJ qo (vp_updL jf 0 ((iI (svd (pan xg u))).toInt64)) (pan xg u))) rfl ?_
    refine g_goto C (tgt := 15) d_L_match_9 rfl ?_
    refine g_iconst C d_L_match_15 ?_
    exact g_iret C hA hr d_L_match_16 (by decide) (by decide) ⟨0, (svd (pan xg u)), (pan xg u), (vp_updL jf 0 ((iI (svd (pan xg u))).toInt64)), rfl, rfl, (fun _ => rfl), Or.inr (⟨rfl, hc, xg, u, hgk, hu, rfl, rfl⟩)⟩
set_option maxRecDepth 100000 in
set_option maxHeartbeats 4000000 in
theorem m_L_with {l : Launch} {D : va_G} {cI cZ cJ : ClassId} {base : Nat} {ad : Nat → Nat} (hl : l.stackTraces = false) (x : Bk) (qo : Nat) (jf : Nat → Int64) (a : Int) (ha : InR a) (hok : Ok x) : Cn l D cls9 (tyl cI cZ cJ) base (zz base) y_L_with (wzh y_L_with c_L_with 4 (some FieldType.int) [(0, 9, 12, 20)]) ({ frames := 8, cells := 1, slots := 6, locals := 124 } : Room) [.ref (ad 0), .int (iI a), .ref qo] (lwd ad cI cZ cJ qo jf x) (fun r w => ∃ (k o : Int) (x' : Bk) (jf' : Nat → Int64), r = some k ∧ w = lwd ad cI cZ cJ qo jf' x' ∧ (k = 0 → jf' 0 = (iI o).toInt64) ∧ S_with x a k o x') 1 6 := by
  refine Ch_of (zzG base) (by decide) rfl (Nat.le_of_ble_eq_true rfl) ?_
  intro p e s m args below meth c A C hr hA htab
  have C : gC p s m args meth c D cls9 (tyl cI cZ cJ) A c_L_with 4 "BatchSavingsLaw" (wzh y_L_with c_L_with 4 (some FieldType.int) [(0, 9, 12, 20)]) base (zz base) := C
  refine g_lve (lv' := [(0, .ref (ad 0)), (1, .int (iI a)), (2, .ref qo)]) rfl ?_
  refine g_aload_n C (q := 2) d_L_with_0 rfl rfl ?_
  refine g_iconst C d_L_with_1 ?_
  refine g_aload_n C (q := 0) d_L_with_2 rfl rfl ?_
  refine g_iload_n C (q := 1) d_L_with_3 rfl rfl ?_
  refine gVxF C gws_inh (st := [.int (iI 0), .ref qo]) (wr := [(qo, .inl (cJ, 1, .inr (.inl jf)))]) (m_S_with hl x a ha hok) [1, 2, 3, 4, 5, 6, 7, 8, 9, 10, 11, 12, 13, 14, 15, 16, 17, 18, 19] [0] rfl rfl rfl rfl rfl (by decide) k_496 k_493 k_494 k_495 k_1 rfl ho_S_with rfl rfl ⟨by decide, by decide⟩ 1 (lwd_1 x) rfl rfl rfl (Nat.le_of_ble_eq_true rfl) d_L_with_4 ⟨by decide, by decide⟩ (fun E w hq => ?_) (fun r w hq => ?_)
  · obtain ⟨y, rfl, hsc, hE⟩ := hq
    obtain ⟨rfl, hc⟩ := hE
    refine g_catch C gws_inh (hh := [(0, 9, 12, 20)]) htab [] ⟨0, 9, 12, 20⟩ [] rfl (fun z hz => nomatch hz) rfl (by decide) k_296 kn_315 (tgt := 12) rfl (fun q9 => ?_)
    refine g_ws (ws' := (lwd ad cI cZ cJ qo jf y)) rfl ?_
    refine g_astore_n C (lv' := [(0, .ref (ad 0)), (1, .int (iI a)), (2, .ref qo), (3, .ref q9)]) d_L_with_12 rfl (by decide) rfl rfl ?_
    refine g_iconst C d_L_with_13 ?_
    exact g_iret C hA hr d_L_with_14 (by decide) (by decide) ⟨1, 0, y, jf, rfl, rfl, (fun z => by omega), Or.inl (⟨rfl, hc, hsc⟩)⟩
  · obtain ⟨hc, rfl, rfl⟩ := hq
    refine g_eq (ws' := (lwd ad cI cZ cJ qo jf x)) (lv' := [(0, .ref (ad 0)), (1, .int (iI a)), (2, .ref qo)]) (pc' := 7) (st' := [.int (iI (x 16 a)), .int (iI 0), .ref qo]) rfl rfl rfl rfl ?_
    refine g_i2l C d_L_with_7 ?_
    refine g_last C 0 2 (lwd_0 x) rfl (by decide) (by decide) d_L_with_8 (lwd_s x _) ?_
    refine g_ws (ws' := (lwd ad cI cZ cJ qo (vp_updL jf 0 ((iI (x 16 a)).toInt64)) x)) rfl ?_
    refine g_goto C (tgt := 15) d_L_with_9 rfl ?_
    refine g_iconst C d_L_with_15 ?_
    exact g_iret C hA hr d_L_with_16 (by decide) (by decide) ⟨0, (x 16 a), x, (vp_updL jf 0 ((iI (x 16 a)).toInt64)), rfl, rfl, (fun _ => rfl), Or.inr (⟨rfl, hc, rfl, rfl⟩)⟩
set_option maxRecDepth 100000 in
set_option maxHeartbeats 4000000 in
theorem m_L_open {l : Launch} {D : va_G} {cI cZ cJ : ClassId} {base : Nat} {ad : Nat → Nat} (hl : l.stackTraces = false) (x : Bk) (qo : Nat) (jf : Nat → Int64) (a : Int) (ha : InR a) (hok : Ok x) (h14 : x 3 0 < 10 → x 14 (x 3 0) = 0) : Cn l D cls9 (tyl cI cZ cJ) base (zz base) y_L_open (wzh y_L_open c_L_open 4 (some FieldType.int) [(0, 9, 12, 20), (0, 9, 15, 34), (0, 9, 18, 15)]) ({ frames := 8, cells := 1, slots := 6, locals := 126 } : Room) [.ref (ad 0), .int (iI a), .ref qo] (lwd ad cI cZ cJ qo jf x) (fun r w => ∃ (k o : Int) (x' : Bk) (jf' : Nat → Int64), r = some k ∧ w = lwd ad cI cZ cJ qo jf' x' ∧ (k = 0 → jf' 0 = (iI o).toInt64) ∧ S_open x a k o x') 1 6 := by
  refine Ch_of (zzG base) (by decide) rfl (Nat.le_of_ble_eq_true rfl) ?_
  intro p e s m args below meth c A C hr hA htab
  have C : gC p s m args meth c D cls9 (tyl cI cZ cJ) A c_L_open 4 "BatchSavingsLaw" (wzh y_L_open c_L_open 4 (some FieldType.int) [(0, 9, 12, 20), (0, 9, 15, 34), (0, 9, 18, 15)]) base (zz base) := C
  refine g_lve (lv' := [(0, .ref (ad 0)), (1, .int (iI a)), (2, .ref qo)]) rfl ?_
  refine g_aload_n C (q := 2) d_L_open_0 rfl rfl ?_
  refine g_iconst C d_L_open_1 ?_
  refine g_aload_n C (q := 0) d_L_open_2 rfl rfl ?_
  refine g_iload_n C (q := 1) d_L_open_3 rfl rfl ?_
  refine gVxF C gws_inh (st := [.int (iI 0), .ref qo]) (wr := [(qo, .inl (cJ, 1, .inr (.inl jf)))]) (m_S_open hl x a ha hok h14) [1, 2, 3, 4, 5, 6, 7, 8, 9, 10, 11, 12, 13, 14, 15, 16, 17, 18, 19] [0] rfl rfl rfl rfl rfl (by decide) k_503 k_500 k_501 k_502 k_1 rfl ho_S_open rfl rfl ⟨by decide, by decide⟩ 1 (lwd_1 x) rfl rfl rfl (Nat.le_of_ble_eq_true rfl) d_L_open_4 ⟨by decide, by decide⟩ (fun E w hq => ?_) (fun r w hq => ?_)
  · obtain ⟨y, rfl, hsc, hE⟩ := hq
    rcases hE with ⟨rfl, hc⟩ | ⟨rfl, hc⟩ | ⟨rfl, hc⟩
    · refine g_catch C gws_inh (hh := [(0, 9, 12, 20), (0, 9, 15, 34), (0, 9, 18, 15)]) htab [] ⟨0, 9, 12, 20⟩ [⟨0, 9, 15, 34⟩, ⟨0, 9, 18, 15⟩] rfl (fun z hz => nomatch hz) rfl (by decide) k_296 kn_315 (tgt := 12) rfl (fun q9 => ?_)
      refine g_ws (ws' := (lwd ad cI cZ cJ qo jf y)) rfl ?_
      refine g_astore_n C (lv' := [(0, .ref (ad 0)), (1, .int (iI a)), (2, .ref qo), (3, .ref q9)]) d_L_open_12 rfl (by decide) rfl rfl ?_
      refine g_iconst C d_L_open_13 ?_
      exact g_iret C hA hr d_L_open_14 (by decide) (by decide) ⟨1, 0, y, jf, rfl, rfl, (fun z => by omega), Or.inl (⟨rfl, hc, hsc⟩)⟩
    · refine g_catch C gws_inh (hh := [(0, 9, 12, 20), (0, 9, 15, 34), (0, 9, 18, 15)]) htab [⟨0, 9, 12, 20⟩] ⟨0, 9, 15, 34⟩ [⟨0, 9, 18, 15⟩] rfl (fun z hz => by simp only [List.mem_cons, List.not_mem_nil, or_false] at hz; subst hz; exact ⟨by decide, _, k_296, by decide⟩) rfl (by decide) k_380 kn_392 (tgt := 15) rfl (fun q9 => ?_)
      refine g_ws (ws' := (lwd ad cI cZ cJ qo jf y)) rfl ?_
      refine g_astore_n C (lv' := [(0, .ref (ad 0)), (1, .int (iI a)), (2, .ref qo), (3, .ref q9)]) d_L_open_15 rfl (by decide) rfl rfl ?_
      refine g_iconst C d_L_open_16 ?_
      exact g_iret C hA hr d_L_open_17 (by decide) (by decide) ⟨2, 0, y, jf, rfl, rfl, (fun z => by omega), Or.inr (Or.inl (⟨rfl, hc, hsc⟩))⟩
    · refine g_catch C gws_inh (hh := [(0, 9, 12, 20), (0, 9, 15, 34), (0, 9, 18, 15)]) htab [⟨0, 9, 12, 20⟩, ⟨0, 9, 15, 34⟩] ⟨0, 9, 18, 15⟩ [] rfl (fun z hz => by simp only [List.mem_cons, List.not_mem_nil, or_false] at hz; rcases hz with rfl | rfl <;> first | exact ⟨by decide, _, k_296, by decide⟩ | exact ⟨by decide, _, k_380, by decide⟩) rfl (by decide) k_195 kn_275 (tgt := 18) rfl (fun q9 => ?_)
      refine g_ws (ws' := (lwd ad cI cZ cJ qo jf y)) rfl ?_
      refine g_astore_n C (lv' := [(0, .ref (ad 0)), (1, .int (iI a)), (2, .ref qo), (3, .ref q9)]) d_L_open_18 rfl (by decide) rfl rfl ?_
      refine g_iconst C d_L_open_19 ?_
      exact g_iret C hA hr d_L_open_20 (by decide) (by decide) ⟨3, 0, y, jf, rfl, rfl, (fun z => by omega), Or.inr (Or.inr (Or.inl (⟨rfl, hc, hsc⟩)))⟩
  · obtain ⟨hc, rfl, rfl⟩ := hq
    refine g_eq (ws' := (lwd ad cI cZ cJ qo jf (opX x a))) (lv' := [(0, .ref (ad 0)), (1, .int (iI a)), (2, .ref qo)]) (pc' := 7) (st' := [.int (iI (x 3 0)), .int (iI 0), .ref qo]) rfl rfl rfl rfl ?_
    refine g_i2l C d_L_open_7 ?_
    refine g_last C 0 2 (lwd_0 (opX x a)) rfl (by decide) (by decide) d_L_open_8 (lwd_s (opX x a) _) ?_
    refine g_ws (ws' := (lwd ad cI cZ cJ qo (vp_updL jf 0 ((iI (x 3 0)).toInt64)) (opX x a))) rfl ?_
    refine g_goto C (tgt := 21) d_L_open_9 rfl ?_
    refine g_iconst C d_L_open_21 ?_
    exact g_iret C hA hr d_L_open_22 (by decide) (by decide) ⟨0, (x 3 0), (opX x a), (vp_updL jf 0 ((iI (x 3 0)).toInt64)), rfl, rfl, (fun _ => rfl), Or.inr (Or.inr (Or.inr (⟨rfl, hc, rfl, rfl⟩)))⟩
set_option maxRecDepth 100000 in
set_option maxHeartbeats 4000000 in
theorem m_L_join {l : Launch} {D : va_G} {cI cZ cJ : ClassId} {base : Nat} {ad : Nat → Nat} (hl : l.stackTraces = false) (x : Bk) (qo : Nat) (jf : Nat → Int64) (a b : Int) (ha : InR a) (hb : InR b) (hok : Ok x) : Cn l D cls9 (tyl cI cZ cJ) base (zz base) y_L_join (wzh y_L_join c_L_join 5 (some FieldType.int) [(0, 10, 13, 20), (0, 10, 17, 34), (0, 10, 21, 15)]) ({ frames := 8, cells := 1, slots := 6, locals := 125 } : Room) [.ref (ad 0), .int (iI a), .int (iI b), .ref qo] (lwd ad cI cZ cJ qo jf x) (fun r w => ∃ (k o : Int) (x' : Bk) (jf' : Nat → Int64), r = some k ∧ w = lwd ad cI cZ cJ qo jf' x' ∧ (k = 0 → jf' 0 = (iI o).toInt64) ∧ S_join x a b k o x') 1 6 := by
  refine Ch_of (zzG base) (by decide) rfl (Nat.le_of_ble_eq_true rfl) ?_
  intro p e s m args below meth c A C hr hA htab
  have C : gC p s m args meth c D cls9 (tyl cI cZ cJ) A c_L_join 5 "BatchSavingsLaw" (wzh y_L_join c_L_join 5 (some FieldType.int) [(0, 10, 13, 20), (0, 10, 17, 34), (0, 10, 21, 15)]) base (zz base) := C
  refine g_lve (lv' := [(0, .ref (ad 0)), (1, .int (iI a)), (2, .int (iI b)), (3, .ref qo)]) rfl ?_
  refine g_aload_n C (q := 3) d_L_join_0 rfl rfl ?_
  refine g_iconst C d_L_join_1 ?_
  refine g_aload_n C (q := 0) d_L_join_2 rfl rfl ?_
  refine g_iload_n C (q := 1) d_L_join_3 rfl rfl ?_
  refine g_iload_n C (q := 2) d_L_join_4 rfl rfl ?_
  refine gVxF C gws_inh (st := [.int (iI 0), .ref qo]) (wr := [(qo, .inl (cJ, 1, .inr (.inl jf)))]) (m_S_join hl x a b ha hb hok) [1, 2, 3, 4, 5, 6, 7, 8, 9, 10, 11, 12, 13, 14, 15, 16, 17, 18, 19] [0] rfl rfl rfl rfl rfl (by decide) k_523 k_520 k_521 k_522 k_1 rfl ho_S_join rfl rfl ⟨by decide, by decide⟩ 1 (lwd_1 x) rfl rfl rfl (Nat.le_of_ble_eq_true rfl) d_L_join_5 ⟨by decide, by decide⟩ (fun E w hq => ?_) (fun r w hq => ?_)
  · obtain ⟨y, rfl, hsc, hE⟩ := hq
    rcases hE with ⟨rfl, hc⟩ | ⟨rfl, hc⟩ | ⟨rfl, hc⟩
    · refine g_catch C gws_inh (hh := [(0, 10, 13, 20), (0, 10, 17, 34), (0, 10, 21, 15)]) htab [] ⟨0, 10, 13, 20⟩ [⟨0, 10, 17, 34⟩, ⟨0, 10, 21, 15⟩] rfl (fun z hz => nomatch hz) rfl (by decide) k_296 kn_315 (tgt := 13) rfl (fun q9 => ?_)
      refine g_ws (ws' := (lwd ad cI cZ cJ qo jf y)) rfl ?_
      refine g_astore C (lv' := [(0, .ref (ad 0)), (1, .int (iI a)), (2, .int (iI b)), (3, .ref qo), (4, .ref q9)]) d_L_join_13 (by decide) rfl rfl ?_
      refine g_iconst C d_L_join_15 ?_
      exact g_iret C hA hr d_L_join_16 (by decide) (by decide) ⟨1, 0, y, jf, rfl, rfl, (fun z => by omega), Or.inl (⟨rfl, hc, hsc⟩)⟩
    · refine g_catch C gws_inh (hh := [(0, 10, 13, 20), (0, 10, 17, 34), (0, 10, 21, 15)]) htab [⟨0, 10, 13, 20⟩] ⟨0, 10, 17, 34⟩ [⟨0, 10, 21, 15⟩] rfl (fun z hz => by simp only [List.mem_cons, List.not_mem_nil, or_false] at hz; subst hz; exact ⟨by decide, _, k_296, by decide⟩) rfl (by decide) k_380 kn_392 (tgt := 17) rfl (fun q9 => ?_)
      refine g_ws (ws' := (lwd ad cI cZ cJ qo jf y)) rfl ?_
      refine g_astore C (lv' := [(0, .ref (ad 0)), (1, .int (iI a)), (2, .int (iI b)), (3, .ref qo), (4, .ref q9)]) d_L_join_17 (by decide) rfl rfl ?_
      refine g_iconst C d_L_join_19 ?_
      exact g_iret C hA hr d_L_join_20 (by decide) (by decide) ⟨2, 0, y, jf, rfl, rfl, (fun z => by omega), Or.inr (Or.inl (⟨rfl, hc, hsc⟩))⟩
    · refine g_catch C gws_inh (hh := [(0, 10, 13, 20), (0, 10, 17, 34), (0, 10, 21, 15)]) htab [⟨0, 10, 13, 20⟩, ⟨0, 10, 17, 34⟩] ⟨0, 10, 21, 15⟩ [] rfl (fun z hz => by simp only [List.mem_cons, List.not_mem_nil, or_false] at hz; rcases hz with rfl | rfl <;> first | exact ⟨by decide, _, k_296, by decide⟩ | exact ⟨by decide, _, k_380, by decide⟩) rfl (by decide) k_195 kn_275 (tgt := 21) rfl (fun q9 => ?_)
      refine g_ws (ws' := (lwd ad cI cZ cJ qo jf y)) rfl ?_
      refine g_astore C (lv' := [(0, .ref (ad 0)), (1, .int (iI a)), (2, .int (iI b)), (3, .ref qo), (4, .ref q9)]) d_L_join_21 (by decide) rfl rfl ?_
      refine g_iconst C d_L_join_23 ?_
      exact g_iret C hA hr d_L_join_24 (by decide) (by decide) ⟨3, 0, y, jf, rfl, rfl, (fun z => by omega), Or.inr (Or.inr (Or.inl (⟨rfl, hc, hsc⟩)))⟩
  · obtain ⟨hc, y, hsc, rfl, rfl⟩ := hq
    refine g_eq (ws' := (lwd ad cI cZ cJ qo jf (ptB (unX y a) a b))) (lv' := [(0, .ref (ad 0)), (1, .int (iI a)), (2, .int (iI b)), (3, .ref qo)]) (pc' := 8) (st' := [.int (iI (wayB (ptB (unX y a) a b) b)), .int (iI 0), .ref qo]) rfl rfl rfl rfl ?_
    refine g_i2l C d_L_join_8 ?_
    refine g_last C 0 2 (lwd_0 (ptB (unX y a) a b)) rfl (by decide) (by decide) d_L_join_9 (lwd_s (ptB (unX y a) a b) _) ?_
    refine g_ws (ws' := (lwd ad cI cZ cJ qo (vp_updL jf 0 ((iI (wayB (ptB (unX y a) a b) b)).toInt64)) (ptB (unX y a) a b))) rfl ?_
    refine g_goto C (tgt := 25) d_L_join_10 rfl ?_
    refine g_iconst C d_L_join_25 ?_
    exact g_iret C hA hr d_L_join_26 (by decide) (by decide) ⟨0, (wayB (ptB (unX y a) a b) b), (ptB (unX y a) a b), (vp_updL jf 0 ((iI (wayB (ptB (unX y a) a b) b)).toInt64)), rfl, rfl, (fun _ => rfl), Or.inr (Or.inr (Or.inr (⟨rfl, hc, y, hsc, rfl, rfl⟩)))⟩
set_option maxRecDepth 100000 in
set_option maxHeartbeats 4000000 in
theorem m_L_leave {l : Launch} {D : va_G} {cI cZ cJ : ClassId} {base : Nat} {ad : Nat → Nat} (hl : l.stackTraces = false) (x : Bk) (qo : Nat) (jf : Nat → Int64) (a : Int) (ha : InR a) (hok : Ok x) : Cn l D cls9 (tyl cI cZ cJ) base (zz base) y_L_leave (wzh y_L_leave c_L_leave 4 (some FieldType.int) [(0, 9, 12, 20), (0, 9, 15, 34)]) ({ frames := 8, cells := 1, slots := 6, locals := 125 } : Room) [.ref (ad 0), .int (iI a), .ref qo] (lwd ad cI cZ cJ qo jf x) (fun r w => ∃ (k o : Int) (x' : Bk) (jf' : Nat → Int64), r = some k ∧ w = lwd ad cI cZ cJ qo jf' x' ∧ (k = 0 → jf' 0 = (iI o).toInt64) ∧ S_leave x a k o x') 1 6 := by
  refine Ch_of (zzG base) (by decide) rfl (Nat.le_of_ble_eq_true rfl) ?_
  intro p e s m args below meth c A C hr hA htab
  have C : gC p s m args meth c D cls9 (tyl cI cZ cJ) A c_L_leave 4 "BatchSavingsLaw" (wzh y_L_leave c_L_leave 4 (some FieldType.int) [(0, 9, 12, 20), (0, 9, 15, 34)]) base (zz base) := C
  refine g_lve (lv' := [(0, .ref (ad 0)), (1, .int (iI a)), (2, .ref qo)]) rfl ?_
  refine g_aload_n C (q := 2) d_L_leave_0 rfl rfl ?_
  refine g_iconst C d_L_leave_1 ?_
  refine g_aload_n C (q := 0) d_L_leave_2 rfl rfl ?_
  refine g_iload_n C (q := 1) d_L_leave_3 rfl rfl ?_
  refine gVxF C gws_inh (st := [.int (iI 0), .ref qo]) (wr := [(qo, .inl (cJ, 1, .inr (.inl jf)))]) (m_S_leave hl x a ha hok) [1, 2, 3, 4, 5, 6, 7, 8, 9, 10, 11, 12, 13, 14, 15, 16, 17, 18, 19] [0] rfl rfl rfl rfl rfl (by decide) k_574 k_571 k_572 k_573 k_1 rfl ho_S_leave rfl rfl ⟨by decide, by decide⟩ 1 (lwd_1 x) rfl rfl rfl (Nat.le_of_ble_eq_true rfl) d_L_leave_4 ⟨by decide, by decide⟩ (fun E w hq => ?_) (fun r w hq => ?_)
  · obtain ⟨y, rfl, hsc, hE⟩ := hq
    rcases hE with ⟨rfl, hc⟩ | ⟨rfl, hc⟩
    · refine g_catch C gws_inh (hh := [(0, 9, 12, 20), (0, 9, 15, 34)]) htab [] ⟨0, 9, 12, 20⟩ [⟨0, 9, 15, 34⟩] rfl (fun z hz => nomatch hz) rfl (by decide) k_296 kn_315 (tgt := 12) rfl (fun q9 => ?_)
      refine g_ws (ws' := (lwd ad cI cZ cJ qo jf y)) rfl ?_
      refine g_astore_n C (lv' := [(0, .ref (ad 0)), (1, .int (iI a)), (2, .ref qo), (3, .ref q9)]) d_L_leave_12 rfl (by decide) rfl rfl ?_
      refine g_iconst C d_L_leave_13 ?_
      exact g_iret C hA hr d_L_leave_14 (by decide) (by decide) ⟨1, 0, y, jf, rfl, rfl, (fun z => by omega), Or.inl (⟨rfl, hc, hsc⟩)⟩
    · refine g_catch C gws_inh (hh := [(0, 9, 12, 20), (0, 9, 15, 34)]) htab [⟨0, 9, 12, 20⟩] ⟨0, 9, 15, 34⟩ [] rfl (fun z hz => by simp only [List.mem_cons, List.not_mem_nil, or_false] at hz; subst hz; exact ⟨by decide, _, k_296, by decide⟩) rfl (by decide) k_380 kn_392 (tgt := 15) rfl (fun q9 => ?_)
      refine g_ws (ws' := (lwd ad cI cZ cJ qo jf y)) rfl ?_
      refine g_astore_n C (lv' := [(0, .ref (ad 0)), (1, .int (iI a)), (2, .ref qo), (3, .ref q9)]) d_L_leave_15 rfl (by decide) rfl rfl ?_
      refine g_iconst C d_L_leave_16 ?_
      exact g_iret C hA hr d_L_leave_17 (by decide) (by decide) ⟨2, 0, y, jf, rfl, rfl, (fun z => by omega), Or.inr (Or.inl (⟨rfl, hc, hsc⟩))⟩
  · obtain ⟨hc, rfl, rfl⟩ := hq
    refine g_eq (ws' := (lwd ad cI cZ cJ qo jf (leX x a))) (lv' := [(0, .ref (ad 0)), (1, .int (iI a)), (2, .ref qo)]) (pc' := 7) (st' := [.int (iI ((tk (x 15 a) a (x 13) (x 14 (x 15 a)).toNat).2)), .int (iI 0), .ref qo]) rfl rfl rfl rfl ?_
    refine g_i2l C d_L_leave_7 ?_
    refine g_last C 0 2 (lwd_0 (leX x a)) rfl (by decide) (by decide) d_L_leave_8 (lwd_s (leX x a) _) ?_
    refine g_ws (ws' := (lwd ad cI cZ cJ qo (vp_updL jf 0 ((iI ((tk (x 15 a) a (x 13) (x 14 (x 15 a)).toNat).2)).toInt64)) (leX x a))) rfl ?_
    refine g_goto C (tgt := 18) d_L_leave_9 rfl ?_
    refine g_iconst C d_L_leave_18 ?_
    exact g_iret C hA hr d_L_leave_19 (by decide) (by decide) ⟨0, ((tk (x 15 a) a (x 13) (x 14 (x 15 a)).toNat).2), (leX x a), (vp_updL jf 0 ((iI ((tk (x 15 a) a (x 13) (x 14 (x 15 a)).toNat).2)).toInt64)), rfl, rfl, (fun _ => rfl), Or.inr (Or.inr (⟨rfl, hc, rfl, rfl⟩))⟩
set_option maxRecDepth 100000 in
set_option maxHeartbeats 4000000 in
theorem m_L_batch {l : Launch} {D : va_G} {cI cZ cJ : ClassId} {base : Nat} {ad : Nat → Nat} (hl : l.stackTraces = false) (x : Bk) (qo : Nat) (jf : Nat → Int64) (a : Int) (ha : InR a) (hok : Ok x) : Cn l D cls9 (tyl cI cZ cJ) base (zz base) y_L_batch (wzh y_L_batch c_L_batch 4 (some FieldType.int) [(0, 9, 12, 20)]) ({ frames := 8, cells := 1, slots := 6, locals := 124 } : Room) [.ref (ad 0), .int (iI a), .ref qo] (lwd ad cI cZ cJ qo jf x) (fun r w => ∃ (k o : Int) (x' : Bk) (jf' : Nat → Int64), r = some k ∧ w = lwd ad cI cZ cJ qo jf' x' ∧ (k = 0 → jf' 0 = (iI o).toInt64) ∧ S_batch x a k o x') 1 6 := by
  refine Ch_of (zzG base) (by decide) rfl (Nat.le_of_ble_eq_true rfl) ?_
  intro p e s m args below meth c A C hr hA htab
  have C : gC p s m args meth c D cls9 (tyl cI cZ cJ) A c_L_batch 4 "BatchSavingsLaw" (wzh y_L_batch c_L_batch 4 (some FieldType.int) [(0, 9, 12, 20)]) base (zz base) := C
  refine g_lve (lv' := [(0, .ref (ad 0)), (1, .int (iI a)), (2, .ref qo)]) rfl ?_
  refine g_aload_n C (q := 2) d_L_batch_0 rfl rfl ?_
  refine g_iconst C d_L_batch_1 ?_
  refine g_aload_n C (q := 0) d_L_batch_2 rfl rfl ?_
  refine g_iload_n C (q := 1) d_L_batch_3 rfl rfl ?_
  refine gVxF C gws_inh (st := [.int (iI 0), .ref qo]) (wr := [(qo, .inl (cJ, 1, .inr (.inl jf)))]) (m_S_batch hl x a ha hok) [1, 2, 3, 4, 5, 6, 7, 8, 9, 10, 11, 12, 13, 14, 15, 16, 17, 18, 19] [0] rfl rfl rfl rfl rfl (by decide) k_586 k_583 k_584 k_585 k_1 rfl ho_S_batch rfl rfl ⟨by decide, by decide⟩ 1 (lwd_1 x) rfl rfl rfl (Nat.le_of_ble_eq_true rfl) d_L_batch_4 ⟨by decide, by decide⟩ (fun E w hq => ?_) (fun r w hq => ?_)
  · obtain ⟨y, rfl, hsc, hE⟩ := hq
    obtain ⟨rfl, hc⟩ := hE
    refine g_catch C gws_inh (hh := [(0, 9, 12, 20)]) htab [] ⟨0, 9, 12, 20⟩ [] rfl (fun z hz => nomatch hz) rfl (by decide) k_296 kn_315 (tgt := 12) rfl (fun q9 => ?_)
    refine g_ws (ws' := (lwd ad cI cZ cJ qo jf y)) rfl ?_
    refine g_astore_n C (lv' := [(0, .ref (ad 0)), (1, .int (iI a)), (2, .ref qo), (3, .ref q9)]) d_L_batch_12 rfl (by decide) rfl rfl ?_
    refine g_iconst C d_L_batch_13 ?_
    exact g_iret C hA hr d_L_batch_14 (by decide) (by decide) ⟨1, 0, y, jf, rfl, rfl, (fun z => by omega), Or.inl (⟨rfl, hc, hsc⟩)⟩
  · obtain ⟨hc, rfl, rfl⟩ := hq
    refine g_eq (ws' := (lwd ad cI cZ cJ qo jf x)) (lv' := [(0, .ref (ad 0)), (1, .int (iI a)), (2, .ref qo)]) (pc' := 7) (st' := [.int (iI (x 15 a)), .int (iI 0), .ref qo]) rfl rfl rfl rfl ?_
    refine g_i2l C d_L_batch_7 ?_
    refine g_last C 0 2 (lwd_0 x) rfl (by decide) (by decide) d_L_batch_8 (lwd_s x _) ?_
    refine g_ws (ws' := (lwd ad cI cZ cJ qo (vp_updL jf 0 ((iI (x 15 a)).toInt64)) x)) rfl ?_
    refine g_goto C (tgt := 15) d_L_batch_9 rfl ?_
    refine g_iconst C d_L_batch_15 ?_
    exact g_iret C hA hr d_L_batch_16 (by decide) (by decide) ⟨0, (x 15 a), x, (vp_updL jf 0 ((iI (x 15 a)).toInt64)), rfl, rfl, (fun _ => rfl), Or.inr (⟨rfl, hc, rfl, rfl⟩)⟩
set_option maxRecDepth 100000 in
set_option maxHeartbeats 4000000 in
theorem m_L_told {l : Launch} {D : va_G} {cI cZ cJ : ClassId} {base : Nat} {ad : Nat → Nat} (hl : l.stackTraces = false) (x : Bk) (qo : Nat) (jf : Nat → Int64) (b a v : Int) (hb : InR b) (ha : InR a) (hv : InR v) (hok : Ok x) : Cn l D cls9 (tyl cI cZ cJ) base (zz base) y_L_told (wzh y_L_told c_L_told 6 (some FieldType.int) [(0, 12, 15, 20), (0, 12, 19, 13)]) ({ frames := 8, cells := 1, slots := 6, locals := 127 } : Room) [.ref (ad 0), .int (iI b), .int (iI a), .int (iI v), .ref qo] (lwd ad cI cZ cJ qo jf x) (fun r w => ∃ (k o : Int) (x' : Bk) (jf' : Nat → Int64), r = some k ∧ w = lwd ad cI cZ cJ qo jf' x' ∧ (k = 0 → jf' 0 = (iI o).toInt64) ∧ S_told x b a v k o x') 1 6 := by
  refine Ch_of (zzG base) (by decide) rfl (Nat.le_of_ble_eq_true rfl) ?_
  intro p e s m args below meth c A C hr hA htab
  have C : gC p s m args meth c D cls9 (tyl cI cZ cJ) A c_L_told 6 "BatchSavingsLaw" (wzh y_L_told c_L_told 6 (some FieldType.int) [(0, 12, 15, 20), (0, 12, 19, 13)]) base (zz base) := C
  refine g_lve (lv' := [(0, .ref (ad 0)), (1, .int (iI b)), (2, .int (iI a)), (3, .int (iI v)), (4, .ref qo)]) rfl ?_
  refine g_aload C (q := 4) d_L_told_0 rfl ?_
  refine g_iconst C d_L_told_2 ?_
  refine g_aload_n C (q := 0) d_L_told_3 rfl rfl ?_
  refine g_iload_n C (q := 1) d_L_told_4 rfl rfl ?_
  refine g_iload_n C (q := 2) d_L_told_5 rfl rfl ?_
  refine g_iload_n C (q := 3) d_L_told_6 rfl rfl ?_
  refine gVxF C gws_inh (st := [.int (iI 0), .ref qo]) (wr := [(qo, .inl (cJ, 1, .inr (.inl jf)))]) (m_S_told hl x b a v hb ha hv hok) [1, 2, 3, 4, 5, 6, 7, 8, 9, 10, 11, 12, 13, 14, 15, 16, 17, 18, 19] [0] rfl rfl rfl rfl rfl (by decide) k_593 k_590 k_591 k_592 k_1 rfl ho_S_told rfl rfl ⟨by decide, by decide⟩ 1 (lwd_1 x) rfl rfl rfl (Nat.le_of_ble_eq_true rfl) d_L_told_7 ⟨by decide, by decide⟩ (fun E w hq => ?_) (fun r w hq => ?_)
  · obtain ⟨y, rfl, hsc, hE⟩ := hq
    rcases hE with ⟨rfl, hc⟩ | ⟨rfl, hc⟩
    · refine g_catch C gws_inh (hh := [(0, 12, 15, 20), (0, 12, 19, 13)]) htab [] ⟨0, 12, 15, 20⟩ [⟨0, 12, 19, 13⟩] rfl (fun z hz => nomatch hz) rfl (by decide) k_296 kn_315 (tgt := 15) rfl (fun q9 => ?_)
      refine g_ws (ws' := (lwd ad cI cZ cJ qo jf y)) rfl ?_
      refine g_astore C (lv' := [(0, .ref (ad 0)), (1, .int (iI b)), (2, .int (iI a)), (3, .int (iI v)), (4, .ref qo), (5, .ref q9)]) d_L_told_15 (by decide) rfl rfl ?_
      refine g_iconst C d_L_told_17 ?_
      exact g_iret C hA hr d_L_told_18 (by decide) (by decide) ⟨1, 0, y, jf, rfl, rfl, (fun z => by omega), Or.inl (⟨rfl, hc, hsc⟩)⟩
    · refine g_catch C gws_inh (hh := [(0, 12, 15, 20), (0, 12, 19, 13)]) htab [⟨0, 12, 15, 20⟩] ⟨0, 12, 19, 13⟩ [] rfl (fun z hz => by simp only [List.mem_cons, List.not_mem_nil, or_false] at hz; subst hz; exact ⟨by decide, _, k_296, by decide⟩) rfl (by decide) k_194 kn_205 (tgt := 19) rfl (fun q9 => ?_)
      refine g_ws (ws' := (lwd ad cI cZ cJ qo jf y)) rfl ?_
      refine g_astore C (lv' := [(0, .ref (ad 0)), (1, .int (iI b)), (2, .int (iI a)), (3, .int (iI v)), (4, .ref qo), (5, .ref q9)]) d_L_told_19 (by decide) rfl rfl ?_
      refine g_iconst C d_L_told_21 ?_
      exact g_iret C hA hr d_L_told_22 (by decide) (by decide) ⟨2, 0, y, jf, rfl, rfl, (fun z => by omega), Or.inr (Or.inl (⟨rfl, hc, hsc⟩))⟩
  · obtain ⟨hc, hz, rfl⟩ := hq
    rcases hz with ⟨hv0, rfl⟩ | ⟨hv0, rfl⟩ | ⟨hv0, rfl⟩ | ⟨hv0, rfl⟩ | ⟨hv0, rfl⟩
    · refine g_eq (ws' := (lwd ad cI cZ cJ qo jf x)) (lv' := [(0, .ref (ad 0)), (1, .int (iI b)), (2, .int (iI a)), (3, .int (iI v)), (4, .ref qo)]) (pc' := 10) (st' := [.int (iI (x 13 (b * 4 + a))), .int (iI 0), .ref qo]) rfl rfl rfl rfl ?_
      refine g_i2l C d_L_told_10 ?_
      refine g_last C 0 2 (lwd_0 x) rfl (by decide) (by decide) d_L_told_11 (lwd_s x _) ?_
      refine g_ws (ws' := (lwd ad cI cZ cJ qo (vp_updL jf 0 ((iI (x 13 (b * 4 + a))).toInt64)) x)) rfl ?_
      refine g_goto C (tgt := 23) d_L_told_12 rfl ?_
      refine g_iconst C d_L_told_23 ?_
      exact g_iret C hA hr d_L_told_24 (by decide) (by decide) ⟨0, (x 13 (b * 4 + a)), x, (vp_updL jf 0 ((iI (x 13 (b * 4 + a))).toInt64)), rfl, rfl, (fun _ => rfl), Or.inr (Or.inr (⟨rfl, hc, Or.inl (⟨hv0, rfl⟩), rfl⟩))⟩
    · refine g_eq (ws' := (lwd ad cI cZ cJ qo jf x)) (lv' := [(0, .ref (ad 0)), (1, .int (iI b)), (2, .int (iI a)), (3, .int (iI v)), (4, .ref qo)]) (pc' := 10) (st' := [.int (iI (wayB x b)), .int (iI 0), .ref qo]) rfl rfl rfl rfl ?_
      refine g_i2l C d_L_told_10 ?_
      refine g_last C 0 2 (lwd_0 x) rfl (by decide) (by decide) d_L_told_11 (lwd_s x _) ?_
      refine g_ws (ws' := (lwd ad cI cZ cJ qo (vp_updL jf 0 ((iI (wayB x b)).toInt64)) x)) rfl ?_
      refine g_goto C (tgt := 23) d_L_told_12 rfl ?_
      refine g_iconst C d_L_told_23 ?_
      exact g_iret C hA hr d_L_told_24 (by decide) (by decide) ⟨0, (wayB x b), x, (vp_updL jf 0 ((iI (wayB x b)).toInt64)), rfl, rfl, (fun _ => rfl), Or.inr (Or.inr (⟨rfl, hc, Or.inr (Or.inl (⟨hv0, rfl⟩)), rfl⟩))⟩
    · refine g_eq (ws' := (lwd ad cI cZ cJ qo jf x)) (lv' := [(0, .ref (ad 0)), (1, .int (iI b)), (2, .int (iI a)), (3, .int (iI v)), (4, .ref qo)]) (pc' := 10) (st' := [.int (iI (sby x b)), .int (iI 0), .ref qo]) rfl rfl rfl rfl ?_
      refine g_i2l C d_L_told_10 ?_
      refine g_last C 0 2 (lwd_0 x) rfl (by decide) (by decide) d_L_told_11 (lwd_s x _) ?_
      refine g_ws (ws' := (lwd ad cI cZ cJ qo (vp_updL jf 0 ((iI (sby x b)).toInt64)) x)) rfl ?_
      refine g_goto C (tgt := 23) d_L_told_12 rfl ?_
      refine g_iconst C d_L_told_23 ?_
      exact g_iret C hA hr d_L_told_24 (by decide) (by decide) ⟨0, (sby x b), x, (vp_updL jf 0 ((iI (sby x b)).toInt64)), rfl, rfl, (fun _ => rfl), Or.inr (Or.inr (⟨rfl, hc, Or.inr (Or.inr (Or.inl (⟨hv0, rfl⟩))), rfl⟩))⟩
    · refine g_eq (ws' := (lwd ad cI cZ cJ qo jf x)) (lv' := [(0, .ref (ad 0)), (1, .int (iI b)), (2, .int (iI a)), (3, .int (iI v)), (4, .ref qo)]) (pc' := 10) (st' := [.int (iI (sumB x (x 6) b)), .int (iI 0), .ref qo]) rfl rfl rfl rfl ?_
      refine g_i2l C d_L_told_10 ?_
      refine g_last C 0 2 (lwd_0 x) rfl (by decide) (by decide) d_L_told_11 (lwd_s x _) ?_
      refine g_ws (ws' := (lwd ad cI cZ cJ qo (vp_updL jf 0 ((iI (sumB x (x 6) b)).toInt64)) x)) rfl ?_
      refine g_goto C (tgt := 23) d_L_told_12 rfl ?_
      refine g_iconst C d_L_told_23 ?_
      exact g_iret C hA hr d_L_told_24 (by decide) (by decide) ⟨0, (sumB x (x 6) b), x, (vp_updL jf 0 ((iI (sumB x (x 6) b)).toInt64)), rfl, rfl, (fun _ => rfl), Or.inr (Or.inr (⟨rfl, hc, Or.inr (Or.inr (Or.inr (Or.inl (⟨hv0, rfl⟩)))), rfl⟩))⟩
    · refine g_eq (ws' := (lwd ad cI cZ cJ qo jf x)) (lv' := [(0, .ref (ad 0)), (1, .int (iI b)), (2, .int (iI a)), (3, .int (iI v)), (4, .ref qo)]) (pc' := 10) (st' := [.int (iI (sumB x (x 8) b)), .int (iI 0), .ref qo]) rfl rfl rfl rfl ?_
      refine g_i2l C d_L_told_10 ?_
      refine g_last C 0 2 (lwd_0 x) rfl (by decide) (by decide) d_L_told_11 (lwd_s x _) ?_
      refine g_ws (ws' := (lwd ad cI cZ cJ qo (vp_updL jf 0 ((iI (sumB x (x 8) b)).toInt64)) x)) rfl ?_
      refine g_goto C (tgt := 23) d_L_told_12 rfl ?_
      refine g_iconst C d_L_told_23 ?_
      exact g_iret C hA hr d_L_told_24 (by decide) (by decide) ⟨0, (sumB x (x 8) b), x, (vp_updL jf 0 ((iI (sumB x (x 8) b)).toInt64)), rfl, rfl, (fun _ => rfl), Or.inr (Or.inr (⟨rfl, hc, Or.inr (Or.inr (Or.inr (Or.inr (⟨hv0, rfl⟩)))), rfl⟩))⟩
set_option maxRecDepth 100000 in
set_option maxHeartbeats 4000000 in
theorem m_L_best {l : Launch} {D : va_G} {cI cZ cJ : ClassId} {base : Nat} {ad : Nat → Nat} (hl : l.stackTraces = false) (x : Bk) (qo : Nat) (jf : Nat → Int64) (a : Int) (ha : InR a) (hok : Ok x) : Cn l D cls9 (tyl cI cZ cJ) base (zz base) y_L_best (wzh y_L_best c_L_best 4 (some FieldType.int) [(0, 9, 12, 20), (0, 9, 15, 34)]) ({ frames := 8, cells := 1, slots := 6, locals := 128 } : Room) [.ref (ad 0), .int (iI a), .ref qo] (lwd ad cI cZ cJ qo jf x) (fun r w => ∃ (k o : Int) (x' : Bk) (jf' : Nat → Int64), r = some k ∧ w = lwd ad cI cZ cJ qo jf' x' ∧ (k = 0 → jf' 0 = (iI o).toInt64) ∧ S_best x a k o x') 1 6 := by
  refine Ch_of (zzG base) (by decide) rfl (Nat.le_of_ble_eq_true rfl) ?_
  intro p e s m args below meth c A C hr hA htab
  have C : gC p s m args meth c D cls9 (tyl cI cZ cJ) A c_L_best 4 "BatchSavingsLaw" (wzh y_L_best c_L_best 4 (some FieldType.int) [(0, 9, 12, 20), (0, 9, 15, 34)]) base (zz base) := C
  refine g_lve (lv' := [(0, .ref (ad 0)), (1, .int (iI a)), (2, .ref qo)]) rfl ?_
  refine g_aload_n C (q := 2) d_L_best_0 rfl rfl ?_
  refine g_iconst C d_L_best_1 ?_
  refine g_aload_n C (q := 0) d_L_best_2 rfl rfl ?_
  refine g_iload_n C (q := 1) d_L_best_3 rfl rfl ?_
  refine gVxF C gws_inh (st := [.int (iI 0), .ref qo]) (wr := [(qo, .inl (cJ, 1, .inr (.inl jf)))]) (m_S_best hl x a ha hok) [1, 2, 3, 4, 5, 6, 7, 8, 9, 10, 11, 12, 13, 14, 15, 16, 17, 18, 19] [0] rfl rfl rfl rfl rfl (by decide) k_603 k_600 k_601 k_602 k_1 rfl ho_S_best rfl rfl ⟨by decide, by decide⟩ 1 (lwd_1 x) rfl rfl rfl (Nat.le_of_ble_eq_true rfl) d_L_best_4 ⟨by decide, by decide⟩ (fun E w hq => ?_) (fun r w hq => ?_)
  · obtain ⟨y, rfl, hsc, hE⟩ := hq
    rcases hE with ⟨rfl, hc⟩ | ⟨rfl, hc⟩
    · refine g_catch C gws_inh (hh := [(0, 9, 12, 20), (0, 9, 15, 34)]) htab [] ⟨0, 9, 12, 20⟩ [⟨0, 9, 15, 34⟩] rfl (fun z hz => nomatch hz) rfl (by decide) k_296 kn_315 (tgt := 12) rfl (fun q9 => ?_)
      refine g_ws (ws' := (lwd ad cI cZ cJ qo jf y)) rfl ?_
      refine g_astore_n C (lv' := [(0, .ref (ad 0)), (1, .int (iI a)), (2, .ref qo), (3, .ref q9)]) d_L_best_12 rfl (by decide) rfl rfl ?_
      refine g_iconst C d_L_best_13 ?_
      exact g_iret C hA hr d_L_best_14 (by decide) (by decide) ⟨1, 0, y, jf, rfl, rfl, (fun z => by omega), Or.inl (⟨rfl, hc, hsc⟩)⟩
    · refine g_catch C gws_inh (hh := [(0, 9, 12, 20), (0, 9, 15, 34)]) htab [⟨0, 9, 12, 20⟩] ⟨0, 9, 15, 34⟩ [] rfl (fun z hz => by simp only [List.mem_cons, List.not_mem_nil, or_false] at hz; subst hz; exact ⟨by decide, _, k_296, by decide⟩) rfl (by decide) k_380 kn_392 (tgt := 15) rfl (fun q9 => ?_)
      refine g_ws (ws' := (lwd ad cI cZ cJ qo jf y)) rfl ?_
      refine g_astore_n C (lv' := [(0, .ref (ad 0)), (1, .int (iI a)), (2, .ref qo), (3, .ref q9)]) d_L_best_15 rfl (by decide) rfl rfl ?_
      refine g_iconst C d_L_best_16 ?_
      exact g_iret C hA hr d_L_best_17 (by decide) (by decide) ⟨2, 0, y, jf, rfl, rfl, (fun z => by omega), Or.inr (Or.inl (⟨rfl, hc, hsc⟩))⟩
  · obtain ⟨hc, y, hsc, rfl, rfl⟩ := hq
    refine g_eq (ws' := (lwd ad cI cZ cJ qo jf y)) (lv' := [(0, .ref (ad 0)), (1, .int (iI a)), (2, .ref qo)]) (pc' := 7) (st' := [.int (iI ((bsf x a (x 3 0).toNat).1)), .int (iI 0), .ref qo]) rfl rfl rfl rfl ?_
    refine g_i2l C d_L_best_7 ?_
    refine g_last C 0 2 (lwd_0 y) rfl (by decide) (by decide) d_L_best_8 (lwd_s y _) ?_
    refine g_ws (ws' := (lwd ad cI cZ cJ qo (vp_updL jf 0 ((iI ((bsf x a (x 3 0).toNat).1)).toInt64)) y)) rfl ?_
    refine g_goto C (tgt := 18) d_L_best_9 rfl ?_
    refine g_iconst C d_L_best_18 ?_
    exact g_iret C hA hr d_L_best_19 (by decide) (by decide) ⟨0, ((bsf x a (x 3 0).toNat).1), y, (vp_updL jf 0 ((iI ((bsf x a (x 3 0).toNat).1)).toInt64)), rfl, rfl, (fun _ => rfl), Or.inr (Or.inr (⟨rfl, hc, rfl, hsc⟩))⟩
set_option maxRecDepth 100000 in
set_option maxHeartbeats 4000000 in
theorem m_L_share {l : Launch} {D : va_G} {cI cZ cJ : ClassId} {base : Nat} {ad : Nat → Nat} (hl : l.stackTraces = false) (x : Bk) (qo : Nat) (jf : Nat → Int64) (a b : Int) (ha : InR a) (hb : InR b) (hok : Ok x) : Cn l D cls9 (tyl cI cZ cJ) base (zz base) y_L_share (wzh y_L_share c_L_share 5 (some FieldType.int) [(0, 10, 13, 13), (0, 10, 17, 71)]) ({ frames := 8, cells := 1, slots := 6, locals := 126 } : Room) [.ref (ad 0), .int (iI a), .int (iI b), .ref qo] (lwd ad cI cZ cJ qo jf x) (fun r w => ∃ (k o : Int) (x' : Bk) (jf' : Nat → Int64), r = some k ∧ w = lwd ad cI cZ cJ qo jf' x' ∧ (k = 0 → jf' 0 = (iI o).toInt64) ∧ S_share x a b k o x') 1 6 := by
  refine Ch_of (zzG base) (by decide) rfl (Nat.le_of_ble_eq_true rfl) ?_
  intro p e s m args below meth c A C hr hA htab
  have C : gC p s m args meth c D cls9 (tyl cI cZ cJ) A c_L_share 5 "BatchSavingsLaw" (wzh y_L_share c_L_share 5 (some FieldType.int) [(0, 10, 13, 13), (0, 10, 17, 71)]) base (zz base) := C
  refine g_lve (lv' := [(0, .ref (ad 0)), (1, .int (iI a)), (2, .int (iI b)), (3, .ref qo)]) rfl ?_
  refine g_aload_n C (q := 3) d_L_share_0 rfl rfl ?_
  refine g_iconst C d_L_share_1 ?_
  refine g_aload_n C (q := 0) d_L_share_2 rfl rfl ?_
  refine g_iload_n C (q := 1) d_L_share_3 rfl rfl ?_
  refine g_iload_n C (q := 2) d_L_share_4 rfl rfl ?_
  refine gVxF C gws_inh (st := [.int (iI 0), .ref qo]) (wr := [(qo, .inl (cJ, 1, .inr (.inl jf)))]) (m_S_share hl x a b ha hb hok) [1, 2, 3, 4, 5, 6, 7, 8, 9, 10, 11, 12, 13, 14, 15, 16, 17, 18, 19] [0] rfl rfl rfl rfl rfl (by decide) k_611 k_608 k_609 k_610 k_1 rfl ho_S_share rfl rfl ⟨by decide, by decide⟩ 1 (lwd_1 x) rfl rfl rfl (Nat.le_of_ble_eq_true rfl) d_L_share_5 ⟨by decide, by decide⟩ (fun E w hq => ?_) (fun r w hq => ?_)
  · obtain ⟨y, rfl, hsc, hE⟩ := hq
    rcases hE with ⟨rfl, hc⟩ | ⟨rfl, hc⟩
    · refine g_catch C gws_inh (hh := [(0, 10, 13, 13), (0, 10, 17, 71)]) htab [] ⟨0, 10, 13, 13⟩ [⟨0, 10, 17, 71⟩] rfl (fun z hz => nomatch hz) rfl (by decide) k_194 kn_205 (tgt := 13) rfl (fun q9 => ?_)
      refine g_ws (ws' := (lwd ad cI cZ cJ qo jf y)) rfl ?_
      refine g_astore C (lv' := [(0, .ref (ad 0)), (1, .int (iI a)), (2, .int (iI b)), (3, .ref qo), (4, .ref q9)]) d_L_share_13 (by decide) rfl rfl ?_
      refine g_iconst C d_L_share_15 ?_
      exact g_iret C hA hr d_L_share_16 (by decide) (by decide) ⟨1, 0, y, jf, rfl, rfl, (fun z => by omega), Or.inl (⟨rfl, hc, hsc⟩)⟩
    · refine g_catch C gws_inh (hh := [(0, 10, 13, 13), (0, 10, 17, 71)]) htab [⟨0, 10, 13, 13⟩] ⟨0, 10, 17, 71⟩ [] rfl (fun z hz => by simp only [List.mem_cons, List.not_mem_nil, or_false] at hz; subst hz; exact ⟨by decide, _, k_194, by decide⟩) rfl (by decide) k_607 kn_616 (tgt := 17) rfl (fun q9 => ?_)
      refine g_ws (ws' := (lwd ad cI cZ cJ qo jf y)) rfl ?_
      refine g_astore C (lv' := [(0, .ref (ad 0)), (1, .int (iI a)), (2, .int (iI b)), (3, .ref qo), (4, .ref q9)]) d_L_share_17 (by decide) rfl rfl ?_
      refine g_iconst C d_L_share_19 ?_
      exact g_iret C hA hr d_L_share_20 (by decide) (by decide) ⟨2, 0, y, jf, rfl, rfl, (fun z => by omega), Or.inr (Or.inl (⟨rfl, hc, hsc⟩))⟩
  · obtain ⟨hc, rfl, rfl⟩ := hq
    refine g_eq (ws' := (lwd ad cI cZ cJ qo jf x)) (lv' := [(0, .ref (ad 0)), (1, .int (iI a)), (2, .int (iI b)), (3, .ref qo)]) (pc' := 8) (st' := [.int (iI ((100 * a).tdiv b)), .int (iI 0), .ref qo]) rfl rfl rfl rfl ?_
    refine g_i2l C d_L_share_8 ?_
    refine g_last C 0 2 (lwd_0 x) rfl (by decide) (by decide) d_L_share_9 (lwd_s x _) ?_
    refine g_ws (ws' := (lwd ad cI cZ cJ qo (vp_updL jf 0 ((iI ((100 * a).tdiv b)).toInt64)) x)) rfl ?_
    refine g_goto C (tgt := 21) d_L_share_10 rfl ?_
    refine g_iconst C d_L_share_21 ?_
    exact g_iret C hA hr d_L_share_22 (by decide) (by decide) ⟨0, ((100 * a).tdiv b), x, (vp_updL jf 0 ((iI ((100 * a).tdiv b)).toInt64)), rfl, rfl, (fun _ => rfl), Or.inr (Or.inr (⟨rfl, hc, rfl, rfl⟩))⟩
set_option maxRecDepth 100000 in
set_option maxHeartbeats 4000000 in
theorem m_L_mean {l : Launch} {D : va_G} {cI cZ cJ : ClassId} {base : Nat} {ad : Nat → Nat} (hl : l.stackTraces = false) (x : Bk) (qo : Nat) (jf : Nat → Int64) (hok : Ok x) : Cn l D cls9 (tyl cI cZ cJ) base (zz base) y_L_mean (wzh y_L_mean c_L_mean 3 (some FieldType.int) [(0, 8, 11, 71)]) ({ frames := 7, cells := 1, slots := 6, locals := 110 } : Room) [.ref (ad 0), .ref qo] (lwd ad cI cZ cJ qo jf x) (fun r w => ∃ (k o : Int) (x' : Bk) (jf' : Nat → Int64), r = some k ∧ w = lwd ad cI cZ cJ qo jf' x' ∧ (k = 0 → jf' 0 = (iI o).toInt64) ∧ S_mean x k o x') 1 6 := by
  refine Ch_of (zzG base) (by decide) rfl (Nat.le_of_ble_eq_true rfl) ?_
  intro p e s m args below meth c A C hr hA htab
  have C : gC p s m args meth c D cls9 (tyl cI cZ cJ) A c_L_mean 3 "BatchSavingsLaw" (wzh y_L_mean c_L_mean 3 (some FieldType.int) [(0, 8, 11, 71)]) base (zz base) := C
  refine g_lve (lv' := [(0, .ref (ad 0)), (1, .ref qo)]) rfl ?_
  refine g_aload_n C (q := 1) d_L_mean_0 rfl rfl ?_
  refine g_iconst C d_L_mean_1 ?_
  refine g_aload_n C (q := 0) d_L_mean_2 rfl rfl ?_
  refine gVxF C gws_inh (st := [.int (iI 0), .ref qo]) (wr := [(qo, .inl (cJ, 1, .inr (.inl jf)))]) (m_S_mean hl x hok) [1, 2, 3, 4, 5, 6, 7, 8, 9, 10, 11, 12, 13, 14, 15, 16, 17, 18, 19] [0] rfl rfl rfl rfl rfl (by decide) k_636 k_633 k_634 k_635 k_1 rfl ho_S_mean rfl rfl ⟨by decide, by decide⟩ 1 (lwd_1 x) rfl rfl rfl (Nat.le_of_ble_eq_true rfl) d_L_mean_3 ⟨by decide, by decide⟩ (fun E w hq => ?_) (fun r w hq => ?_)
  · obtain ⟨y, rfl, hsc, hE⟩ := hq
    obtain ⟨rfl, hc⟩ := hE
    refine g_catch C gws_inh (hh := [(0, 8, 11, 71)]) htab [] ⟨0, 8, 11, 71⟩ [] rfl (fun z hz => nomatch hz) rfl (by decide) k_607 kn_616 (tgt := 11) rfl (fun q9 => ?_)
    refine g_ws (ws' := (lwd ad cI cZ cJ qo jf y)) rfl ?_
    refine g_astore_n C (lv' := [(0, .ref (ad 0)), (1, .ref qo), (2, .ref q9)]) d_L_mean_11 rfl (by decide) rfl rfl ?_
    refine g_iconst C d_L_mean_12 ?_
    exact g_iret C hA hr d_L_mean_13 (by decide) (by decide) ⟨1, 0, y, jf, rfl, rfl, (fun z => by omega), Or.inl (⟨rfl, hc, hsc⟩)⟩
  · obtain ⟨hc, rfl, rfl⟩ := hq
    refine g_eq (ws' := (lwd ad cI cZ cJ qo jf x)) (lv' := [(0, .ref (ad 0)), (1, .ref qo)]) (pc' := 6) (st' := [.int (iI ((sg (sby x) (x 3 0).toNat + svd x).tdiv (x 1 0))), .int (iI 0), .ref qo]) rfl rfl rfl rfl ?_
    refine g_i2l C d_L_mean_6 ?_
    refine g_last C 0 2 (lwd_0 x) rfl (by decide) (by decide) d_L_mean_7 (lwd_s x _) ?_
    refine g_ws (ws' := (lwd ad cI cZ cJ qo (vp_updL jf 0 ((iI ((sg (sby x) (x 3 0).toNat + svd x).tdiv (x 1 0))).toInt64)) x)) rfl ?_
    refine g_goto C (tgt := 14) d_L_mean_8 rfl ?_
    refine g_iconst C d_L_mean_14 ?_
    exact g_iret C hA hr d_L_mean_15 (by decide) (by decide) ⟨0, ((sg (sby x) (x 3 0).toNat + svd x).tdiv (x 1 0)), x, (vp_updL jf 0 ((iI ((sg (sby x) (x 3 0).toNat + svd x).tdiv (x 1 0))).toInt64)), rfl, rfl, (fun _ => rfl), Or.inr (⟨rfl, hc, rfl, rfl⟩)⟩
