theorem thr_IAE {args : Array Value} {s : State} (h1 : ∀ w ∈ gws, w.before args s = true) (h2 : ∀ w ∈ nst, va_Nw w s) : ∀ w ∈ vx_atS "BatchSavings" 185 "java/lang/IllegalArgumentException" ["java/lang/RuntimeException", "java/lang/Exception"], w.before args s = true := by
  have h : (vx_atS "BatchSavings" 185 "java/lang/IllegalArgumentException" ["java/lang/RuntimeException", "java/lang/Exception"]).all (fun w => decide (w ∈ lw_tbl) && (goodWord w || (isNst w && decide (w ∈ tables_1)))) = true := by decide +kernel
  intro w hw
  have h3 := List.all_eq_true.mp h w hw
  simp only [Bool.and_eq_true, Bool.or_eq_true, decide_eq_true_eq] at h3
  rcases h3.2 with g | g
  · exact h1 w (List.mem_filter.mpr ⟨h3.1, g⟩)
  · exact va_Nw.use (nst_on g.1) (h2 w (List.mem_filter.mpr ⟨g.2, g.1⟩))
theorem thg_IAE : ∀ w ∈ Cond.classLink "BatchSavings" 181 "java/lang/IllegalArgumentException" :: Cond.initialized "java/lang/IllegalArgumentException" :: vx_atS "BatchSavings" 185 "java/lang/IllegalArgumentException" ["java/lang/RuntimeException", "java/lang/Exception"], vx_ot w = true := by
  have h : (Cond.classLink "BatchSavings" 181 "java/lang/IllegalArgumentException" :: Cond.initialized "java/lang/IllegalArgumentException" :: vx_atS "BatchSavings" 185 "java/lang/IllegalArgumentException" ["java/lang/RuntimeException", "java/lang/Exception"]).all vx_ot = true := by decide +kernel
  exact List.all_eq_true.mp h
theorem thk_IAE : Cond.classLink "BatchSavings" 181 "java/lang/IllegalArgumentException" ∈ gws := tw 203 (by decide +kernel) rfl
theorem thi_IAE : Cond.initialized "java/lang/IllegalArgumentException" ∈ gws := tw 11 (by decide +kernel) rfl
theorem thr_UOE {args : Array Value} {s : State} (h1 : ∀ w ∈ gws, w.before args s = true) (h2 : ∀ w ∈ nst, va_Nw w s) : ∀ w ∈ vx_atS "BatchSavings" 51 "java/lang/UnsupportedOperationException" ["java/lang/RuntimeException", "java/lang/Exception"], w.before args s = true := by
  have h : (vx_atS "BatchSavings" 51 "java/lang/UnsupportedOperationException" ["java/lang/RuntimeException", "java/lang/Exception"]).all (fun w => decide (w ∈ lw_tbl) && (goodWord w || (isNst w && decide (w ∈ tables_1)))) = true := by decide +kernel
  intro w hw
  have h3 := List.all_eq_true.mp h w hw
  simp only [Bool.and_eq_true, Bool.or_eq_true, decide_eq_true_eq] at h3
  rcases h3.2 with g | g
  · exact h1 w (List.mem_filter.mpr ⟨h3.1, g⟩)
  · exact va_Nw.use (nst_on g.1) (h2 w (List.mem_filter.mpr ⟨g.2, g.1⟩))
theorem thg_UOE : ∀ w ∈ Cond.classLink "BatchSavings" 47 "java/lang/UnsupportedOperationException" :: Cond.initialized "java/lang/UnsupportedOperationException" :: vx_atS "BatchSavings" 51 "java/lang/UnsupportedOperationException" ["java/lang/RuntimeException", "java/lang/Exception"], vx_ot w = true := by
  have h : (Cond.classLink "BatchSavings" 47 "java/lang/UnsupportedOperationException" :: Cond.initialized "java/lang/UnsupportedOperationException" :: vx_atS "BatchSavings" 51 "java/lang/UnsupportedOperationException" ["java/lang/RuntimeException", "java/lang/Exception"]).all vx_ot = true := by decide +kernel
  exact List.all_eq_true.mp h
theorem thk_UOE : Cond.classLink "BatchSavings" 47 "java/lang/UnsupportedOperationException" ∈ gws := tw 273 (by decide +kernel) rfl
theorem thi_UOE : Cond.initialized "java/lang/UnsupportedOperationException" ∈ gws := tw 12 (by decide +kernel) rfl
theorem thr_NSE {args : Array Value} {s : State} (h1 : ∀ w ∈ gws, w.before args s = true) (h2 : ∀ w ∈ nst, va_Nw w s) : ∀ w ∈ nx_at "BatchSavings" 210 "java/util/NoSuchElementException" "java/lang/RuntimeException" 13 prog_19_method_4_code ["java/lang/Exception"], w.before args s = true := by
  have h : (nx_at "BatchSavings" 210 "java/util/NoSuchElementException" "java/lang/RuntimeException" 13 prog_19_method_4_code ["java/lang/Exception"]).all (fun w => decide (w ∈ lw_tbl) && (goodWord w || (isNst w && decide (w ∈ tables_1)))) = true := by decide +kernel
  intro w hw
  have h3 := List.all_eq_true.mp h w hw
  simp only [Bool.and_eq_true, Bool.or_eq_true, decide_eq_true_eq] at h3
  rcases h3.2 with g | g
  · exact h1 w (List.mem_filter.mpr ⟨h3.1, g⟩)
  · exact va_Nw.use (nst_on g.1) (h2 w (List.mem_filter.mpr ⟨g.2, g.1⟩))
theorem thg_NSE : ∀ w ∈ Cond.classLink "BatchSavings" 206 "java/util/NoSuchElementException" :: Cond.initialized "java/util/NoSuchElementException" :: nx_at "BatchSavings" 210 "java/util/NoSuchElementException" "java/lang/RuntimeException" 13 prog_19_method_4_code ["java/lang/Exception"], vx_ot w = true := by
  have h : (Cond.classLink "BatchSavings" 206 "java/util/NoSuchElementException" :: Cond.initialized "java/util/NoSuchElementException" :: nx_at "BatchSavings" 210 "java/util/NoSuchElementException" "java/lang/RuntimeException" 13 prog_19_method_4_code ["java/lang/Exception"]).all vx_ot = true := by decide +kernel
  exact List.all_eq_true.mp h
theorem thk_NSE : Cond.classLink "BatchSavings" 206 "java/util/NoSuchElementException" ∈ gws := tw 313 (by decide +kernel) rfl
theorem thi_NSE : Cond.initialized "java/util/NoSuchElementException" ∈ gws := tw 13 (by decide +kernel) rfl
theorem thr_ISE {args : Array Value} {s : State} (h1 : ∀ w ∈ gws, w.before args s = true) (h2 : ∀ w ∈ nst, va_Nw w s) : ∀ w ∈ vx_atS "BatchSavings" 146 "java/lang/IllegalStateException" ["java/lang/RuntimeException", "java/lang/Exception"], w.before args s = true := by
  have h : (vx_atS "BatchSavings" 146 "java/lang/IllegalStateException" ["java/lang/RuntimeException", "java/lang/Exception"]).all (fun w => decide (w ∈ lw_tbl) && (goodWord w || (isNst w && decide (w ∈ tables_1)))) = true := by decide +kernel
  intro w hw
  have h3 := List.all_eq_true.mp h w hw
  simp only [Bool.and_eq_true, Bool.or_eq_true, decide_eq_true_eq] at h3
  rcases h3.2 with g | g
  · exact h1 w (List.mem_filter.mpr ⟨h3.1, g⟩)
  · exact va_Nw.use (nst_on g.1) (h2 w (List.mem_filter.mpr ⟨g.2, g.1⟩))
theorem thg_ISE : ∀ w ∈ Cond.classLink "BatchSavings" 142 "java/lang/IllegalStateException" :: Cond.initialized "java/lang/IllegalStateException" :: vx_atS "BatchSavings" 146 "java/lang/IllegalStateException" ["java/lang/RuntimeException", "java/lang/Exception"], vx_ot w = true := by
  have h : (Cond.classLink "BatchSavings" 142 "java/lang/IllegalStateException" :: Cond.initialized "java/lang/IllegalStateException" :: vx_atS "BatchSavings" 146 "java/lang/IllegalStateException" ["java/lang/RuntimeException", "java/lang/Exception"]).all vx_ot = true := by decide +kernel
  exact List.all_eq_true.mp h
theorem thk_ISE : Cond.classLink "BatchSavings" 142 "java/lang/IllegalStateException" ∈ gws := tw 390 (by decide +kernel) rfl
theorem thi_ISE : Cond.initialized "java/lang/IllegalStateException" ∈ gws := tw 14 (by decide +kernel) rfl
theorem thr_AE {args : Array Value} {s : State} (h1 : ∀ w ∈ gws, w.before args s = true) (h2 : ∀ w ∈ nst, va_Nw w s) : ∀ w ∈ vx_atS "BatchSavings" 196 "java/lang/ArithmeticException" ["java/lang/RuntimeException", "java/lang/Exception"], w.before args s = true := by
  have h : (vx_atS "BatchSavings" 196 "java/lang/ArithmeticException" ["java/lang/RuntimeException", "java/lang/Exception"]).all (fun w => decide (w ∈ lw_tbl) && (goodWord w || (isNst w && decide (w ∈ tables_1)))) = true := by decide +kernel
  intro w hw
  have h3 := List.all_eq_true.mp h w hw
  simp only [Bool.and_eq_true, Bool.or_eq_true, decide_eq_true_eq] at h3
  rcases h3.2 with g | g
  · exact h1 w (List.mem_filter.mpr ⟨h3.1, g⟩)
  · exact va_Nw.use (nst_on g.1) (h2 w (List.mem_filter.mpr ⟨g.2, g.1⟩))
theorem thg_AE : ∀ w ∈ Cond.classLink "BatchSavings" 192 "java/lang/ArithmeticException" :: Cond.initialized "java/lang/ArithmeticException" :: vx_atS "BatchSavings" 196 "java/lang/ArithmeticException" ["java/lang/RuntimeException", "java/lang/Exception"], vx_ot w = true := by
  have h : (Cond.classLink "BatchSavings" 192 "java/lang/ArithmeticException" :: Cond.initialized "java/lang/ArithmeticException" :: vx_atS "BatchSavings" 196 "java/lang/ArithmeticException" ["java/lang/RuntimeException", "java/lang/Exception"]).all vx_ot = true := by decide +kernel
  exact List.all_eq_true.mp h
theorem thk_AE : Cond.classLink "BatchSavings" 192 "java/lang/ArithmeticException" ∈ gws := tw 614 (by decide +kernel) rfl
theorem thi_AE : Cond.initialized "java/lang/ArithmeticException" ∈ gws := tw 17 (by decide +kernel) rfl
theorem th_names : ∀ n ∈ (["java/lang/RuntimeException", "java/lang/Exception"] : List String), Bundle.fit n = true := by decide +kernel
section GT
variable {p : Program} {l : Launch} {e : Env} {R : Room} {s : State} {m : MethodId} {args : Array Value} {below : List Frame} {meth : Method} {c : Code} {cells slots : Nat} {Q : State → Prop}
variable {D : va_G} {cl : List vw_C} {tys : List (ClassId × FieldType)} {A : Nat → Prop} {cc : ByteArray} {nL base : Nat}
variable {ws ws0 : va_W} {lv : List (Nat × Value)} {pc : Nat} {st : List Value} {y0 : MethodName} {c0 : ByteArray} {n0 : Nat} {ret0 : Option FieldType}
/-- throw new E("text") -/
theorem gT (C : gC p s m args meth c D cl tys A cc nL "BatchSavings" (wz y0 c0 n0 ret0) base (zz base)) (hl : l.stackTraces = false) (hno : ∀ x ∈ c.exceptionTable.toList, False) (hA : A = va_A ws0 s.heap.size) {E text : String} {ik is ic mc ms : Nat} {po : Option Int → va_W → Prop} {px : String → va_W → Prop} (hcls : Bundle.fit E = true) (hk : Cond.classLink "BatchSavings" ik E ∈ gws) (hini : Cond.initialized E ∈ gws) (hstr : (is, text) ∈ strs9)
    (hat : (∀ w ∈ gws, w.before args s = true) → (∀ w ∈ nst, va_Nw w s) → ∀ w ∈ vx_atS "BatchSavings" ic E ["java/lang/RuntimeException", "java/lang/Exception"], w.before args s = true) (hgood : ∀ w ∈ Cond.classLink "BatchSavings" ik E :: Cond.initialized E :: vx_atS "BatchSavings" ic E ["java/lang/RuntimeException", "java/lang/Exception"], vx_ot w = true)
    (d0 : decode cc pc = .ok (.new ik, 3)) (d3 : decode cc (pc + 3) = .ok (.dup, 1)) (d4 : decode cc (pc + 4) = .ok (.ldc is, 2)) (d6 : decode cc (pc + 6) = .ok (.invokespecial ic, 3)) (d9 : decode cc (pc + 9) = .ok (.athrow, 1))
    (hf : 5 < R.frames) (hlo : (st.map fun v => v.category).sum + 82 ≤ R.locals) (hRc : cells + 1 ≤ R.cells) (hRs : slots + 6 ≤ R.slots) (hc : cells + 1 ≤ mc) (hs : slots + 6 ≤ ms) (hp : px E ws) :
    gW p l e R s m args below meth c D cl A nL cells slots (vx_MQ below (Qg D cl tys ws0 s.heap.size po) (Xg D cl tys ws0 s.heap.size px) args s mc ms (va_A ws0 s.heap.size)) ws lv pc st := by
  subst hA
  intro H locs ls hP hD hS hl'
  obtain ⟨sa, hsa⟩ := C.z.2.2.2.1 (is, text) hstr
  refine vx_throwS C.1.1 C.1.2.1 hl C.1.2.2.2.1 hcls th_names (C.1.2.2.2.2 _ (gws_in hk)) (C.1.2.2.2.2 _ (gws_in hini)) hsa (hat (fun w h => C.1.2.2.2.2 w (gws_in h)) C.z.1) hgood (C.z.2.1.narrow (fun q hq => C.2.2.2.1 q hq)) (C.z.2.2.1.narrow (fun q hq => C.2.2.2.1 q hq)) hS (hl'.1.trans C.1.2.2.1.symm) d0 d3 d4 d6 d9 (fun x hx => (hno x hx).elim) hf hlo hRc hRs C.2.2.2.2.2.2 (fun t hvm hz hk => ?_) hS.2.2 hc hs
  exact ⟨ws, hp, ⟨hP.kept (fun k q hq => hk q.1 (hP k q hq).lt), va_K.moved hvm C.2.1, hD⟩, Nat.le_trans hS.1 hz, fun q h1 h2 => (hk q (Nat.lt_of_lt_of_le h1 hS.1)).trans (hS.2.1 q h1 h2)⟩
/-- throw new NoSuchElementException("text") -/
theorem gTn (C : gC p s m args meth c D cl tys A cc nL "BatchSavings" (wz y0 c0 n0 ret0) base (zz base)) (hl : l.stackTraces = false) (hno : ∀ x ∈ c.exceptionTable.toList, False) (hA : A = va_A ws0 s.heap.size) {E text : String} {ik is ic mc ms : Nat} {po : Option Int → va_W → Prop} {px : String → va_W → Prop} (hcls : Bundle.fit E = true) (hk : Cond.classLink "BatchSavings" ik E ∈ gws) (hini : Cond.initialized E ∈ gws) (hstr : (is, text) ∈ strs9)
    (hat : (∀ w ∈ gws, w.before args s = true) → (∀ w ∈ nst, va_Nw w s) → ∀ w ∈ nx_at "BatchSavings" ic E "java/lang/RuntimeException" 13 prog_19_method_4_code ["java/lang/Exception"], w.before args s = true) (hgood : ∀ w ∈ Cond.classLink "BatchSavings" ik E :: Cond.initialized E :: nx_at "BatchSavings" ic E "java/lang/RuntimeException" 13 prog_19_method_4_code ["java/lang/Exception"], vx_ot w = true)
    (d0 : decode cc pc = .ok (.new ik, 3)) (d3 : decode cc (pc + 3) = .ok (.dup, 1)) (d4 : decode cc (pc + 4) = .ok (.ldc is, 2)) (d6 : decode cc (pc + 6) = .ok (.invokespecial ic, 3)) (d9 : decode cc (pc + 9) = .ok (.athrow, 1))
    (hf : 5 < R.frames) (hlo : (st.map fun v => v.category).sum + 82 ≤ R.locals) (hRc : cells + 1 ≤ R.cells) (hRs : slots + 6 ≤ R.slots) (hc : cells + 1 ≤ mc) (hs : slots + 6 ≤ ms) (hp : px E ws) :
    gW p l e R s m args below meth c D cl A nL cells slots (vx_MQ below (Qg D cl tys ws0 s.heap.size po) (Xg D cl tys ws0 s.heap.size px) args s mc ms (va_A ws0 s.heap.size)) ws lv pc st := by
  subst hA
  intro H locs ls hP hD hS hl'
  obtain ⟨sa, hsa⟩ := C.z.2.2.2.1 (is, text) hstr
  refine nx_throwS C.1.1 C.1.2.1 hl (by decide +kernel) (by decide +kernel) (by decide +kernel) (by decide +kernel) C.1.2.2.2.1 hcls (by decide +kernel) (by decide +kernel) (C.1.2.2.2.2 _ (gws_in hk)) (C.1.2.2.2.2 _ (gws_in hini)) hsa (hat (fun w h => C.1.2.2.2.2 w (gws_in h)) C.z.1) hgood (C.z.2.1.narrow (fun q hq => C.2.2.2.1 q hq)) (C.z.2.2.1.narrow (fun q hq => C.2.2.2.1 q hq)) hS (hl'.1.trans C.1.2.2.1.symm) d0 d3 d4 d6 d9 (fun x hx => (hno x hx).elim) hf hlo hRc hRs C.2.2.2.2.2.2 (fun t hvm hz hk => ?_) hS.2.2 hc hs
  exact ⟨ws, hp, ⟨hP.kept (fun k q hq => hk q.1 (hP k q hq).lt), va_K.moved hvm C.2.1, hD⟩, Nat.le_trans hS.1 hz, fun q h1 h2 => (hk q (Nat.lt_of_lt_of_le h1 hS.1)).trans (hS.2.1 q h1 h2)⟩
section GT2
variable {y : MethodName} {bytes : ByteArray} {maxL mc ms n index : Nat} {ret : Option FieldType} {rm : Room} {po : Option Int → va_W → Prop} {px : String → va_W → Prop} {b ci : Nat} {As : List Value} {st0 : List Value} {fs : List Value} {q : vw_C} {own : String}
/-- calls that may throw, of the same class -/
theorem gVx (C : gC p s m args meth c D cl tys A cc nL own (wz y0 c0 n0 ret0) base (zz base)) (hM : Cx l D cl tys base (zz base) y (wz y bytes maxL ret) rm (.ref b :: As) ws po px mc ms) (h5 : Cond.code y bytes maxL ret ∈ gws) (h1 : Cond.methodLink own index y ∈ gws) (h2 : Cond.instanceMethod y ∈ gws) (h3 : Cond.selects q.1 y y ∈ gws) (h4 : Cond.initialized q.1 ∈ gws) (hy : y.cls = q.1) (ho : hdOk y n) (hrc : rm.cells = mc) (hrs : rm.slots = ms) (hR : rm.frames + 1 ≤ R.frames ∧ 8 + (maxL + 11) + rm.locals ≤ R.locals) (q0 : Nat) (he : ws[q0]? = some (b, .inr (ci, fs))) (hc : cl[ci]? = some q) (hn : As.length = n) (hst : st0 = As.reverse ++ .ref b :: st) (hW : (st.map fun v => v.category).sum ≤ 8) (hd : decode cc pc = .ok (.invokevirtual index, 3)) (hf : cells + mc ≤ R.cells ∧ slots + ms ≤ R.slots)
    (kx : ∀ (E : String) (w : va_W), px E w → gX p l e R s m args below meth c D cl A nL (cells + mc) (slots + ms) Q E w lv pc st)
    (kk : ∀ (r : Option Int) (w : va_W), po r w → gW p l e R s m args below meth c D cl A nL (cells + mc) (slots + ms) Q w lv (pc + 3) ((oI r).toList ++ st)) : gW p l e R s m args below meth c D cl A nL cells slots Q ws lv pc st0 :=
  g_Vx C (zzB base) hM (cwV n C.1.2.2.2.2 (gws_good (fun _ h => gws_in h) (wsV_sub (wz_sub h5) h1 h2 h3 h4)) rfl hrc hrs ⟨hy, ho⟩ hR) q0 he hc hn hst hW hd hf kx kk
theorem gSx (C : gC p s m args meth c D cl tys A cc nL own (wz y0 c0 n0 ret0) base (zz base)) (hM : Cx l D cl tys base (zz base) y (wz y bytes maxL ret) rm As [] po px mc ms) (h5 : Cond.code y bytes maxL ret ∈ gws) (h1 : Cond.methodLink own index y ∈ gws) (h2 : Cond.static y ∈ gws) (h4 : Cond.initialized own ∈ gws) (hy : y.cls = own) (ho : hdOk y n) (hrc : rm.cells = mc) (hrs : rm.slots = ms) (hR : rm.frames + 1 ≤ R.frames ∧ 8 + (maxL + 11) + rm.locals ≤ R.locals) (hn : As.length = n) (hst : st0 = As.reverse ++ st) (hW : (st.map fun v => v.category).sum ≤ 8) (hd : decode cc pc = .ok (.invokestatic index, 3)) (hf : cells + mc ≤ R.cells ∧ slots + ms ≤ R.slots)
    (kx : ∀ (E : String) (w : va_W), px E w → gX p l e R s m args below meth c D cl A nL (cells + mc) (slots + ms) Q E ws lv pc st)
    (kk : ∀ (r : Option Int) (w : va_W), po r w → gW p l e R s m args below meth c D cl A nL (cells + mc) (slots + ms) Q ws lv (pc + 3) ((oI r).toList ++ st)) : gW p l e R s m args below meth c D cl A nL cells slots Q ws lv pc st0 :=
  g_Sx0 C (zzB base) hM (cwS n C.1.2.2.2.2 (gws_good (fun _ h => gws_in h) (wsS_sub (wz_sub h5) h1 h2 h4)) rfl hrc hrs ⟨hy, ho⟩ hR) hn hst hW hd hf kx kk
end GT2
end GT
set_option maxRecDepth 100000 in
set_option maxHeartbeats 4000000 in
theorem m_S_needRange {l : Launch} {D : va_G} {cI cZ cJ : ClassId} {base : Nat} (v lo hi : Int) (hv : InR v) (hlo : InR lo) (hhi : InR hi) (hg : lo ≤ v ∧ v ≤ hi) : Cn l D cls9 (tyl cI cZ cJ) base (zz base) y_S_needRange (wz y_S_needRange c_S_needRange 3 none) ({ frames := 0, cells := 0, slots := 0, locals := 0 } : Room) [.int (iI v), .int (iI lo), .int (iI hi)] [] (fun r w => r = none ∧ w = []) 0 0 := by
  refine Cn_of (zzG base) (by decide) rfl (Nat.le_of_ble_eq_true rfl) ?_
  intro p e s m args below meth c A C hr hA hnm
  have C : gC p s m args meth c D cls9 (tyl cI cZ cJ) A c_S_needRange 3 "BatchSavings" (wz y_S_needRange c_S_needRange 3 none) base (zz base) := C
  refine g_lve (lv' := [(0, .int (iI v)), (1, .int (iI lo)), (2, .int (iI hi))]) rfl ?_
  refine g_iload_n C (q := 0) d_S_needRange_0 rfl rfl ?_
  refine g_iload_n C (q := 1) d_S_needRange_1 rfl rfl ?_
  refine g_icmp_lt C (tgt := 10) d_S_needRange_2 rfl (by omega) (by omega) (fun h2_1 => ?_) (fun h2_1 => ?_)
  · exfalso
    omega
  · refine g_iload_n C (q := 0) d_S_needRange_5 rfl rfl ?_
    refine g_iload_n C (q := 2) d_S_needRange_6 rfl rfl ?_
    refine g_icmp_le C (tgt := 20) d_S_needRange_7 rfl (by omega) (by omega) (fun h7_2 => ?_) (fun h7_2 => ?_)
    · exact g_vret C hA hr d_S_needRange_20 (by decide) (by decide) ⟨rfl, rfl⟩
    · exfalso
      omega
set_option maxRecDepth 100000 in
set_option maxHeartbeats 4000000 in
theorem t_S_needRange {l : Launch} {D : va_G} {cI cZ cJ : ClassId} {base : Nat} (hl : l.stackTraces = false) (v lo hi : Int) (hv : InR v) (hlo : InR lo) (hhi : InR hi) (hg : ¬ (lo ≤ v ∧ v ≤ hi)) : Cx l D cls9 (tyl cI cZ cJ) base (zz base) y_S_needRange (wz y_S_needRange c_S_needRange 3 none) ({ frames := 6, cells := 1, slots := 6, locals := 82 } : Room) [.int (iI v), .int (iI lo), .int (iI hi)] ([]) (fun r w => False) (fun E w => E = "java/lang/IllegalArgumentException" ∧ w = []) 1 6 := by
  refine Cx_of (zzG base) (by decide) rfl (Nat.le_of_ble_eq_true rfl) ?_
  intro p e s m args below meth c A C hr hA hno
  have C : gC p s m args meth c D cls9 (tyl cI cZ cJ) A c_S_needRange 3 "BatchSavings" (wz y_S_needRange c_S_needRange 3 none) base (zz base) := C
  refine g_lve (lv' := [(0, .int (iI v)), (1, .int (iI lo)), (2, .int (iI hi))]) rfl ?_
  refine g_iload_n C (q := 0) d_S_needRange_0 rfl rfl ?_
  refine g_iload_n C (q := 1) d_S_needRange_1 rfl rfl ?_
  refine g_icmp_lt C (tgt := 10) d_S_needRange_2 rfl (by omega) (by omega) (fun h2_1 => ?_) (fun h2_1 => ?_)
  · exact gT C hl hno hA (by decide +kernel) thk_IAE thi_IAE (is := 219) (text := "a number outside its range") (by decide +kernel) thr_IAE thg_IAE d_S_needRange_10 d_S_needRange_13 d_S_needRange_14 d_S_needRange_16 d_S_needRange_19 (by decide) (Nat.le_of_ble_eq_true rfl) (by decide) (by decide) (by decide) (by decide) ⟨rfl, rfl⟩
  · refine g_iload_n C (q := 0) d_S_needRange_5 rfl rfl ?_
    refine g_iload_n C (q := 2) d_S_needRange_6 rfl rfl ?_
    refine g_icmp_le C (tgt := 20) d_S_needRange_7 rfl (by omega) (by omega) (fun h7_2 => ?_) (fun h7_2 => ?_)
    · exfalso
      omega
    · exact gT C hl hno hA (by decide +kernel) thk_IAE thi_IAE (is := 219) (text := "a number outside its range") (by decide +kernel) thr_IAE thg_IAE d_S_needRange_10 d_S_needRange_13 d_S_needRange_14 d_S_needRange_16 d_S_needRange_19 (by decide) (Nat.le_of_ble_eq_true rfl) (by decide) (by decide) (by decide) (by decide) ⟨rfl, rfl⟩
set_option maxRecDepth 100000 in
set_option maxHeartbeats 4000000 in
theorem m_S_needDifferent {l : Launch} {D : va_G} {cI cZ cJ : ClassId} {base : Nat} (a b : Int) (ha : InR a) (hb : InR b) (hg : ¬ a = b) : Cn l D cls9 (tyl cI cZ cJ) base (zz base) y_S_needDifferent (wz y_S_needDifferent c_S_needDifferent 2 none) ({ frames := 0, cells := 0, slots := 0, locals := 0 } : Room) [.int (iI a), .int (iI b)] [] (fun r w => r = none ∧ w = []) 0 0 := by
  refine Cn_of (zzG base) (by decide) rfl (Nat.le_of_ble_eq_true rfl) ?_
  intro p e s m args below meth c A C hr hA hnm
  have C : gC p s m args meth c D cls9 (tyl cI cZ cJ) A c_S_needDifferent 2 "BatchSavings" (wz y_S_needDifferent c_S_needDifferent 2 none) base (zz base) := C
  refine g_lve (lv' := [(0, .int (iI a)), (1, .int (iI b))]) rfl ?_
  refine g_iload_n C (q := 0) d_S_needDifferent_0 rfl rfl ?_
  refine g_iload_n C (q := 1) d_S_needDifferent_1 rfl rfl ?_
  refine g_icmp_ne C (tgt := 15) d_S_needDifferent_2 rfl (by omega) (by omega) (fun h2_1 => ?_) (fun h2_1 => ?_)
  · exact g_vret C hA hr d_S_needDifferent_15 (by decide) (by decide) ⟨rfl, rfl⟩
  · exfalso
    omega
set_option maxRecDepth 100000 in
set_option maxHeartbeats 4000000 in
theorem t_S_needDifferent {l : Launch} {D : va_G} {cI cZ cJ : ClassId} {base : Nat} (hl : l.stackTraces = false) (a b : Int) (ha : InR a) (hb : InR b) (hg : a = b) : Cx l D cls9 (tyl cI cZ cJ) base (zz base) y_S_needDifferent (wz y_S_needDifferent c_S_needDifferent 2 none) ({ frames := 6, cells := 1, slots := 6, locals := 82 } : Room) [.int (iI a), .int (iI b)] ([]) (fun r w => False) (fun E w => E = "java/lang/IllegalArgumentException" ∧ w = []) 1 6 := by
  refine Cx_of (zzG base) (by decide) rfl (Nat.le_of_ble_eq_true rfl) ?_
  intro p e s m args below meth c A C hr hA hno
  have C : gC p s m args meth c D cls9 (tyl cI cZ cJ) A c_S_needDifferent 2 "BatchSavings" (wz y_S_needDifferent c_S_needDifferent 2 none) base (zz base) := C
  refine g_lve (lv' := [(0, .int (iI a)), (1, .int (iI b))]) rfl ?_
  refine g_iload_n C (q := 0) d_S_needDifferent_0 rfl rfl ?_
  refine g_iload_n C (q := 1) d_S_needDifferent_1 rfl rfl ?_
  refine g_icmp_ne C (tgt := 15) d_S_needDifferent_2 rfl (by omega) (by omega) (fun h2_1 => ?_) (fun h2_1 => ?_)
  · exfalso
    omega
  · exact gT C hl hno hA (by decide +kernel) thk_IAE thi_IAE (is := 221) (text := "the two are the same") (by decide +kernel) thr_IAE thg_IAE d_S_needDifferent_5 d_S_needDifferent_8 d_S_needDifferent_9 d_S_needDifferent_11 d_S_needDifferent_14 (by decide) (Nat.le_of_ble_eq_true rfl) (by decide) (by decide) (by decide) (by decide) ⟨rfl, rfl⟩
set_option maxRecDepth 100000 in
set_option maxHeartbeats 4000000 in
theorem m_S_needOrder {l : Launch} {D : va_G} {cI cZ cJ : ClassId} {base : Nat} {ad : Nat → Nat} (x : Bk) (a : Int) (ha : InR a) (hn : InR (x 1 0)) (hg : (0 ≤ a ∧ a < x 1 0)) : Cn l D cls9 (tyl cI cZ cJ) base (zz base) y_S_needOrder (wz y_S_needOrder c_S_needOrder 2 none) ({ frames := 1, cells := 0, slots := 0, locals := 21 } : Room) [.ref (ad 0), .int (iI a)] (cw ad cI cZ x) (fun r w => r = none ∧ w = cw ad cI cZ x) 0 0 := by
  refine Cn_of (zzG base) (by decide) rfl (Nat.le_of_ble_eq_true rfl) ?_
  intro p e s m args below meth c A C hr hA hnm
  have C : gC p s m args meth c D cls9 (tyl cI cZ cJ) A c_S_needOrder 2 "BatchSavings" (wz y_S_needOrder c_S_needOrder 2 none) base (zz base) := C
  refine g_lve (lv' := [(0, .ref (ad 0)), (1, .int (iI a))]) rfl ?_
  refine g_aload_n C (q := 0) d_S_needOrder_0 rfl rfl ?_
  refine gG C (v := .ref (ad 1)) 0 0 u_S k_147 (cwo_0 _) rfl (by decide) rfl rfl d_S_needOrder_1 ?_
  refine g_iload_n C (q := 1) d_S_needOrder_4 rfl rfl ?_
  refine gVN C (st := []) (m_O_has x a (by omega) (show InR (x 1 0) by omega)) k_312 kn_309 k_311 kp_9 k_2 ho_O_has rfl rfl ⟨by decide, by decide⟩ 1 (cwo_1 _) rfl rfl rfl (Nat.le_of_ble_eq_true rfl) d_S_needOrder_5 ⟨by decide, by decide⟩ (fun r w hq => ?_)
  obtain ⟨rfl, rfl⟩ := hq
  refine g_eq (ws' := cw ad cI cZ x) (lv' := [(0, .ref (ad 0)), (1, .int (iI a))]) (pc' := 8) (st' := [.int (iI (b01 (0 ≤ a ∧ a < (x 1 0))))]) rfl rfl rfl rfl ?_
  have hb := b01_or (p := (0 ≤ a ∧ a < x 1 0))
  refine g_if_ne C (tgt := 21) d_S_needOrder_8 rfl (by omega) (fun h8_1 => ?_) (fun h8_1 => ?_)
  · exact g_vret C hA hr d_S_needOrder_21 (by decide) (by decide) ⟨rfl, rfl⟩
  · exact absurd (b01_t hg) (by omega)
set_option maxRecDepth 100000 in
set_option maxHeartbeats 4000000 in
theorem t_S_needOrder {l : Launch} {D : va_G} {cI cZ cJ : ClassId} {base : Nat} {ad : Nat → Nat} (hl : l.stackTraces = false) (x : Bk) (a : Int) (ha : InR a) (hn : InR (x 1 0)) (hg : ¬ (0 ≤ a ∧ a < x 1 0)) : Cx l D cls9 (tyl cI cZ cJ) base (zz base) y_S_needOrder (wz y_S_needOrder c_S_needOrder 2 none) ({ frames := 6, cells := 1, slots := 6, locals := 82 } : Room) [.ref (ad 0), .int (iI a)] (cw ad cI cZ x) (fun r w => False) (fun E w => E = "java/util/NoSuchElementException" ∧ w = cw ad cI cZ x) 1 6 := by
  refine Cx_of (zzG base) (by decide) rfl (Nat.le_of_ble_eq_true rfl) ?_
  intro p e s m args below meth c A C hr hA hno
  have C : gC p s m args meth c D cls9 (tyl cI cZ cJ) A c_S_needOrder 2 "BatchSavings" (wz y_S_needOrder c_S_needOrder 2 none) base (zz base) := C
  refine g_lve (lv' := [(0, .ref (ad 0)), (1, .int (iI a))]) rfl ?_
  refine g_aload_n C (q := 0) d_S_needOrder_0 rfl rfl ?_
  refine gG C (v := .ref (ad 1)) 0 0 u_S k_147 (cwo_0 _) rfl (by decide) rfl rfl d_S_needOrder_1 ?_
  refine g_iload_n C (q := 1) d_S_needOrder_4 rfl rfl ?_
  refine gVN C (st := []) (m_O_has x a (by omega) (show InR (x 1 0) by omega)) k_312 kn_309 k_311 kp_9 k_2 ho_O_has rfl rfl ⟨by decide, by decide⟩ 1 (cwo_1 _) rfl rfl rfl (Nat.le_of_ble_eq_true rfl) d_S_needOrder_5 ⟨by decide, by decide⟩ (fun r w hq => ?_)
  obtain ⟨rfl, rfl⟩ := hq
  refine g_eq (ws' := cw ad cI cZ x) (lv' := [(0, .ref (ad 0)), (1, .int (iI a))]) (pc' := 8) (st' := [.int (iI (b01 (0 ≤ a ∧ a < (x 1 0))))]) rfl rfl rfl rfl ?_
  have hb := b01_or (p := (0 ≤ a ∧ a < x 1 0))
  refine g_if_ne C (tgt := 21) d_S_needOrder_8 rfl (by omega) (fun h8_1 => ?_) (fun h8_1 => ?_)
  · exact absurd (b01_f hg) (by omega)
  · exact gTn C hl hno hA (by decide +kernel) thk_NSE thi_NSE (is := 208) (text := "no such order") (by decide +kernel) thr_NSE thg_NSE d_S_needOrder_11 d_S_needOrder_14 d_S_needOrder_15 d_S_needOrder_17 d_S_needOrder_20 (by decide) (Nat.le_of_ble_eq_true rfl) (by decide) (by decide) (by decide) (by decide) ⟨rfl, rfl⟩
set_option maxRecDepth 100000 in
set_option maxHeartbeats 4000000 in
theorem m_S_needBatch {l : Launch} {D : va_G} {cI cZ cJ : ClassId} {base : Nat} {ad : Nat → Nat} (x : Bk) (a : Int) (ha : InR a) (hn : InR (x 3 0)) (hg : (0 ≤ a ∧ a < x 3 0)) : Cn l D cls9 (tyl cI cZ cJ) base (zz base) y_S_needBatch (wz y_S_needBatch c_S_needBatch 2 none) ({ frames := 1, cells := 0, slots := 0, locals := 21 } : Room) [.ref (ad 0), .int (iI a)] (cw ad cI cZ x) (fun r w => r = none ∧ w = cw ad cI cZ x) 0 0 := by
  refine Cn_of (zzG base) (by decide) rfl (Nat.le_of_ble_eq_true rfl) ?_
  intro p e s m args below meth c A C hr hA hnm
  have C : gC p s m args meth c D cls9 (tyl cI cZ cJ) A c_S_needBatch 2 "BatchSavings" (wz y_S_needBatch c_S_needBatch 2 none) base (zz base) := C
  refine g_lve (lv' := [(0, .ref (ad 0)), (1, .int (iI a))]) rfl ?_
  refine g_aload_n C (q := 0) d_S_needBatch_0 rfl rfl ?_
  refine gG C (v := .ref (ad 3)) 0 2 u_S k_149 (cwo_0 _) rfl (by decide) rfl rfl d_S_needBatch_1 ?_
  refine g_iload_n C (q := 1) d_S_needBatch_4 rfl rfl ?_
  refine gVN C (st := []) (m_B_has x a (by omega) (show InR (x 3 0) by omega)) k_531 kn_528 k_530 kp_35 k_5 ho_B_has rfl rfl ⟨by decide, by decide⟩ 3 (cwo_3 _) rfl rfl rfl (Nat.le_of_ble_eq_true rfl) d_S_needBatch_5 ⟨by decide, by decide⟩ (fun r w hq => ?_)
  obtain ⟨rfl, rfl⟩ := hq
  refine g_eq (ws' := cw ad cI cZ x) (lv' := [(0, .ref (ad 0)), (1, .int (iI a))]) (pc' := 8) (st' := [.int (iI (b01 (0 ≤ a ∧ a < (x 3 0))))]) rfl rfl rfl rfl ?_
  have hb := b01_or (p := (0 ≤ a ∧ a < x 3 0))
  refine g_if_ne C (tgt := 21) d_S_needBatch_8 rfl (by omega) (fun h8_1 => ?_) (fun h8_1 => ?_)
  · exact g_vret C hA hr d_S_needBatch_21 (by decide) (by decide) ⟨rfl, rfl⟩
  · exact absurd (b01_t hg) (by omega)
set_option maxRecDepth 100000 in
set_option maxHeartbeats 4000000 in
theorem t_S_needBatch {l : Launch} {D : va_G} {cI cZ cJ : ClassId} {base : Nat} {ad : Nat → Nat} (hl : l.stackTraces = false) (x : Bk) (a : Int) (ha : InR a) (hn : InR (x 3 0)) (hg : ¬ (0 ≤ a ∧ a < x 3 0)) : Cx l D cls9 (tyl cI cZ cJ) base (zz base) y_S_needBatch (wz y_S_needBatch c_S_needBatch 2 none) ({ frames := 6, cells := 1, slots := 6, locals := 82 } : Room) [.ref (ad 0), .int (iI a)] (cw ad cI cZ x) (fun r w => False) (fun E w => E = "java/util/NoSuchElementException" ∧ w = cw ad cI cZ x) 1 6 := by
  refine Cx_of (zzG base) (by decide) rfl (Nat.le_of_ble_eq_true rfl) ?_
  intro p e s m args below meth c A C hr hA hno
  have C : gC p s m args meth c D cls9 (tyl cI cZ cJ) A c_S_needBatch 2 "BatchSavings" (wz y_S_needBatch c_S_needBatch 2 none) base (zz base) := C
  refine g_lve (lv' := [(0, .ref (ad 0)), (1, .int (iI a))]) rfl ?_
  refine g_aload_n C (q := 0) d_S_needBatch_0 rfl rfl ?_
  refine gG C (v := .ref (ad 3)) 0 2 u_S k_149 (cwo_0 _) rfl (by decide) rfl rfl d_S_needBatch_1 ?_
  refine g_iload_n C (q := 1) d_S_needBatch_4 rfl rfl ?_
  refine gVN C (st := []) (m_B_has x a (by omega) (show InR (x 3 0) by omega)) k_531 kn_528 k_530 kp_35 k_5 ho_B_has rfl rfl ⟨by decide, by decide⟩ 3 (cwo_3 _) rfl rfl rfl (Nat.le_of_ble_eq_true rfl) d_S_needBatch_5 ⟨by decide, by decide⟩ (fun r w hq => ?_)
  obtain ⟨rfl, rfl⟩ := hq
  refine g_eq (ws' := cw ad cI cZ x) (lv' := [(0, .ref (ad 0)), (1, .int (iI a))]) (pc' := 8) (st' := [.int (iI (b01 (0 ≤ a ∧ a < (x 3 0))))]) rfl rfl rfl rfl ?_
  have hb := b01_or (p := (0 ≤ a ∧ a < x 3 0))
  refine g_if_ne C (tgt := 21) d_S_needBatch_8 rfl (by omega) (fun h8_1 => ?_) (fun h8_1 => ?_)
  · exact absurd (b01_f hg) (by omega)
  · exact gTn C hl hno hA (by decide +kernel) thk_NSE thi_NSE (is := 212) (text := "no such batch") (by decide +kernel) thr_NSE thg_NSE d_S_needBatch_11 d_S_needBatch_14 d_S_needBatch_15 d_S_needBatch_17 d_S_needBatch_20 (by decide) (Nat.le_of_ble_eq_true rfl) (by decide) (by decide) (by decide) (by decide) ⟨rfl, rfl⟩
set_option maxRecDepth 100000 in
set_option maxHeartbeats 4000000 in
theorem m_S_needFree {l : Launch} {D : va_G} {cI cZ cJ : ClassId} {base : Nat} {ad : Nat → Nat} (x : Bk) (a : Int) (ha : 0 ≤ a ∧ a < 10) (hn : InR (x 15 a)) (hg : (x 15 a = -1)) : Cn l D cls9 (tyl cI cZ cJ) base (zz base) y_S_needFree (wz y_S_needFree c_S_needFree 2 none) ({ frames := 1, cells := 0, slots := 0, locals := 21 } : Room) [.ref (ad 0), .int (iI a)] (cw ad cI cZ x) (fun r w => r = none ∧ w = cw ad cI cZ x) 0 0 := by
  refine Cn_of (zzG base) (by decide) rfl (Nat.le_of_ble_eq_true rfl) ?_
  intro p e s m args below meth c A C hr hA hnm
  have C : gC p s m args meth c D cls9 (tyl cI cZ cJ) A c_S_needFree 2 "BatchSavings" (wz y_S_needFree c_S_needFree 2 none) base (zz base) := C
  refine g_lve (lv' := [(0, .ref (ad 0)), (1, .int (iI a))]) rfl ?_
  refine g_aload_n C (q := 0) d_S_needFree_0 rfl rfl ?_
  refine gG C (v := .ref (ad 3)) 0 2 u_S k_149 (cwo_0 _) rfl (by decide) rfl rfl d_S_needFree_1 ?_
  refine g_iload_n C (q := 1) d_S_needFree_4 rfl rfl ?_
  refine gVN C (st := []) (m_B_isFree x a (by omega) (by omega)) k_175 kn_389 k_174 kp_1 k_5 ho_B_isFree rfl rfl ⟨by decide, by decide⟩ 3 (cwo_3 _) rfl rfl rfl (Nat.le_of_ble_eq_true rfl) d_S_needFree_5 ⟨by decide, by decide⟩ (fun r w hq => ?_)
  obtain ⟨rfl, rfl⟩ := hq
  refine g_eq (ws' := cw ad cI cZ x) (lv' := [(0, .ref (ad 0)), (1, .int (iI a))]) (pc' := 8) (st' := [.int (iI (b01 ((x 15 a) = -1)))]) rfl rfl rfl rfl ?_
  have hb := b01_or (p := (x 15 a = -1))
  refine g_if_ne C (tgt := 21) d_S_needFree_8 rfl (by omega) (fun h8_1 => ?_) (fun h8_1 => ?_)
  · exact g_vret C hA hr d_S_needFree_21 (by decide) (by decide) ⟨rfl, rfl⟩
  · exact absurd (b01_t hg) (by omega)
set_option maxRecDepth 100000 in
set_option maxHeartbeats 4000000 in
theorem t_S_needFree {l : Launch} {D : va_G} {cI cZ cJ : ClassId} {base : Nat} {ad : Nat → Nat} (hl : l.stackTraces = false) (x : Bk) (a : Int) (ha : 0 ≤ a ∧ a < 10) (hn : InR (x 15 a)) (hg : ¬ (x 15 a = -1)) : Cx l D cls9 (tyl cI cZ cJ) base (zz base) y_S_needFree (wz y_S_needFree c_S_needFree 2 none) ({ frames := 6, cells := 1, slots := 6, locals := 82 } : Room) [.ref (ad 0), .int (iI a)] (cw ad cI cZ x) (fun r w => False) (fun E w => E = "java/lang/IllegalStateException" ∧ w = cw ad cI cZ x) 1 6 := by
  refine Cx_of (zzG base) (by decide) rfl (Nat.le_of_ble_eq_true rfl) ?_
  intro p e s m args below meth c A C hr hA hno
  have C : gC p s m args meth c D cls9 (tyl cI cZ cJ) A c_S_needFree 2 "BatchSavings" (wz y_S_needFree c_S_needFree 2 none) base (zz base) := C
  refine g_lve (lv' := [(0, .ref (ad 0)), (1, .int (iI a))]) rfl ?_
  refine g_aload_n C (q := 0) d_S_needFree_0 rfl rfl ?_
  refine gG C (v := .ref (ad 3)) 0 2 u_S k_149 (cwo_0 _) rfl (by decide) rfl rfl d_S_needFree_1 ?_
  refine g_iload_n C (q := 1) d_S_needFree_4 rfl rfl ?_
  refine gVN C (st := []) (m_B_isFree x a (by omega) (by omega)) k_175 kn_389 k_174 kp_1 k_5 ho_B_isFree rfl rfl ⟨by decide, by decide⟩ 3 (cwo_3 _) rfl rfl rfl (Nat.le_of_ble_eq_true rfl) d_S_needFree_5 ⟨by decide, by decide⟩ (fun r w hq => ?_)
  obtain ⟨rfl, rfl⟩ := hq
  refine g_eq (ws' := cw ad cI cZ x) (lv' := [(0, .ref (ad 0)), (1, .int (iI a))]) (pc' := 8) (st' := [.int (iI (b01 ((x 15 a) = -1)))]) rfl rfl rfl rfl ?_
  have hb := b01_or (p := (x 15 a = -1))
  refine g_if_ne C (tgt := 21) d_S_needFree_8 rfl (by omega) (fun h8_1 => ?_) (fun h8_1 => ?_)
  · exact absurd (b01_f hg) (by omega)
  · exact gT C hl hno hA (by decide +kernel) thk_ISE thi_ISE (is := 217) (text := "the order is not free") (by decide +kernel) thr_ISE thg_ISE d_S_needFree_11 d_S_needFree_14 d_S_needFree_15 d_S_needFree_17 d_S_needFree_20 (by decide) (Nat.le_of_ble_eq_true rfl) (by decide) (by decide) (by decide) (by decide) ⟨rfl, rfl⟩
