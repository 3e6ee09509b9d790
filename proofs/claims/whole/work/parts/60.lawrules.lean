section GQ
variable {p : Program} {l : Launch} {e : Env} {R : Room} {s : State} {m : MethodId} {args : Array Value} {below : List Frame} {meth : Method} {c : Code} {cells slots : Nat} {Q : State → Prop}
variable {D : va_G} {cl : List vw_C} {tys : List (ClassId × FieldType)} {A : Nat → Prop} {cc : ByteArray} {nL base : Nat} {own : String} {Ts : List Cond} {Z : State → Prop}
variable {ws : va_W} {lv : List (Nat × Value)} {pc : Nat} {st : List Value}
variable {y : MethodName} {bytes : ByteArray} {maxL mc ms n index : Nat} {ret : Option FieldType} {rm : Room} {po : Option Int → va_W → Prop} {px : String → va_W → Prop} {b ci : Nat} {As : List Value} {st0 : List Value} {fs : List Value} {q : vw_C} {wc wr : va_W}
/-- a method's call over a part of the world, in any method whose words hold the good ones -/
theorem gVF (C : gC p s m args meth c D cl tys A cc nL own Ts base (zz base)) (hTs : ∀ w ∈ gws, w ∈ Ts) (hM : Cn l D cl tys base (zz base) y (wz y bytes maxL ret) rm (.ref b :: As) wc po mc ms) (isC isR : List Nat) (hC : isC.map (fun i => ws[i]?) = wc.map some) (hC1 : isC.filterMap (fun i => ws[i]?) = wc) (hR : isR.map (fun i => ws[i]?) = wr.map some) (hnC : va_nd isC = true) (hnR : va_nd isR = true) (hdis : ∀ i ∈ isR, i ∉ isC) (h5 : Cond.code y bytes maxL ret ∈ gws) (h1 : Cond.methodLink own index y ∈ gws) (h2 : Cond.instanceMethod y ∈ gws) (h3 : Cond.selects q.1 y y ∈ gws) (h4 : Cond.initialized q.1 ∈ gws) (hy : y.cls = q.1) (ho : hdOk y n) (hrc : rm.cells = mc) (hrs : rm.slots = ms) (hRm : rm.frames + 1 ≤ R.frames ∧ 8 + (maxL + 11) + rm.locals ≤ R.locals) (q0 : Nat) (he : ws[q0]? = some (b, .inr (ci, fs))) (hc : cl[ci]? = some q) (hn : As.length = n) (hst : st0 = As.reverse ++ .ref b :: st) (hW : (st.map fun v => v.category).sum ≤ 8) (hd : decode cc pc = .ok (.invokevirtual index, 3)) (hf : cells + mc ≤ R.cells ∧ slots + ms ≤ R.slots)
    (kk : ∀ (r : Option Int) (w : va_W), po r w → gW p l e R s m args below meth c D cl A nL (cells + mc) (slots + ms) Q (wr ++ w) lv (pc + 3) ((oI r).toList ++ st)) : gW p l e R s m args below meth c D cl A nL cells slots Q ws lv pc st0 := by
  subst hst
  intro H locs ls hP hD hS hl
  have hPc := hP.sub isC hC1
  have hDc := hD.sub isC hnC hC
  have hF := va_free hD hS C.2.2.1 isC hC
  refine g_run (va_runV (As := As) (rest := st) C.1 (hM H.size) (cwV n C.1.2.2.2.2 (gws_good hTs (wsV_sub (wz_sub h5) h1 h2 h3 h4)) rfl hrc hrs ⟨hy, ho⟩ hRm) ⟨cPre_blind (zzB base), va_recv C.2.1 hP hc he, cPre_at C hPc hDc hS⟩ rfl hn hl.1 rfl (lv_room hW) hd hf) hS hF (fun r w H1 locs1 hp hP1 hD1 _ hk hS1 => ?_)
  obtain ⟨hP2, hD2⟩ := va_join hP hD isC isR hC hR hnR hdis hk hF hP1 hD1
  exact kk r w hp H1 locs1 ls hP2 hD2 hS1 hl
/-- the same, of one that may throw -/
theorem gVxF (C : gC p s m args meth c D cl tys A cc nL own Ts base (zz base)) (hTs : ∀ w ∈ gws, w ∈ Ts) (hM : Cx l D cl tys base (zz base) y (wz y bytes maxL ret) rm (.ref b :: As) wc po px mc ms) (isC isR : List Nat) (hC : isC.map (fun i => ws[i]?) = wc.map some) (hC1 : isC.filterMap (fun i => ws[i]?) = wc) (hR : isR.map (fun i => ws[i]?) = wr.map some) (hnC : va_nd isC = true) (hnR : va_nd isR = true) (hdis : ∀ i ∈ isR, i ∉ isC) (h5 : Cond.code y bytes maxL ret ∈ gws) (h1 : Cond.methodLink own index y ∈ gws) (h2 : Cond.instanceMethod y ∈ gws) (h3 : Cond.selects q.1 y y ∈ gws) (h4 : Cond.initialized q.1 ∈ gws) (hy : y.cls = q.1) (ho : hdOk y n) (hrc : rm.cells = mc) (hrs : rm.slots = ms) (hRm : rm.frames + 1 ≤ R.frames ∧ 8 + (maxL + 11) + rm.locals ≤ R.locals) (q0 : Nat) (he : ws[q0]? = some (b, .inr (ci, fs))) (hc : cl[ci]? = some q) (hn : As.length = n) (hst : st0 = As.reverse ++ .ref b :: st) (hW : (st.map fun v => v.category).sum ≤ 8) (hd : decode cc pc = .ok (.invokevirtual index, 3)) (hf : cells + mc ≤ R.cells ∧ slots + ms ≤ R.slots)
    (kx : ∀ (E : String) (w : va_W), px E w → gX p l e R s m args below meth c D cl A nL (cells + mc) (slots + ms) Q E (wr ++ w) lv pc st)
    (kk : ∀ (r : Option Int) (w : va_W), po r w → gW p l e R s m args below meth c D cl A nL (cells + mc) (slots + ms) Q (wr ++ w) lv (pc + 3) ((oI r).toList ++ st)) : gW p l e R s m args below meth c D cl A nL cells slots Q ws lv pc st0 := by
  subst hst
  intro H locs ls hP hD hS hl
  have hPc := hP.sub isC hC1
  have hDc := hD.sub isC hnC hC
  have hF := va_free hD hS C.2.2.1 isC hC
  refine g_runx (vx_runV (As := As) (rest := st) C.1 (hM H.size) (cwV n C.1.2.2.2.2 (gws_good hTs (wsV_sub (wz_sub h5) h1 h2 h3 h4)) rfl hrc hrs ⟨hy, ho⟩ hRm) ⟨cPre_blind (zzB base), va_recv C.2.1 hP hc he, cPre_at C hPc hDc hS⟩ rfl hn hl.1 rfl (lv_room hW) hd hf) hS hF (fun E ce q9 w H1 locs1 hp hP1 hD1 _ hk hS1 g1 g2 g3 => ?_) (fun r w H1 locs1 hp hP1 hD1 _ hk hS1 => ?_)
  · obtain ⟨hP2, hD2⟩ := va_join hP hD isC isR hC hR hnR hdis hk hF hP1 hD1
    exact kx E w hp ce q9 H1 locs1 ls hP2 hD2 hS1 hl g1 g2 g3
  · obtain ⟨hP2, hD2⟩ := va_join hP hD isC isR hC hR hnR hdis hk hF hP1 hD1
    exact kk r w hp H1 locs1 ls hP2 hD2 hS1 hl
/-- a static method with handlers of its own, over a part of the world -/
theorem gSWF (C : gC p s m args meth c D cl tys A cc nL own Ts base (zz base)) (hTs : ∀ w ∈ gws, w ∈ Ts) {hh : List (Nat × Nat × Nat × Nat)} (hM : Cn l D cl tys base (zz base) y (wzh y bytes maxL ret hh) rm As wc po mc ms) (isC isR : List Nat) (hC : isC.map (fun i => ws[i]?) = wc.map some) (hC1 : isC.filterMap (fun i => ws[i]?) = wc) (hR : isR.map (fun i => ws[i]?) = wr.map some) (hnC : va_nd isC = true) (hnR : va_nd isR = true) (hdis : ∀ i ∈ isR, i ∉ isC) (h5 : Cond.codeWith y bytes maxL ret hh ∈ gws) (h1 : Cond.methodLink own index y ∈ gws) (h2 : Cond.static y ∈ gws) (h4 : Cond.initialized y.cls ∈ gws) (ho : hdOk y n) (hrc : rm.cells = mc) (hrs : rm.slots = ms) (hRm : rm.frames + 1 ≤ R.frames ∧ 8 + (maxL + 11) + rm.locals ≤ R.locals) (hn : As.length = n) (hst : st0 = As.reverse ++ st) (hW : (st.map fun v => v.category).sum ≤ 8) (hd : decode cc pc = .ok (.invokestatic index, 3)) (hf : cells + mc ≤ R.cells ∧ slots + ms ≤ R.slots)
    (kk : ∀ (r : Option Int) (w : va_W), po r w → gW p l e R s m args below meth c D cl A nL (cells + mc) (slots + ms) Q (wr ++ w) lv (pc + 3) ((oI r).toList ++ st)) : gW p l e R s m args below meth c D cl A nL cells slots Q ws lv pc st0 := by
  subst hst
  intro H locs ls hP hD hS hl
  have hPc := hP.sub isC hC1
  have hDc := hD.sub isC hnC hC
  have hF := va_free hD hS C.2.2.1 isC hC
  have hsub : ∀ w ∈ va_wsS own index y (wzh y bytes maxL ret hh), w ∈ gws := by
    intro w hw
    rcases List.mem_append.mp hw with h' | h'
    · simp only [List.mem_cons, List.not_mem_nil, or_false] at h'
      rcases h' with rfl | rfl | rfl <;> assumption
    · exact wzh_sub h5 w h'
  refine g_run (vx_runSW (As := As) (rest := st) C.1 (hM H.size) (vx_cwSW n C.1.2.2.2.2 (gws_good hTs hsub) rfl hrc hrs ho hRm) ⟨cPre_blind (zzB base), cPre_at C hPc hDc hS⟩ rfl hn hl.1 rfl (lv_room hW) hd hf) hS hF (fun r w H1 locs1 hp hP1 hD1 _ hk hS1 => ?_)
  obtain ⟨hP2, hD2⟩ := va_join hP hD isC isR hC hR hnR hdis hk hF hP1 hD1
  exact kk r w hp H1 locs1 ls hP2 hD2 hS1 hl
/-- new, and a constructor's call, in any method -/
theorem g_newF (C : gC p s m args meth c D cl tys A cc nL own Ts base (zz base)) (hTs : ∀ w ∈ gws, w ∈ Ts) {Cn : String} {T : u_T} {N : Nat} (ty : Nat → FieldType) (hty : ∀ k, k < N → parseFieldDescriptor (T k).2.2.1 = some (ty k)) (hin : ∀ w ∈ u_ws Cn T N, w ∈ gws) (h1 : Cond.classLink own index Cn ∈ gws) (h2 : Cond.instantiable Cn N ∈ gws) (h3 : Cond.initialized Cn ∈ gws) (hc : cl[ci]? = some (Cn, T, N)) (hfs : ∀ j, j < N → defaultValue (ty j) = vp_V fs j) (hcells : cells + 1 ≤ R.cells) (hslots : slots + N ≤ R.slots) (hd : decode cc pc = .ok (.new index, 3))
    (kk : ∀ q : Nat, gW p l e R s m args below meth c D cl A nL (cells + 1) (slots + N) Q (ws ++ [(q, .inr (ci, fs))]) lv (pc + 3) (.ref q :: st)) : gW p l e R s m args below meth c D cl A nL cells slots Q ws lv pc st := by
  intro H locs ls hP hD hS hl
  exact va_new C.1.1 C.1.2.1 C.1.2.2.2.2 (fun w h => hTs w (hin w h)) ty hty C.1.2.2.2.1 (C.1.2.2.2.2 _ (hTs _ h1)) (C.1.2.2.2.2 _ (hTs _ h2)) (C.1.2.2.2.2 _ (hTs _ h3)) C.2.1 hP hD hS C.2.2.1 hc hfs hcells hslots hd (fun q H1 hP1 hD1 hS1 => kk q H1 locs ls hP1 hD1 hS1 hl)
theorem gIF (C : gC p s m args meth c D cl tys A cc nL own Ts base (zz base)) (hTs : ∀ w ∈ gws, w ∈ Ts) (hM : Cn l D cl tys base (zz base) y (wz y bytes maxL none) rm (.ref b :: As) wc po mc ms) (isC isR : List Nat) (hC : isC.map (fun i => ws[i]?) = wc.map some) (hC1 : isC.filterMap (fun i => ws[i]?) = wc) (hR : isR.map (fun i => ws[i]?) = wr.map some) (hnC : va_nd isC = true) (hnR : va_nd isR = true) (hdis : ∀ i ∈ isR, i ∉ isC) (h5 : Cond.code y bytes maxL none ∈ gws) (h1 : Cond.methodLink own index y ∈ gws) (h2 : Cond.instanceMethod y ∈ gws) (h4 : Cond.initialized y.cls ∈ gws) (hyn : y.name = "<init>") (ho : hdOk y n) (hrc : rm.cells = mc) (hrs : rm.slots = ms) (hRm : rm.frames + 1 ≤ R.frames ∧ 8 + (maxL + 11) + rm.locals ≤ R.locals) (hn : As.length = n) (hst : st0 = As.reverse ++ .ref b :: st) (hW : (st.map fun v => v.category).sum ≤ 8) (hd : decode cc pc = .ok (.invokespecial index, 3)) (hf : cells + mc ≤ R.cells ∧ slots + ms ≤ R.slots)
    (kk : ∀ (r : Option Int) (w : va_W), po r w → gW p l e R s m args below meth c D cl A nL (cells + mc) (slots + ms) Q (wr ++ w) lv (pc + 3) ((oI r).toList ++ st)) : gW p l e R s m args below meth c D cl A nL cells slots Q ws lv pc st0 := by
  subst hst
  intro H locs ls hP hD hS hl
  have hPc := hP.sub isC hC1
  have hDc := hD.sub isC hnC hC
  have hF := va_free hD hS C.2.2.1 isC hC
  refine g_run (va_runI (As := As) (rest := st) C.1 (hM H.size) (cwI n C.1.2.2.2.2 (gws_good hTs (wz_sub h5)) rfl hrc hrs (C.1.2.2.2.2 _ (hTs _ h4)) (C.1.2.2.2.2 _ (hTs _ h1)) (C.1.2.2.2.2 _ (hTs _ h2)) hyn ho hRm) ⟨cPre_blind (zzB base), cPre_at C hPc hDc hS⟩ rfl hn hl.1 rfl (lv_room hW) hd hf) hS hF (fun r w H1 locs1 hp hP1 hD1 _ hk hS1 => ?_)
  obtain ⟨hP2, hD2⟩ := va_join hP hD isC isR hC hR hnR hdis hk hF hP1 hD1
  exact kk r w hp H1 locs1 ls hP2 hD2 hS1 hl
/-- an array of longs, new -/
theorem g_newaJ (C : gC p s m args meth c D cl tys A cc nL own Ts base Z) {N : Nat} {z : Int} {t0 : Nat} {cA : ClassId} (harr : Cond.arrayClass .long ∈ Ts) (ht : tys[t0]? = some (cA, .long)) (hn : z = (N : Int)) (hN : N ≤ 2000) (hcells : cells + 1 ≤ R.cells) (hslots : slots + N ≤ R.slots) (hd : decode cc pc = .ok (.newarray .long, 2))
    (kk : ∀ q : Nat, gW p l e R s m args below meth c D cl A nL (cells + 1) (slots + N) Q (ws ++ [(q, .inl (cA, N, .inr (.inl (fun _ => 0))))]) lv (pc + 2) (.ref q :: st)) : gW p l e R s m args below meth c D cl A nL cells slots Q ws lv pc (.int (iI z) :: st) := by
  subst hn
  intro H locs ls hP hD hS hl
  refine va_newa C.1.1 C.1.2.1 (by exact C.1.2.2.2.2 _ harr) (show newarray.typeOf .long = .long from rfl) C.2.1 hP hD hS C.2.2.1 (a0 := (N, .inr (.inl (fun _ => 0)))) (fun cB => ?_) (by rw [Int32.lt_iff_toInt_lt, iI_toInt ⟨by omega, by omega⟩]; show ¬ ((N : Int) < 0); omega) (by rw [iI_cl (by omega) (by omega)]; simp) (by
    have h1 : N * componentBytes .long ≤ 2000 * 8 := Nat.mul_le_mul hN (by decide)
    omega) hcells hslots hd (fun q cB H1 hK1 hP1 hD1 hS1 => ?_)
  · rfl
  · have e1 : cA = cB := ra_one (ty := .long) (fun C => by intro q; cases q) (C.2.1.2 t0 _ ht).2 (by
      have h3 := (hK1.2 tys.length (cB, .long) (by simp)).2
      exact h3)
    subst e1
    exact kk q H1 locs ls hP1 hD1 hS1 hl
theorem g_i2l (C : gC p s m args meth c D cl tys A cc nL own Ts base Z) {x : Int32} (hd : decode cc pc = .ok (.i2l, 1)) (k : gW p l e R s m args below meth c D cl A nL cells slots Q ws lv (pc + 1) (.long x.toInt64 :: st)) : gW p l e R s m args below meth c D cl A nL cells slots Q ws lv pc (.int x :: st) :=
  fun H locs ls hP hD hS hl => lv_i2l C.1.1 C.1.2.1 hd rfl (k H locs ls hP hD hS hl)
theorem g_lconst (C : gC p s m args meth c D cl tys A cc nL own Ts base Z) {f : Fin 2} {v : Int64} (hd : decode cc pc = .ok (.lconst f, 1)) (hv : Int64.ofNat (f : Nat) = v) (k : gW p l e R s m args below meth c D cl A nL cells slots Q ws lv (pc + 1) (.long v :: st)) : gW p l e R s m args below meth c D cl A nL cells slots Q ws lv pc st :=
  fun H locs ls hP hD hS hl => lv_lconst C.1.1 C.1.2.1 hd hv (k H locs ls hP hD hS hl)
theorem g_last (C : gC p s m args meth c D cl tys A cc nL own Ts base Z) {a N : Nat} {cA : ClassId} {f : Nat → Int64} {x : Int64} {i : Int} {ws' : va_W} (q0 t0 : Nat) (he : ws[q0]? = some (a, .inl (cA, N, .inr (.inl f)))) (ht : tys[t0]? = some (cA, .long)) (hN : N ≤ 2000) (hi : 0 ≤ i ∧ i < (N : Int)) (hd : decode cc pc = .ok (.lastore, 1)) (hw : ws.set q0 (a, .inl (cA, N, .inr (.inl (vp_updL f i.toNat x)))) = ws') (k : gW p l e R s m args below meth c D cl A nL cells slots Q ws' lv (pc + 1) st) : gW p l e R s m args below meth c D cl A nL cells slots Q ws lv pc (.long x :: .int (iI i) :: .ref a :: st) :=
  fun H locs ls hP hD hS hl => va_last C.1.1 C.1.2.1 C.2.1 hP hD hS q0 t0 he ht (iI_in hi.1 hi.2 (by omega)) hd (fun H1 locs1 hP1 hD1 hS1 => by
    rw [iI_cl hi.1 (by omega), hw] at hP1 hD1
    exact k H1 locs1 ls hP1 hD1 hS1 hl)
theorem g_lald (C : gC p s m args meth c D cl tys A cc nL own Ts base Z) {a N : Nat} {cA : ClassId} {f : Nat → Int64} {i : Int} (q0 t0 : Nat) (he : ws[q0]? = some (a, .inl (cA, N, .inr (.inl f)))) (ht : tys[t0]? = some (cA, .long)) (hN : N ≤ 2000) (hi : 0 ≤ i ∧ i < (N : Int)) (hd : decode cc pc = .ok (.laload, 1)) (k : gW p l e R s m args below meth c D cl A nL cells slots Q ws lv (pc + 1) (.long (f i.toNat) :: st)) : gW p l e R s m args below meth c D cl A nL cells slots Q ws lv pc (.int (iI i) :: .ref a :: st) :=
  fun H locs ls hP hD hS hl => va_lald C.1.1 C.1.2.1 C.2.1 hP q0 t0 he ht (iI_in hi.1 hi.2 (by omega)) hd (by rw [iI_cl hi.1 (by omega)]; exact k H locs ls hP hD hS hl)
/-- two equal longs -/
theorem g_lcmp0 (C : gC p s m args meth c D cl tys A cc nL own Ts base Z) {x : Int64} (hd : decode cc pc = .ok (.lcmp, 1)) (k : gW p l e R s m args below meth c D cl A nL cells slots Q ws lv (pc + 1) (.int (iI 0) :: st)) : gW p l e R s m args below meth c D cl A nL cells slots Q ws lv pc (.long x :: .long x :: st) :=
  fun H locs ls hP hD hS hl => W.lcmp C.1.1 C.1.2.1 hd (by
    have e : lg_cmp x x = iI 0 := by
      have h : ¬ x < x := Int64.lt_irrefl
      unfold lg_cmp
      simp only [h, if_false, if_neg, not_false_eq_true]
      first | rfl | (rw [if_pos rfl]; rfl)
    rw [e]
    exact k H locs ls hP hD hS hl)
theorem g_long {x z : Int64} (h : x = z) (k : gW p l e R s m args below meth c D cl A nL cells slots Q ws lv pc (.long z :: st)) : gW p l e R s m args below meth c D cl A nL cells slots Q ws lv pc (.long x :: st) := h ▸ k
/-- caught here -/
theorem g_catch (C : gC p s m args meth c D cl tys A cc nL own Ts base (zz base)) (hTs : ∀ w ∈ gws, w ∈ Ts) {E name : String} {hh : List (Nat × Nat × Nat × Nat)} (htab : c.exceptionTable.toList = tableOf hh) (pre : List ExceptionTableEntry) (x : ExceptionTableEntry) (suf : List ExceptionTableEntry) (hsplit : tableOf hh = pre ++ x :: suf) (hpass : ∀ z ∈ pre, z.catchType ≠ 0 ∧ ∃ nm : String, Cond.classLink own z.catchType nm ∈ gws ∧ (E, nm) ∈ ncs9) (hx : covers x pc = true) (h0 : x.catchType ≠ 0) (hlink : Cond.classLink own x.catchType name ∈ gws) (hcast : Cond.castable E name ∈ nst) {tgt : Nat} (htg : x.handlerPc = tgt) (k : ∀ q9 : Nat, gW p l e R s m args below meth c D cl A nL cells slots Q ws lv tgt [.ref q9]) : gX p l e R s m args below meth c D cl A nL cells slots Q E ws lv pc st := by
  subst htg
  intro ce q9 H locs ls hP hD hS hl g1 g2 g3
  exact vx_catch C.1.2.2.2.1 pre x suf (htab.trans hsplit) (fun z hz => by
    obtain ⟨h1, nm, h2, h3⟩ := hpass z hz
    exact Or.inr ⟨h1, nm, C.1.2.2.2.2 _ (hTs _ h2), C.z.2.2.2.2 _ h3⟩) hx h0 (C.1.2.2.2.2 _ (hTs _ hlink)) (va_Nw.use (nst_on (List.mem_filter.mp hcast).2) (C.z.1 _ hcast)) g1 g2 g3 (k q9 H locs ls hP hD hS hl)
end GQ
section GH
variable {D : va_G} {cl : List vw_C} {tys : List (ClassId × FieldType)} {cc : ByteArray} {base : Nat} {l : Launch} {Z : State → Prop} {ws : va_W}
/-- a method with handlers that returns -/
theorem Ch_of {y : MethodName} {wsy ws' : List Cond} {rm : Room} {maxL mc ms : Nat} {ret : Option FieldType} {hh : List (Nat × Nat × Nat × Nat)} {av : List Value} {po : Option Int → va_W → Prop} (hz : ZG base Z) (hy : plainName y.cls = true) (hw : wsy = Cond.codeWith y cc maxL ret hh :: ws') (hlen : (lg_sl av).length ≤ maxL)
    (body : ∀ (p : Program) (e : Env) (s : State) (m : MethodId) (args : Array Value) (below : List Frame) (meth : Method) (c : Code) (A : Nat → Prop), gC p s m args meth c D cl tys A cc maxL y.cls wsy base Z → meth.sig.returnType = ret → A = va_A ws s.heap.size → c.exceptionTable.toList = tableOf hh → gW p l e rm s m args below meth c D cl A maxL 0 0 (MQ below (Qg D cl tys ws s.heap.size po) args s mc ms (va_A ws s.heap.size)) ws (lv_args 0 av) 0 []) : Cn l D cl tys base Z y wsy rm av ws po mc ms := by
  intro sz
  refine va_MetW (cc := cc) (maxL := maxL) (ret := ret) hy hw ?_
  intro p e s m args below meth c s₁ B hml hv
  obtain rfl : s.heap.size = sz := hv.2.1
  have htab : c.exceptionTable.toList = tableOf hh := vx_table (x := y) B (atoms_spec (ws := wsy) B.pre _ (by rw [hw]; exact List.mem_cons_self))
  obtain ⟨rfl, _, hb, hP, hK, hD, hZ⟩ := hv
  have hAb : ∀ q : Nat, va_A ws s.heap.size q → base ≤ q := by
    intro q h
    rcases h with ⟨k, e', h⟩ | h
    · exact hD.2 k (q, e') h
    · exact Nat.le_trans hb h
  have C : gC p s m av.toArray meth c D cl tys (va_A ws s.heap.size) cc maxL y.cls wsy base Z := ⟨⟨B.exec, B.bytes, hml, findClass_of_methodNamed B.named, atoms_spec (ws := wsy) B.pre⟩, hK, fun q h => Or.inr h, hAb, hb, fun U hW hF => hz s U _ hAb hb hW hF hZ, B.notSynchronized⟩
  have hl := lv_entry av (n := maxL) hlen
  rw [lg_entry_eq]
  exact body p e s m _ below meth c _ C B.returns rfl htab s.heap [] _ hP hD.self va_S.rf hl
end GH
theorem gws_inh {y : MethodName} {cc : ByteArray} {n : Nat} {ret : Option FieldType} {hh : List (Nat × Nat × Nat × Nat)} : ∀ w ∈ gws, w ∈ wzh y cc n ret hh := fun _ h => List.mem_cons_of_mem _ h
