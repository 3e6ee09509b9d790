section GN
variable {p : Program} {l : Launch} {e : Env} {R : Room} {s : State} {m : MethodId} {args : Array Value} {below : List Frame} {meth : Method} {c : Code} {cells slots : Nat} {Q : State → Prop}
variable {D : va_G} {cl : List vw_C} {tys : List (ClassId × FieldType)} {A : Nat → Prop} {cc : ByteArray} {nL base : Nat} {own : String} {Ts : List Cond} {Z : State → Prop}
variable {ws : va_W} {lv : List (Nat × Value)} {pc : Nat} {st : List Value} {y0 : MethodName} {c0 : ByteArray} {n0 : Nat} {ret0 : Option FieldType}
theorem g_perm {ws' : va_W} (is : List Nat) (hn : va_nd is = true) (h1 : is.filterMap (fun i => ws[i]?) = ws') (h2 : is.map (fun i => ws[i]?) = ws'.map some) (k : gW p l e R s m args below meth c D cl A nL cells slots Q ws' lv pc st) : gW p l e R s m args below meth c D cl A nL cells slots Q ws lv pc st :=
  fun H locs ls hP hD hS hl => k H locs ls (hP.sub is h1) (hD.sub is hn h2) hS hl
theorem ra_one {U : State} {cA cB : ClassId} {ty : FieldType} (ht : ∀ C, ty ≠ .object C) (h : va_RA U cA ty) (h2 : U.vm.findClass ("[" ++ ty.toString) = some cB) : cA = cB := by
  cases ty with
  | object C => exact absurd rfl (ht C)
  | _ => exact Option.some.inj (h.symm.trans h2)
theorem g_newa (C : gC p s m args meth c D cl tys A cc nL own Ts base Z) {atype : ArrayType} {ty : FieldType} {N : Nat} {n : Int} {t0 : Nat} {cA : ClassId} (harr : Cond.arrayClass ty ∈ Ts) (hty : newarray.typeOf atype = ty) (hob : ∀ C, ty ≠ .object C) (ht : tys[t0]? = some (cA, ty)) (hdv : defaultValue ty = .int 0) (hn : n = (N : Int)) (hN : N ≤ 2000) (hby : componentBytes ty ≤ 8) (hcells : cells + 1 ≤ R.cells) (hslots : slots + N ≤ R.slots) (hd : decode cc pc = .ok (.newarray atype, 2))
    (kk : ∀ q : Nat, gW p l e R s m args below meth c D cl A nL (cells + 1) (slots + N) Q (ws ++ [(q, .inl (cA, N, .inl (aI (fun _ => 0))))]) lv (pc + 2) (.ref q :: st)) : gW p l e R s m args below meth c D cl A nL cells slots Q ws lv pc (.int (iI n) :: st) := by
  subst hn
  intro H locs ls hP hD hS hl
  refine va_newa C.1.1 C.1.2.1 (by rw [hty]; exact C.1.2.2.2.2 _ harr) hty C.2.1 hP hD hS C.2.2.1 (a0 := (N, .inl (aI (fun _ => 0)))) (fun cB => ?_) (by rw [Int32.lt_iff_toInt_lt, iI_toInt ⟨by omega, by omega⟩]; show ¬ ((N : Int) < 0); omega) (by rw [iI_cl (by omega) (by omega)]; simp) (by
    have h1 : N * componentBytes ty ≤ 2000 * 8 := Nat.mul_le_mul hN hby
    omega) hcells hslots hd (fun q cB H1 hK1 hP1 hD1 hS1 => ?_)
  · rw [hdv]; rfl
  · have e1 : cA = cB := ra_one hob (C.2.1.2 t0 _ ht).2 (by
      have h3 := (hK1.2 tys.length (cB, ty) (by simp)).2
      cases ty with
      | object C => exact absurd rfl (hob C)
      | _ => exact h3)
    subst e1
    exact kk q H1 locs ls hP1 hD1 hS1 hl
theorem g_new (C : gC p s m args meth c D cl tys A cc nL own (wz y0 c0 n0 ret0) base (zz base)) {Cn : String} {T : u_T} {N ci index : Nat} {fs : List Value} (ty : Nat → FieldType) (hty : ∀ k, k < N → parseFieldDescriptor (T k).2.2.1 = some (ty k)) (hin : ∀ w ∈ u_ws Cn T N, w ∈ gws) (h1 : Cond.classLink own index Cn ∈ gws) (h2 : Cond.instantiable Cn N ∈ gws) (h3 : Cond.initialized Cn ∈ gws) (hc : cl[ci]? = some (Cn, T, N)) (hfs : ∀ j, j < N → defaultValue (ty j) = vp_V fs j) (hcells : cells + 1 ≤ R.cells) (hslots : slots + N ≤ R.slots) (hd : decode cc pc = .ok (.new index, 3))
    (kk : ∀ q : Nat, gW p l e R s m args below meth c D cl A nL (cells + 1) (slots + N) Q (ws ++ [(q, .inr (ci, fs))]) lv (pc + 3) (.ref q :: st)) : gW p l e R s m args below meth c D cl A nL cells slots Q ws lv pc st := by
  intro H locs ls hP hD hS hl
  exact va_new C.1.1 C.1.2.1 C.1.2.2.2.2 (fun w h => gws_in (hin w h)) ty hty C.1.2.2.2.1 (C.1.2.2.2.2 _ (gws_in h1)) (C.1.2.2.2.2 _ (gws_in h2)) (C.1.2.2.2.2 _ (gws_in h3)) C.2.1 hP hD hS C.2.2.1 hc hfs hcells hslots hd (fun q H1 hP1 hD1 hS1 => kk q H1 locs ls hP1 hD1 hS1 hl)
theorem g_obj (C : gC p s m args meth c D cl tys A cc nL own (wz y0 c0 n0 ret0) base (zz base)) {idx a : Nat} (h1 : Cond.methodLink own idx Lib.objectInit ∈ gws) (h2 : Cond.instanceMethod Lib.objectInit ∈ gws) (h3 : Cond.code Lib.objectInit ⟨#[0xb1]⟩ 1 none ∈ gws) (hf : 1 ≤ R.frames) (hlo : (st.map fun v => v.category).sum + 12 ≤ R.locals) (hd : decode cc pc = .ok (.invokespecial idx, 3)) (k : gW p l e R s m args below meth c D cl A nL cells slots Q ws lv (pc + 3) st) : gW p l e R s m args below meth c D cl A nL cells slots Q ws lv pc (.ref a :: st) :=
  fun H locs ls hP hD hS hl => W.objInit C.1.1 C.1.2.1 C.1.2.2.2.1 (C.1.2.2.2.2 _ (gws_in h1)) (C.1.2.2.2.2 _ (gws_in h2)) (C.1.2.2.2.2 _ (gws_in h3)) rfl (hl.1.trans C.1.2.2.1.symm) rfl hd hf (by
    have h0 : (F0 m pc ls (.ref a :: st)).monitorRoom = 0 := rfl
    rw [h0]; omega) (k H locs ls hP hD hS hl)
/-- a constructor's call, over a part of the world -/
theorem gIN (C : gC p s m args meth c D cl tys A cc nL own (wz y0 c0 n0 ret0) base (zz base)) {y : MethodName} {bytes : ByteArray} {maxL mc ms n index : Nat} {rm : Room} {po : Option Int → va_W → Prop} {b : Nat} {As : List Value} {st0 : List Value} {host : String} {wc wr : va_W} (hM : Cn l D cl tys base (zz base) y (wz y bytes maxL none) rm (.ref b :: As) wc po mc ms) (isC isR : List Nat) (hC : isC.map (fun i => ws[i]?) = wc.map some) (hC1 : isC.filterMap (fun i => ws[i]?) = wc) (hR : isR.map (fun i => ws[i]?) = wr.map some) (hnC : va_nd isC = true) (hnR : va_nd isR = true) (hdis : ∀ i ∈ isR, i ∉ isC) (h5 : Cond.code y bytes maxL none ∈ gws) (h1 : Cond.methodLinkNest own index y host ∈ nst) (h2 : Cond.instanceMethod y ∈ gws) (h4 : Cond.initialized y.cls ∈ gws) (hyn : y.name = "<init>") (ho : hdOk y n) (hrc : rm.cells = mc) (hrs : rm.slots = ms) (hRm : rm.frames + 1 ≤ R.frames ∧ 8 + (maxL + 11) + rm.locals ≤ R.locals) (hn : As.length = n) (hst : st0 = As.reverse ++ .ref b :: st) (hW : (st.map fun v => v.category).sum ≤ 8) (hd : decode cc pc = .ok (.invokespecial index, 3)) (hf : cells + mc ≤ R.cells ∧ slots + ms ≤ R.slots)
    (kk : ∀ (r : Option Int) (w : va_W), po r w → gW p l e R s m args below meth c D cl A nL (cells + mc) (slots + ms) Q (wr ++ w) lv (pc + 3) ((oI r).toList ++ st)) : gW p l e R s m args below meth c D cl A nL cells slots Q ws lv pc st0 := by
  subst hst
  intro H locs ls hP hD hS hl
  have hPc := hP.sub isC hC1
  have hDc := hD.sub isC hnC hC
  have hF := va_free hD hS C.2.2.1 isC hC
  refine g_run (va_runIN (As := As) (rest := st) C.1 (hM H.size) ⟨va_cnB n C.1.2.2.2.2 (gws_good (fun _ h => gws_in h) (wz_sub h5)) rfl hrc hrs (C.z.1 _ h1) (C.1.2.2.2.2 _ (gws_in h4)) ho hRm, hyn, C.1.2.2.2.2 _ (gws_in h2)⟩ ⟨cPre_blind (zzB base), cPre_at C hPc hDc hS⟩ rfl hn hl.1 rfl (lv_room hW) hd hf) hS hF (fun r w H1 locs1 hp hP1 hD1 _ hk hS1 => ?_)
  obtain ⟨hP2, hD2⟩ := va_join hP hD isC isR hC hR hnR hdis hk hF hP1 hD1
  exact kk r w hp H1 locs1 ls hP2 hD2 hS1 hl
/-- the same, of a public constructor -/
theorem gI (C : gC p s m args meth c D cl tys A cc nL own (wz y0 c0 n0 ret0) base (zz base)) {y : MethodName} {bytes : ByteArray} {maxL mc ms n index : Nat} {rm : Room} {po : Option Int → va_W → Prop} {b : Nat} {As : List Value} {st0 : List Value} {wc wr : va_W} (hM : Cn l D cl tys base (zz base) y (wz y bytes maxL none) rm (.ref b :: As) wc po mc ms) (isC isR : List Nat) (hC : isC.map (fun i => ws[i]?) = wc.map some) (hC1 : isC.filterMap (fun i => ws[i]?) = wc) (hR : isR.map (fun i => ws[i]?) = wr.map some) (hnC : va_nd isC = true) (hnR : va_nd isR = true) (hdis : ∀ i ∈ isR, i ∉ isC) (h5 : Cond.code y bytes maxL none ∈ gws) (h1 : Cond.methodLink own index y ∈ gws) (h2 : Cond.instanceMethod y ∈ gws) (h4 : Cond.initialized y.cls ∈ gws) (hyn : y.name = "<init>") (ho : hdOk y n) (hrc : rm.cells = mc) (hrs : rm.slots = ms) (hRm : rm.frames + 1 ≤ R.frames ∧ 8 + (maxL + 11) + rm.locals ≤ R.locals) (hn : As.length = n) (hst : st0 = As.reverse ++ .ref b :: st) (hW : (st.map fun v => v.category).sum ≤ 8) (hd : decode cc pc = .ok (.invokespecial index, 3)) (hf : cells + mc ≤ R.cells ∧ slots + ms ≤ R.slots)
    (kk : ∀ (r : Option Int) (w : va_W), po r w → gW p l e R s m args below meth c D cl A nL (cells + mc) (slots + ms) Q (wr ++ w) lv (pc + 3) ((oI r).toList ++ st)) : gW p l e R s m args below meth c D cl A nL cells slots Q ws lv pc st0 := by
  subst hst
  intro H locs ls hP hD hS hl
  have hPc := hP.sub isC hC1
  have hDc := hD.sub isC hnC hC
  have hF := va_free hD hS C.2.2.1 isC hC
  refine g_run (va_runI (As := As) (rest := st) C.1 (hM H.size) (cwI n C.1.2.2.2.2 (gws_good (fun _ h => gws_in h) (wz_sub h5)) rfl hrc hrs (C.1.2.2.2.2 _ (gws_in h4)) (C.1.2.2.2.2 _ (gws_in h1)) (C.1.2.2.2.2 _ (gws_in h2)) hyn ho hRm) ⟨cPre_blind (zzB base), cPre_at C hPc hDc hS⟩ rfl hn hl.1 rfl (lv_room hW) hd hf) hS hF (fun r w H1 locs1 hp hP1 hD1 _ hk hS1 => ?_)
  obtain ⟨hP2, hD2⟩ := va_join hP hD isC isR hC hR hnR hdis hk hF hP1 hD1
  exact kk r w hp H1 locs1 ls hP2 hD2 hS1 hl
/-- a final field, in a constructor -/
theorem gPF (C : gC p s m args meth c D cl tys A cc nL own (wz y0 c0 n0 ret0) base (zz base)) (hin2 : meth.name = "<init>") {ref Cn : String} {T : u_T} {N a ci index : Nat} {fs : List Value} {v : Value} {ty : FieldType} {ws' : va_W} (q0 k : Nat) (ty0 : Nat → FieldType) (hty : ∀ k, k < N → parseFieldDescriptor (T k).2.2.1 = some (ty0 k)) (hnm : ∀ a, a < N → ∀ b, b < N → a ≠ b → (T a).2.1 ≠ (T b).2.1) (hin : ∀ w ∈ u_ws Cn T N, w ∈ gws) (hlink : Cond.fieldLink own index ref (T k).2.1 (T k).2.2.1 ∈ gws) (he : ws[q0]? = some (a, .inr (ci, fs))) (hc : cl[ci]? = some (Cn, T, N)) (hk : k < N) (hsame : (T k).1 = ref) (hfin : (T k).2.2.2 = true) (hdecl : (T k).1 = own) (hpd : ty0 k = ty) (hn : narrow ty v = v) (hfit : fits ty v = true) (hlen : k < fs.length) (hd : decode cc pc = .ok (.putfield index, 3)) (hw : ws.set q0 (a, .inr (ci, fs.set k v)) = ws') (kk : gW p l e R s m args below meth c D cl A nL cells slots Q ws' lv (pc + 3) st) : gW p l e R s m args below meth c D cl A nL cells slots Q ws lv pc (v :: .ref a :: st) :=
  g_putF C hin2 q0 k ty0 hty hnm (fun w h => gws_in (hin w h)) (gws_in hlink) he hc hk hsame hfin hdecl (hpd ▸ hty k hk) hn hfit hlen hd hw kk
end GN
