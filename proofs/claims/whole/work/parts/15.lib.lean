section GL
variable {p : Program} {l : Launch} {e : Env} {R : Room} {s : State} {m : MethodId} {args : Array Value} {below : List Frame} {meth : Method} {c : Code} {cells slots : Nat} {Q : State → Prop}
variable {D : va_G} {cl : List vw_C} {tys : List (ClassId × FieldType)} {A : Nat → Prop} {cc : ByteArray} {nL base : Nat} {own : String} {Ts : List Cond} {Z : State → Prop}
variable {ws : va_W} {lv : List (Nat × Value)} {pc : Nat} {st : List Value}
/-! raw ints -/
theorem gr_iand (C : gC p s m args meth c D cl tys A cc nL own Ts base Z) {a b : Int32} (hd : decode cc pc = .ok (.iand, 1)) (k : gW p l e R s m args below meth c D cl A nL cells slots Q ws lv (pc + 1) (.int (a &&& b) :: st)) : gW p l e R s m args below meth c D cl A nL cells slots Q ws lv pc (.int b :: .int a :: st) :=
  fun H locs ls hP hD hS hl => lv_iand C.1.1 C.1.2.1 hd (k H locs ls hP hD hS hl)
theorem gr_iadd (C : gC p s m args meth c D cl tys A cc nL own Ts base Z) {a b : Int32} (hd : decode cc pc = .ok (.iadd, 1)) (k : gW p l e R s m args below meth c D cl A nL cells slots Q ws lv (pc + 1) (.int (a + b) :: st)) : gW p l e R s m args below meth c D cl A nL cells slots Q ws lv pc (.int b :: .int a :: st) :=
  fun H locs ls hP hD hS hl => lv_iadd C.1.1 C.1.2.1 hd (k H locs ls hP hD hS hl)
theorem gr_isub (C : gC p s m args meth c D cl tys A cc nL own Ts base Z) {a b : Int32} (hd : decode cc pc = .ok (.isub, 1)) (k : gW p l e R s m args below meth c D cl A nL cells slots Q ws lv (pc + 1) (.int (a - b) :: st)) : gW p l e R s m args below meth c D cl A nL cells slots Q ws lv pc (.int b :: .int a :: st) :=
  fun H locs ls hP hD hS hl => lv_isub C.1.1 C.1.2.1 hd (k H locs ls hP hD hS hl)
theorem gr_iushr (C : gC p s m args meth c D cl tys A cc nL own Ts base Z) {a b : Int32} (hd : decode cc pc = .ok (.iushr, 1)) (k : gW p l e R s m args below meth c D cl A nL cells slots Q ws lv (pc + 1) (.int (a.toUInt32 >>> (b.toUInt32 &&& Int32.toUInt32 31)).toInt32 :: st)) : gW p l e R s m args below meth c D cl A nL cells slots Q ws lv pc (.int b :: .int a :: st) :=
  fun H locs ls hP hD hS hl => lv_iushr C.1.1 C.1.2.1 hd rfl (k H locs ls hP hD hS hl)
theorem gr_ldcw (C : gC p s m args meth c D cl tys A cc nL own Ts base Z) {v : Int32} {index : Nat} (hk : (Jvm.Cond.constant own index v) ∈ Ts) (hd : decode cc pc = .ok (.ldc_w index, 3)) (k : gW p l e R s m args below meth c D cl A nL cells slots Q ws lv (pc + 3) (.int v :: st)) : gW p l e R s m args below meth c D cl A nL cells slots Q ws lv pc st :=
  fun H locs ls hP hD hS hl => lv_ldcw C.1.1 C.1.2.1 C.1.2.2.2.1 (C.1.2.2.2.2 _ hk) hd (k H locs ls hP hD hS hl)
theorem gr_top {a b : Int32} (h : a = b) (k : gW p l e R s m args below meth c D cl A nL cells slots Q ws lv pc (.int b :: st)) : gW p l e R s m args below meth c D cl A nL cells slots Q ws lv pc (.int a :: st) := h ▸ k
theorem g_mmax (C : gC p s m args meth c D cl tys A cc nL own Ts base Z) {index : Nat} {a b : Int} (ha : InR a) (hb : InR b) (h1 : Cond.methodLink own index Lib.Math.max.name ∈ Ts) (h2 : Cond.static Lib.Math.max.name ∈ Ts) (h3 : Cond.initialized "java/lang/Math" ∈ Ts) (h4 : Cond.code Lib.Math.max.name Lib.Math.max.code 2 (some .int) ∈ Ts)
    (hf : 1 ≤ R.frames) (hlo : (st.map fun v => v.category).sum + 13 ≤ R.locals) (hc : cells ≤ R.cells) (hs : slots ≤ R.slots) (hd : decode cc pc = .ok (.invokestatic index, 3)) (k : gW p l e R s m args below meth c D cl A nL cells slots Q ws lv (pc + 3) (.int (iI (if a < b then b else a)) :: st)) : gW p l e R s m args below meth c D cl A nL cells slots Q ws lv pc (.int (iI b) :: .int (iI a) :: st) :=
  fun H locs ls hP hD hS hl => va_mmax C.1.1 C.1.2.1 (C.1.2.2.1.trans hl.1.symm) C.1.2.2.2.1 (C.1.2.2.2.2 _ h1) (C.1.2.2.2.2 _ h2) (C.1.2.2.2.2 _ h3) (C.1.2.2.2.2 _ h4) hf hlo hc hs hd (by
    have e : (if iI a < iI b then iI b else iI a) = iI (if a < b then b else a) := by
      by_cases h : a < b
      · rw [if_pos h, if_pos ((iI_lt ha hb).mpr h)]
      · rw [if_neg h, if_neg (fun q => h ((iI_lt ha hb).mp q))]
    rw [e]
    exact k H locs ls hP hD hS hl)
section GCall3
variable {y y0 : MethodName} {bytes c0 : ByteArray} {maxL n0 mc ms n index : Nat} {ret ret0 : Option FieldType} {rm : Room} {po : Option Int → va_W → Prop} {As : List Value} {st0 : List Value}
/-- invokestatic of a method of another class, over the whole world, or over none -/
theorem gSoW (C : gC p s m args meth c D cl tys A cc nL own (wz y0 c0 n0 ret0) base (zz base)) (hM : Cn l D cl tys base (zz base) y (wz y bytes maxL ret) rm As ws po mc ms) (h5 : Cond.code y bytes maxL ret ∈ gws) (h1 : Cond.methodLink own index y ∈ gws) (h2 : Cond.static y ∈ gws) (h4 : Cond.initialized y.cls ∈ gws) (ho : hdOk y n) (hrc : rm.cells = mc) (hrs : rm.slots = ms) (hR : rm.frames + 1 ≤ R.frames ∧ 8 + (maxL + 11) + rm.locals ≤ R.locals) (hn : As.length = n) (hst : st0 = As.reverse ++ st) (hW : (st.map fun v => v.category).sum ≤ 8) (hd : decode cc pc = .ok (.invokestatic index, 3)) (hf : cells + mc ≤ R.cells ∧ slots + ms ≤ R.slots)
    (kk : ∀ (r : Option Int) (w : va_W), po r w → gW p l e R s m args below meth c D cl A nL (cells + mc) (slots + ms) Q w lv (pc + 3) ((oI r).toList ++ st)) : gW p l e R s m args below meth c D cl A nL cells slots Q ws lv pc st0 := by
  subst hst
  intro H locs ls hP hD hS hl
  exact g_run (va_runS (As := As) (rest := st) C.1 (hM H.size) ⟨callB_of n C.1.2.2.2.2 (gws_good (fun _ h => gws_in h) (wz_sub h5)) rfl hrc hrs (C.1.2.2.2.2 _ (gws_in h4)) (C.1.2.2.2.2 _ (gws_in h1)) ho hR, C.1.2.2.2.2 _ (gws_in h2)⟩ ⟨cPre_blind (zzB base), cPre_at C hP hD hS⟩ rfl hn hl.1 rfl (lv_room hW) hd hf) hS (g_freeW C hD hS) (fun r w H1 locs1 hp hP1 hD1 _ _ hS1 => kk r w hp H1 locs1 ls hP1 (jn_self (H1 := H1) (locs1 := locs1) (g_freeW C hD hS) hD1) hS1 hl)
theorem gSo0 (C : gC p s m args meth c D cl tys A cc nL own (wz y0 c0 n0 ret0) base (zz base)) (hM : Cn l D cl tys base (zz base) y (wz y bytes maxL ret) rm As [] po mc ms) (h5 : Cond.code y bytes maxL ret ∈ gws) (h1 : Cond.methodLink own index y ∈ gws) (h2 : Cond.static y ∈ gws) (h4 : Cond.initialized y.cls ∈ gws) (ho : hdOk y n) (hrc : rm.cells = mc) (hrs : rm.slots = ms) (hR : rm.frames + 1 ≤ R.frames ∧ 8 + (maxL + 11) + rm.locals ≤ R.locals) (hn : As.length = n) (hst : st0 = As.reverse ++ st) (hW : (st.map fun v => v.category).sum ≤ 8) (hd : decode cc pc = .ok (.invokestatic index, 3)) (hf : cells + mc ≤ R.cells ∧ slots + ms ≤ R.slots)
    (kk : ∀ (r : Option Int) (w : va_W), po r w → gW p l e R s m args below meth c D cl A nL (cells + mc) (slots + ms) Q ws lv (pc + 3) ((oI r).toList ++ st)) : gW p l e R s m args below meth c D cl A nL cells slots Q ws lv pc st0 := by
  subst hst
  intro H locs ls hP hD hS hl
  exact g_run (va_runS (As := As) (rest := st) C.1 (hM H.size) ⟨callB_of n C.1.2.2.2.2 (gws_good (fun _ h => gws_in h) (wz_sub h5)) rfl hrc hrs (C.1.2.2.2.2 _ (gws_in h4)) (C.1.2.2.2.2 _ (gws_in h1)) ho hR, C.1.2.2.2.2 _ (gws_in h2)⟩ ⟨cPre_blind (zzB base), cPre_at C (fun k q h => by simp at h) (hD.sub [] rfl rfl) hS⟩ rfl hn hl.1 rfl (lv_room hW) hd hf) hS (g_freeN C hS) (fun r w H1 locs1 hp _ _ _ hk hS1 => kk r w hp H1 locs1 ls (jn_nil hP hk) hD hS1 hl)
end GCall3
end GL
/-- how many bits -/
def popc (q : Int) : Int := sg (fun i => q / pw i % 2) 10
theorem mx_code : Cond.code Lib.Math.max.name Lib.Math.max.code 2 (some .int) ∈ gws := tw 441 (by decide +kernel) rfl
theorem mx_stat : Cond.static Lib.Math.max.name ∈ gws := tw 440 (by decide +kernel) rfl
theorem mx_ini : Cond.initialized "java/lang/Math" ∈ gws := tw 15 (by decide +kernel) rfl
theorem mx_link_S : Cond.methodLink "BatchSavings" 223 Lib.Math.max.name ∈ gws := tw 439 (by decide +kernel) rfl
theorem mx_link_M : Cond.methodLink "BatchSavings$Matching" 74 Lib.Math.max.name ∈ gws := tw 473 (by decide +kernel) rfl
theorem pop_ok : ∀ q : Nat, q < 1024 → (
    let v0 := iI (q : Int)
    let v1 := v0 - ((v0.toUInt32 >>> ((iI 1).toUInt32 &&& Int32.toUInt32 31)).toInt32 &&& 1431655765)
    let v2 := (v1 &&& 858993459) + ((v1.toUInt32 >>> ((iI 2).toUInt32 &&& Int32.toUInt32 31)).toInt32 &&& 858993459)
    let v3 := (v2 + (v2.toUInt32 >>> ((iI 4).toUInt32 &&& Int32.toUInt32 31)).toInt32) &&& 252645135
    let v4 := v3 + (v3.toUInt32 >>> ((iI 8).toUInt32 &&& Int32.toUInt32 31)).toInt32
    let v5 := v4 + (v4.toUInt32 >>> ((iI 16).toUInt32 &&& Int32.toUInt32 31)).toInt32
    v5 &&& iI 63) = iI (popc (q : Int)) := by decide +kernel
set_option maxRecDepth 100000 in
set_option maxHeartbeats 4000000 in
theorem m_I_bitCount {l : Launch} {D : va_G} {cI cZ cJ : ClassId} {base : Nat} (q : Int) (hq : 0 ≤ q ∧ q < 1024) : Cn l D cls9 (tyl cI cZ cJ) base (zz base) y_I_bitCount (wz y_I_bitCount c_I_bitCount 1 (some FieldType.int)) ({ frames := 0, cells := 0, slots := 0, locals := 0 } : Room) [.int (iI q)] [] (fun r w => r = some (popc q) ∧ w = []) 0 0 := by
  refine Cn_of (zzG base) (by decide) rfl (Nat.le_of_ble_eq_true rfl) ?_
  intro p e s m args below meth c A C hr hA hnm
  have C : gC p s m args meth c D cls9 (tyl cI cZ cJ) A c_I_bitCount 1 "java/lang/Integer" (wz y_I_bitCount c_I_bitCount 1 (some FieldType.int)) base (zz base) := C
  refine g_lve (lv' := [(0, .int (iI q))]) rfl ?_
  refine g_iload_n C (q := 0) d_I_bitCount_0 rfl rfl ?_
  refine g_iload_n C (q := 0) d_I_bitCount_1 rfl rfl ?_
  refine g_iconst C d_I_bitCount_2 ?_
  refine gr_iushr C d_I_bitCount_3 ?_
  refine gr_ldcw C (gws_in k_458) d_I_bitCount_4 ?_
  refine gr_iand C d_I_bitCount_7 ?_
  refine gr_isub C d_I_bitCount_8 ?_
  obtain ⟨v1, ev1⟩ : ∃ z : Int32, z = (iI q) - (((iI q).toUInt32 >>> ((iI 1).toUInt32 &&& Int32.toUInt32 31)).toInt32 &&& 1431655765) := ⟨_, rfl⟩
  refine gr_top (b := v1) ev1.symm ?_
  refine g_istore_n C (lv' := [(0, .int v1)]) d_I_bitCount_9 rfl (by decide) rfl rfl ?_
  refine g_iload_n C (q := 0) d_I_bitCount_10 rfl rfl ?_
  refine gr_ldcw C (gws_in k_459) d_I_bitCount_11 ?_
  refine gr_iand C d_I_bitCount_14 ?_
  refine g_iload_n C (q := 0) d_I_bitCount_15 rfl rfl ?_
  refine g_iconst C d_I_bitCount_16 ?_
  refine gr_iushr C d_I_bitCount_17 ?_
  refine gr_ldcw C (gws_in k_459) d_I_bitCount_18 ?_
  refine gr_iand C d_I_bitCount_21 ?_
  refine gr_iadd C d_I_bitCount_22 ?_
  obtain ⟨v2, ev2⟩ : ∃ z : Int32, z = (v1 &&& 858993459) + ((v1.toUInt32 >>> ((iI 2).toUInt32 &&& Int32.toUInt32 31)).toInt32 &&& 858993459) := ⟨_, rfl⟩
  refine gr_top (b := v2) ev2.symm ?_
  refine g_istore_n C (lv' := [(0, .int v2)]) d_I_bitCount_23 rfl (by decide) rfl rfl ?_
  refine g_iload_n C (q := 0) d_I_bitCount_24 rfl rfl ?_
  refine g_iload_n C (q := 0) d_I_bitCount_25 rfl rfl ?_
  refine g_iconst C d_I_bitCount_26 ?_
  refine gr_iushr C d_I_bitCount_27 ?_
  refine gr_iadd C d_I_bitCount_28 ?_
  refine gr_ldcw C (gws_in k_460) d_I_bitCount_29 ?_
  refine gr_iand C d_I_bitCount_32 ?_
  obtain ⟨v3, ev3⟩ : ∃ z : Int32, z = (v2 + (v2.toUInt32 >>> ((iI 4).toUInt32 &&& Int32.toUInt32 31)).toInt32) &&& 252645135 := ⟨_, rfl⟩
  refine gr_top (b := v3) ev3.symm ?_
  refine g_istore_n C (lv' := [(0, .int v3)]) d_I_bitCount_33 rfl (by decide) rfl rfl ?_
  refine g_iload_n C (q := 0) d_I_bitCount_34 rfl rfl ?_
  refine g_iload_n C (q := 0) d_I_bitCount_35 rfl rfl ?_
  refine g_bipush C d_I_bitCount_36 rfl ?_
  refine gr_iushr C d_I_bitCount_38 ?_
  refine gr_iadd C d_I_bitCount_39 ?_
  obtain ⟨v4, ev4⟩ : ∃ z : Int32, z = v3 + (v3.toUInt32 >>> ((iI 8).toUInt32 &&& Int32.toUInt32 31)).toInt32 := ⟨_, rfl⟩
  refine gr_top (b := v4) ev4.symm ?_
  refine g_istore_n C (lv' := [(0, .int v4)]) d_I_bitCount_40 rfl (by decide) rfl rfl ?_
  refine g_iload_n C (q := 0) d_I_bitCount_41 rfl rfl ?_
  refine g_iload_n C (q := 0) d_I_bitCount_42 rfl rfl ?_
  refine g_bipush C d_I_bitCount_43 rfl ?_
  refine gr_iushr C d_I_bitCount_45 ?_
  refine gr_iadd C d_I_bitCount_46 ?_
  obtain ⟨v5, ev5⟩ : ∃ z : Int32, z = v4 + (v4.toUInt32 >>> ((iI 16).toUInt32 &&& Int32.toUInt32 31)).toInt32 := ⟨_, rfl⟩
  refine gr_top (b := v5) ev5.symm ?_
  refine g_istore_n C (lv' := [(0, .int v5)]) d_I_bitCount_47 rfl (by decide) rfl rfl ?_
  refine g_iload_n C (q := 0) d_I_bitCount_48 rfl rfl ?_
  refine g_bipush C d_I_bitCount_49 rfl ?_
  refine gr_iand C d_I_bitCount_51 ?_
  refine gr_top (b := iI (popc q)) (by obtain ⟨n, rfl⟩ := Int.eq_ofNat_of_zero_le hq.1; rw [ev5, ev4, ev3, ev2, ev1]; exact pop_ok n (by omega)) ?_
  exact g_iret C hA hr d_I_bitCount_52 (by decide) (by decide) ⟨rfl, rfl⟩
/-- the first k places hold v -/
def fl (f : Int → Int) (v : Int) (k : Nat) : Int → Int := fun j => if 0 ≤ j ∧ j < (k : Int) then v else f j
theorem fl_0 (f : Int → Int) (v : Int) : fl f v 0 = f := by
  funext j
  unfold fl
  rw [if_neg (by omega)]
theorem fl_s (f : Int → Int) (v : Int) (k : Nat) : updI (fl f v k) (k : Int) v = fl f v (k + 1) := by
  funext j
  unfold fl updI
  by_cases h : j = (k : Int)
  · rw [if_pos h, if_pos (by omega)]
  · rw [if_neg h]
    show (if 0 ≤ j ∧ j < (k : Int) then v else f j) = _
    by_cases h2 : 0 ≤ j ∧ j < (k : Int)
    · rw [if_pos h2, if_pos (by omega)]
    · rw [if_neg h2, if_neg (by omega)]
set_option maxRecDepth 100000 in
set_option maxHeartbeats 4000000 in
theorem lp_A_fill {p : Program} {l : Launch} {e : Env} {s : State} {m : MethodId} {args : Array Value} {below : List Frame} {meth : Method} {c : Code} {D : va_G} {cI cZ cJ : ClassId} {base : Nat} {A : Nat → Prop} {Q : State → Prop} (C : gC p s m args meth c D cls9 (tyl cI cZ cJ) A c_A_fill 4 "java/util/Arrays" (wz y_A_fill c_A_fill 4 none) base (zz base)) (ws : va_W) (f : Int → Int) (v : Int) (qa q0 N : Nat) (hN : N ≤ 2147483646) (hq0 : ws[q0]? = some (qa, .inl (cI, N, .inl (aI f))))
    (K : gW p l e ({ frames := 0, cells := 0, slots := 0, locals := 0 } : Room) s m args below meth c D cls9 A 4 0 0 Q (ws.set q0 (qa, .inl (cI, N, .inl (aI (fl f v N))))) [(0, .ref qa), (1, .int (iI v)), (2, .int (iI (N : Int))), (3, .int (iI (N : Int)))] 20 []) : ∀ (d k : Nat), k + d = N → gW p l e ({ frames := 0, cells := 0, slots := 0, locals := 0 } : Room) s m args below meth c D cls9 A 4 0 0 Q (ws.set q0 (qa, .inl (cI, N, .inl (aI (fl f v k))))) [(0, .ref qa), (1, .int (iI v)), (2, .int (iI (k : Int))), (3, .int (iI (N : Int)))] 5 [] := by
  intro d
  induction d with
  | zero =>
    intro k hk
    obtain rfl : k = N := by omega
    refine g_iload_n C (q := 2) d_A_fill_5 rfl rfl ?_
    refine g_iload_n C (q := 3) d_A_fill_6 rfl rfl ?_
    refine g_icmp_ge C (tgt := 20) d_A_fill_7 rfl (by omega) (by omega) (fun h => ?_) (fun h => ?_)
    · exact K
    · exfalso
      omega
  | succ d ih =>
    intro k hk
    refine g_iload_n C (q := 2) d_A_fill_5 rfl rfl ?_
    refine g_iload_n C (q := 3) d_A_fill_6 rfl rfl ?_
    refine g_icmp_ge C (tgt := 20) d_A_fill_7 rfl (by omega) (by omega) (fun h => ?_) (fun h => ?_)
    · exfalso
      omega
    · refine g_aload_n C (q := 0) d_A_fill_10 rfl rfl ?_
      refine g_iload_n C (q := 2) d_A_fill_11 rfl rfl ?_
      refine g_iload_n C (q := 1) d_A_fill_12 rfl rfl ?_
      have hlt : q0 < ws.length := (List.getElem?_eq_some_iff.mp hq0).1
      refine g_iast C q0 0 (List.getElem?_set_self hlt) rfl (by omega) (by omega) d_A_fill_13 (by rw [List.set_set, fl_s]) ?_
      refine g_iinc C (q := 2) (lv' := [(0, .ref qa), (1, .int (iI v)), (2, .int (iI ((k : Int) + 1))), (3, .int (iI (N : Int)))]) d_A_fill_14 rfl (by decide) rfl rfl ?_
      refine g_goto C (tgt := 5) d_A_fill_17 rfl ?_
      exact ih (k + 1) (by omega)
set_option maxRecDepth 100000 in
set_option maxHeartbeats 4000000 in
theorem m_A_fill {l : Launch} {D : va_G} {cI cZ cJ : ClassId} {base : Nat} (ws : va_W) (f : Int → Int) (v : Int) (qa q0 N : Nat) (hN : N ≤ 2147483646) (hq0 : ws[q0]? = some (qa, .inl (cI, N, .inl (aI f)))) : Cn l D cls9 (tyl cI cZ cJ) base (zz base) y_A_fill (wz y_A_fill c_A_fill 4 none) ({ frames := 0, cells := 0, slots := 0, locals := 0 } : Room) [.ref qa, .int (iI v)] ws (fun r w => r = none ∧ w = (ws.set q0 (qa, .inl (cI, N, .inl (aI (fl f v N)))))) 0 0 := by
  refine Cn_of (zzG base) (by decide) rfl (Nat.le_of_ble_eq_true rfl) ?_
  intro p e s m args below meth c A C hr hA hnm
  have C : gC p s m args meth c D cls9 (tyl cI cZ cJ) A c_A_fill 4 "java/util/Arrays" (wz y_A_fill c_A_fill 4 none) base (zz base) := C
  refine g_lve (lv' := [(0, .ref qa), (1, .int (iI v))]) rfl ?_
  refine g_iconst C d_A_fill_0 ?_
  refine g_istore_n C (lv' := [(0, .ref qa), (1, .int (iI v)), (2, .int (iI 0))]) d_A_fill_1 rfl (by decide) rfl rfl ?_
  refine g_aload_n C (q := 0) d_A_fill_2 rfl rfl ?_
  refine g_alen C q0 0 hq0 rfl d_A_fill_3 ?_
  refine g_istore_n C (lv' := [(0, .ref qa), (1, .int (iI v)), (2, .int (iI 0)), (3, .int (iI (N : Int)))]) d_A_fill_4 rfl (by decide) rfl rfl ?_
  have hlt : q0 < ws.length := (List.getElem?_eq_some_iff.mp hq0).1
  have hws : ws = ws.set q0 (qa, .inl (cI, N, .inl (aI (fl f v 0)))) := by
    rw [fl_0]
    refine List.ext_getElem? fun i => ?_
    by_cases h : q0 = i
    · subst h
      rw [List.getElem?_set_self hlt, hq0]
    · rw [List.getElem?_set_ne h]
  refine g_ws hws ?_
  refine lp_A_fill C ws f v qa q0 N hN hq0 ?_ N 0 (by omega)
  exact g_vret C hA hr d_A_fill_20 (by decide) (by decide) ⟨rfl, rfl⟩
