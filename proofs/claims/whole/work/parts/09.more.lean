section GM
variable {p : Program} {l : Launch} {e : Env} {R : Room} {s : State} {m : MethodId} {args : Array Value} {below : List Frame} {meth : Method} {c : Code} {cells slots : Nat} {Q : State → Prop}
variable {D : va_G} {cl : List vw_C} {tys : List (ClassId × FieldType)} {A : Nat → Prop} {cc : ByteArray} {nL base : Nat} {own : String} {Ts : List Cond} {Z : State → Prop}
variable {ws : va_W} {lv : List (Nat × Value)} {pc : Nat} {st : List Value}
theorem g_lve {lv' : List (Nat × Value)} (h : lv = lv') (k : gW p l e R s m args below meth c D cl A nL cells slots Q ws lv' pc st) : gW p l e R s m args below meth c D cl A nL cells slots Q ws lv pc st := h ▸ k
theorem g_st {st' : List Value} (h : st = st') (k : gW p l e R s m args below meth c D cl A nL cells slots Q ws lv pc st') : gW p l e R s m args below meth c D cl A nL cells slots Q ws lv pc st := h ▸ k
theorem g_eq {ws' : va_W} {lv' : List (Nat × Value)} {pc' : Nat} {st' : List Value} (h1 : ws = ws') (h2 : lv = lv') (h3 : pc = pc') (h4 : st = st') (k : gW p l e R s m args below meth c D cl A nL cells slots Q ws' lv' pc' st') : gW p l e R s m args below meth c D cl A nL cells slots Q ws lv pc st := h1 ▸ h2 ▸ h3 ▸ h4 ▸ k
theorem g_dup2 (C : gC p s m args meth c D cl tys A cc nL own Ts base Z) {v w : Value} (hd : decode cc pc = .ok (.dup2, 1)) (hv : v.category = 1) (hw : w.category = 1) (k : gW p l e R s m args below meth c D cl A nL cells slots Q ws lv (pc + 1) (v :: w :: v :: w :: st)) : gW p l e R s m args below meth c D cl A nL cells slots Q ws lv pc (v :: w :: st) :=
  fun H locs ls hP hD hS hl => lv_dup2_11 C.1.1 C.1.2.1 hd hv hw (k H locs ls hP hD hS hl)
/-- two's powers, and sets of orders as numbers -/
def pw (k : Int) : Int := ((2 ^ k.toNat : Nat) : Int)
theorem pw_nat (n : Nat) : pw (n : Int) = ((2 ^ n : Nat) : Int) := by unfold pw; simp
theorem sh_amt : ∀ n : Nat, n < 32 → ((iI (n : Int) &&& 31).toBitVec.smod 32).toNat = n := by decide +kernel
theorem iI_nI (n : Nat) : iI (n : Int) = nI n := rfl
theorem iI_shl {a k : Int} (ha : 0 ≤ a) (hk : 0 ≤ k ∧ k < 31) (hb : a * pw k < 2147483648) : iI a <<< (iI k &&& 31) = iI (a * pw k) := by
  obtain ⟨n, rfl⟩ := Int.eq_ofNat_of_zero_le ha
  obtain ⟨j, rfl⟩ := Int.eq_ofNat_of_zero_le hk.1
  rw [pw_nat] at hb ⊢
  have e : (n : Int) * ((2 ^ j : Nat) : Int) = ((n * 2 ^ j : Nat) : Int) := by rw [Int.natCast_mul]
  rw [e] at hb ⊢
  rw [iI_nI n, iI_nI (n * 2 ^ j)]
  exact pk_shlN _ j (sh_amt j (by omega)) (by omega)
theorem g_ishl (C : gC p s m args meth c D cl tys A cc nL own Ts base Z) {a b : Int} (hd : decode cc pc = .ok (.ishl, 1)) (ha : 0 ≤ a) (hb : 0 ≤ b ∧ b < 31) (hp : a * pw b < 2147483648) (k : gW p l e R s m args below meth c D cl A nL cells slots Q ws lv (pc + 1) (.int (iI (a * pw b)) :: st)) : gW p l e R s m args below meth c D cl A nL cells slots Q ws lv pc (.int (iI b) :: .int (iI a) :: st) :=
  fun H locs ls hP hD hS hl => lv_ishl C.1.1 C.1.2.1 hd (by rw [iI_shl ha hb hp]; exact k H locs ls hP hD hS hl)
theorem g_iandv (C : gC p s m args meth c D cl tys A cc nL own Ts base Z) {a b z : Int} (hd : decode cc pc = .ok (.iand, 1)) (h : iI a &&& iI b = iI z) (k : gW p l e R s m args below meth c D cl A nL cells slots Q ws lv (pc + 1) (.int (iI z) :: st)) : gW p l e R s m args below meth c D cl A nL cells slots Q ws lv pc (.int (iI b) :: .int (iI a) :: st) :=
  fun H locs ls hP hD hS hl => lv_iand C.1.1 C.1.2.1 hd (by rw [h]; exact k H locs ls hP hD hS hl)
theorem g_iorv (C : gC p s m args meth c D cl tys A cc nL own Ts base Z) {a b z : Int} (hd : decode cc pc = .ok (.ior, 1)) (h : iI a ||| iI b = iI z) (k : gW p l e R s m args below meth c D cl A nL cells slots Q ws lv (pc + 1) (.int (iI z) :: st)) : gW p l e R s m args below meth c D cl A nL cells slots Q ws lv pc (.int (iI b) :: .int (iI a) :: st) :=
  fun H locs ls hP hD hS hl => lv_ior C.1.1 C.1.2.1 hd (by rw [h]; exact k H locs ls hP hD hS hl)
theorem g_ixorv (C : gC p s m args meth c D cl tys A cc nL own Ts base Z) {a b z : Int} (hd : decode cc pc = .ok (.ixor, 1)) (h : iI a ^^^ iI b = iI z) (k : gW p l e R s m args below meth c D cl A nL cells slots Q ws lv (pc + 1) (.int (iI z) :: st)) : gW p l e R s m args below meth c D cl A nL cells slots Q ws lv pc (.int (iI b) :: .int (iI a) :: st) :=
  fun H locs ls hP hD hS hl => lv_ixor C.1.1 C.1.2.1 hd (by rw [h]; exact k H locs ls hP hD hS hl)
theorem g_ishrv (C : gC p s m args meth c D cl tys A cc nL own Ts base Z) {a b z : Int} (hd : decode cc pc = .ok (.ishr, 1)) (h : iI a >>> (iI b &&& 31) = iI z) (k : gW p l e R s m args below meth c D cl A nL cells slots Q ws lv (pc + 1) (.int (iI z) :: st)) : gW p l e R s m args below meth c D cl A nL cells slots Q ws lv pc (.int (iI b) :: .int (iI a) :: st) :=
  fun H locs ls hP hD hS hl => lv_ishr C.1.1 C.1.2.1 hd (by rw [h]; exact k H locs ls hP hD hS hl)
theorem iI_div {a b : Int} (ha' : -2147483647 ≤ a ∧ a ≤ 2147483647) (hb : InR b) (h0 : 0 < b) : iI a / iI b = iI (a.tdiv b) := by
  have ha : InR a := by omega
  refine Int32.toInt_inj.mp ?_
  rw [Int32.toInt_div_of_ne_right _ _ (fun h => ?_), iI_toInt ha, iI_toInt hb, iI_toInt]
  · have h1 : (a.tdiv b).natAbs ≤ a.natAbs := by rw [Int.natAbs_tdiv]; exact Nat.div_le_self _ _
    omega
  · have h1 : (iI b).toInt = (-1 : Int32).toInt := by rw [h]
    rw [iI_toInt hb] at h1
    have h2 : (-1 : Int32).toInt = -1 := by decide
    omega
theorem g_idiv (C : gC p s m args meth c D cl tys A cc nL own Ts base Z) {a b : Int} (hd : decode cc pc = .ok (.idiv, 1)) (ha : -2147483647 ≤ a ∧ a ≤ 2147483647) (hb : InR b) (h0 : 0 < b) (k : gW p l e R s m args below meth c D cl A nL cells slots Q ws lv (pc + 1) (.int (iI (a.tdiv b)) :: st)) : gW p l e R s m args below meth c D cl A nL cells slots Q ws lv pc (.int (iI b) :: .int (iI a) :: st) :=
  fun H locs ls hP hD hS hl => lv_idiv C.1.1 C.1.2.1 hd (fun h => by
    have h1 := (iI_eq hb InR_0).mp h
    omega) (by rw [iI_div ha hb h0]; exact k H locs ls hP hD hS hl)
section GCall2
variable {y y0 : MethodName} {bytes c0 : ByteArray} {maxL n0 mc ms n index : Nat} {ret ret0 : Option FieldType} {rm : Room} {po : Option Int → va_W → Prop} {px : String → va_W → Prop} {b ci : Nat} {As : List Value} {st0 : List Value} {host : String} {fs : List Value} {q : vw_C}
abbrev hdOk (y : MethodName) (n : Nat) : Prop := y.cls ≠ "java/lang/invoke/MethodHandle" ∧ y.cls ≠ "java/lang/invoke/VarHandle" ∧ (parseMethodDescriptor y.desc).map (fun d => d.parameters.length) = some n
theorem gV (C : gC p s m args meth c D cl tys A cc nL own (wz y0 c0 n0 ret0) base (zz base)) (hM : Cn l D cl tys base (zz base) y (wz y bytes maxL ret) rm (.ref b :: As) ws po mc ms) (h5 : Cond.code y bytes maxL ret ∈ gws) (h1 : Cond.methodLink own index y ∈ gws) (h2 : Cond.instanceMethod y ∈ gws) (h3 : Cond.selects q.1 y y ∈ gws) (h4 : Cond.initialized q.1 ∈ gws) (hy : y.cls = q.1) (ho : hdOk y n) (hrc : rm.cells = mc) (hrs : rm.slots = ms) (hR : rm.frames + 1 ≤ R.frames ∧ 8 + (maxL + 11) + rm.locals ≤ R.locals) (q0 : Nat) (he : ws[q0]? = some (b, .inr (ci, fs))) (hc : cl[ci]? = some q) (hn : As.length = n) (hst : st0 = As.reverse ++ .ref b :: st) (hW : (st.map fun v => v.category).sum ≤ 8) (hd : decode cc pc = .ok (.invokevirtual index, 3)) (hf : cells + mc ≤ R.cells ∧ slots + ms ≤ R.slots)
    (kk : ∀ (r : Option Int) (w : va_W), po r w → gW p l e R s m args below meth c D cl A nL (cells + mc) (slots + ms) Q w lv (pc + 3) ((oI r).toList ++ st)) : gW p l e R s m args below meth c D cl A nL cells slots Q ws lv pc st0 :=
  g_V C (zzB base) hM (cwV n C.1.2.2.2.2 (gws_good (fun _ h => gws_in h) (wsV_sub (wz_sub h5) h1 h2 h3 h4)) rfl hrc hrs ⟨hy, ho⟩ hR) q0 he hc hn hst hW hd hf kk
theorem gVN (C : gC p s m args meth c D cl tys A cc nL own (wz y0 c0 n0 ret0) base (zz base)) (hM : Cn l D cl tys base (zz base) y (wz y bytes maxL ret) rm (.ref b :: As) ws po mc ms) (h5 : Cond.code y bytes maxL ret ∈ gws) (h1 : Cond.methodLinkNest own index y host ∈ nst) (h2 : Cond.instanceMethod y ∈ gws) (h3 : Cond.selects q.1 y y ∈ gws) (h4 : Cond.initialized y.cls ∈ gws) (ho : hdOk y n) (hrc : rm.cells = mc) (hrs : rm.slots = ms) (hR : rm.frames + 1 ≤ R.frames ∧ 8 + (maxL + 11) + rm.locals ≤ R.locals) (q0 : Nat) (he : ws[q0]? = some (b, .inr (ci, fs))) (hc : cl[ci]? = some q) (hn : As.length = n) (hst : st0 = As.reverse ++ .ref b :: st) (hW : (st.map fun v => v.category).sum ≤ 8) (hd : decode cc pc = .ok (.invokevirtual index, 3)) (hf : cells + mc ≤ R.cells ∧ slots + ms ≤ R.slots)
    (kk : ∀ (r : Option Int) (w : va_W), po r w → gW p l e R s m args below meth c D cl A nL (cells + mc) (slots + ms) Q w lv (pc + 3) ((oI r).toList ++ st)) : gW p l e R s m args below meth c D cl A nL cells slots Q ws lv pc st0 :=
  g_VN C (zzB base) hM ⟨va_cnB n C.1.2.2.2.2 (gws_good (fun _ h => gws_in h) (wz_sub h5)) rfl hrc hrs (C.z.1 _ h1) (C.1.2.2.2.2 _ (gws_in h4)) ho hR, C.1.2.2.2.2 _ (gws_in h2), C.1.2.2.2.2 _ (gws_in h3)⟩ q0 he hc hn hst hW hd hf kk
theorem gS0 (C : gC p s m args meth c D cl tys A cc nL own (wz y0 c0 n0 ret0) base (zz base)) (hM : Cn l D cl tys base (zz base) y (wz y bytes maxL ret) rm As [] po mc ms) (h5 : Cond.code y bytes maxL ret ∈ gws) (h1 : Cond.methodLink own index y ∈ gws) (h2 : Cond.static y ∈ gws) (h4 : Cond.initialized own ∈ gws) (hy : y.cls = own) (ho : hdOk y n) (hrc : rm.cells = mc) (hrs : rm.slots = ms) (hR : rm.frames + 1 ≤ R.frames ∧ 8 + (maxL + 11) + rm.locals ≤ R.locals) (hn : As.length = n) (hst : st0 = As.reverse ++ st) (hW : (st.map fun v => v.category).sum ≤ 8) (hd : decode cc pc = .ok (.invokestatic index, 3)) (hf : cells + mc ≤ R.cells ∧ slots + ms ≤ R.slots)
    (kk : ∀ (r : Option Int) (w : va_W), po r w → gW p l e R s m args below meth c D cl A nL (cells + mc) (slots + ms) Q ws lv (pc + 3) ((oI r).toList ++ st)) : gW p l e R s m args below meth c D cl A nL cells slots Q ws lv pc st0 :=
  g_S0 C (zzB base) hM (cwS n C.1.2.2.2.2 (gws_good (fun _ h => gws_in h) (wsS_sub (wz_sub h5) h1 h2 h4)) rfl hrc hrs ⟨hy, ho⟩ hR) hn hst hW hd hf kk
theorem gSN0 (C : gC p s m args meth c D cl tys A cc nL own (wz y0 c0 n0 ret0) base (zz base)) (hM : Cn l D cl tys base (zz base) y (wz y bytes maxL ret) rm As [] po mc ms) (h5 : Cond.code y bytes maxL ret ∈ gws) (h1 : Cond.methodLinkNest own index y host ∈ nst) (h2 : Cond.static y ∈ gws) (h4 : Cond.initialized y.cls ∈ gws) (ho : hdOk y n) (hrc : rm.cells = mc) (hrs : rm.slots = ms) (hR : rm.frames + 1 ≤ R.frames ∧ 8 + (maxL + 11) + rm.locals ≤ R.locals) (hn : As.length = n) (hst : st0 = As.reverse ++ st) (hW : (st.map fun v => v.category).sum ≤ 8) (hd : decode cc pc = .ok (.invokestatic index, 3)) (hf : cells + mc ≤ R.cells ∧ slots + ms ≤ R.slots)
    (kk : ∀ (r : Option Int) (w : va_W), po r w → gW p l e R s m args below meth c D cl A nL (cells + mc) (slots + ms) Q ws lv (pc + 3) ((oI r).toList ++ st)) : gW p l e R s m args below meth c D cl A nL cells slots Q ws lv pc st0 :=
  g_SN0 C (zzB base) hM ⟨va_cnB n C.1.2.2.2.2 (gws_good (fun _ h => gws_in h) (wz_sub h5)) rfl hrc hrs (C.z.1 _ h1) (C.1.2.2.2.2 _ (gws_in h4)) ho hR, C.1.2.2.2.2 _ (gws_in h2), trivial⟩ hn hst hW hd hf kk
/-- fields, over the good words -/
theorem gG (C : gC p s m args meth c D cl tys A cc nL own (wz y0 c0 n0 ret0) base (zz base)) {ref Cn : String} {T : u_T} {N a : Nat} {v : Value} (q0 k : Nat) (hin : ∀ w ∈ u_ws Cn T N, w ∈ gws) (hlink : Cond.fieldLink own index ref (T k).2.1 (T k).2.2.1 ∈ gws) (he : ws[q0]? = some (a, .inr (ci, fs))) (hc : cl[ci]? = some (Cn, T, N)) (hk : k < N) (hsame : (T k).1 = ref) (hv : fs[k]? = some v) (hd : decode cc pc = .ok (.getfield index, 3)) (kk : gW p l e R s m args below meth c D cl A nL cells slots Q ws lv (pc + 3) (v :: st)) : gW p l e R s m args below meth c D cl A nL cells slots Q ws lv pc (.ref a :: st) :=
  g_get C q0 k (fun w h => gws_in (hin w h)) (gws_in hlink) he hc hk hsame hv hd kk
theorem gGN (C : gC p s m args meth c D cl tys A cc nL own (wz y0 c0 n0 ret0) base (zz base)) {ref Cn : String} {T : u_T} {N a : Nat} {v : Value} (q0 k : Nat) (hin : ∀ w ∈ u_ws Cn T N, w ∈ gws) (hlink : Cond.fieldLinkNest own index ref (T k).2.1 (T k).2.2.1 host ∈ nst) (he : ws[q0]? = some (a, .inr (ci, fs))) (hc : cl[ci]? = some (Cn, T, N)) (hk : k < N) (hsame : (T k).1 = ref) (hv : fs[k]? = some v) (hd : decode cc pc = .ok (.getfield index, 3)) (kk : gW p l e R s m args below meth c D cl A nL cells slots Q ws lv (pc + 3) (v :: st)) : gW p l e R s m args below meth c D cl A nL cells slots Q ws lv pc (.ref a :: st) :=
  g_getN C q0 k (fun w h => gws_in (hin w h)) (C.z.1 _ hlink) he hc hk hsame hv hd kk
theorem gP (C : gC p s m args meth c D cl tys A cc nL own (wz y0 c0 n0 ret0) base (zz base)) {ref Cn : String} {T : u_T} {N a : Nat} {v : Value} {ty : FieldType} {ws' : va_W} (q0 k : Nat) (ty0 : Nat → FieldType) (hty : ∀ k, k < N → parseFieldDescriptor (T k).2.2.1 = some (ty0 k)) (hnm : ∀ a, a < N → ∀ b, b < N → a ≠ b → (T a).2.1 ≠ (T b).2.1) (hin : ∀ w ∈ u_ws Cn T N, w ∈ gws) (hlink : Cond.fieldLink own index ref (T k).2.1 (T k).2.2.1 ∈ gws) (he : ws[q0]? = some (a, .inr (ci, fs))) (hc : cl[ci]? = some (Cn, T, N)) (hk : k < N) (hsame : (T k).1 = ref) (hfin : (T k).2.2.2 = false) (hpd : ty0 k = ty) (hn : narrow ty v = v) (hfit : fits ty v = true) (hlen : k < fs.length) (hd : decode cc pc = .ok (.putfield index, 3)) (hw : ws.set q0 (a, .inr (ci, fs.set k v)) = ws') (kk : gW p l e R s m args below meth c D cl A nL cells slots Q ws' lv (pc + 3) st) : gW p l e R s m args below meth c D cl A nL cells slots Q ws lv pc (v :: .ref a :: st) :=
  g_put C q0 k ty0 hty hnm (fun w h => gws_in (hin w h)) (gws_in hlink) he hc hk hsame hfin (hpd ▸ hty k hk) hn hfit hlen hd hw kk
theorem gPN (C : gC p s m args meth c D cl tys A cc nL own (wz y0 c0 n0 ret0) base (zz base)) {ref Cn : String} {T : u_T} {N a : Nat} {v : Value} {ty : FieldType} {ws' : va_W} (q0 k : Nat) (ty0 : Nat → FieldType) (hty : ∀ k, k < N → parseFieldDescriptor (T k).2.2.1 = some (ty0 k)) (hnm : ∀ a, a < N → ∀ b, b < N → a ≠ b → (T a).2.1 ≠ (T b).2.1) (hin : ∀ w ∈ u_ws Cn T N, w ∈ gws) (hlink : Cond.fieldLinkNest own index ref (T k).2.1 (T k).2.2.1 host ∈ nst) (he : ws[q0]? = some (a, .inr (ci, fs))) (hc : cl[ci]? = some (Cn, T, N)) (hk : k < N) (hsame : (T k).1 = ref) (hfin : (T k).2.2.2 = false) (hpd : ty0 k = ty) (hn : narrow ty v = v) (hfit : fits ty v = true) (hlen : k < fs.length) (hd : decode cc pc = .ok (.putfield index, 3)) (hw : ws.set q0 (a, .inr (ci, fs.set k v)) = ws') (kk : gW p l e R s m args below meth c D cl A nL cells slots Q ws' lv (pc + 3) st) : gW p l e R s m args below meth c D cl A nL cells slots Q ws lv pc (v :: .ref a :: st) :=
  g_putN C q0 k ty0 hty hnm (fun w h => gws_in (hin w h)) (C.z.1 _ hlink) he hc hk hsame hfin (hpd ▸ hty k hk) hn hfit hlen hd hw kk
end GCall2
end GM
theorem fit_z {z : Int} (h : z = 0 ∨ z = 1) : fits .boolean (.int (iI z)) = true := by
  rcases h with rfl | rfl <;> decide +kernel
/-! sums and the like, over whole numbers -/
def sg (f : Int → Int) : Nat → Int
  | 0 => 0
  | k + 1 => sg f k + f (k : Int)
theorem sg_s (f : Int → Int) (k : Nat) : sg f (k + 1) = sg f k + f (k : Int) := rfl
theorem sg_congr {f g : Int → Int} {n : Nat} (h : ∀ k : Nat, k < n → f (k : Int) = g (k : Int)) : sg f n = sg g n := by
  induction n with
  | zero => rfl
  | succ n ih => rw [sg_s, sg_s, ih (fun k hk => h k (by omega)), h n (by omega)]
theorem sg_bd {f : Int → Int} {n : Nat} {lo hi : Int} (h : ∀ k : Nat, k < n → lo ≤ f (k : Int) ∧ f (k : Int) ≤ hi) : (n : Int) * lo ≤ sg f n ∧ sg f n ≤ (n : Int) * hi := by
  induction n with
  | zero => simp [sg]
  | succ n ih =>
    have h1 := ih (fun k hk => h k (by omega))
    have h2 := h n (by omega)
    rw [sg_s]
    have e1 : ((n + 1 : Nat) : Int) * lo = (n : Int) * lo + lo := by rw [Int.natCast_add, Int.add_mul]; simp
    have e2 : ((n + 1 : Nat) : Int) * hi = (n : Int) * hi + hi := by rw [Int.natCast_add, Int.add_mul]; simp
    omega
/-- one or none -/
def b01 (p : Prop) [Decidable p] : Int := if p then 1 else 0
theorem b01_t {p : Prop} [Decidable p] (h : p) : b01 p = 1 := if_pos h
theorem b01_f {p : Prop} [Decidable p] (h : ¬ p) : b01 p = 0 := if_neg h
theorem b01_or {p : Prop} [Decidable p] : b01 p = 0 ∨ b01 p = 1 := by
  by_cases h : p
  · exact Or.inr (if_pos h)
  · exact Or.inl (if_neg h)
theorem ho_S_init : hdOk y_S_init 0 := by decide +kernel
theorem ho_S_batch : hdOk y_S_batch 1 := by decide +kernel
theorem ho_S_best : hdOk y_S_best 1 := by decide +kernel
theorem ho_S_count : hdOk y_S_count 1 := by decide +kernel
theorem ho_S_exact : hdOk y_S_exact 0 := by decide +kernel
theorem ho_S_join : hdOk y_S_join 2 := by decide +kernel
theorem ho_S_joined : hdOk y_S_joined 3 := by decide +kernel
theorem ho_S_leave : hdOk y_S_leave 1 := by decide +kernel
theorem ho_S_limit : hdOk y_S_limit 2 := by decide +kernel
theorem ho_S_match : hdOk y_S_match 1 := by decide +kernel
theorem ho_S_mean : hdOk y_S_mean 0 := by decide +kernel
theorem ho_S_near : hdOk y_S_near 3 := by decide +kernel
theorem ho_S_needBatch : hdOk y_S_needBatch 1 := by decide +kernel
theorem ho_S_needDifferent : hdOk y_S_needDifferent 2 := by decide +kernel
theorem ho_S_needFree : hdOk y_S_needFree 1 := by decide +kernel
theorem ho_S_needOrder : hdOk y_S_needOrder 1 := by decide +kernel
theorem ho_S_needRange : hdOk y_S_needRange 3 := by decide +kernel
theorem ho_S_needTwoOrders : hdOk y_S_needTwoOrders 2 := by decide +kernel
theorem ho_S_open : hdOk y_S_open 1 := by decide +kernel
theorem ho_S_order : hdOk y_S_order 3 := by decide +kernel
theorem ho_S_pairIndex : hdOk y_S_pairIndex 2 := by decide +kernel
theorem ho_S_rule : hdOk y_S_rule 3 := by decide +kernel
theorem ho_S_saving : hdOk y_S_saving 2 := by decide +kernel
theorem ho_S_share : hdOk y_S_share 2 := by decide +kernel
theorem ho_S_suits : hdOk y_S_suits 2 := by decide +kernel
theorem ho_S_takeGains : hdOk y_S_takeGains 0 := by decide +kernel
theorem ho_S_told : hdOk y_S_told 3 := by decide +kernel
theorem ho_S_weight : hdOk y_S_weight 2 := by decide +kernel
theorem ho_S_with : hdOk y_S_with 1 := by decide +kernel
theorem ho_O_init : hdOk y_O_init 0 := by decide +kernel
theorem ho_O_add : hdOk y_O_add 3 := by decide +kernel
theorem ho_O_has : hdOk y_O_has 1 := by decide +kernel
theorem ho_O_putTogether : hdOk y_O_putTogether 3 := by decide +kernel
theorem ho_O_savingOf : hdOk y_O_savingOf 2 := by decide +kernel
theorem ho_R_init : hdOk y_R_init 1 := by decide +kernel
theorem ho_R_aboveAlone : hdOk y_R_aboveAlone 0 := by decide +kernel
theorem ho_R_addToSet : hdOk y_R_addToSet 1 := by decide +kernel
theorem ho_R_allowPair : hdOk y_R_allowPair 2 := by decide +kernel
theorem ho_R_allowSet : hdOk y_R_allowSet 0 := by decide +kernel
theorem ho_R_bar : hdOk y_R_bar 3 := by decide +kernel
theorem ho_R_bringNear : hdOk y_R_bringNear 3 := by decide +kernel
theorem ho_R_getAlong : hdOk y_R_getAlong 2 := by decide +kernel
theorem ho_R_startSet : hdOk y_R_startSet 0 := by decide +kernel
theorem ho_B_init : hdOk y_B_init 1 := by decide +kernel
theorem ho_B_addEmpty : hdOk y_B_addEmpty 0 := by decide +kernel
theorem ho_B_freeOrders : hdOk y_B_freeOrders 0 := by decide +kernel
theorem ho_B_has : hdOk y_B_has 1 := by decide +kernel
theorem ho_B_isFree : hdOk y_B_isFree 1 := by decide +kernel
theorem ho_B_isFull : hdOk y_B_isFull 1 := by decide +kernel
theorem ho_B_orderAt : hdOk y_B_orderAt 2 := by decide +kernel
theorem ho_B_put : hdOk y_B_put 2 := by decide +kernel
theorem ho_B_saved : hdOk y_B_saved 0 := by decide +kernel
theorem ho_B_savedBy : hdOk y_B_savedBy 1 := by decide +kernel
theorem ho_B_savingWithLast : hdOk y_B_savingWithLast 2 := by decide +kernel
theorem ho_B_sumOf : hdOk y_B_sumOf 2 := by decide +kernel
theorem ho_B_take : hdOk y_B_take 2 := by decide +kernel
theorem ho_B_wayOf : hdOk y_B_wayOf 1 := by decide +kernel
theorem ho_M_init : hdOk y_M_init 1 := by decide +kernel
theorem ho_M_bind : hdOk y_M_bind 2 := by decide +kernel
theorem ho_M_findSums : hdOk y_M_findSums 0 := by decide +kernel
theorem ho_M_firstPartner : hdOk y_M_firstPartner 3 := by decide +kernel
theorem ho_M_greatestSum : hdOk y_M_greatestSum 2 := by decide +kernel
theorem ho_M_mayTake : hdOk y_M_mayTake 3 := by decide +kernel
theorem ho_M_pairAnew : hdOk y_M_pairAnew 1 := by decide +kernel
theorem ho_M_pairByRule : hdOk y_M_pairByRule 0 := by decide +kernel
theorem ho_M_pairBySums : hdOk y_M_pairBySums 0 := by decide +kernel
theorem ho_M_pairs : hdOk y_M_pairs 0 := by decide +kernel
theorem ho_M_part : hdOk y_M_part 1 := by decide +kernel
theorem ho_M_putGain : hdOk y_M_putGain 3 := by decide +kernel
theorem ho_M_saved : hdOk y_M_saved 0 := by decide +kernel
theorem ho_M_sumWith : hdOk y_M_sumWith 3 := by decide +kernel
theorem ho_Tw_init : hdOk y_Tw_init 0 := by decide +kernel
theorem ho_Tw_allSeconds : hdOk y_Tw_allSeconds 1 := by decide +kernel
theorem ho_Tw_batch : hdOk y_Tw_batch 1 := by decide +kernel
theorem ho_Tw_best : hdOk y_Tw_best 1 := by decide +kernel
theorem ho_Tw_byRule : hdOk y_Tw_byRule 1 := by decide +kernel
theorem ho_Tw_count : hdOk y_Tw_count 1 := by decide +kernel
theorem ho_Tw_exact : hdOk y_Tw_exact 0 := by decide +kernel
theorem ho_Tw_exactly : hdOk y_Tw_exactly 1 := by decide +kernel
theorem ho_Tw_freeOnes : hdOk y_Tw_freeOnes 0 := by decide +kernel
theorem ho_Tw_in : hdOk y_Tw_in 3 := by decide +kernel
theorem ho_Tw_isBatch : hdOk y_Tw_isBatch 1 := by decide +kernel
theorem ho_Tw_isFree : hdOk y_Tw_isFree 1 := by decide +kernel
theorem ho_Tw_isOrder : hdOk y_Tw_isOrder 1 := by decide +kernel
theorem ho_Tw_join : hdOk y_Tw_join 2 := by decide +kernel
theorem ho_Tw_joined : hdOk y_Tw_joined 3 := by decide +kernel
theorem ho_Tw_leave : hdOk y_Tw_leave 1 := by decide +kernel
theorem ho_Tw_limit : hdOk y_Tw_limit 2 := by decide +kernel
theorem ho_Tw_lowest : hdOk y_Tw_lowest 1 := by decide +kernel
theorem ho_Tw_match : hdOk y_Tw_match 1 := by decide +kernel
theorem ho_Tw_mayBe : hdOk y_Tw_mayBe 1 := by decide +kernel
theorem ho_Tw_mayCome : hdOk y_Tw_mayCome 2 := by decide +kernel
theorem ho_Tw_mayMatch : hdOk y_Tw_mayMatch 2 := by decide +kernel
theorem ho_Tw_mayPair : hdOk y_Tw_mayPair 2 := by decide +kernel
theorem ho_Tw_mean : hdOk y_Tw_mean 0 := by decide +kernel
theorem ho_Tw_near : hdOk y_Tw_near 3 := by decide +kernel
theorem ho_Tw_open : hdOk y_Tw_open 1 := by decide +kernel
theorem ho_Tw_order : hdOk y_Tw_order 3 := by decide +kernel
theorem ho_Tw_pair : hdOk y_Tw_pair 2 := by decide +kernel
theorem ho_Tw_pairSavings : hdOk y_Tw_pairSavings 0 := by decide +kernel
theorem ho_Tw_pairs : hdOk y_Tw_pairs 0 := by decide +kernel
theorem ho_Tw_put : hdOk y_Tw_put 2 := by decide +kernel
theorem ho_Tw_rule : hdOk y_Tw_rule 3 := by decide +kernel
theorem ho_Tw_save : hdOk y_Tw_save 2 := by decide +kernel
theorem ho_Tw_saving : hdOk y_Tw_saving 2 := by decide +kernel
theorem ho_Tw_savingWithLast : hdOk y_Tw_savingWithLast 2 := by decide +kernel
theorem ho_Tw_setOf : hdOk y_Tw_setOf 1 := by decide +kernel
theorem ho_Tw_share : hdOk y_Tw_share 2 := by decide +kernel
theorem ho_Tw_thrown : hdOk y_Tw_thrown 0 := by decide +kernel
theorem ho_Tw_told : hdOk y_Tw_told 3 := by decide +kernel
theorem ho_Tw_unpair : hdOk y_Tw_unpair 1 := by decide +kernel
theorem ho_Tw_way : hdOk y_Tw_way 1 := by decide +kernel
theorem ho_Tw_weight : hdOk y_Tw_weight 2 := by decide +kernel
theorem ho_Tw_with : hdOk y_Tw_with 1 := by decide +kernel
theorem ho_L_batch : hdOk y_L_batch 3 := by decide +kernel
theorem ho_L_best : hdOk y_L_best 3 := by decide +kernel
theorem ho_L_join : hdOk y_L_join 4 := by decide +kernel
theorem ho_L_joined : hdOk y_L_joined 5 := by decide +kernel
theorem ho_L_leave : hdOk y_L_leave 3 := by decide +kernel
theorem ho_L_limit : hdOk y_L_limit 4 := by decide +kernel
theorem ho_L_match : hdOk y_L_match 3 := by decide +kernel
theorem ho_L_mean : hdOk y_L_mean 2 := by decide +kernel
theorem ho_L_near : hdOk y_L_near 4 := by decide +kernel
theorem ho_L_open : hdOk y_L_open 3 := by decide +kernel
theorem ho_L_order : hdOk y_L_order 5 := by decide +kernel
theorem ho_L_rule : hdOk y_L_rule 5 := by decide +kernel
theorem ho_L_saving : hdOk y_L_saving 4 := by decide +kernel
theorem ho_L_share : hdOk y_L_share 4 := by decide +kernel
theorem ho_L_told : hdOk y_L_told 5 := by decide +kernel
theorem ho_L_weight : hdOk y_L_weight 4 := by decide +kernel
theorem ho_L_with : hdOk y_L_with 3 := by decide +kernel
theorem ho_A_fill : hdOk y_A_fill 2 := by decide +kernel
theorem ho_I_bitCount : hdOk y_I_bitCount 1 := by decide +kernel
theorem ho_Ob_init : hdOk y_Ob_init 0 := by decide +kernel
theorem ho_Ma_max : hdOk y_Ma_max 2 := by decide +kernel
