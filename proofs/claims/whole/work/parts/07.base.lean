/-! numbers: every int of the machine as iI z, z a whole number -/
def iI (z : Int) : Int32 := Int32.ofInt z
abbrev InR (z : Int) : Prop := -2147483648 ≤ z ∧ z ≤ 2147483647
theorem iI_add (a b : Int) : iI a + iI b = iI (a + b) := (Int32.ofInt_add a b).symm
theorem iI_sub (a b : Int) : iI a - iI b = iI (a - b) := (Int32.ofInt_sub a b).symm
theorem iI_mul (a b : Int) : iI a * iI b = iI (a * b) := (Int32.ofInt_mul a b).symm
theorem iI_toInt {z : Int} (h : InR z) : (iI z).toInt = z := Int32.toInt_ofInt_of_le (by have := h.1; omega) (by have := h.2; omega)
theorem iI_self (x : Int32) : iI x.toInt = x := Int32.ofInt_toInt x
theorem iI_le {a b : Int} (ha : InR a) (hb : InR b) : iI a ≤ iI b ↔ a ≤ b := by rw [Int32.le_iff_toInt_le, iI_toInt ha, iI_toInt hb]
theorem iI_lt {a b : Int} (ha : InR a) (hb : InR b) : iI a < iI b ↔ a < b := by rw [Int32.lt_iff_toInt_lt, iI_toInt ha, iI_toInt hb]
theorem iI_eq {a b : Int} (ha : InR a) (hb : InR b) : iI a = iI b ↔ a = b := by rw [← Int32.toInt_inj, iI_toInt ha, iI_toInt hb]
theorem iI_0 : (0 : Int32) = iI 0 := rfl
theorem InR_0 : InR 0 := by omega
theorem InR_x (x : Int32) : InR x.toInt := ⟨by have := Int32.le_toInt x; omega, by have := Int32.toInt_lt x; omega⟩
theorem iI_in {i : Int} {n : Nat} (h0 : 0 ≤ i) (h : i < n) (hn : n < 2147483648) : vp_in (iI i) n := by
  rw [vp_in_iff, iI_toInt ⟨by omega, by omega⟩]
  exact ⟨h0, h⟩
theorem iI_cl {i : Int} (h0 : 0 ≤ i) (h : i ≤ 2147483647) : (iI i).toNatClampNeg = i.toNat := by
  rw [← Int32.toNat_toInt, iI_toInt ⟨by omega, h⟩]
theorem iI_nat {n : Nat} : Int32.ofNat n = iI (n : Int) := rfl
/-- an array's place changed -/
def updI (f : Int → Int) (k v : Int) : Int → Int := fun j => if j = k then v else f j
theorem updI_s {f : Int → Int} {k v : Int} : updI f k v k = v := if_pos rfl
theorem updI_n {f : Int → Int} {k v j : Int} (h : j ≠ k) : updI f k v j = f j := if_neg h
/-- an array of ints, by a function of whole numbers -/
def aI (f : Int → Int) : Nat → Int32 := fun j => iI (f (j : Int))
theorem aI_upd {f : Int → Int} {k v : Int} (h0 : 0 ≤ k) : upd (aI f) k.toNat (iI v) = aI (updI f k v) := by
  funext j
  unfold upd aI updI
  by_cases h : j = k.toNat
  · rw [if_pos h, if_pos (by omega)]
  · rw [if_neg h, if_neg (by omega)]
theorem aI_at {f : Int → Int} {k : Int} (h0 : 0 ≤ k) (h : k ≤ 2147483647) : aI f (iI k).toNatClampNeg = iI (f k) := by
  unfold aI
  rw [iI_cl h0 h, Int.toNat_of_nonneg h0]
/-- a bank: what a world's arrays and numbers hold -/
abbrev Bk : Type := Nat → Int → Int
def bu (x : Bk) (k : Nat) (f : Int → Int) : Bk := fun j => if j = k then f else x j
theorem bu_s {x : Bk} {k : Nat} {f : Int → Int} : bu x k f k = f := if_pos rfl
theorem bu_n {x : Bk} {k j : Nat} {f : Int → Int} (h : j ≠ k) : bu x k f j = x j := if_neg h
/-- locals by their places -/
def lvs (i : Nat) (v : Value) (lv : List (Nat × Value)) : List (Nat × Value) := lv.filter (fun q => decide (q.1 < i)) ++ (i, v) :: lv.filter (fun q => decide (i < q.1))
def lv1 (lv : List (Nat × Value)) : Bool := lv.all (fun q => q.2.category == 1)
theorem lvs_has {ls : Array Slot} {nL i : Nat} {v : Value} {lv : List (Nat × Value)} (h1 : lv1 lv = true) (h : lv_has ls nL ((i, v) :: lv.filter (fun q => !(q.1 == i) && !(q.1 + 1 == i && q.2.category == 2)))) : lv_has ls nL (lvs i v lv) := by
  refine ⟨h.1, h.2.1, fun q hq => h.2.2 q ?_⟩
  have key : ∀ q ∈ lv, q.1 ≠ i → q ∈ lv.filter (fun q => !(q.1 == i) && !(q.1 + 1 == i && q.2.category == 2)) := by
    intro q hq hne
    refine List.mem_filter.mpr ⟨hq, ?_⟩
    have hc : (q.2.category == 1) = true := List.all_eq_true.mp h1 q hq
    have hc' : q.2.category = 1 := by simpa using hc
    simp [hne, hc']
  unfold lvs at hq
  rcases List.mem_append.mp hq with h2 | h2
  · obtain ⟨h3, h4⟩ := List.mem_filter.mp h2
    exact List.mem_cons_of_mem _ (key q h3 (by have := of_decide_eq_true h4; omega))
  · rcases List.mem_cons.mp h2 with h2 | h2
    · rw [h2]; exact List.mem_cons_self
    · obtain ⟨h3, h4⟩ := List.mem_filter.mp h2
      exact List.mem_cons_of_mem _ (key q h3 (by have := of_decide_eq_true h4; omega))
section GB
variable {p : Program} {l : Launch} {e : Env} {R : Room} {s : State} {m : MethodId} {args : Array Value} {below : List Frame} {meth : Method} {c : Code} {cells slots : Nat} {Q : State → Prop}
variable {D : va_G} {cl : List vw_C} {tys : List (ClassId × FieldType)} {A : Nat → Prop} {cc : ByteArray} {nL base : Nat} {own : String} {Ts : List Cond} {Z : State → Prop}
variable {ws : va_W} {lv : List (Nat × Value)} {pc : Nat} {st : List Value}
/-- what stays through a method's walk -/
def gC (p : Program) (s : State) (m : MethodId) (args : Array Value) (meth : Method) (c : Code) (D : va_G) (cl : List vw_C) (tys : List (ClassId × FieldType)) (A : Nat → Prop) (cc : ByteArray) (nL : Nat) (own : String) (Ts : List Cond) (base : Nat) (Z : State → Prop) : Prop :=
  CallFix p m c cc nL s args Ts own ∧ va_K D cl tys s ∧ (∀ q : Nat, s.heap.size ≤ q → A q) ∧ (∀ q : Nat, A q → base ≤ q) ∧ base ≤ s.heap.size ∧ (∀ U : State, s.WarmedH U.vm → va_F A s U → Z U) ∧ meth.locks = false
/-- the walk, at a place of the code, with a world, the locals and the stack -/
def gW (p : Program) (l : Launch) (e : Env) (R : Room) (s : State) (m : MethodId) (args : Array Value) (below : List Frame) (meth : Method) (c : Code) (D : va_G) (cl : List vw_C) (A : Nat → Prop) (nL cells slots : Nat) (Q : State → Prop) (ws : va_W) (lv : List (Nat × Value)) (pc : Nat) (st : List Value) : Prop :=
  ∀ (H : Heap) (locs : List Loc) (ls : Array Slot), va_P D cl ws H → va_D A ws → va_S A s.heap H locs → lv_has ls nL lv → W p l e R s m args below meth c H locs cells slots Q (F0 m pc ls st)
theorem g_pc {pc' : Nat} (h : pc = pc') (k : gW p l e R s m args below meth c D cl A nL cells slots Q ws lv pc' st) : gW p l e R s m args below meth c D cl A nL cells slots Q ws lv pc st := h ▸ k
theorem g_ws {ws' : va_W} (h : ws = ws') (k : gW p l e R s m args below meth c D cl A nL cells slots Q ws' lv pc st) : gW p l e R s m args below meth c D cl A nL cells slots Q ws lv pc st := h ▸ k
theorem g_lv {lv' : List (Nat × Value)} (ks : List Nat) (h : lv_pick lv ks = lv') (k : gW p l e R s m args below meth c D cl A nL cells slots Q ws lv' pc st) : gW p l e R s m args below meth c D cl A nL cells slots Q ws lv pc st :=
  fun H locs ls hP hD hS hl => k H locs ls hP hD hS (lv_sub hl ks h)
theorem g_top {z z' : Int} (h : z = z') (k : gW p l e R s m args below meth c D cl A nL cells slots Q ws lv pc (.int (iI z') :: st)) : gW p l e R s m args below meth c D cl A nL cells slots Q ws lv pc (.int (iI z) :: st) := h ▸ k
theorem g_widen {k n : Nat} (h1 : cells ≤ k) (h2 : slots ≤ n) (kk : gW p l e R s m args below meth c D cl A nL k n Q ws lv pc st) : gW p l e R s m args below meth c D cl A nL cells slots Q ws lv pc st :=
  fun H locs ls hP hD hS hl => W.widen h1 h2 (kk H locs ls hP hD hS hl)
theorem g_iconst (C : gC p s m args meth c D cl tys A cc nL own Ts base Z) {n : Int} (hd : decode cc pc = .ok (.iconst n, 1)) (k : gW p l e R s m args below meth c D cl A nL cells slots Q ws lv (pc + 1) (.int (iI n) :: st)) : gW p l e R s m args below meth c D cl A nL cells slots Q ws lv pc st :=
  fun H locs ls hP hD hS hl => lv_iconst C.1.1 C.1.2.1 hd rfl (k H locs ls hP hD hS hl)
theorem g_bipush (C : gC p s m args meth c D cl tys A cc nL own Ts base Z) {n : Int} (hd : decode cc pc = .ok (.bipush n, 2)) (hv : (Int8.ofInt n).toInt32 = iI n) (k : gW p l e R s m args below meth c D cl A nL cells slots Q ws lv (pc + 2) (.int (iI n) :: st)) : gW p l e R s m args below meth c D cl A nL cells slots Q ws lv pc st :=
  fun H locs ls hP hD hS hl => lv_bipush C.1.1 C.1.2.1 hd hv (k H locs ls hP hD hS hl)
theorem g_sipush (C : gC p s m args meth c D cl tys A cc nL own Ts base Z) {n : Int} (hd : decode cc pc = .ok (.sipush n, 3)) (hv : (Int16.ofInt n).toInt32 = iI n) (k : gW p l e R s m args below meth c D cl A nL cells slots Q ws lv (pc + 3) (.int (iI n) :: st)) : gW p l e R s m args below meth c D cl A nL cells slots Q ws lv pc st :=
  fun H locs ls hP hD hS hl => lv_sipush C.1.1 C.1.2.1 hd hv (k H locs ls hP hD hS hl)
theorem g_ldc (C : gC p s m args meth c D cl tys A cc nL own Ts base Z) {n : Int} {index : Nat} (hd : decode cc pc = .ok (.ldc index, 2)) (hk : (Jvm.Cond.constant own index (iI n)).before args s = true) (k : gW p l e R s m args below meth c D cl A nL cells slots Q ws lv (pc + 2) (.int (iI n) :: st)) : gW p l e R s m args below meth c D cl A nL cells slots Q ws lv pc st :=
  fun H locs ls hP hD hS hl => lv_ldc C.1.1 C.1.2.1 C.1.2.2.2.1 hk hd (k H locs ls hP hD hS hl)
theorem g_iload_n (C : gC p s m args meth c D cl tys A cc nL own Ts base Z) {j : Fin 4} {i q : Nat} {x : Int32} (hd : decode cc pc = .ok (.iload_n j, 1)) (hi : (j : Nat) = i) (hq : lv[q]? = some (i, .int x)) (k : gW p l e R s m args below meth c D cl A nL cells slots Q ws lv (pc + 1) (.int x :: st)) : gW p l e R s m args below meth c D cl A nL cells slots Q ws lv pc st :=
  fun H locs ls hP hD hS hl => lv_iload_n C.1.1 C.1.2.1 hd hi (lv_at hl q hq) (k H locs ls hP hD hS hl)
theorem g_iload (C : gC p s m args meth c D cl tys A cc nL own Ts base Z) {i q : Nat} {x : Int32} (hd : decode cc pc = .ok (.iload i, 2)) (hq : lv[q]? = some (i, .int x)) (k : gW p l e R s m args below meth c D cl A nL cells slots Q ws lv (pc + 2) (.int x :: st)) : gW p l e R s m args below meth c D cl A nL cells slots Q ws lv pc st :=
  fun H locs ls hP hD hS hl => lv_iload C.1.1 C.1.2.1 hd (lv_at hl q hq) (k H locs ls hP hD hS hl)
theorem g_aload_n (C : gC p s m args meth c D cl tys A cc nL own Ts base Z) {j : Fin 4} {i q : Nat} {x : Nat} (hd : decode cc pc = .ok (.aload_n j, 1)) (hi : (j : Nat) = i) (hq : lv[q]? = some (i, .ref x)) (k : gW p l e R s m args below meth c D cl A nL cells slots Q ws lv (pc + 1) (.ref x :: st)) : gW p l e R s m args below meth c D cl A nL cells slots Q ws lv pc st :=
  fun H locs ls hP hD hS hl => lv_aload_n C.1.1 C.1.2.1 hd hi (lv_at hl q hq) (k H locs ls hP hD hS hl)
theorem g_aload (C : gC p s m args meth c D cl tys A cc nL own Ts base Z) {i q : Nat} {x : Nat} (hd : decode cc pc = .ok (.aload i, 2)) (hq : lv[q]? = some (i, .ref x)) (k : gW p l e R s m args below meth c D cl A nL cells slots Q ws lv (pc + 2) (.ref x :: st)) : gW p l e R s m args below meth c D cl A nL cells slots Q ws lv pc st :=
  fun H locs ls hP hD hS hl => lv_aload C.1.1 C.1.2.1 hd (lv_at hl q hq) (k H locs ls hP hD hS hl)
theorem g_istore_n (C : gC p s m args meth c D cl tys A cc nL own Ts base Z) {j : Fin 4} {i : Nat} {x : Int32} {lv' : List (Nat × Value)} (hd : decode cc pc = .ok (.istore_n j, 1)) (hi : (j : Nat) = i) (hn : i < nL) (h1 : lv1 lv = true) (hl' : lvs i (.int x) lv = lv') (k : gW p l e R s m args below meth c D cl A nL cells slots Q ws lv' (pc + 1) st) : gW p l e R s m args below meth c D cl A nL cells slots Q ws lv pc (.int x :: st) :=
  fun H locs _ hP hD hS hl => lv_istore_n C.1.1 C.1.2.1 hd hi hl hn rfl (fun ls' h => k H locs ls' hP hD hS (hl' ▸ lvs_has h1 h))
theorem g_istore (C : gC p s m args meth c D cl tys A cc nL own Ts base Z) {i : Nat} {x : Int32} {lv' : List (Nat × Value)} (hd : decode cc pc = .ok (.istore i, 2)) (hn : i < nL) (h1 : lv1 lv = true) (hl' : lvs i (.int x) lv = lv') (k : gW p l e R s m args below meth c D cl A nL cells slots Q ws lv' (pc + 2) st) : gW p l e R s m args below meth c D cl A nL cells slots Q ws lv pc (.int x :: st) :=
  fun H locs _ hP hD hS hl => lv_istore C.1.1 C.1.2.1 hd hl hn rfl (fun ls' h => k H locs ls' hP hD hS (hl' ▸ lvs_has h1 h))
theorem g_astore_n (C : gC p s m args meth c D cl tys A cc nL own Ts base Z) {j : Fin 4} {i : Nat} {x : Nat} {lv' : List (Nat × Value)} (hd : decode cc pc = .ok (.astore_n j, 1)) (hi : (j : Nat) = i) (hn : i < nL) (h1 : lv1 lv = true) (hl' : lvs i (.ref x) lv = lv') (k : gW p l e R s m args below meth c D cl A nL cells slots Q ws lv' (pc + 1) st) : gW p l e R s m args below meth c D cl A nL cells slots Q ws lv pc (.ref x :: st) :=
  fun H locs _ hP hD hS hl => lv_astore_n C.1.1 C.1.2.1 hd hi hl hn rfl (fun ls' h => k H locs ls' hP hD hS (hl' ▸ lvs_has h1 h))
theorem g_astore (C : gC p s m args meth c D cl tys A cc nL own Ts base Z) {i : Nat} {x : Nat} {lv' : List (Nat × Value)} (hd : decode cc pc = .ok (.astore i, 2)) (hn : i < nL) (h1 : lv1 lv = true) (hl' : lvs i (.ref x) lv = lv') (k : gW p l e R s m args below meth c D cl A nL cells slots Q ws lv' (pc + 2) st) : gW p l e R s m args below meth c D cl A nL cells slots Q ws lv pc (.ref x :: st) :=
  fun H locs _ hP hD hS hl => lv_astore C.1.1 C.1.2.1 hd hl hn rfl (fun ls' h => k H locs ls' hP hD hS (hl' ▸ lvs_has h1 h))
theorem g_iinc (C : gC p s m args meth c D cl tys A cc nL own Ts base Z) {i q : Nat} {n z : Int} {lv' : List (Nat × Value)} (hd : decode cc pc = .ok (.iinc i n, 3)) (hq : lv[q]? = some (i, .int (iI z))) (hn : i < nL) (h1 : lv1 lv = true) (hl' : lvs i (.int (iI (z + n))) lv = lv') (k : gW p l e R s m args below meth c D cl A nL cells slots Q ws lv' (pc + 3) st) : gW p l e R s m args below meth c D cl A nL cells slots Q ws lv pc st :=
  fun H locs _ hP hD hS hl => lv_iinc C.1.1 C.1.2.1 hd hl hq (iI_add z n) hn rfl (fun ls' h => k H locs ls' hP hD hS (hl' ▸ lvs_has h1 h))
theorem g_dup (C : gC p s m args meth c D cl tys A cc nL own Ts base Z) {v : Value} (hd : decode cc pc = .ok (.dup, 1)) (hv : v.category = 1) (k : gW p l e R s m args below meth c D cl A nL cells slots Q ws lv (pc + 1) (v :: v :: st)) : gW p l e R s m args below meth c D cl A nL cells slots Q ws lv pc (v :: st) :=
  fun H locs ls hP hD hS hl => lv_dup C.1.1 C.1.2.1 hd hv (k H locs ls hP hD hS hl)
theorem g_pop (C : gC p s m args meth c D cl tys A cc nL own Ts base Z) {v : Value} (hd : decode cc pc = .ok (.pop, 1)) (hv : v.category = 1) (k : gW p l e R s m args below meth c D cl A nL cells slots Q ws lv (pc + 1) st) : gW p l e R s m args below meth c D cl A nL cells slots Q ws lv pc (v :: st) :=
  fun H locs ls hP hD hS hl => lv_pop C.1.1 C.1.2.1 hd hv (k H locs ls hP hD hS hl)
theorem g_iadd (C : gC p s m args meth c D cl tys A cc nL own Ts base Z) {a b : Int} (hd : decode cc pc = .ok (.iadd, 1)) (k : gW p l e R s m args below meth c D cl A nL cells slots Q ws lv (pc + 1) (.int (iI (a + b)) :: st)) : gW p l e R s m args below meth c D cl A nL cells slots Q ws lv pc (.int (iI b) :: .int (iI a) :: st) :=
  fun H locs ls hP hD hS hl => lv_iadd C.1.1 C.1.2.1 hd (by rw [iI_add]; exact k H locs ls hP hD hS hl)
theorem g_isub (C : gC p s m args meth c D cl tys A cc nL own Ts base Z) {a b : Int} (hd : decode cc pc = .ok (.isub, 1)) (k : gW p l e R s m args below meth c D cl A nL cells slots Q ws lv (pc + 1) (.int (iI (a - b)) :: st)) : gW p l e R s m args below meth c D cl A nL cells slots Q ws lv pc (.int (iI b) :: .int (iI a) :: st) :=
  fun H locs ls hP hD hS hl => lv_isub C.1.1 C.1.2.1 hd (by rw [iI_sub]; exact k H locs ls hP hD hS hl)
theorem g_imul (C : gC p s m args meth c D cl tys A cc nL own Ts base Z) {a b : Int} (hd : decode cc pc = .ok (.imul, 1)) (k : gW p l e R s m args below meth c D cl A nL cells slots Q ws lv (pc + 1) (.int (iI (a * b)) :: st)) : gW p l e R s m args below meth c D cl A nL cells slots Q ws lv pc (.int (iI b) :: .int (iI a) :: st) :=
  fun H locs ls hP hD hS hl => lv_imul C.1.1 C.1.2.1 hd (by rw [iI_mul]; exact k H locs ls hP hD hS hl)
theorem g_goto (C : gC p s m args meth c D cl tys A cc nL own Ts base Z) {off : Int} {tgt : Nat} (hd : decode cc pc = .ok (.goto off, 3)) (ht : (pc : Int) + off = (tgt : Int)) (k : gW p l e R s m args below meth c D cl A nL cells slots Q ws lv tgt st) : gW p l e R s m args below meth c D cl A nL cells slots Q ws lv pc st :=
  fun H locs ls hP hD hS hl => lv_goto C.1.1 C.1.2.1 hd ht (k H locs ls hP hD hS hl)
theorem g_icmp_eq (C : gC p s m args meth c D cl tys A cc nL own Ts base Z) {a b : Int} {off : Int} {tgt : Nat} (hd : decode cc pc = .ok (.if_icmp .eq off, 3)) (ht : (pc : Int) + off = (tgt : Int)) (ha : InR a) (hb : InR b) (kt : a = b → gW p l e R s m args below meth c D cl A nL cells slots Q ws lv tgt st) (kf : ¬ a = b → gW p l e R s m args below meth c D cl A nL cells slots Q ws lv (pc + 3) st) : gW p l e R s m args below meth c D cl A nL cells slots Q ws lv pc (.int (iI b) :: .int (iI a) :: st) :=
  fun H locs ls hP hD hS hl => lv_icmp_eq C.1.1 C.1.2.1 hd ht (fun h => kt (by first | exact (iI_eq ha hb).mp h | exact (iI_lt ha hb).mp h | exact (iI_le ha hb).mp h | exact (iI_lt hb ha).mp h | exact (iI_le hb ha).mp h | exact fun q => h ((iI_eq ha hb).mpr q)) H locs ls hP hD hS hl) (fun h => kf (by first | exact (iI_eq ha hb).mp h | exact Classical.byContradiction fun q => h fun z => q ((iI_eq ha hb).mp z) | exact fun q => h ((iI_eq ha hb).mpr q) | exact Int.not_lt.mp fun q => h ((iI_lt ha hb).mpr q) | exact Int.not_le.mp fun q => h ((iI_le ha hb).mpr q) | exact Int.not_lt.mp fun q => h ((iI_lt hb ha).mpr q) | exact Int.not_le.mp fun q => h ((iI_le hb ha).mpr q)) H locs ls hP hD hS hl)
theorem g_if_eq (C : gC p s m args meth c D cl tys A cc nL own Ts base Z) {a : Int} {off : Int} {tgt : Nat} (hd : decode cc pc = .ok (.ifCond .eq off, 3)) (ht : (pc : Int) + off = (tgt : Int)) (ha : InR a) (kt : a = 0 → gW p l e R s m args below meth c D cl A nL cells slots Q ws lv tgt st) (kf : ¬ a = 0 → gW p l e R s m args below meth c D cl A nL cells slots Q ws lv (pc + 3) st) : gW p l e R s m args below meth c D cl A nL cells slots Q ws lv pc (.int (iI a) :: st) := by
  have hb := InR_0
  exact fun H locs ls hP hD hS hl => lv_if_eq C.1.1 C.1.2.1 hd ht (fun h => kt (by first | exact (iI_eq ha hb).mp h | exact (iI_lt ha hb).mp h | exact (iI_le ha hb).mp h | exact (iI_lt hb ha).mp h | exact (iI_le hb ha).mp h | exact fun q => h ((iI_eq ha hb).mpr q)) H locs ls hP hD hS hl) (fun h => kf (by first | exact (iI_eq ha hb).mp h | exact Classical.byContradiction fun q => h fun z => q ((iI_eq ha hb).mp z) | exact fun q => h ((iI_eq ha hb).mpr q) | exact Int.not_lt.mp fun q => h ((iI_lt ha hb).mpr q) | exact Int.not_le.mp fun q => h ((iI_le ha hb).mpr q) | exact Int.not_lt.mp fun q => h ((iI_lt hb ha).mpr q) | exact Int.not_le.mp fun q => h ((iI_le hb ha).mpr q)) H locs ls hP hD hS hl)
theorem g_icmp_ne (C : gC p s m args meth c D cl tys A cc nL own Ts base Z) {a b : Int} {off : Int} {tgt : Nat} (hd : decode cc pc = .ok (.if_icmp .ne off, 3)) (ht : (pc : Int) + off = (tgt : Int)) (ha : InR a) (hb : InR b) (kt : ¬ a = b → gW p l e R s m args below meth c D cl A nL cells slots Q ws lv tgt st) (kf : a = b → gW p l e R s m args below meth c D cl A nL cells slots Q ws lv (pc + 3) st) : gW p l e R s m args below meth c D cl A nL cells slots Q ws lv pc (.int (iI b) :: .int (iI a) :: st) :=
  fun H locs ls hP hD hS hl => lv_icmp_ne C.1.1 C.1.2.1 hd ht (fun h => kt (by first | exact (iI_eq ha hb).mp h | exact (iI_lt ha hb).mp h | exact (iI_le ha hb).mp h | exact (iI_lt hb ha).mp h | exact (iI_le hb ha).mp h | exact fun q => h ((iI_eq ha hb).mpr q)) H locs ls hP hD hS hl) (fun h => kf (by first | exact (iI_eq ha hb).mp h | exact Classical.byContradiction fun q => h fun z => q ((iI_eq ha hb).mp z) | exact fun q => h ((iI_eq ha hb).mpr q) | exact Int.not_lt.mp fun q => h ((iI_lt ha hb).mpr q) | exact Int.not_le.mp fun q => h ((iI_le ha hb).mpr q) | exact Int.not_lt.mp fun q => h ((iI_lt hb ha).mpr q) | exact Int.not_le.mp fun q => h ((iI_le hb ha).mpr q)) H locs ls hP hD hS hl)
theorem g_if_ne (C : gC p s m args meth c D cl tys A cc nL own Ts base Z) {a : Int} {off : Int} {tgt : Nat} (hd : decode cc pc = .ok (.ifCond .ne off, 3)) (ht : (pc : Int) + off = (tgt : Int)) (ha : InR a) (kt : ¬ a = 0 → gW p l e R s m args below meth c D cl A nL cells slots Q ws lv tgt st) (kf : a = 0 → gW p l e R s m args below meth c D cl A nL cells slots Q ws lv (pc + 3) st) : gW p l e R s m args below meth c D cl A nL cells slots Q ws lv pc (.int (iI a) :: st) := by
  have hb := InR_0
  exact fun H locs ls hP hD hS hl => lv_if_ne C.1.1 C.1.2.1 hd ht (fun h => kt (by first | exact (iI_eq ha hb).mp h | exact (iI_lt ha hb).mp h | exact (iI_le ha hb).mp h | exact (iI_lt hb ha).mp h | exact (iI_le hb ha).mp h | exact fun q => h ((iI_eq ha hb).mpr q)) H locs ls hP hD hS hl) (fun h => kf (by first | exact (iI_eq ha hb).mp h | exact Classical.byContradiction fun q => h fun z => q ((iI_eq ha hb).mp z) | exact fun q => h ((iI_eq ha hb).mpr q) | exact Int.not_lt.mp fun q => h ((iI_lt ha hb).mpr q) | exact Int.not_le.mp fun q => h ((iI_le ha hb).mpr q) | exact Int.not_lt.mp fun q => h ((iI_lt hb ha).mpr q) | exact Int.not_le.mp fun q => h ((iI_le hb ha).mpr q)) H locs ls hP hD hS hl)
theorem g_icmp_lt (C : gC p s m args meth c D cl tys A cc nL own Ts base Z) {a b : Int} {off : Int} {tgt : Nat} (hd : decode cc pc = .ok (.if_icmp .lt off, 3)) (ht : (pc : Int) + off = (tgt : Int)) (ha : InR a) (hb : InR b) (kt : a < b → gW p l e R s m args below meth c D cl A nL cells slots Q ws lv tgt st) (kf : b ≤ a → gW p l e R s m args below meth c D cl A nL cells slots Q ws lv (pc + 3) st) : gW p l e R s m args below meth c D cl A nL cells slots Q ws lv pc (.int (iI b) :: .int (iI a) :: st) :=
  fun H locs ls hP hD hS hl => lv_icmp_lt C.1.1 C.1.2.1 hd ht (fun h => kt (by first | exact (iI_eq ha hb).mp h | exact (iI_lt ha hb).mp h | exact (iI_le ha hb).mp h | exact (iI_lt hb ha).mp h | exact (iI_le hb ha).mp h | exact fun q => h ((iI_eq ha hb).mpr q)) H locs ls hP hD hS hl) (fun h => kf (by first | exact (iI_eq ha hb).mp h | exact Classical.byContradiction fun q => h fun z => q ((iI_eq ha hb).mp z) | exact fun q => h ((iI_eq ha hb).mpr q) | exact Int.not_lt.mp fun q => h ((iI_lt ha hb).mpr q) | exact Int.not_le.mp fun q => h ((iI_le ha hb).mpr q) | exact Int.not_lt.mp fun q => h ((iI_lt hb ha).mpr q) | exact Int.not_le.mp fun q => h ((iI_le hb ha).mpr q)) H locs ls hP hD hS hl)
theorem g_if_lt (C : gC p s m args meth c D cl tys A cc nL own Ts base Z) {a : Int} {off : Int} {tgt : Nat} (hd : decode cc pc = .ok (.ifCond .lt off, 3)) (ht : (pc : Int) + off = (tgt : Int)) (ha : InR a) (kt : a < 0 → gW p l e R s m args below meth c D cl A nL cells slots Q ws lv tgt st) (kf : 0 ≤ a → gW p l e R s m args below meth c D cl A nL cells slots Q ws lv (pc + 3) st) : gW p l e R s m args below meth c D cl A nL cells slots Q ws lv pc (.int (iI a) :: st) := by
  have hb := InR_0
  exact fun H locs ls hP hD hS hl => lv_if_lt C.1.1 C.1.2.1 hd ht (fun h => kt (by first | exact (iI_eq ha hb).mp h | exact (iI_lt ha hb).mp h | exact (iI_le ha hb).mp h | exact (iI_lt hb ha).mp h | exact (iI_le hb ha).mp h | exact fun q => h ((iI_eq ha hb).mpr q)) H locs ls hP hD hS hl) (fun h => kf (by first | exact (iI_eq ha hb).mp h | exact Classical.byContradiction fun q => h fun z => q ((iI_eq ha hb).mp z) | exact fun q => h ((iI_eq ha hb).mpr q) | exact Int.not_lt.mp fun q => h ((iI_lt ha hb).mpr q) | exact Int.not_le.mp fun q => h ((iI_le ha hb).mpr q) | exact Int.not_lt.mp fun q => h ((iI_lt hb ha).mpr q) | exact Int.not_le.mp fun q => h ((iI_le hb ha).mpr q)) H locs ls hP hD hS hl)
theorem g_icmp_ge (C : gC p s m args meth c D cl tys A cc nL own Ts base Z) {a b : Int} {off : Int} {tgt : Nat} (hd : decode cc pc = .ok (.if_icmp .ge off, 3)) (ht : (pc : Int) + off = (tgt : Int)) (ha : InR a) (hb : InR b) (kt : b ≤ a → gW p l e R s m args below meth c D cl A nL cells slots Q ws lv tgt st) (kf : a < b → gW p l e R s m args below meth c D cl A nL cells slots Q ws lv (pc + 3) st) : gW p l e R s m args below meth c D cl A nL cells slots Q ws lv pc (.int (iI b) :: .int (iI a) :: st) :=
  fun H locs ls hP hD hS hl => lv_icmp_ge C.1.1 C.1.2.1 hd ht (fun h => kt (by first | exact (iI_eq ha hb).mp h | exact (iI_lt ha hb).mp h | exact (iI_le ha hb).mp h | exact (iI_lt hb ha).mp h | exact (iI_le hb ha).mp h | exact fun q => h ((iI_eq ha hb).mpr q)) H locs ls hP hD hS hl) (fun h => kf (by first | exact (iI_eq ha hb).mp h | exact Classical.byContradiction fun q => h fun z => q ((iI_eq ha hb).mp z) | exact fun q => h ((iI_eq ha hb).mpr q) | exact Int.not_lt.mp fun q => h ((iI_lt ha hb).mpr q) | exact Int.not_le.mp fun q => h ((iI_le ha hb).mpr q) | exact Int.not_lt.mp fun q => h ((iI_lt hb ha).mpr q) | exact Int.not_le.mp fun q => h ((iI_le hb ha).mpr q)) H locs ls hP hD hS hl)
theorem g_if_ge (C : gC p s m args meth c D cl tys A cc nL own Ts base Z) {a : Int} {off : Int} {tgt : Nat} (hd : decode cc pc = .ok (.ifCond .ge off, 3)) (ht : (pc : Int) + off = (tgt : Int)) (ha : InR a) (kt : 0 ≤ a → gW p l e R s m args below meth c D cl A nL cells slots Q ws lv tgt st) (kf : a < 0 → gW p l e R s m args below meth c D cl A nL cells slots Q ws lv (pc + 3) st) : gW p l e R s m args below meth c D cl A nL cells slots Q ws lv pc (.int (iI a) :: st) := by
  have hb := InR_0
  exact fun H locs ls hP hD hS hl => lv_if_ge C.1.1 C.1.2.1 hd ht (fun h => kt (by first | exact (iI_eq ha hb).mp h | exact (iI_lt ha hb).mp h | exact (iI_le ha hb).mp h | exact (iI_lt hb ha).mp h | exact (iI_le hb ha).mp h | exact fun q => h ((iI_eq ha hb).mpr q)) H locs ls hP hD hS hl) (fun h => kf (by first | exact (iI_eq ha hb).mp h | exact Classical.byContradiction fun q => h fun z => q ((iI_eq ha hb).mp z) | exact fun q => h ((iI_eq ha hb).mpr q) | exact Int.not_lt.mp fun q => h ((iI_lt ha hb).mpr q) | exact Int.not_le.mp fun q => h ((iI_le ha hb).mpr q) | exact Int.not_lt.mp fun q => h ((iI_lt hb ha).mpr q) | exact Int.not_le.mp fun q => h ((iI_le hb ha).mpr q)) H locs ls hP hD hS hl)
theorem g_icmp_gt (C : gC p s m args meth c D cl tys A cc nL own Ts base Z) {a b : Int} {off : Int} {tgt : Nat} (hd : decode cc pc = .ok (.if_icmp .gt off, 3)) (ht : (pc : Int) + off = (tgt : Int)) (ha : InR a) (hb : InR b) (kt : b < a → gW p l e R s m args below meth c D cl A nL cells slots Q ws lv tgt st) (kf : a ≤ b → gW p l e R s m args below meth c D cl A nL cells slots Q ws lv (pc + 3) st) : gW p l e R s m args below meth c D cl A nL cells slots Q ws lv pc (.int (iI b) :: .int (iI a) :: st) :=
  fun H locs ls hP hD hS hl => lv_icmp_gt C.1.1 C.1.2.1 hd ht (fun h => kt (by first | exact (iI_eq ha hb).mp h | exact (iI_lt ha hb).mp h | exact (iI_le ha hb).mp h | exact (iI_lt hb ha).mp h | exact (iI_le hb ha).mp h | exact fun q => h ((iI_eq ha hb).mpr q)) H locs ls hP hD hS hl) (fun h => kf (by first | exact (iI_eq ha hb).mp h | exact Classical.byContradiction fun q => h fun z => q ((iI_eq ha hb).mp z) | exact fun q => h ((iI_eq ha hb).mpr q) | exact Int.not_lt.mp fun q => h ((iI_lt ha hb).mpr q) | exact Int.not_le.mp fun q => h ((iI_le ha hb).mpr q) | exact Int.not_lt.mp fun q => h ((iI_lt hb ha).mpr q) | exact Int.not_le.mp fun q => h ((iI_le hb ha).mpr q)) H locs ls hP hD hS hl)
theorem g_if_gt (C : gC p s m args meth c D cl tys A cc nL own Ts base Z) {a : Int} {off : Int} {tgt : Nat} (hd : decode cc pc = .ok (.ifCond .gt off, 3)) (ht : (pc : Int) + off = (tgt : Int)) (ha : InR a) (kt : 0 < a → gW p l e R s m args below meth c D cl A nL cells slots Q ws lv tgt st) (kf : a ≤ 0 → gW p l e R s m args below meth c D cl A nL cells slots Q ws lv (pc + 3) st) : gW p l e R s m args below meth c D cl A nL cells slots Q ws lv pc (.int (iI a) :: st) := by
  have hb := InR_0
  exact fun H locs ls hP hD hS hl => lv_if_gt C.1.1 C.1.2.1 hd ht (fun h => kt (by first | exact (iI_eq ha hb).mp h | exact (iI_lt ha hb).mp h | exact (iI_le ha hb).mp h | exact (iI_lt hb ha).mp h | exact (iI_le hb ha).mp h | exact fun q => h ((iI_eq ha hb).mpr q)) H locs ls hP hD hS hl) (fun h => kf (by first | exact (iI_eq ha hb).mp h | exact Classical.byContradiction fun q => h fun z => q ((iI_eq ha hb).mp z) | exact fun q => h ((iI_eq ha hb).mpr q) | exact Int.not_lt.mp fun q => h ((iI_lt ha hb).mpr q) | exact Int.not_le.mp fun q => h ((iI_le ha hb).mpr q) | exact Int.not_lt.mp fun q => h ((iI_lt hb ha).mpr q) | exact Int.not_le.mp fun q => h ((iI_le hb ha).mpr q)) H locs ls hP hD hS hl)
theorem g_icmp_le (C : gC p s m args meth c D cl tys A cc nL own Ts base Z) {a b : Int} {off : Int} {tgt : Nat} (hd : decode cc pc = .ok (.if_icmp .le off, 3)) (ht : (pc : Int) + off = (tgt : Int)) (ha : InR a) (hb : InR b) (kt : a ≤ b → gW p l e R s m args below meth c D cl A nL cells slots Q ws lv tgt st) (kf : b < a → gW p l e R s m args below meth c D cl A nL cells slots Q ws lv (pc + 3) st) : gW p l e R s m args below meth c D cl A nL cells slots Q ws lv pc (.int (iI b) :: .int (iI a) :: st) :=
  fun H locs ls hP hD hS hl => lv_icmp_le C.1.1 C.1.2.1 hd ht (fun h => kt (by first | exact (iI_eq ha hb).mp h | exact (iI_lt ha hb).mp h | exact (iI_le ha hb).mp h | exact (iI_lt hb ha).mp h | exact (iI_le hb ha).mp h | exact fun q => h ((iI_eq ha hb).mpr q)) H locs ls hP hD hS hl) (fun h => kf (by first | exact (iI_eq ha hb).mp h | exact Classical.byContradiction fun q => h fun z => q ((iI_eq ha hb).mp z) | exact fun q => h ((iI_eq ha hb).mpr q) | exact Int.not_lt.mp fun q => h ((iI_lt ha hb).mpr q) | exact Int.not_le.mp fun q => h ((iI_le ha hb).mpr q) | exact Int.not_lt.mp fun q => h ((iI_lt hb ha).mpr q) | exact Int.not_le.mp fun q => h ((iI_le hb ha).mpr q)) H locs ls hP hD hS hl)
theorem g_if_le (C : gC p s m args meth c D cl tys A cc nL own Ts base Z) {a : Int} {off : Int} {tgt : Nat} (hd : decode cc pc = .ok (.ifCond .le off, 3)) (ht : (pc : Int) + off = (tgt : Int)) (ha : InR a) (kt : a ≤ 0 → gW p l e R s m args below meth c D cl A nL cells slots Q ws lv tgt st) (kf : 0 < a → gW p l e R s m args below meth c D cl A nL cells slots Q ws lv (pc + 3) st) : gW p l e R s m args below meth c D cl A nL cells slots Q ws lv pc (.int (iI a) :: st) := by
  have hb := InR_0
  exact fun H locs ls hP hD hS hl => lv_if_le C.1.1 C.1.2.1 hd ht (fun h => kt (by first | exact (iI_eq ha hb).mp h | exact (iI_lt ha hb).mp h | exact (iI_le ha hb).mp h | exact (iI_lt hb ha).mp h | exact (iI_le hb ha).mp h | exact fun q => h ((iI_eq ha hb).mpr q)) H locs ls hP hD hS hl) (fun h => kf (by first | exact (iI_eq ha hb).mp h | exact Classical.byContradiction fun q => h fun z => q ((iI_eq ha hb).mp z) | exact fun q => h ((iI_eq ha hb).mpr q) | exact Int.not_lt.mp fun q => h ((iI_lt ha hb).mpr q) | exact Int.not_le.mp fun q => h ((iI_le ha hb).mpr q) | exact Int.not_lt.mp fun q => h ((iI_lt hb ha).mpr q) | exact Int.not_le.mp fun q => h ((iI_le hb ha).mpr q)) H locs ls hP hD hS hl)
theorem gC.z (C : gC p s m args meth c D cl tys A cc nL own Ts base Z) : Z s := C.2.2.2.2.2.1 s (State.WarmedH.refl s) ⟨Nat.le_refl _, fun _ _ _ => rfl⟩
theorem g_get (C : gC p s m args meth c D cl tys A cc nL own Ts base Z) {ref Cn : String} {T : u_T} {N ci index a : Nat} {fs : List Value} {v : Value} (q0 k : Nat) (hin : ∀ w ∈ u_ws Cn T N, w ∈ Ts) (hlink : Cond.fieldLink own index ref (T k).2.1 (T k).2.2.1 ∈ Ts) (he : ws[q0]? = some (a, .inr (ci, fs))) (hc : cl[ci]? = some (Cn, T, N)) (hk : k < N) (hsame : (T k).1 = ref) (hv : fs[k]? = some v) (hd : decode cc pc = .ok (.getfield index, 3)) (kk : gW p l e R s m args below meth c D cl A nL cells slots Q ws lv (pc + 3) (v :: st)) : gW p l e R s m args below meth c D cl A nL cells slots Q ws lv pc (.ref a :: st) :=
  fun H locs ls hP hD hS hl => va_get C.1.1 C.1.2.1 C.1.2.2.2.2 hin C.1.2.2.2.1 C.2.1 hP q0 he hc k hk (C.1.2.2.2.2 _ hlink) (fun _ h => hsame ▸ h) hv hd (kk H locs ls hP hD hS hl)
theorem g_getN (C : gC p s m args meth c D cl tys A cc nL own Ts base Z) {ref Cn host : String} {T : u_T} {N ci index a : Nat} {fs : List Value} {v : Value} (q0 k : Nat) (hin : ∀ w ∈ u_ws Cn T N, w ∈ Ts) (hz : va_Nw (Cond.fieldLinkNest own index ref (T k).2.1 (T k).2.2.1 host) s) (he : ws[q0]? = some (a, .inr (ci, fs))) (hc : cl[ci]? = some (Cn, T, N)) (hk : k < N) (hsame : (T k).1 = ref) (hv : fs[k]? = some v) (hd : decode cc pc = .ok (.getfield index, 3)) (kk : gW p l e R s m args below meth c D cl A nL cells slots Q ws lv (pc + 3) (v :: st)) : gW p l e R s m args below meth c D cl A nL cells slots Q ws lv pc (.ref a :: st) :=
  fun H locs ls hP hD hS hl => va_getN C.1.1 C.1.2.1 C.1.2.2.2.2 hin C.1.2.2.2.1 C.2.1 hP q0 he hc k hk (va_Nw.use rfl hz) (fun _ h => hsame ▸ h) hv hd (kk H locs ls hP hD hS hl)
theorem g_put (C : gC p s m args meth c D cl tys A cc nL own Ts base Z) {ref Cn : String} {T : u_T} {N ci index a : Nat} {fs : List Value} {v : Value} {ty : FieldType} {ws' : va_W} (q0 k : Nat) (ty0 : Nat → FieldType) (hty : ∀ k, k < N → parseFieldDescriptor (T k).2.2.1 = some (ty0 k)) (hnm : ∀ a, a < N → ∀ b, b < N → a ≠ b → (T a).2.1 ≠ (T b).2.1) (hin : ∀ w ∈ u_ws Cn T N, w ∈ Ts) (hlink : Cond.fieldLink own index ref (T k).2.1 (T k).2.2.1 ∈ Ts) (he : ws[q0]? = some (a, .inr (ci, fs))) (hc : cl[ci]? = some (Cn, T, N)) (hk : k < N) (hsame : (T k).1 = ref) (hfin : (T k).2.2.2 = false) (hpd : parseFieldDescriptor (T k).2.2.1 = some ty) (hn : narrow ty v = v) (hfit : fits ty v = true) (hlen : k < fs.length) (hd : decode cc pc = .ok (.putfield index, 3)) (hw : ws.set q0 (a, .inr (ci, fs.set k v)) = ws') (kk : gW p l e R s m args below meth c D cl A nL cells slots Q ws' lv (pc + 3) st) : gW p l e R s m args below meth c D cl A nL cells slots Q ws lv pc (v :: .ref a :: st) := by
  subst hw
  exact fun H locs ls hP hD hS hl => va_put C.1.1 C.1.2.1 C.1.2.2.2.2 hin ty0 hty hnm C.1.2.2.2.1 C.2.1 hP hD hS q0 he hc k hk (C.1.2.2.2.2 _ hlink) (fun _ h => hsame ▸ h) hfin hpd hn hfit hlen hd (fun H1 locs1 hP1 hD1 hS1 => kk H1 locs1 ls hP1 hD1 hS1 hl)
theorem g_putN (C : gC p s m args meth c D cl tys A cc nL own Ts base Z) {ref Cn host : String} {T : u_T} {N ci index a : Nat} {fs : List Value} {v : Value} {ty : FieldType} {ws' : va_W} (q0 k : Nat) (ty0 : Nat → FieldType) (hty : ∀ k, k < N → parseFieldDescriptor (T k).2.2.1 = some (ty0 k)) (hnm : ∀ a, a < N → ∀ b, b < N → a ≠ b → (T a).2.1 ≠ (T b).2.1) (hin : ∀ w ∈ u_ws Cn T N, w ∈ Ts) (hz : va_Nw (Cond.fieldLinkNest own index ref (T k).2.1 (T k).2.2.1 host) s) (he : ws[q0]? = some (a, .inr (ci, fs))) (hc : cl[ci]? = some (Cn, T, N)) (hk : k < N) (hsame : (T k).1 = ref) (hfin : (T k).2.2.2 = false) (hpd : parseFieldDescriptor (T k).2.2.1 = some ty) (hn : narrow ty v = v) (hfit : fits ty v = true) (hlen : k < fs.length) (hd : decode cc pc = .ok (.putfield index, 3)) (hw : ws.set q0 (a, .inr (ci, fs.set k v)) = ws') (kk : gW p l e R s m args below meth c D cl A nL cells slots Q ws' lv (pc + 3) st) : gW p l e R s m args below meth c D cl A nL cells slots Q ws lv pc (v :: .ref a :: st) := by
  subst hw
  exact fun H locs ls hP hD hS hl => va_putN C.1.1 C.1.2.1 C.1.2.2.2.2 hin ty0 hty hnm C.1.2.2.2.1 C.2.1 hP hD hS q0 he hc k hk (va_Nw.use rfl hz) (fun _ h => hsame ▸ h) hfin hpd hn hfit hlen hd (fun H1 locs1 hP1 hD1 hS1 => kk H1 locs1 ls hP1 hD1 hS1 hl)
theorem g_putF (C : gC p s m args meth c D cl tys A cc nL own Ts base Z) {ref Cn : String} {T : u_T} {N ci index a : Nat} {fs : List Value} {v : Value} {ty : FieldType} {ws' : va_W} (hin2 : meth.name = "<init>") (q0 k : Nat) (ty0 : Nat → FieldType) (hty : ∀ k, k < N → parseFieldDescriptor (T k).2.2.1 = some (ty0 k)) (hnm : ∀ a, a < N → ∀ b, b < N → a ≠ b → (T a).2.1 ≠ (T b).2.1) (hin : ∀ w ∈ u_ws Cn T N, w ∈ Ts) (hlink : Cond.fieldLink own index ref (T k).2.1 (T k).2.2.1 ∈ Ts) (he : ws[q0]? = some (a, .inr (ci, fs))) (hc : cl[ci]? = some (Cn, T, N)) (hk : k < N) (hsame : (T k).1 = ref) (hfin : (T k).2.2.2 = true) (hdecl : (T k).1 = own) (hpd : parseFieldDescriptor (T k).2.2.1 = some ty) (hn : narrow ty v = v) (hfit : fits ty v = true) (hlen : k < fs.length) (hd : decode cc pc = .ok (.putfield index, 3)) (hw : ws.set q0 (a, .inr (ci, fs.set k v)) = ws') (kk : gW p l e R s m args below meth c D cl A nL cells slots Q ws' lv (pc + 3) st) : gW p l e R s m args below meth c D cl A nL cells slots Q ws lv pc (v :: .ref a :: st) := by
  subst hw
  exact fun H locs ls hP hD hS hl => va_putF C.1.1 C.1.2.1 C.1.2.2.2.2 hin ty0 hty hnm C.1.2.2.2.1 C.2.1 hP hD hS q0 he hc k hk (C.1.2.2.2.2 _ hlink) (fun _ h => hsame ▸ h) hfin hin2 hdecl hpd hn hfit hlen hd (fun H1 locs1 hP1 hD1 hS1 => kk H1 locs1 ls hP1 hD1 hS1 hl)
theorem g_iald (C : gC p s m args meth c D cl tys A cc nL own Ts base Z) {cA : ClassId} {n a : Nat} {f : Int → Int} {i : Int} (q0 t0 : Nat) (ha : ws[q0]? = some (a, .inl (cA, n, .inl (aI f)))) (ht : tys[t0]? = some (cA, .int)) (hn : n ≤ 2147483647) (hi : 0 ≤ i ∧ i < n) (hd : decode cc pc = .ok (.iaload, 1)) (kk : gW p l e R s m args below meth c D cl A nL cells slots Q ws lv (pc + 1) (.int (iI (f i)) :: st)) : gW p l e R s m args below meth c D cl A nL cells slots Q ws lv pc (.int (iI i) :: .ref a :: st) :=
  fun H locs ls hP hD hS hl => va_iald C.1.1 C.1.2.1 C.2.1 hP q0 t0 ha ht (iI_in hi.1 hi.2 (by omega)) hd (by rw [aI_at hi.1 (by omega)]; exact kk H locs ls hP hD hS hl)
theorem g_zald (C : gC p s m args meth c D cl tys A cc nL own Ts base Z) {cA : ClassId} {n a : Nat} {f : Int → Int} {i : Int} (q0 t0 : Nat) (ha : ws[q0]? = some (a, .inl (cA, n, .inl (aI f)))) (ht : tys[t0]? = some (cA, .boolean)) (hn : n ≤ 2147483647) (hi : 0 ≤ i ∧ i < n) (hd : decode cc pc = .ok (.baload, 1)) (kk : gW p l e R s m args below meth c D cl A nL cells slots Q ws lv (pc + 1) (.int (iI (f i)) :: st)) : gW p l e R s m args below meth c D cl A nL cells slots Q ws lv pc (.int (iI i) :: .ref a :: st) :=
  fun H locs ls hP hD hS hl => va_zald C.1.1 C.1.2.1 C.2.1 hP q0 t0 ha ht (iI_in hi.1 hi.2 (by omega)) hd (by rw [aI_at hi.1 (by omega)]; exact kk H locs ls hP hD hS hl)
theorem g_iast (C : gC p s m args meth c D cl tys A cc nL own Ts base Z) {cA : ClassId} {n a : Nat} {f : Int → Int} {i v : Int} {ws' : va_W} (q0 t0 : Nat) (ha : ws[q0]? = some (a, .inl (cA, n, .inl (aI f)))) (ht : tys[t0]? = some (cA, .int)) (hn : n ≤ 2147483647) (hi : 0 ≤ i ∧ i < n) (hd : decode cc pc = .ok (.iastore, 1)) (hw : ws.set q0 (a, .inl (cA, n, .inl (aI (updI f i v)))) = ws') (kk : gW p l e R s m args below meth c D cl A nL cells slots Q ws' lv (pc + 1) st) : gW p l e R s m args below meth c D cl A nL cells slots Q ws lv pc (.int (iI v) :: .int (iI i) :: .ref a :: st) := by
  subst hw
  exact fun H locs ls hP hD hS hl => va_iast C.1.1 C.1.2.1 C.2.1 hP hD hS q0 t0 ha ht (iI_in hi.1 hi.2 (by omega)) hd (fun H1 locs1 hP1 hD1 hS1 => kk H1 locs1 ls (by rw [iI_cl hi.1 (by omega), aI_upd hi.1] at hP1; exact hP1) (by rw [iI_cl hi.1 (by omega), aI_upd hi.1] at hD1; exact hD1) hS1 hl)
theorem nar_z {z : Int} (h : z = 0 ∨ z = 1) : vp_nar .boolean (iI z) = iI z := by
  rcases h with rfl | rfl <;> decide +kernel
theorem g_zast (C : gC p s m args meth c D cl tys A cc nL own Ts base Z) {cA : ClassId} {n a : Nat} {f : Int → Int} {i v : Int} {ws' : va_W} (q0 t0 : Nat) (ha : ws[q0]? = some (a, .inl (cA, n, .inl (aI f)))) (ht : tys[t0]? = some (cA, .boolean)) (hn : n ≤ 2147483647) (hi : 0 ≤ i ∧ i < n) (hv : v = 0 ∨ v = 1) (hd : decode cc pc = .ok (.bastore, 1)) (hw : ws.set q0 (a, .inl (cA, n, .inl (aI (updI f i v)))) = ws') (kk : gW p l e R s m args below meth c D cl A nL cells slots Q ws' lv (pc + 1) st) : gW p l e R s m args below meth c D cl A nL cells slots Q ws lv pc (.int (iI v) :: .int (iI i) :: .ref a :: st) := by
  subst hw
  exact fun H locs ls hP hD hS hl => va_zast C.1.1 C.1.2.1 C.2.1 hP hD hS q0 t0 ha ht (iI_in hi.1 hi.2 (by omega)) hd (fun H1 locs1 hP1 hD1 hS1 => kk H1 locs1 ls (by rw [nar_z hv, iI_cl hi.1 (by omega), aI_upd hi.1] at hP1; exact hP1) (by rw [nar_z hv, iI_cl hi.1 (by omega), aI_upd hi.1] at hD1; exact hD1) hS1 hl)
theorem g_alen (C : gC p s m args meth c D cl tys A cc nL own Ts base Z) {cA : ClassId} {a n : Nat} {x : (Nat → Int32)} {ty : FieldType} (q0 t0 : Nat) (ha : ws[q0]? = some (a, .inl (cA, n, .inl x))) (ht : tys[t0]? = some (cA, ty)) (hd : decode cc pc = .ok (.arraylength, 1)) (kk : gW p l e R s m args below meth c D cl A nL cells slots Q ws lv (pc + 1) (.int (iI (n : Int)) :: st)) : gW p l e R s m args below meth c D cl A nL cells slots Q ws lv pc (.ref a :: st) :=
  fun H locs ls hP hD hS hl => va_alen C.1.1 C.1.2.1 C.2.1 hP q0 t0 ha ht (v := iI (n : Int)) rfl hd (kk H locs ls hP hD hS hl)
/-! contracts -/
def cPre (D : va_G) (cl : List vw_C) (tys : List (ClassId × FieldType)) (base : Nat) (Z : State → Prop) (av : List Value) (ws : va_W) (sz : Nat) : Array Value → State → Prop :=
  va_Pc av (fun U => U.heap.size = sz ∧ base ≤ sz ∧ va_P D cl ws U.heap ∧ va_K D cl tys U ∧ va_D (fun q => base ≤ q) ws ∧ Z U)
def cBeh (D : va_G) (cl : List vw_C) (tys : List (ClassId × FieldType)) (ws : va_W) (sz : Nat) (w : va_W) (t : State) : Prop := va_P D cl w t.heap ∧ va_K D cl tys t ∧ va_D (va_A ws sz) w
abbrev oI (r : Option Int) : Option Value := r.map (fun z => Value.int (iI z))
def Qg (D : va_G) (cl : List vw_C) (tys : List (ClassId × FieldType)) (ws : va_W) (sz : Nat) (po : Option Int → va_W → Prop) : Array Value → State → Outcome → State → Prop :=
  fun _ st oc t => (∃ (r : Option Int) (w : va_W), oc = .returned (oI r) ∧ po r w ∧ cBeh D cl tys ws sz w t) ∧ va_F (va_A ws sz) st t
def Xg (D : va_G) (cl : List vw_C) (tys : List (ClassId × FieldType)) (ws : va_W) (sz : Nat) (px : String → va_W → Prop) : String → State → State → Prop :=
  fun E st t => ∃ w : va_W, px E w ∧ cBeh D cl tys ws sz w t ∧ va_F (va_A ws sz) st t
/-- a method that returns -/
def Cn (l : Launch) (D : va_G) (cl : List vw_C) (tys : List (ClassId × FieldType)) (base : Nat) (Z : State → Prop) (y : MethodName) (wsy : List Cond) (rm : Room) (av : List Value) (ws : va_W) (po : Option Int → va_W → Prop) (mc ms : Nat) : Prop :=
  ∀ sz : Nat, Met l y wsy rm (cPre D cl tys base Z av ws sz) (Qg D cl tys ws sz po) mc ms (va_A ws sz)
/-- a method that returns or throws -/
def Cx (l : Launch) (D : va_G) (cl : List vw_C) (tys : List (ClassId × FieldType)) (base : Nat) (Z : State → Prop) (y : MethodName) (wsy : List Cond) (rm : Room) (av : List Value) (ws : va_W) (po : Option Int → va_W → Prop) (px : String → va_W → Prop) (mc ms : Nat) : Prop :=
  ∀ sz : Nat, vx_Met l y wsy rm (cPre D cl tys base Z av ws sz) (Qg D cl tys ws sz po) (Xg D cl tys ws sz px) mc ms (va_A ws sz)
/-- what a world's own facts are worth at a call -/
def ZB (Z : State → Prop) : Prop := ∀ (U : State) (g : JFrame) (mk : MethodId) (a : Array Value), Z U → Z (U.calling g mk a)
theorem cPre_blind {av : List Value} {wc : va_W} {sz : Nat} (hz : ZB Z) : FrameBlind (cPre D cl tys base Z av wc sz) := by
  intro a U g mk q
  obtain ⟨q0, q1, q2, qP, qK, qD, qZ⟩ := q
  exact ⟨q0, q1, q2, qP, va_K.moved (u := U) (U := U.calling g mk a) (Vm.Alike.refl U.vm) qK, qD, hz U g mk a qZ⟩
theorem cPre_at (C : gC p s m args meth c D cl tys A cc nL own Ts base Z) {av : List Value} {wc : va_W} {H : Heap} {locs : List Loc} (hP : va_P D cl wc H) (hD : va_D A wc) (hS : va_S A s.heap H locs) : ∀ U : State, U.heap = H → s.WarmedH U.vm → cPre D cl tys base Z av wc H.size av.toArray U := by
  intro U hU hW
  refine ⟨rfl, by rw [hU], Nat.le_trans C.2.2.2.2.1 hS.1, by rw [hU]; exact hP, va_K.moved hW.alike C.2.1, hD.weaken (fun _ _ _ h => C.2.2.2.1 _ h), C.2.2.2.2.2.1 U hW (hS.F hU)⟩
/-- behind a call that returns, over any world of the callee -/
theorem g_run {H : Heap} {locs : List Loc} {ls : Array Slot} {mc ms : Nat} {st0 : List Value} {wc : va_W} {po : Option Int → va_W → Prop} {a : Array Value} (hr : va_Run p l e R s m args below meth c H locs cells slots mc ms (F0 m pc ls st0) st (Qg D cl tys wc H.size po a) (va_A wc H.size)) (hS : va_S A s.heap H locs) (hF : ∀ q, va_A wc H.size q → A q)
    (kk : ∀ (r : Option Int) (w : va_W) (H1 : Heap) (locs1 : List Loc), po r w → va_P D cl w H1 → va_D (va_A wc H.size) w → H.size ≤ H1.size → (∀ q : Nat, q < H.size → ¬ va_A wc H.size q → H1[q]? = H[q]?) → va_S A s.heap H1 locs1 → W p l e R s m args below meth c H1 locs1 (cells + mc) (slots + ms) Q (F0 m (pc + 3) ls ((oI r).toList ++ st))) : W p l e R s m args below meth c H locs cells slots Q (F0 m pc ls st0) := by
  intro T hT X
  obtain ⟨v, st₀, t, T', L, h0, X', hL, e1, e2, ⟨⟨r, w, hv, hp, hP1, hK1, hD1⟩, hFr⟩, stp⟩ := hr T hT X
  cases hv
  obtain ⟨k1, k2, k3⟩ := vx_keep h0 e1 hS (fun q _ h => hF q h) hF hL hFr
  obtain ⟨t2, a1, b1⟩ := kk r w T'.heap (locs ++ L) hp (by rw [e1]; exact hP1) hD1 k1 k2 k3 T' rfl X'
  exact ⟨t2, stp t2 a1, b1⟩
/-- the same, of a call that may throw -/
theorem g_runx {H : Heap} {locs : List Loc} {ls : Array Slot} {mc ms : Nat} {st0 : List Value} {wc : va_W} {po : Option Int → va_W → Prop} {px : String → va_W → Prop} {a : Array Value} (hr : vx_Run p l e R s m args below meth c H locs cells slots mc ms (F0 m pc ls st0) st (Qg D cl tys wc H.size po a) (Xg D cl tys wc H.size px) (va_A wc H.size)) (hS : va_S A s.heap H locs) (hF : ∀ q, va_A wc H.size q → A q)
    (kx : ∀ (E : String) (ce : Cell) (q9 : Addr) (w : va_W) (H1 : Heap) (locs1 : List Loc), px E w → va_P D cl w H1 → va_D (va_A wc H.size) w → H.size ≤ H1.size → (∀ q : Nat, q < H.size → ¬ va_A wc H.size q → H1[q]? = H[q]?) → va_S A s.heap H1 locs1 → H1[q9]? = some ce → ce.vm = .none → s.vm.findClass E = some ce.cls → vx_W p l e R s m args below meth c H1 locs1 (cells + mc) (slots + ms) Q (F0 m pc ls st) q9)
    (kk : ∀ (r : Option Int) (w : va_W) (H1 : Heap) (locs1 : List Loc), po r w → va_P D cl w H1 → va_D (va_A wc H.size) w → H.size ≤ H1.size → (∀ q : Nat, q < H.size → ¬ va_A wc H.size q → H1[q]? = H[q]?) → va_S A s.heap H1 locs1 → W p l e R s m args below meth c H1 locs1 (cells + mc) (slots + ms) Q (F0 m (pc + 3) ls ((oI r).toList ++ st))) : W p l e R s m args below meth c H locs cells slots Q (F0 m pc ls st0) := by
  intro T hT X
  rcases hr T hT X with ⟨v, st₀, t, T', L, h0, X', hL, e1, e2, ⟨⟨r, w, hv, hp, hP1, hK1, hD1⟩, hFr⟩, stp⟩ | ⟨q, st₀, t, T', L, E, ce, h0, X', hL, e1, e2, ⟨w, hp, ⟨hP1, hK1, hD1⟩, hFr⟩, hce, hcv, hcl, stp⟩
  · cases hv
    obtain ⟨k1, k2, k3⟩ := vx_keep h0 e1 hS (fun q _ h => hF q h) hF hL hFr
    obtain ⟨t2, a1, b1⟩ := kk r w T'.heap (locs ++ L) hp (by rw [e1]; exact hP1) hD1 k1 k2 k3 T' rfl X'
    exact ⟨t2, stp t2 a1, b1⟩
  · obtain ⟨k1, k2, k3⟩ := vx_keep h0 e1 hS (fun q _ h => hF q h) hF hL hFr
    obtain ⟨t2, a1, b1⟩ := kx E ce q w T'.heap (locs ++ L) hp (by rw [e1]; exact hP1) hD1 k1 k2 k3 (by rw [e1]; exact hce) hcv hcl T' rfl X'
    exact ⟨t2, stp.trans a1, b1⟩
/-- the callee's world is the caller's; or it has none; or it is a part of it -/
theorem jn_self {H H1 : Heap} {locs1 : List Loc} {w : va_W} {A : Nat → Prop} (hF : ∀ q, va_A ws H.size q → A q) (hD1 : va_D (va_A ws H.size) w) : va_D A w := hD1.weaken (fun _ _ _ h => hF _ h)
theorem jn_nil {H H1 : Heap} (hP : va_P D cl ws H) (hk : ∀ q : Nat, q < H.size → ¬ va_A [] H.size q → H1[q]? = H[q]?) : va_P D cl ws H1 :=
  hP.kept (fun k q hq => hk q.1 (hP k q hq).lt (fun h => by
    rcases h with ⟨k', e', h'⟩ | h'
    · simp at h'
    · exact absurd (hP k q hq).lt (Nat.not_lt.mpr h')))
theorem va_A_nil {sz : Nat} {q : Nat} (h : va_A [] sz q) : sz ≤ q := by
  rcases h with ⟨k, e', h⟩ | h
  · simp at h
  · exact h
theorem g_freeW (C : gC p s m args meth c D cl tys A cc nL own Ts base Z) {H : Heap} {locs : List Loc} (hD : va_D A ws) (hS : va_S A s.heap H locs) : ∀ q, va_A ws H.size q → A q := by
  intro q h
  rcases h with ⟨k, e', h⟩ | h
  · exact hD.2 k (q, e') h
  · exact C.2.2.1 q (Nat.le_trans hS.1 h)
theorem g_freeN (C : gC p s m args meth c D cl tys A cc nL own Ts base Z) {H : Heap} {locs : List Loc} (hS : va_S A s.heap H locs) : ∀ q, va_A [] H.size q → A q := fun q h => C.2.2.1 q (Nat.le_trans hS.1 (va_A_nil h))
section GCall
variable {y : MethodName} {bytes : ByteArray} {maxL mc ms n index : Nat} {ret : Option FieldType} {wsy : List Cond} {rm : Room} {po : Option Int → va_W → Prop} {px : String → va_W → Prop} {b ci : Nat} {As : List Value} {st0 : List Value} {Cn0 : String} {host : String} {fs : List Value} {q : vw_C}
/-- invokevirtual, whole world -/
theorem g_V (C : gC p s m args meth c D cl tys A cc nL own Ts base Z) (hz : ZB Z) (hM : Cn l D cl tys base Z y wsy rm (.ref b :: As) ws po mc ms) (cw : CallW R s args own q.1 index y bytes maxL ret wsy rm mc ms n) (q0 : Nat) (he : ws[q0]? = some (b, .inr (ci, fs))) (hc : cl[ci]? = some q) (hn : As.length = n) (hst : st0 = As.reverse ++ .ref b :: st) (hW : (st.map fun v => v.category).sum ≤ 8) (hd : decode cc pc = .ok (.invokevirtual index, 3)) (hf : cells + mc ≤ R.cells ∧ slots + ms ≤ R.slots)
    (kk : ∀ (r : Option Int) (w : va_W), po r w → gW p l e R s m args below meth c D cl A nL (cells + mc) (slots + ms) Q w lv (pc + 3) ((oI r).toList ++ st)) : gW p l e R s m args below meth c D cl A nL cells slots Q ws lv pc st0 := by
  subst hst
  intro H locs ls hP hD hS hl
  exact g_run (va_runV (As := As) (rest := st) C.1 (hM H.size) cw ⟨cPre_blind hz, va_recv C.2.1 hP hc he, cPre_at C hP hD hS⟩ rfl hn hl.1 rfl (lv_room hW) hd hf) hS (g_freeW C hD hS) (fun r w H1 locs1 hp hP1 hD1 _ _ hS1 => kk r w hp H1 locs1 ls hP1 (jn_self (H1 := H1) (locs1 := locs1) (g_freeW C hD hS) hD1) hS1 hl)
/-- invokevirtual of a nest mate's private method, whole world -/
theorem g_VN (C : gC p s m args meth c D cl tys A cc nL own Ts base Z) (hz : ZB Z) (hM : Cn l D cl tys base Z y wsy rm (.ref b :: As) ws po mc ms) (cw : va_CN R s args own index y host bytes maxL ret wsy rm mc ms n ∧ (Cond.instanceMethod y).before args s = true ∧ (Cond.selects q.1 y y).before args s = true) (q0 : Nat) (he : ws[q0]? = some (b, .inr (ci, fs))) (hc : cl[ci]? = some q) (hn : As.length = n) (hst : st0 = As.reverse ++ .ref b :: st) (hW : (st.map fun v => v.category).sum ≤ 8) (hd : decode cc pc = .ok (.invokevirtual index, 3)) (hf : cells + mc ≤ R.cells ∧ slots + ms ≤ R.slots)
    (kk : ∀ (r : Option Int) (w : va_W), po r w → gW p l e R s m args below meth c D cl A nL (cells + mc) (slots + ms) Q w lv (pc + 3) ((oI r).toList ++ st)) : gW p l e R s m args below meth c D cl A nL cells slots Q ws lv pc st0 := by
  subst hst
  intro H locs ls hP hD hS hl
  exact g_run (va_runVN (As := As) (rest := st) C.1 (hM H.size) cw ⟨cPre_blind hz, va_recv C.2.1 hP hc he, cPre_at C hP hD hS⟩ rfl hn hl.1 rfl (lv_room hW) hd hf) hS (g_freeW C hD hS) (fun r w H1 locs1 hp hP1 hD1 _ _ hS1 => kk r w hp H1 locs1 ls hP1 (jn_self (H1 := H1) (locs1 := locs1) (g_freeW C hD hS) hD1) hS1 hl)
/-- invokestatic, no world -/
theorem g_S0 (C : gC p s m args meth c D cl tys A cc nL own Ts base Z) (hz : ZB Z) (hM : Cn l D cl tys base Z y wsy rm As [] po mc ms) (cw : CallB R s args own index y bytes maxL ret wsy rm mc ms n ∧ (Cond.static y).before args s = true) (hn : As.length = n) (hst : st0 = As.reverse ++ st) (hW : (st.map fun v => v.category).sum ≤ 8) (hd : decode cc pc = .ok (.invokestatic index, 3)) (hf : cells + mc ≤ R.cells ∧ slots + ms ≤ R.slots)
    (kk : ∀ (r : Option Int) (w : va_W), po r w → gW p l e R s m args below meth c D cl A nL (cells + mc) (slots + ms) Q ws lv (pc + 3) ((oI r).toList ++ st)) : gW p l e R s m args below meth c D cl A nL cells slots Q ws lv pc st0 := by
  subst hst
  intro H locs ls hP hD hS hl
  exact g_run (va_runS (As := As) (rest := st) C.1 (hM H.size) cw ⟨cPre_blind hz, cPre_at C (fun k q h => by simp at h) (hD.sub [] rfl rfl) hS⟩ rfl hn hl.1 rfl (lv_room hW) hd hf) hS (g_freeN C hS) (fun r w H1 locs1 hp _ _ _ hk hS1 => kk r w hp H1 locs1 ls (jn_nil hP hk) hD hS1 hl)
theorem g_SN0 (C : gC p s m args meth c D cl tys A cc nL own Ts base Z) (hz : ZB Z) (hM : Cn l D cl tys base Z y wsy rm As [] po mc ms) (cw : va_CN R s args own index y host bytes maxL ret wsy rm mc ms n ∧ (Cond.static y).before args s = true ∧ True) (hn : As.length = n) (hst : st0 = As.reverse ++ st) (hW : (st.map fun v => v.category).sum ≤ 8) (hd : decode cc pc = .ok (.invokestatic index, 3)) (hf : cells + mc ≤ R.cells ∧ slots + ms ≤ R.slots)
    (kk : ∀ (r : Option Int) (w : va_W), po r w → gW p l e R s m args below meth c D cl A nL (cells + mc) (slots + ms) Q ws lv (pc + 3) ((oI r).toList ++ st)) : gW p l e R s m args below meth c D cl A nL cells slots Q ws lv pc st0 := by
  subst hst
  intro H locs ls hP hD hS hl
  exact g_run (va_runSN (As := As) (rest := st) C.1 (hM H.size) cw ⟨cPre_blind hz, cPre_at C (fun k q h => by simp at h) (hD.sub [] rfl rfl) hS⟩ rfl hn hl.1 rfl (lv_room hW) hd hf) hS (g_freeN C hS) (fun r w H1 locs1 hp _ _ _ hk hS1 => kk r w hp H1 locs1 ls (jn_nil hP hk) hD hS1 hl)
/-- a frame with q thrown over it -/
def gX (p : Program) (l : Launch) (e : Env) (R : Room) (s : State) (m : MethodId) (args : Array Value) (below : List Frame) (meth : Method) (c : Code) (D : va_G) (cl : List vw_C) (A : Nat → Prop) (nL cells slots : Nat) (Q : State → Prop) (E : String) (ws : va_W) (lv : List (Nat × Value)) (pc : Nat) (st : List Value) : Prop :=
  ∀ (ce : Cell) (q9 : Addr) (H : Heap) (locs : List Loc) (ls : Array Slot), va_P D cl ws H → va_D A ws → va_S A s.heap H locs → lv_has ls nL lv → H[q9]? = some ce → ce.vm = .none → s.vm.findClass E = some ce.cls → vx_W p l e R s m args below meth c H locs cells slots Q (F0 m pc ls st) q9
/-- calls that may throw -/
theorem g_Vx (C : gC p s m args meth c D cl tys A cc nL own Ts base Z) (hz : ZB Z) (hM : Cx l D cl tys base Z y wsy rm (.ref b :: As) ws po px mc ms) (cw : CallW R s args own q.1 index y bytes maxL ret wsy rm mc ms n) (q0 : Nat) (he : ws[q0]? = some (b, .inr (ci, fs))) (hc : cl[ci]? = some q) (hn : As.length = n) (hst : st0 = As.reverse ++ .ref b :: st) (hW : (st.map fun v => v.category).sum ≤ 8) (hd : decode cc pc = .ok (.invokevirtual index, 3)) (hf : cells + mc ≤ R.cells ∧ slots + ms ≤ R.slots)
    (kx : ∀ (E : String) (w : va_W), px E w → gX p l e R s m args below meth c D cl A nL (cells + mc) (slots + ms) Q E w lv pc st)
    (kk : ∀ (r : Option Int) (w : va_W), po r w → gW p l e R s m args below meth c D cl A nL (cells + mc) (slots + ms) Q w lv (pc + 3) ((oI r).toList ++ st)) : gW p l e R s m args below meth c D cl A nL cells slots Q ws lv pc st0 := by
  subst hst
  intro H locs ls hP hD hS hl
  exact g_runx (vx_runV (As := As) (rest := st) C.1 (hM H.size) cw ⟨cPre_blind hz, va_recv C.2.1 hP hc he, cPre_at C hP hD hS⟩ rfl hn hl.1 rfl (lv_room hW) hd hf) hS (g_freeW C hD hS)
    (fun E ce q9 w H1 locs1 hp hP1 hD1 _ _ hS1 h1 h2 h3 => kx E w hp ce q9 H1 locs1 ls hP1 (jn_self (H1 := H1) (locs1 := locs1) (g_freeW C hD hS) hD1) hS1 hl h1 h2 h3)
    (fun r w H1 locs1 hp hP1 hD1 _ _ hS1 => kk r w hp H1 locs1 ls hP1 (jn_self (H1 := H1) (locs1 := locs1) (g_freeW C hD hS) hD1) hS1 hl)
theorem g_Sx0 (C : gC p s m args meth c D cl tys A cc nL own Ts base Z) (hz : ZB Z) (hM : Cx l D cl tys base Z y wsy rm As [] po px mc ms) (cw : CallB R s args own index y bytes maxL ret wsy rm mc ms n ∧ (Cond.static y).before args s = true) (hn : As.length = n) (hst : st0 = As.reverse ++ st) (hW : (st.map fun v => v.category).sum ≤ 8) (hd : decode cc pc = .ok (.invokestatic index, 3)) (hf : cells + mc ≤ R.cells ∧ slots + ms ≤ R.slots)
    (kx : ∀ (E : String) (w : va_W), px E w → gX p l e R s m args below meth c D cl A nL (cells + mc) (slots + ms) Q E ws lv pc st)
    (kk : ∀ (r : Option Int) (w : va_W), po r w → gW p l e R s m args below meth c D cl A nL (cells + mc) (slots + ms) Q ws lv (pc + 3) ((oI r).toList ++ st)) : gW p l e R s m args below meth c D cl A nL cells slots Q ws lv pc st0 := by
  subst hst
  intro H locs ls hP hD hS hl
  exact g_runx (vx_runS (As := As) (rest := st) C.1 (hM H.size) cw ⟨cPre_blind hz, cPre_at C (fun k q h => by simp at h) (hD.sub [] rfl rfl) hS⟩ rfl hn hl.1 rfl (lv_room hW) hd hf) hS (g_freeN C hS)
    (fun E ce q9 w H1 locs1 hp _ _ _ hk hS1 h1 h2 h3 => kx E w hp ce q9 H1 locs1 ls (jn_nil hP hk) hD hS1 hl h1 h2 h3)
    (fun r w H1 locs1 hp _ _ _ hk hS1 => kk r w hp H1 locs1 ls (jn_nil hP hk) hD hS1 hl)
end GCall
/-! ends -/
theorem g_iret (C : gC p s m args meth c D cl tys A cc nL own Ts base Z) {ws0 : va_W} {po : Option Int → va_W → Prop} {r : Int} {mc ms : Nat} (hA : A = va_A ws0 s.heap.size) (hr : meth.sig.returnType = some .int) (hd : decode cc pc = .ok (.ireturn, 1)) (h1 : cells ≤ mc) (h2 : slots ≤ ms) (hp : po (some r) ws) : gW p l e R s m args below meth c D cl A nL cells slots (MQ below (Qg D cl tys ws0 s.heap.size po) args s mc ms (va_A ws0 s.heap.size)) ws lv pc [.int (iI r)] := by
  subst hA
  intro H locs ls hP hD hS hl
  exact W.widen h1 h2 (W.iret C.1.1 C.1.2.1 hr (fun t ht hW => ⟨⟨some r, ws, rfl, hp, by rw [ht]; exact hP, va_K.moved hW.alike C.2.1, hD⟩, hS.F ht⟩) hS.2.2 hd C.2.2.2.2.2.2)
theorem nar_zb {z : Int} (h : z = 0 ∨ z = 1) : narrow .boolean (.int (iI z)) = .int (iI z) := by
  rcases h with rfl | rfl <;> decide +kernel
theorem g_zret (C : gC p s m args meth c D cl tys A cc nL own Ts base Z) {ws0 : va_W} {po : Option Int → va_W → Prop} {r : Int} {mc ms : Nat} (hA : A = va_A ws0 s.heap.size) (hr : meth.sig.returnType = some .boolean) (hd : decode cc pc = .ok (.ireturn, 1)) (h1 : cells ≤ mc) (h2 : slots ≤ ms) (hz : r = 0 ∨ r = 1) (hp : po (some r) ws) : gW p l e R s m args below meth c D cl A nL cells slots (MQ below (Qg D cl tys ws0 s.heap.size po) args s mc ms (va_A ws0 s.heap.size)) ws lv pc [.int (iI r)] := by
  subst hA
  intro H locs ls hP hD hS hl
  exact W.widen h1 h2 (W.zret C.1.1 C.1.2.1 hr (nar_zb hz) (fun t ht hW => ⟨⟨some r, ws, rfl, hp, by rw [ht]; exact hP, va_K.moved hW.alike C.2.1, hD⟩, hS.F ht⟩) hS.2.2 hd C.2.2.2.2.2.2)
theorem g_vret (C : gC p s m args meth c D cl tys A cc nL own Ts base Z) {ws0 : va_W} {po : Option Int → va_W → Prop} {mc ms : Nat} (hA : A = va_A ws0 s.heap.size) (hr : meth.sig.returnType = none) (hd : decode cc pc = .ok (.return_, 1)) (h1 : cells ≤ mc) (h2 : slots ≤ ms) (hp : po none ws) : gW p l e R s m args below meth c D cl A nL cells slots (MQ below (Qg D cl tys ws0 s.heap.size po) args s mc ms (va_A ws0 s.heap.size)) ws lv pc [] := by
  subst hA
  intro H locs ls hP hD hS hl
  exact W.widen h1 h2 (W.vret C.1.1 C.1.2.1 hr (fun t ht hW => ⟨⟨none, ws, rfl, hp, by rw [ht]; exact hP, va_K.moved hW.alike C.2.1, hD⟩, hS.F ht⟩) hS.2.2 hd C.2.2.2.2.2.2)
theorem g_x {Qc : Array Value → State → Outcome → State → Prop} {XC : String → State → State → Prop} {mc ms : Nat} {free : Addr → Prop} (k : gW p l e R s m args below meth c D cl A nL cells slots (MQ below Qc args s mc ms free) ws lv pc st) : gW p l e R s m args below meth c D cl A nL cells slots (vx_MQ below Qc XC args s mc ms free) ws lv pc st :=
  fun H locs ls hP hD hS hl => vx_ret (k H locs ls hP hD hS hl)
theorem g_out (C : gC p s m args meth c D cl tys A cc nL own Ts base Z) {ws0 : va_W} {po : Option Int → va_W → Prop} {px : String → va_W → Prop} {mc ms : Nat} {E : String} (hno : ∀ x ∈ c.exceptionTable.toList, False) (hA : A = va_A ws0 s.heap.size) (h1 : cells ≤ mc) (h2 : slots ≤ ms) (hp : px E ws) : gX p l e R s m args below meth c D cl A nL cells slots (vx_MQ below (Qg D cl tys ws0 s.heap.size po) (Xg D cl tys ws0 s.heap.size px) args s mc ms (va_A ws0 s.heap.size)) E ws lv pc st := by
  subst hA
  intro ce q9 H locs ls hP hD hS hl g1 g2 g3
  exact vx_out (fun x hx => (hno x hx).elim) C.2.2.2.2.2.2 g1 g2 g3 (fun t ht hW => ⟨ws, hp, ⟨by rw [ht]; exact hP, va_K.moved hW C.2.1, hD⟩, hS.F ht⟩) hS.2.2 h1 h2
/-- what a world's facts are worth later: nothing below base was written -/
def ZG (base : Nat) (Z : State → Prop) : Prop := ∀ (s U : State) (A : Nat → Prop), (∀ q : Nat, A q → base ≤ q) → base ≤ s.heap.size → s.WarmedH U.vm → va_F A s U → Z s → Z U
theorem gC_of {y : MethodName} {wsy ws' : List Cond} {rm : Room} {maxL : Nat} {ret : Option FieldType} {av : List Value} {s₁ : State} (hz : ZG base Z) (hw : wsy = Cond.code y cc maxL ret :: ws') (B : BodyLoose p l y (headSpec wsy rm) cc maxL ret e s m args below meth c s₁) (hml : c.maxLocals = maxL) (hv : cPre D cl tys base Z av ws s.heap.size args s) : gC p s m args meth c D cl tys (va_A ws s.heap.size) cc maxL y.cls wsy base Z := by
  obtain ⟨_, _, hb, _, hK, hD, hZ⟩ := hv
  have hAb : ∀ q : Nat, va_A ws s.heap.size q → base ≤ q := by
    intro q h
    rcases h with ⟨k, e', h⟩ | h
    · exact hD.2 k (q, e') h
    · exact Nat.le_trans hb h
  exact ⟨⟨B.exec, B.bytes, hml, findClass_of_methodNamed B.named, atoms_spec (ws := wsy) B.pre⟩, hK, fun q h => Or.inr h, hAb, hb, fun U hW hF => hz s U _ hAb hb hW hF hZ, B.notSynchronized⟩
theorem Cn_of {y : MethodName} {wsy ws' : List Cond} {rm : Room} {maxL mc ms : Nat} {ret : Option FieldType} {av : List Value} {po : Option Int → va_W → Prop} (hz : ZG base Z) (hy : plainName y.cls = true) (hw : wsy = Cond.code y cc maxL ret :: ws') (hlen : (lg_sl av).length ≤ maxL)
    (body : ∀ (p : Program) (e : Env) (s : State) (m : MethodId) (args : Array Value) (below : List Frame) (meth : Method) (c : Code) (A : Nat → Prop), gC p s m args meth c D cl tys A cc maxL y.cls wsy base Z → meth.sig.returnType = ret → A = va_A ws s.heap.size → meth.name = y.name → gW p l e rm s m args below meth c D cl A maxL 0 0 (MQ below (Qg D cl tys ws s.heap.size po) args s mc ms (va_A ws s.heap.size)) ws (lv_args 0 av) 0 []) : Cn l D cl tys base Z y wsy rm av ws po mc ms := by
  intro sz
  refine Met.ofW (cc := cc) (maxL := maxL) (ret := ret) hy hw ?_
  intro p e s m args below meth c s₁ B hml hv
  obtain rfl : s.heap.size = sz := hv.2.1
  have C := gC_of hz hw B hml hv
  obtain ⟨rfl, _, _, hP, hK, hD, hZ⟩ := hv
  have hl := lv_entry av (n := maxL) hlen
  rw [lg_entry_eq]
  exact body p e s m _ below meth c _ C B.returns rfl (name_of_methodNamed B.named B.method).1 s.heap [] _ hP hD.self va_S.rf hl
theorem Cx_of {y : MethodName} {wsy ws' : List Cond} {rm : Room} {maxL mc ms : Nat} {ret : Option FieldType} {av : List Value} {po : Option Int → va_W → Prop} {px : String → va_W → Prop} (hz : ZG base Z) (hy : plainName y.cls = true) (hw : wsy = Cond.code y cc maxL ret :: ws') (hlen : (lg_sl av).length ≤ maxL)
    (body : ∀ (p : Program) (e : Env) (s : State) (m : MethodId) (args : Array Value) (below : List Frame) (meth : Method) (c : Code) (A : Nat → Prop), gC p s m args meth c D cl tys A cc maxL y.cls wsy base Z → meth.sig.returnType = ret → A = va_A ws s.heap.size → (∀ x ∈ c.exceptionTable.toList, False) → gW p l e rm s m args below meth c D cl A maxL 0 0 (vx_MQ below (Qg D cl tys ws s.heap.size po) (Xg D cl tys ws s.heap.size px) args s mc ms (va_A ws s.heap.size)) ws (lv_args 0 av) 0 []) : Cx l D cl tys base Z y wsy rm av ws po px mc ms := by
  intro sz
  refine vx_ofW (cc := cc) (maxL := maxL) (ret := ret) hy hw ?_
  intro p e s m args below meth c s₁ B hml hno hv
  obtain rfl : s.heap.size = sz := hv.2.1
  have C := gC_of hz hw B hml hv
  obtain ⟨rfl, _, _, hP, hK, hD, hZ⟩ := hv
  have hl := lv_entry av (n := maxL) hlen
  rw [lg_entry_eq]
  exact body p e s m _ below meth c _ C B.returns rfl hno s.heap [] _ hP hD.self va_S.rf hl
end GB
