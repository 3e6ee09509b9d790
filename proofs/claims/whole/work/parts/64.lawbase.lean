section GLB
variable {p : Program} {l : Launch} {e : Env} {R : Room} {s : State} {m : MethodId} {args : Array Value} {below : List Frame} {meth : Method} {c : Code} {cells slots : Nat} {Q : State → Prop}
variable {D : va_G} {cl : List vw_C} {tys : List (ClassId × FieldType)} {A : Nat → Prop} {cc : ByteArray} {nL base : Nat} {own : String} {Ts : List Cond} {Z : State → Prop}
variable {ws : va_W} {lv : List (Nat × Value)} {pc : Nat} {st : List Value}
/-- two equal ints -/
theorem g_same (C : gC p s m args meth c D cl tys A cc nL own Ts base Z) {a : Int} {off : Int} {tgt : Nat} (hd : decode cc pc = .ok (.if_icmp .eq off, 3)) (ht : (pc : Int) + off = (tgt : Int)) (k : gW p l e R s m args below meth c D cl A nL cells slots Q ws lv tgt st) : gW p l e R s m args below meth c D cl A nL cells slots Q ws lv pc (.int (iI a) :: .int (iI a) :: st) :=
  fun H locs ls hP hD hS hl => lv_icmp_eq C.1.1 C.1.2.1 hd ht (fun _ => k H locs ls hP hD hS hl) (fun h => absurd rfl h)
/-- the script's ints and its length -/
theorem g_sld (C : gC p s m args meth c D cl tys A cc nL own Ts base Z) {b L : Nat} {xs : Nat → Int32} (hX : va_X b L xs s s.heap) (hbl : b < s.heap.size) (hbA : ¬ A b) {i : Int} {n : Nat} (hi : i = (n : Int)) (hn : n < L) (hL : L ≤ 2048) (hd : decode cc pc = .ok (.iaload, 1)) (k : gW p l e R s m args below meth c D cl A nL cells slots Q ws lv (pc + 1) (.int (iI (xs n).toInt) :: st)) : gW p l e R s m args below meth c D cl A nL cells slots Q ws lv pc (.int (iI i) :: .ref b :: st) := by
  subst hi
  intro H locs ls hP hD hS hl
  refine va_sld C.1.1 C.1.2.1 hX hbl hbA hS (iI_in (by omega) (by omega) (by omega)) hd ?_
  have k1 := k H locs ls hP hD hS hl
  rw [iI_self] at k1
  rw [iI_cl (by omega) (by omega), Int.toNat_natCast]
  exact k1
theorem g_slen (C : gC p s m args meth c D cl tys A cc nL own Ts base Z) {b L : Nat} {xs : Nat → Int32} (hX : va_X b L xs s s.heap) (hbl : b < s.heap.size) (hbA : ¬ A b) (hd : decode cc pc = .ok (.arraylength, 1)) (k : gW p l e R s m args below meth c D cl A nL cells slots Q ws lv (pc + 1) (.int (iI (L : Int)) :: st)) : gW p l e R s m args below meth c D cl A nL cells slots Q ws lv pc (.ref b :: st) :=
  fun H locs ls hP hD hS hl => va_slen C.1.1 C.1.2.1 hX hbl hbA hS hd (k H locs ls hP hD hS hl)
end GLB
theorem and31 (x : Int32) : ∃ z : Int, x &&& iI 31 = iI z ∧ 0 ≤ z ∧ z ≤ 31 := by
  have h : (x &&& iI 31).toBitVec.toNat ≤ 31 := by
    rw [Int32.toBitVec_and, BitVec.toNat_and]
    exact Nat.and_le_right
  have e : (x &&& iI 31).toInt = ((x &&& iI 31).toBitVec.toNat : Int) := BitVec.toInt_eq_toNat_of_lt (by omega)
  exact ⟨(x &&& iI 31).toInt, (iI_self _).symm, by omega, by omega⟩
/-- class and model, in the two orders in which calls leave them -/
def lbw (ad md : Nat → Nat) (cI cZ cJ : ClassId) (qo : Nat) (jf : Nat → Int64) (x y : Bk) : va_W := lwd ad cI cZ cJ qo jf x ++ mw md cI cZ y
def lbm (ad md : Nat → Nat) (cI cZ cJ : ClassId) (qo : Nat) (jf : Nat → Int64) (x y : Bk) : va_W := mw md cI cZ y ++ lwd ad cI cZ cJ qo jf x
/-- the same behind a call of the class's own -/
def lbe (ad md : Nat → Nat) (cI cZ cJ : ClassId) (qo : Nat) (jf : Nat → Int64) (x y : Bk) : va_W := (qo, .inl (cJ, 1, .inr (.inl jf))) :: (mw md cI cZ y ++ cw ad cI cZ x)
section GLW
variable {ad md : Nat → Nat} {cI cZ cJ : ClassId} {qo : Nat} {jf : Nat → Int64} {x y : Bk}
abbrev i020 : List Nat := [0, 1, 2, 3, 4, 5, 6, 7, 8, 9, 10, 11, 12, 13, 14, 15, 16, 17, 18, 19]
abbrev i2033 : List Nat := [20, 21, 22, 23, 24, 25, 26, 27, 28, 29, 30, 31, 32]
abbrev i013 : List Nat := [0, 1, 2, 3, 4, 5, 6, 7, 8, 9, 10, 11, 12]
abbrev i1333 : List Nat := [13, 14, 15, 16, 17, 18, 19, 20, 21, 22, 23, 24, 25, 26, 27, 28, 29, 30, 31, 32]
abbrev i120 : List Nat := [1, 2, 3, 4, 5, 6, 7, 8, 9, 10, 11, 12, 13, 14, 15, 16, 17, 18, 19]
abbrev i02033 : List Nat := [0, 20, 21, 22, 23, 24, 25, 26, 27, 28, 29, 30, 31, 32]
abbrev i114 : List Nat := [1, 2, 3, 4, 5, 6, 7, 8, 9, 10, 11, 12, 13]
abbrev i01433 : List Nat := [0, 14, 15, 16, 17, 18, 19, 20, 21, 22, 23, 24, 25, 26, 27, 28, 29, 30, 31, 32]
theorem lbw_c : i020.map (fun i => (lbw ad md cI cZ cJ qo jf x y)[i]?) = (lwd ad cI cZ cJ qo jf x).map some := rfl
theorem lbw_c1 : i020.filterMap (fun i => (lbw ad md cI cZ cJ qo jf x y)[i]?) = lwd ad cI cZ cJ qo jf x := rfl
theorem lbw_r : i2033.map (fun i => (lbw ad md cI cZ cJ qo jf x y)[i]?) = (mw md cI cZ y).map some := rfl
theorem lbw_d : i2033.map (fun i => (lbw ad md cI cZ cJ qo jf x y)[i]?) = (mw md cI cZ y).map some := rfl
theorem lbw_d1 : i2033.filterMap (fun i => (lbw ad md cI cZ cJ qo jf x y)[i]?) = mw md cI cZ y := rfl
theorem lbw_e : i020.map (fun i => (lbw ad md cI cZ cJ qo jf x y)[i]?) = (lwd ad cI cZ cJ qo jf x).map some := rfl
theorem lbm_c : i013.map (fun i => (lbm ad md cI cZ cJ qo jf x y)[i]?) = (mw md cI cZ y).map some := rfl
theorem lbm_c1 : i013.filterMap (fun i => (lbm ad md cI cZ cJ qo jf x y)[i]?) = mw md cI cZ y := rfl
theorem lbm_r : i1333.map (fun i => (lbm ad md cI cZ cJ qo jf x y)[i]?) = (lwd ad cI cZ cJ qo jf x).map some := rfl
theorem lbw_k : i120.map (fun i => (lbw ad md cI cZ cJ qo jf x y)[i]?) = (cw ad cI cZ x).map some := rfl
theorem lbw_k1 : i120.filterMap (fun i => (lbw ad md cI cZ cJ qo jf x y)[i]?) = cw ad cI cZ x := rfl
theorem lbw_kr : i02033.map (fun i => (lbw ad md cI cZ cJ qo jf x y)[i]?) = (((qo, .inl (cJ, 1, .inr (.inl jf))) :: mw md cI cZ y : va_W)).map some := rfl
theorem lbe_c : i114.map (fun i => (lbe ad md cI cZ cJ qo jf x y)[i]?) = (mw md cI cZ y).map some := rfl
theorem lbe_c1 : i114.filterMap (fun i => (lbe ad md cI cZ cJ qo jf x y)[i]?) = mw md cI cZ y := rfl
theorem lbe_r : i01433.map (fun i => (lbe ad md cI cZ cJ qo jf x y)[i]?) = (lwd ad cI cZ cJ qo jf x).map some := rfl
theorem lbw_0 : (lbw ad md cI cZ cJ qo jf x y)[0]? = some (qo, .inl (cJ, 1, .inr (.inl jf))) := rfl
theorem lbw_1 : (lbw ad md cI cZ cJ qo jf x y)[1]? = some (ad 0, .inr (0, [.ref (ad 1), .ref (ad 2), .ref (ad 3), .ref (ad 4)])) := rfl
theorem lbw_20 : (lbw ad md cI cZ cJ qo jf x y)[20]? = (mw md cI cZ y)[0]? := rfl
theorem lbm_0 : (lbm ad md cI cZ cJ qo jf x y)[0]? = (mw md cI cZ y)[0]? := rfl
theorem lbe_1 : (lbe ad md cI cZ cJ qo jf x y)[1]? = (mw md cI cZ y)[0]? := rfl
end GLW
theorem lw_in : ∀ w ∈ gws, w ∈ lw_tbl := fun _ h => (List.mem_filter.mp h).1
