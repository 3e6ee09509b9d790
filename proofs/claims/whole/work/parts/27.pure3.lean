section GSW
variable {p : Program} {l : Launch} {e : Env} {R : Room} {s : State} {m : MethodId} {args : Array Value} {below : List Frame} {meth : Method} {c : Code} {cells slots : Nat} {Q : State → Prop}
variable {D : va_G} {cl : List vw_C} {tys : List (ClassId × FieldType)} {A : Nat → Prop} {cc : ByteArray} {nL base : Nat} {own : String} {Ts : List Cond} {Z : State → Prop}
variable {ws : va_W} {lv : List (Nat × Value)} {pc : Nat} {st : List Value}
theorem g_tin (C : gC p s m args meth c D cl tys A cc nL own Ts base Z) {z dflt lo hi off : Int} {offs : Array Int} {len tgt : Nat} (hd : decode cc pc = .ok (.tableswitch dflt lo hi offs, len)) (hz : InR z) (h1 : lo ≤ z ∧ z ≤ hi) (ho : offs[(z - lo).toNat]? = some off) (ht : (pc : Int) + off = (tgt : Int)) (k : gW p l e R s m args below meth c D cl A nL cells slots Q ws lv tgt st) : gW p l e R s m args below meth c D cl A nL cells slots Q ws lv pc (.int (iI z) :: st) :=
  fun H locs ls hP hD hS hl => lv_tableIn C.1.1 C.1.2.1 hd (by rw [iI_toInt hz]; omega) (by rw [iI_toInt hz]; omega) (by rw [iI_toInt hz]; exact ho) ht (k H locs ls hP hD hS hl)
theorem g_tout (C : gC p s m args meth c D cl tys A cc nL own Ts base Z) {z dflt lo hi : Int} {offs : Array Int} {len tgt : Nat} (hd : decode cc pc = .ok (.tableswitch dflt lo hi offs, len)) (hz : InR z) (h1 : z < lo ∨ hi < z) (ht : (pc : Int) + dflt = (tgt : Int)) (k : gW p l e R s m args below meth c D cl A nL cells slots Q ws lv tgt st) : gW p l e R s m args below meth c D cl A nL cells slots Q ws lv pc (.int (iI z) :: st) :=
  fun H locs ls hP hD hS hl => lv_tableOut C.1.1 C.1.2.1 hd (by rw [iI_toInt hz]; exact h1) ht (k H locs ls hP hD hS hl)
end GSW
/-- a choice by any sentence -/
noncomputable def cif {α : Type} (P : Prop) (a b : α) : α := @ite α P (Classical.propDecidable P) a b
theorem cif_t {α : Type} {P : Prop} {a b : α} (h : P) : cif P a b = a := if_pos h
theorem cif_f {α : Type} {P : Prop} {a b : α} (h : ¬ P) : cif P a b = b := if_neg h
/-- the best batch so far, and its saving -/
noncomputable def bsf (x : Bk) (a : Int) : Nat → Int × Int
  | 0 => (-1, 0)
  | k + 1 => cif (¬ 4 ≤ x 14 (k : Int) ∧ mayC x a (k : Int) ∧ ((bsf x a k).1 = -1 ∨ (bsf x a k).2 < swl x a (k : Int))) ((k : Int), swl x a (k : Int)) (bsf x a k)
theorem bsf_t {x : Bk} {a : Int} {k : Nat} (h : ¬ 4 ≤ x 14 (k : Int) ∧ mayC x a (k : Int) ∧ ((bsf x a k).1 = -1 ∨ (bsf x a k).2 < swl x a (k : Int))) : bsf x a (k + 1) = ((k : Int), swl x a (k : Int)) := cif_t h
theorem bsf_f {x : Bk} {a : Int} {k : Nat} (h : ¬ (¬ 4 ≤ x 14 (k : Int) ∧ mayC x a (k : Int) ∧ ((bsf x a k).1 = -1 ∨ (bsf x a k).2 < swl x a (k : Int)))) : bsf x a (k + 1) = bsf x a k := cif_f h
theorem swl_bd {x : Bk} (hok : Ok x) {a b : Int} (ha : 0 ≤ a ∧ a < 10) (hb : 0 ≤ b ∧ b < 10) : -20000 ≤ swl x a b ∧ swl x a b ≤ 20000 := by
  have hl := hok.r14 b hb.1 hb.2
  unfold swl
  split
  · omega
  · exact sv_bd hok (hok.l13 _ (by omega) (by omega)) ha
theorem bsf_in {x : Bk} (hok : Ok x) {a : Int} (ha : 0 ≤ a ∧ a < 10) (k : Nat) (hk : k ≤ 10) : (-1 ≤ (bsf x a k).1 ∧ (bsf x a k).1 < (k : Int) ∨ (bsf x a k).1 = -1) ∧ -20000 ≤ (bsf x a k).2 ∧ (bsf x a k).2 ≤ 20000 := by
  induction k with
  | zero => exact ⟨Or.inr rfl, by show (-20000 : Int) ≤ 0; omega, by show (0 : Int) ≤ 20000; omega⟩
  | succ k ih =>
    have ih := ih (by omega)
    by_cases h : ¬ 4 ≤ x 14 (k : Int) ∧ mayC x a (k : Int) ∧ ((bsf x a k).1 = -1 ∨ (bsf x a k).2 < swl x a (k : Int))
    · rw [bsf_t h]
      have := swl_bd hok ha (b := (k : Int)) (by omega)
      refine ⟨Or.inl ⟨?_, ?_⟩, ?_, ?_⟩ <;> dsimp only <;> omega
    · rw [bsf_f h]
      omega
theorem swl_cor {y x : Bk} (h : cor y x) (a b : Int) : swl y a b = swl x a b := by
  unfold swl
  rw [h.1 14 (by decide) (by decide) (by decide) (by decide), h.1 13 (by decide) (by decide) (by decide) (by decide), sv_cor h]
theorem mayC_scr {y x : Bk} (h : scr y x) (a b : Int) : mayC y a b ↔ mayC x a b := by
  have e14 := h.1 14 (by decide) (by decide)
  have e13 := h.1 13 (by decide) (by decide)
  unfold mayC
  rw [swl_cor h.cor, e14]
  refine and_congr_left fun _ => okS_congr h fun i _ _ => ?_
  unfold bat1
  rw [e13, e14]
theorem frees_cor {y x : Bk} (h : cor y x) : frees y = frees x := by
  unfold frees
  rw [h.1 15 (by decide) (by decide) (by decide) (by decide), h.1 1 (by decide) (by decide) (by decide) (by decide)]
theorem sby_bd {x : Bk} (hok : Ok x) {b : Int} (hb : 0 ≤ b ∧ b < 10) : -80000 ≤ sby x b ∧ sby x b ≤ 80000 := by
  have hl := hok.r14 b hb.1 hb.2
  have h := sg_bd (f := sbt x b) (n := (x 14 b).toNat) (lo := -20000) (hi := 20000) (fun k hk => by
    unfold sbt
    split
    · omega
    · exact sv_bd hok (hok.l13 _ (by omega) (by omega)) (hok.l13 _ (by omega) (by omega)))
  unfold sby
  omega
theorem ssb_bd {x : Bk} (hok : Ok x) : -800000 ≤ sg (sby x) (x 3 0).toNat ∧ sg (sby x) (x 3 0).toNat ≤ 800000 := by
  have hb := hok.b
  have h := sg_bd (f := sby x) (n := (x 3 0).toNat) (lo := -80000) (hi := 80000) (fun k hk => sby_bd hok (by omega))
  omega
theorem svd_bd {x : Bk} (hok : Ok x) : -200000 ≤ svd x ∧ svd x ≤ 200000 := by
  have hn := hok.n
  have h := sg_bd (f := fun i => if i < x 16 i then sv x i (x 16 i) else 0) (n := (x 1 0).toNat) (lo := -20000) (hi := 20000) (fun k hk => by
    have h16 := hok.r16 (k : Int) (by omega) (by omega)
    split
    · exact sv_bd hok (by omega) (by omega)
    · omega)
  unfold svd
  omega
theorem pbs_p {x : Bk} (hn : 0 ≤ x 1 0 ∧ x 1 0 ≤ 10) (hp : rng x 16 10 (-1) 9) (k : Nat) (hk : (k : Int) ≤ x 1 0) : ∀ i, 0 ≤ i → i < 10 → -1 ≤ (pbs x k).2 i ∧ (pbs x k).2 i ≤ 9 := by
  induction k with
  | zero => exact hp
  | succ k ih =>
    have ih := ih (by omega)
    intro i h0 h1
    by_cases h : bt (pbs x k).1 (k : Int)
    · by_cases h2 : pbu x k = -1
      · rw [pbs_0 h h2]; exact ih i h0 h1
      · rw [pbs_1 h h2]
        have hi := ih i h0 h1
        rcases fnd_in (fpP x (k : Int) (clr (pbs x k).1 (k : Int)) (x 18 (pbs x k).1)) ((x 1 0).toNat - (k + 1)) (k + 1) with h3 | h3
        · exact absurd h3 h2
        · have h4 : (k : Int) + 1 ≤ pbu x k := h3.1
          have h5 : pbu x k < ((k + 1 : Nat) : Int) + (((x 1 0).toNat - (k + 1) : Nat) : Int) := h3.2.1
          show -1 ≤ updI (updI _ _ _) _ _ i ∧ updI (updI _ _ _) _ _ i ≤ 9
          unfold updI
          split
          · omega
          · split <;> omega
    · rw [pbs_n h]; exact ih i h0 h1
theorem pan_k {x : Bk} {v : Int} {k : Nat} (h4 : k ≠ 4) (h16 : k ≠ 16) (h18 : k ≠ 18) : pan x v k = x k := by
  unfold pan
  split
  · unfold paX; rw [bu_n h16, bu_n h4, bu_n h16]
  · unfold paY paX; rw [bu_n h16, bu_n h18, bu_n h4, bu_n h16]
theorem pan_4 {x : Bk} {v : Int} : pan x v 4 = updI (x 4) 0 v := by
  unfold pan
  split <;> rfl
theorem pan_p {x : Bk} {v : Int} (hn : 0 ≤ x 1 0 ∧ x 1 0 ≤ 10) (hg : rng x 17 100 0 20000) : rng (pan x v) 16 10 (-1) 9 := by
  unfold pan
  split
  · intro i h0 h1
    show -1 ≤ pbr _ _ _ 5 i ∧ pbr _ _ _ 5 i ≤ 9
    exact pbr_in (by omega) hg fl_in 5 i h0 h1
  · intro i h0 h1
    exact pbs_p (x := paY x v) hn (fun i h0 h1 => fl_in i h0 h1) (x 1 0).toNat (by show ((x 1 0).toNat : Int) ≤ x 1 0; omega) i h0 h1
theorem Ok.pan {x : Bk} {v : Int} (h : Ok x) (hg : rng x 17 100 0 20000) (hv : v = 0 ∨ v = 1) : Ok (pan x v) := by
  refine ⟨?_, ?_, ?_, ?_, ?_, rng_cor (pan_k (by decide) (by decide) (by decide)) h.r5, rng_cor (pan_k (by decide) (by decide) (by decide)) h.r6, rng_cor (pan_k (by decide) (by decide) (by decide)) h.r7, rng_cor (pan_k (by decide) (by decide) (by decide)) h.r8, rng_cor (pan_k (by decide) (by decide) (by decide)) h.r9, rng_cor (pan_k (by decide) (by decide) (by decide)) h.r10, rng_cor (pan_k (by decide) (by decide) (by decide)) h.r11, rng_cor (pan_k (by decide) (by decide) (by decide)) h.r13, rng_cor (pan_k (by decide) (by decide) (by decide)) h.r14, rng_cor (pan_k (by decide) (by decide) (by decide)) h.r15, pan_p h.n hg⟩
  · rw [pan_k (by decide) (by decide) (by decide)]; exact h.n
  · rw [pan_k (by decide) (by decide) (by decide)]; exact h.b
  · rw [pan_k (by decide) (by decide) (by decide)]; exact h.w
  · rw [pan_k (by decide) (by decide) (by decide)]; exact h.s
  · rw [pan_4, updI_s]; exact hv
/-- writes of open, join, leave -/
def ptB (x : Bk) (a b : Int) : Bk := bu (bu (bu x 13 (updI (x 13) (b * 4 + x 14 b) a)) 14 (updI (x 14) b (x 14 b + 1))) 15 (updI (x 15) a b)
def unX (x : Bk) (a : Int) : Bk := bu x 16 (unp (x 16) a)
def adB (x : Bk) : Bk := bu x 3 (updI (x 3) 0 (x 3 0 + 1))
def opX (x : Bk) (a : Int) : Bk := if x 16 a = -1 then ptB (adB (unX x a)) a (x 3 0) else ptB (ptB (adB (unX x a)) a (x 3 0)) (x 16 a) (x 3 0)
def leX (x : Bk) (a : Int) : Bk := bu (bu (bu x 13 (tk (x 15 a) a (x 13) (x 14 (x 15 a)).toNat).1) 14 (updI (x 14) (x 15 a) (tk (x 15 a) a (x 13) (x 14 (x 15 a)).toNat).2)) 15 (updI (x 15) a (-1))
