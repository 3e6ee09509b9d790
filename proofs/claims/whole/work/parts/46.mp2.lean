/-! open and best, purely -/
theorem e0_unX {z y : Bk} (h : e0 z y) (a : Int) : e0 (unX z a) (unX y a) := by
  unfold unX
  rw [h 16 (by decide)]
  exact e0.bu h _ _
theorem e0_ptB {z y : Bk} (h : e0 z y) (a b : Int) : e0 (ptB z a b) (ptB y a b) := by
  unfold ptB
  rw [h 13 (by decide), h 14 (by decide), h 15 (by decide)]
  exact e0.bu (e0.bu (e0.bu h _ _) _ _) _ _
theorem unX_adB (x : Bk) (a : Int) : e0 (unX (adB x) a) (adB (unX x a)) := fun j _ => by
  show bu (bu x 3 _) 16 _ j = bu (bu x 16 _) 3 _ j
  by_cases h1 : j = 16
  · subst h1; rfl
  · by_cases h2 : j = 3
    · subst h2; rfl
    · rw [bu_n h1, bu_n h2, bu_n h2, bu_n h1]
theorem updI_id {p : Int → Int} {a v : Int} (h : p a = v) : updI p a v = p := by
  funext j
  unfold updI
  split
  · rename_i e; rw [e, h]
  · rfl
theorem unX_id {z : Bk} {a : Int} (h : z 16 a = -1) : e0 (unX z a) z := fun j _ => by
  unfold unX unp
  rw [if_pos h, updI_id h]
  by_cases e : j = 16
  · subst e; rw [bu_s]
  · rw [bu_n e]
theorem unp_at {p : Int → Int} {a : Int} (h : ¬ p a = -1) : unp p a (p a) = -1 := by
  unfold unp updI
  rw [if_neg h]
  split
  · rfl
  · rw [if_pos rfl]
theorem op_1 {x B : Bk} {a : Int} (h : e0 B (adB x)) : e0 (ptB (unX B a) a (x 3 0)) (ptB (adB (unX x a)) a (x 3 0)) := e0_ptB ((e0_unX h a).tr (unX_adB x a)) a _
theorem op_none {x B : Bk} {a : Int} (h : e0 B (adB x)) (hp : x 16 a = -1) : e0 (ptB (unX B a) a (x 3 0)) (opX x a) := by
  unfold opX
  rw [if_pos hp]
  exact op_1 h
theorem op_16 {x B : Bk} {a : Int} (h : e0 B (adB x)) (hp : ¬ x 16 a = -1) : ptB (unX B a) a (x 3 0) 16 (x 16 a) = -1 := by
  show unp (B 16) a (x 16 a) = -1
  rw [h 16 (by decide)]
  exact unp_at hp
theorem op_two {x B : Bk} {a : Int} (h : e0 B (adB x)) (hp : ¬ x 16 a = -1) : e0 (ptB (unX (ptB (unX B a) a (x 3 0)) (x 16 a)) (x 16 a) (x 3 0)) (opX x a) := by
  unfold opX
  rw [if_neg hp]
  exact e0_ptB ((unX_id (op_16 h hp)).tr (op_1 h)) _ _
theorem bsf_v {x : Bk} {a : Int} (k : Nat) : (bsf x a k).1 = -1 ∨ (bsf x a k).2 = swl x a (bsf x a k).1 := by
  induction k with
  | zero => exact Or.inl rfl
  | succ k ih =>
    by_cases h : ¬ 4 ≤ x 14 (k : Int) ∧ mayC x a (k : Int) ∧ ((bsf x a k).1 = -1 ∨ (bsf x a k).2 < swl x a (k : Int))
    · rw [bsf_t h]; exact Or.inr rfl
    · rw [bsf_f h]; exact ih
