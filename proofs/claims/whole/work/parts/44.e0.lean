/-! the same but for the code -/
def e0 (z y : Bk) : Prop := ∀ j, j ≠ 0 → z j = y j
theorem e0.rf (x : Bk) : e0 x x := fun _ _ => rfl
theorem e0.sc {z y : Bk} (h : e0 z y) (f : Int → Int) : e0 (bu z 0 f) y := fun j hj => (bu_n hj).trans (h j hj)
theorem e0.b2 {z y : Bk} (h : e0 z y) (k : Nat) (f g : Int → Int) : e0 (bu (bu z k f) k g) (bu y k g) := fun j hj => by
  by_cases e : j = k
  · subst e; rw [bu_s, bu_s]
  · rw [bu_n e, bu_n e, bu_n e]; exact h j hj
theorem e0.bu {z y : Bk} (h : e0 z y) (k : Nat) (f : Int → Int) : e0 (bu z k f) (bu y k f) := fun j hj => by
  by_cases e : j = k
  · subst e; rw [bu_s, bu_s]
  · rw [bu_n e, bu_n e]; exact h j hj
theorem e0.tr {z y x : Bk} (h : e0 z y) (g : e0 y x) : e0 z x := fun j hj => (h j hj).trans (g j hj)
theorem rng_e0 {z x : Bk} {k : Nat} {n lo hi : Int} (e : e0 z x) (hk : k ≠ 0) (h : rng x k n lo hi) : rng z k n lo hi := fun i h0 h1 => by rw [e k hk]; exact h i h0 h1
theorem Ok.e0 {z x : Bk} (h : Ok x) (c : e0 z x) : Ok z := by
  refine ⟨?_, ?_, ?_, ?_, ?_, rng_e0 c (by decide) h.r5, rng_e0 c (by decide) h.r6, rng_e0 c (by decide) h.r7, rng_e0 c (by decide) h.r8, rng_e0 c (by decide) h.r9, rng_e0 c (by decide) h.r10, rng_e0 c (by decide) h.r11, rng_e0 c (by decide) h.r13, rng_e0 c (by decide) h.r14, rng_e0 c (by decide) h.r15, rng_e0 c (by decide) h.r16⟩
  · rw [c 1 (by decide)]; exact h.n
  · rw [c 3 (by decide)]; exact h.b
  · rw [c 2 (by decide)]; exact h.w
  · rw [c 2 (by decide)]; exact h.s
  · rw [c 4 (by decide)]; exact h.e
theorem sym.e0 {z x : Bk} (h : sym x) (c : e0 z x) : sym z := by
  unfold sym
  rw [c 10 (by decide), c 11 (by decide)]
  exact h
/-- rows of batches: orders that are there, at home, each once -/
def rows (x : Bk) : Prop := ∀ b, 0 ≤ b → b < x 3 0 → (∀ i, 0 ≤ i → i < x 14 b → (0 ≤ x 13 (b * 4 + i) ∧ x 13 (b * 4 + i) < x 1 0) ∧ x 15 (x 13 (b * 4 + i)) = b) ∧ ∀ i j, 0 ≤ i → i < j → j < x 14 b → ¬ x 13 (b * 4 + i) = x 13 (b * 4 + j)
theorem rows.e0 {z x : Bk} (h : rows x) (c : e0 z x) : rows z := by
  unfold rows
  rw [c 3 (by decide), c 14 (by decide), c 13 (by decide), c 1 (by decide), c 15 (by decide)]
  exact h
theorem rows.at {x : Bk} (h : rows x) {a b : Int} (hb : 0 ≤ b ∧ b < x 3 0) (ha : x 15 a = -1) : ∀ i, 0 ≤ i → i < x 14 b → (0 ≤ x 13 (b * 4 + i) ∧ x 13 (b * 4 + i) < x 1 0) ∧ ¬ x 13 (b * 4 + i) = a := fun i h0 h1 => by
  have h2 := (h b hb.1 hb.2).1 i h0 h1
  refine ⟨h2.1, fun e => ?_⟩
  have h3 := h2.2
  rw [e, ha] at h3
  omega
theorem Ok.rulX {x : Bk} (h : Ok x) {a b v : Int} (hv : v = 0 ∨ v = 1) : Ok (rulX x a b v) := by
  refine ⟨h.n, h.b, h.w, h.s, h.e, h.r5, h.r6, h.r7, h.r8, h.r9, fun i h0 h1 => ?_, h.r11, h.r13, h.r14, h.r15, h.r16⟩
  have h10 := h.r10 i h0 h1
  show 0 ≤ updI (updI _ _ _) _ _ i ∧ updI (updI _ _ _) _ _ i ≤ 1
  unfold updI
  split
  · omega
  · split <;> omega
theorem sym.rulX {x : Bk} (h : sym x) {a b v : Int} (ha : 0 ≤ a ∧ a < 10) (hb : 0 ≤ b ∧ b < 10) : sym (rulX x a b v) := by
  refine ⟨fun c d c0 c1 d0 d1 => ?_, h.2⟩
  show updI (updI _ _ _) _ _ (c * 10 + d) = updI (updI _ _ _) _ _ (d * 10 + c)
  have h1 := h.1 c d c0 c1 d0 d1
  unfold updI
  by_cases e1 : c = a ∧ d = b
  · rw [if_pos (show d * 10 + c = b * 10 + a by omega)]
    by_cases e2 : c * 10 + d = b * 10 + a
    · rw [if_pos e2]
    · rw [if_neg e2, if_pos (by omega)]
  · by_cases e2 : c = b ∧ d = a
    · rw [if_pos (show c * 10 + d = b * 10 + a by omega)]
      by_cases e3 : d * 10 + c = b * 10 + a
      · rw [if_pos e3]
      · rw [if_neg e3, if_pos (by omega)]
    · rw [if_neg (by omega), if_neg (by omega), if_neg (by omega), if_neg (by omega)]
      exact h1
