/-! what always holds of the class's numbers (and the model's) -/
def rng (x : Bk) (k : Nat) (n lo hi : Int) : Prop := ∀ i, 0 ≤ i → i < n → lo ≤ x k i ∧ x k i ≤ hi
def Ok (x : Bk) : Prop := (0 ≤ x 1 0 ∧ x 1 0 ≤ 10) ∧ (0 ≤ x 3 0 ∧ x 3 0 ≤ 10) ∧ (0 ≤ x 2 1 ∧ x 2 1 ≤ 4000) ∧ (1 ≤ x 2 2 ∧ x 2 2 ≤ 400) ∧ (x 4 0 = 0 ∨ x 4 0 = 1) ∧ rng x 5 10 0 10000 ∧ rng x 6 10 0 100 ∧ rng x 7 10 0 3 ∧ rng x 8 10 0 1000 ∧ rng x 9 100 (-1) 20000 ∧ rng x 10 100 0 1 ∧ rng x 11 16 0 1 ∧ rng x 13 40 0 9 ∧ rng x 14 10 0 4 ∧ rng x 15 10 (-1) 9 ∧ rng x 16 10 (-1) 9
theorem Ok.n {x : Bk} (h : Ok x) : 0 ≤ x 1 0 ∧ x 1 0 ≤ 10 := h.1
theorem Ok.b {x : Bk} (h : Ok x) : 0 ≤ x 3 0 ∧ x 3 0 ≤ 10 := h.2.1
theorem Ok.w {x : Bk} (h : Ok x) : 0 ≤ x 2 1 ∧ x 2 1 ≤ 4000 := h.2.2.1
theorem Ok.s {x : Bk} (h : Ok x) : 1 ≤ x 2 2 ∧ x 2 2 ≤ 400 := h.2.2.2.1
theorem Ok.wr {x : Bk} (h : Ok x) : InR (x 2 1) := by have := h.w; omega
theorem Ok.sr {x : Bk} (h : Ok x) : InR (x 2 2) := by have := h.s; omega
theorem Ok.e {x : Bk} (h : Ok x) : x 4 0 = 0 ∨ x 4 0 = 1 := h.2.2.2.2.1
theorem Ok.r5 {x : Bk} (h : Ok x) : rng x 5 10 0 10000 := h.2.2.2.2.2.1
theorem Ok.r6 {x : Bk} (h : Ok x) : rng x 6 10 0 100 := h.2.2.2.2.2.2.1
theorem Ok.r7 {x : Bk} (h : Ok x) : rng x 7 10 0 3 := h.2.2.2.2.2.2.2.1
theorem Ok.r8 {x : Bk} (h : Ok x) : rng x 8 10 0 1000 := h.2.2.2.2.2.2.2.2.1
theorem Ok.r9 {x : Bk} (h : Ok x) : rng x 9 100 (-1) 20000 := h.2.2.2.2.2.2.2.2.2.1
theorem Ok.r10 {x : Bk} (h : Ok x) : rng x 10 100 0 1 := h.2.2.2.2.2.2.2.2.2.2.1
theorem Ok.r11 {x : Bk} (h : Ok x) : rng x 11 16 0 1 := h.2.2.2.2.2.2.2.2.2.2.2.1
theorem Ok.r13 {x : Bk} (h : Ok x) : rng x 13 40 0 9 := h.2.2.2.2.2.2.2.2.2.2.2.2.1
theorem Ok.r14 {x : Bk} (h : Ok x) : rng x 14 10 0 4 := h.2.2.2.2.2.2.2.2.2.2.2.2.2.1
theorem Ok.r15 {x : Bk} (h : Ok x) : rng x 15 10 (-1) 9 := h.2.2.2.2.2.2.2.2.2.2.2.2.2.2.1
theorem Ok.r16 {x : Bk} (h : Ok x) : rng x 16 10 (-1) 9 := h.2.2.2.2.2.2.2.2.2.2.2.2.2.2.2
theorem Ok.l13 {x : Bk} (h : Ok x) : ∀ i, 0 ≤ i → i < 40 → 0 ≤ x 13 i ∧ x 13 i < 10 := fun i h0 h1 => by have := h.r13 i h0 h1; omega
theorem Ok.i15 {x : Bk} (h : Ok x) : ∀ i, 0 ≤ i → i < 10 → InR (x 15 i) := fun i h0 h1 => by have := h.r15 i h0 h1; omega
theorem Ok.z {x : Bk} (h : Ok x) : okZ x := ⟨h.r7, fun i h0 h1 => by have := h.r10 i h0 h1; omega, fun i h0 h1 => by have := h.r11 i h0 h1; omega⟩
/-- the same but for scratch -/
def cor (y x : Bk) : Prop := (∀ k, k ≠ 2 → k ≠ 12 → k ≠ 17 → k ≠ 18 → y k = x k) ∧ y 2 1 = x 2 1 ∧ y 2 2 = x 2 2
theorem rng_cor {y x : Bk} {k : Nat} {n lo hi : Int} (e : y k = x k) (h : rng x k n lo hi) : rng y k n lo hi := fun i h0 h1 => by rw [e]; exact h i h0 h1
theorem Ok.cor {y x : Bk} (h : Ok x) (c : cor y x) : Ok y := by
  have e : ∀ k, k ≠ 2 → k ≠ 12 → k ≠ 17 → k ≠ 18 → y k = x k := c.1
  refine ⟨?_, ?_, ?_, ?_, ?_, rng_cor (e 5 (by decide) (by decide) (by decide) (by decide)) h.r5, rng_cor (e 6 (by decide) (by decide) (by decide) (by decide)) h.r6, rng_cor (e 7 (by decide) (by decide) (by decide) (by decide)) h.r7, rng_cor (e 8 (by decide) (by decide) (by decide) (by decide)) h.r8, rng_cor (e 9 (by decide) (by decide) (by decide) (by decide)) h.r9, rng_cor (e 10 (by decide) (by decide) (by decide) (by decide)) h.r10, rng_cor (e 11 (by decide) (by decide) (by decide) (by decide)) h.r11, rng_cor (e 13 (by decide) (by decide) (by decide) (by decide)) h.r13, rng_cor (e 14 (by decide) (by decide) (by decide) (by decide)) h.r14, rng_cor (e 15 (by decide) (by decide) (by decide) (by decide)) h.r15, rng_cor (e 16 (by decide) (by decide) (by decide) (by decide)) h.r16⟩
  · rw [e 1 (by decide) (by decide) (by decide) (by decide)]; exact h.n
  · rw [e 3 (by decide) (by decide) (by decide) (by decide)]; exact h.b
  · rw [c.2.1]; exact h.w
  · rw [c.2.2]; exact h.s
  · rw [e 4 (by decide) (by decide) (by decide) (by decide)]; exact h.e
theorem scr.cor {y x : Bk} (h : scr y x) : cor y x := ⟨fun k h1 h2 _ _ => h.1 k h1 h2, h.2⟩
theorem cor.rf (x : Bk) : cor x x := ⟨fun _ _ _ _ _ => rfl, rfl, rfl⟩
theorem cor.tr {z y x : Bk} (h : cor z y) (g : cor y x) : cor z x := ⟨fun k h1 h2 h3 h4 => (h.1 k h1 h2 h3 h4).trans (g.1 k h1 h2 h3 h4), h.2.1.trans g.2.1, h.2.2.trans g.2.2⟩
theorem scr.rf (x : Bk) : scr x x := ⟨fun _ _ _ => rfl, rfl, rfl⟩
theorem sv_cor {y x : Bk} (h : cor y x) (a b : Int) : sv y a b = sv x a b := by
  unfold sv
  rw [h.1 9 (by decide) (by decide) (by decide) (by decide), h.1 5 (by decide) (by decide) (by decide) (by decide)]
theorem sv_bd {x : Bk} (h : Ok x) {a b : Int} (ha : 0 ≤ a ∧ a < 10) (hb : 0 ≤ b ∧ b < 10) : -20000 ≤ sv x a b ∧ sv x a b ≤ 20000 := by
  have h1 := h.r5 a ha.1 ha.2
  have h2 := h.r5 b hb.1 hb.2
  have h3 := h.r9 (a * 10 + b) (by omega) (by omega)
  unfold sv
  split <;> omega
theorem okP_cor {y x : Bk} (h : cor y x) (a b : Int) : okP y a b ↔ okP x a b := by
  unfold okP alg
  rw [h.1 6 (by decide) (by decide) (by decide) (by decide), h.1 7 (by decide) (by decide) (by decide) (by decide), h.1 8 (by decide) (by decide) (by decide) (by decide), h.1 10 (by decide) (by decide) (by decide) (by decide), h.1 11 (by decide) (by decide) (by decide) (by decide), h.2.1, h.2.2]
/-- the gain of a pair -/
def gn (x : Bk) (a b : Int) : Int := if x 15 a = -1 ∧ x 15 b = -1 ∧ okP x a b then (if 0 < sv x a b then sv x a b else 0) else 0
theorem gn_cor {y x : Bk} (h : cor y x) (a b : Int) : gn y a b = gn x a b := by
  unfold gn
  rw [h.1 15 (by decide) (by decide) (by decide) (by decide), sv_cor h]
  by_cases hc : x 15 a = -1 ∧ x 15 b = -1 ∧ okP x a b
  · rw [if_pos hc, if_pos ⟨hc.1, hc.2.1, (okP_cor h a b).mpr hc.2.2⟩]
  · rw [if_neg hc, if_neg (fun q => hc ⟨q.1, q.2.1, (okP_cor h a b).mp q.2.2⟩)]
theorem gn_bd {x : Bk} (h : Ok x) {a b : Int} (ha : 0 ≤ a ∧ a < 10) (hb : 0 ≤ b ∧ b < 10) : 0 ≤ gn x a b ∧ gn x a b ≤ 20000 := by
  have := sv_bd h ha hb
  unfold gn
  split
  · split <;> omega
  · omega
/-- the gains so far -/
def gok (y x : Bk) (i j : Int) : Prop := (∀ k, k ≠ 2 → k ≠ 12 → k ≠ 17 → y k = x k) ∧ (y 2 1 = x 2 1 ∧ y 2 2 = x 2 2) ∧ (∀ a b, 0 ≤ a → a < b → b < x 1 0 → (a < i ∨ (a = i ∧ b < j)) → y 17 (a * 10 + b) = gn x a b) ∧ rng y 17 100 0 20000
theorem gok.cor {y x : Bk} {i j : Int} (h : gok y x i j) : cor y x := ⟨fun k h1 h2 h3 _ => h.1 k h1 h2 h3, h.2.1⟩
theorem gok_step {z y x : Bk} {i j v : Int} (h : gok y x i j) (s : scr z y) (hv : v = gn x i j) (ho : Ok x) (hi : 0 ≤ i ∧ i < j) (hj : j < x 1 0) : gok (bu z 17 (updI (z 17) (i * 10 + j) v)) x i (j + 1) := by
  have hn := ho.n
  refine ⟨fun k h1 h2 h3 => ?_, ⟨?_, ?_⟩, fun a b h0 h1 h2 h3 => ?_, fun q h0 h1 => ?_⟩
  · rw [bu_n h3, s.1 k h1 h2, h.1 k h1 h2 h3]
  · rw [bu_n (by decide), s.2.1, h.2.1.1]
  · rw [bu_n (by decide), s.2.2, h.2.1.2]
  · rw [bu_s]
    by_cases e : a * 10 + b = i * 10 + j
    · obtain rfl : a = i := by omega
      obtain rfl : b = j := by omega
      rw [updI_s, hv]
    · rw [updI_n e, s.1 17 (by decide) (by decide)]
      exact h.2.2.1 a b h0 h1 h2 (by
        rcases h3 with h3 | h3
        · exact Or.inl h3
        · refine Or.inr ⟨h3.1, ?_⟩
          have : ¬ b = j := fun q => e (by rw [h3.1, q])
          omega)
  · rw [bu_s]
    by_cases e : q = i * 10 + j
    · rw [e, updI_s, hv]
      exact gn_bd ho (by omega) (by omega)
    · rw [updI_n e, s.1 17 (by decide) (by decide)]
      exact h.2.2.2 q h0 h1
theorem gok_next {y x : Bk} {i : Int} (h : gok y x i (x 1 0)) : gok y x (i + 1) (i + 2) := ⟨h.1, h.2.1, fun a b h0 h1 h2 h3 => h.2.2.1 a b h0 h1 h2 (by omega), h.2.2.2⟩
