/-! each call keeps what always holds -/
theorem up_rng {f : Int → Int} {n lo hi k v : Int} (h : ∀ i, 0 ≤ i → i < n → lo ≤ f i ∧ f i ≤ hi) (hv : lo ≤ v ∧ v ≤ hi) : ∀ i, 0 ≤ i → i < n → lo ≤ updI f k v i ∧ updI f k v i ≤ hi := fun i h0 h1 => by
  unfold updI
  split
  · exact hv
  · exact h i h0 h1
theorem Iv.ord {x : Bk} (h : Iv x) {a b v : Int} (hr : (1 ≤ a ∧ a ≤ 10000) ∧ (1 ≤ b ∧ b ≤ 100) ∧ (0 ≤ v ∧ v ≤ 3)) (hn : x 1 0 < 10) : Iv (ordX x a b v) := by
  have ho := h.ok
  have hn0 := ho.n
  refine ⟨⟨by show 0 ≤ x 1 0 + 1 ∧ x 1 0 + 1 ≤ 10; omega, ho.b, ho.w, ho.s, ho.e, up_rng ho.r5 (by omega), up_rng ho.r6 (by omega), up_rng ho.r7 (by omega), ho.r8, ho.r9, ho.r10, ho.r11, ho.r13, ho.r14, ho.r15, ho.r16⟩, h.sy, ?_, h.z, ?_, h.g, h.t⟩
  · intro c c0 c1
    have hc := h.rw c c0 c1
    refine ⟨fun i i0 i1 => ?_, hc.2⟩
    have hi := hc.1 i i0 i1
    refine ⟨⟨hi.1.1, ?_⟩, hi.2⟩
    show x 13 (c * 4 + i) < x 1 0 + 1
    omega
  · intro i i0 i1
    rcases h.p i i0 i1 with q | q
    · exact Or.inl q
    · refine Or.inr ⟨?_, ⟨q.2.1.1, ?_⟩, q.2.2⟩
      · show i < x 1 0 + 1
        omega
      · show x 16 i < x 1 0 + 1
        omega
theorem mc.ord {x y : Bk} (h : mc y x) (a b v : Int) : mc (ordX y a b v) (ordX x a b v) := by
  have e1 := h.k 1 (by decide)
  have e5 := h.k 5 (by decide)
  have e6 := h.k 6 (by decide)
  have e7 := h.k 7 (by decide)
  exact (((h.wr (by decide) (by rw [e5, e1])).wr (by decide) (by rw [e6, e1])).wr (by decide) (by rw [e7, e1])).wr (by decide) (by rw [e1])
theorem Iv.joi {x : Bk} (h : Iv x) {a b v : Int} (hv : 0 ≤ v ∧ v ≤ 20000) : Iv (joiX x a b v) := by
  have ho := h.ok
  exact ⟨⟨ho.n, ho.b, ho.w, ho.s, ho.e, ho.r5, ho.r6, ho.r7, ho.r8, up_rng (up_rng ho.r9 (by omega)) (by omega), ho.r10, ho.r11, ho.r13, ho.r14, ho.r15, ho.r16⟩, h.sy, h.rw, h.z, h.p, h.g, h.t⟩
theorem mc.joi {x y : Bk} (h : mc y x) (a b v : Int) : mc (joiX y a b v) (joiX x a b v) := h.wr (by decide) (by rw [h.k 9 (by decide)])
theorem Iv.rul {x : Bk} (h : Iv x) {a b v : Int} (hv : v = 0 ∨ v = 1) (ha : 0 ≤ a ∧ a < 10) (hb : 0 ≤ b ∧ b < 10) : Iv (rulX x a b v) := ⟨h.ok.rulX hv, h.sy.rulX ha hb, h.rw, h.z, h.p, h.g, h.t⟩
theorem mc.rul {x y : Bk} (h : mc y x) (a b v : Int) : mc (rulX y a b v) (rulX x a b v) := h.wr (by decide) (by rw [h.k 10 (by decide)])
theorem Iv.wei {x : Bk} (h : Iv x) {a v : Int} (hv : 0 ≤ v ∧ v ≤ 1000) : Iv (bu x 8 (updI (x 8) a v)) := by
  have ho := h.ok
  exact ⟨⟨ho.n, ho.b, ho.w, ho.s, ho.e, ho.r5, ho.r6, ho.r7, up_rng ho.r8 hv, ho.r9, ho.r10, ho.r11, ho.r13, ho.r14, ho.r15, ho.r16⟩, h.sy, h.rw, h.z, h.p, h.g, h.t⟩
theorem mc.wei {x y : Bk} (h : mc y x) (a v : Int) : mc (bu y 8 (updI (y 8) a v)) (bu x 8 (updI (x 8) a v)) := h.wr (by decide) (by rw [h.k 8 (by decide)])
def neaX (x : Bk) (a b v : Int) : Bk := bu x 11 (updI (updI (x 11) (a * 4 + b) v) (b * 4 + a) v)
theorem Iv.nea {x : Bk} (h : Iv x) {a b v : Int} (hv : v = 0 ∨ v = 1) (ha : 0 ≤ a ∧ a ≤ 3) (hb : 0 ≤ b ∧ b ≤ 3) : Iv (neaX x a b v) := by
  have ho := h.ok
  refine ⟨⟨ho.n, ho.b, ho.w, ho.s, ho.e, ho.r5, ho.r6, ho.r7, ho.r8, ho.r9, ho.r10, up_rng (up_rng ho.r11 (by omega)) (by omega), ho.r13, ho.r14, ho.r15, ho.r16⟩, ⟨h.sy.1, fun c d c0 c1 d0 d1 => ?_⟩, h.rw, h.z, h.p, h.g, h.t⟩
  show updI (updI (x 11) (a * 4 + b) v) (b * 4 + a) v (c * 4 + d) = updI (updI (x 11) (a * 4 + b) v) (b * 4 + a) v (d * 4 + c)
  have h1 := h.sy.2 c d c0 c1 d0 d1
  unfold updI
  by_cases e1 : c = a ∧ d = b
  · rw [if_pos (show d * 4 + c = b * 4 + a by omega)]
    by_cases e2 : c * 4 + d = b * 4 + a
    · rw [if_pos e2]
    · rw [if_neg e2, if_pos (by omega)]
  · by_cases e2 : c = b ∧ d = a
    · rw [if_pos (show c * 4 + d = b * 4 + a by omega)]
      by_cases e3 : d * 4 + c = b * 4 + a
      · rw [if_pos e3]
      · rw [if_neg e3, if_pos (by omega)]
    · rw [if_neg (by omega), if_neg (by omega), if_neg (by omega), if_neg (by omega)]
      exact h1
theorem mc.nea {x y : Bk} (h : mc y x) (a b v : Int) : mc (neaX y a b v) (neaX x a b v) := h.wr (by decide) (by rw [h.k 11 (by decide)])
theorem Iv.lim {x : Bk} (h : Iv x) {a b : Int} (ha : 0 ≤ a ∧ a ≤ 4000) (hb : 1 ≤ b ∧ b ≤ 400) : Iv (limX x a b) := ⟨h.ok.limX ha hb, h.sy, h.rw, h.z, h.p, h.g, h.t⟩
theorem mc.lim {x y : Bk} (h : mc y x) (a b : Int) : mc (limX y a b) (limX x a b) := by
  refine ⟨fun k h0 h2 h12 h17 h18 => ?_, rfl, rfl⟩
  show bu (bu y 2 _) 2 _ k = bu (bu x 2 _) 2 _ k
  rw [bu_n h2, bu_n h2, bu_n h2, bu_n h2]
  exact h.1 k h0 h2 h12 h17 h18
/-! open, join -/
theorem rows_pt {x : Bk} (h : rows x) (ho : Ok x) {a b : Int} (hb : 0 ≤ b ∧ b < x 3 0) (ha : 0 ≤ a ∧ a < x 1 0) (hf : x 15 a = -1) (hl : x 14 b < 4) : rows (ptB x a b) := by
  have hb10 := ho.b
  intro c c0 c1
  have c1 : c < x 3 0 := c1
  have hl0 := ho.r14 b hb.1 (by omega)
  have hlc := ho.r14 c c0 (by omega)
  have hc := h c c0 c1
  show (∀ i, 0 ≤ i → i < updI (x 14) b (x 14 b + 1) c → (0 ≤ updI (x 13) (b * 4 + x 14 b) a (c * 4 + i) ∧ updI (x 13) (b * 4 + x 14 b) a (c * 4 + i) < x 1 0) ∧ updI (x 15) a b (updI (x 13) (b * 4 + x 14 b) a (c * 4 + i)) = c) ∧ ∀ i j, 0 ≤ i → i < j → j < updI (x 14) b (x 14 b + 1) c → ¬ updI (x 13) (b * 4 + x 14 b) a (c * 4 + i) = updI (x 13) (b * 4 + x 14 b) a (c * 4 + j)
  by_cases e : c = b
  · subst e
    rw [updI_s]
    have old : ∀ i, 0 ≤ i → i < x 14 c → updI (x 13) (c * 4 + x 14 c) a (c * 4 + i) = x 13 (c * 4 + i) := fun i _ i1 => updI_n (by omega)
    have nw : updI (x 13) (c * 4 + x 14 c) a (c * 4 + x 14 c) = a := updI_s
    have ne : ∀ i, 0 ≤ i → i < x 14 c → ¬ x 13 (c * 4 + i) = a := fun i i0 i1 z => by
      have := (hc.1 i i0 i1).2
      rw [z, hf] at this
      omega
    refine ⟨fun i i0 i1 => ?_, fun i j i0 ij j1 => ?_⟩
    · by_cases hi : i = x 14 c
      · rw [hi, nw, updI_s]
        exact ⟨ha, rfl⟩
      · rw [old i i0 (by omega), updI_n (ne i i0 (by omega))]
        exact hc.1 i i0 (by omega)
    · rw [old i i0 (by omega)]
      by_cases hj : j = x 14 c
      · rw [hj, nw]
        exact ne i i0 (by omega)
      · rw [old j (by omega) (by omega)]
        exact hc.2 i j i0 ij (by omega)
  · rw [updI_n e]
    have old : ∀ i, 0 ≤ i → i < x 14 c → updI (x 13) (b * 4 + x 14 b) a (c * 4 + i) = x 13 (c * 4 + i) := fun i _ i1 => updI_n (by omega)
    refine ⟨fun i i0 i1 => ?_, fun i j i0 ij j1 => ?_⟩
    · rw [old i i0 i1]
      have hi := hc.1 i i0 i1
      rw [updI_n (fun z => by have := hi.2; rw [z, hf] at this; omega)]
      exact hi
    · rw [old i i0 (by omega), old j (by omega) j1]
      exact hc.2 i j i0 ij j1
theorem Ok.ptB {x : Bk} (h : Ok x) {a b : Int} (ha : 0 ≤ a ∧ a < 10) (hb : 0 ≤ b ∧ b < 10) (hl : x 14 b < 4) : Ok (ptB x a b) := by
  have h14 := h.r14 b hb.1 hb.2
  exact ⟨h.n, h.b, h.w, h.s, h.e, h.r5, h.r6, h.r7, h.r8, h.r9, h.r10, h.r11, up_rng h.r13 (by omega), up_rng h.r14 (by omega), up_rng h.r15 (by omega), h.r16⟩
theorem Iv.join {x : Bk} (h : Iv x) {a b : Int} (ha : 0 ≤ a ∧ a < x 1 0) (hb : 0 ≤ b ∧ b < x 3 0) (hf : x 15 a = -1) (hl : x 14 b < 4) : Iv (ptB (unX x a) a b) := by
  have ho := h.ok
  have hn := ho.n
  have hb3 := ho.b
  have ho2 : Ok (unX x a) := ho.p16 (unp_in ho.r16)
  refine ⟨ho2.ptB (by omega) (by omega) hl, h.sy, rows_pt (show rows (unX x a) from h.rw) ho2 hb ha hf hl, fun c c0 c1 => ?_, prt_home (prt_unp h.p hn.2 (by omega)) (unp_self a), h.g, h.t⟩
  have c0 : x 3 0 ≤ c := c0
  show updI (x 14) b (x 14 b + 1) c = 0
  rw [updI_n (by omega)]
  exact h.z c c0 c1
theorem Iv.opn {x : Bk} (h : Iv x) {a : Int} (ha : 0 ≤ a ∧ a < x 1 0) (hf : x 15 a = -1) (h3 : x 3 0 < 10) : Iv (opX x a) := by
  have ho := h.ok
  have hn := ho.n
  have hb3 := ho.b
  have hz := h.z (x 3 0) (Int.le_refl _) h3
  have ho1 : Ok (adB (unX x a)) := ⟨ho.n, by show 0 ≤ x 3 0 + 1 ∧ x 3 0 + 1 ≤ 10; omega, ho.w, ho.s, ho.e, ho.r5, ho.r6, ho.r7, ho.r8, ho.r9, ho.r10, ho.r11, ho.r13, ho.r14, ho.r15, unp_in ho.r16⟩
  have hr1 : rows (adB (unX x a)) := fun c c0 c1 => by
    have c1 : c < x 3 0 + 1 := c1
    by_cases e : c = x 3 0
    · subst e
      have z1 : (adB (unX x a)) 14 (x 3 0) = 0 := hz
      exact ⟨fun i i0 i1 => by omega, fun i j i0 ij j1 => by omega⟩
    · exact h.rw c c0 (by omega)
  have hz1 : ∀ c, x 3 0 + 1 ≤ c → c < 10 → x 14 c = 0 := fun c c0 c1 => h.z c (by omega) c1
  have hp1 : prt (x 1 0) (updI (x 15) a (x 3 0)) (unp (x 16) a) := prt_home (prt_unp h.p hn.2 (by omega)) (unp_self a)
  have hr2 := rows_pt hr1 ho1 (a := a) (b := x 3 0) (by show 0 ≤ x 3 0 ∧ x 3 0 < x 3 0 + 1; omega) ha hf (by show x 14 (x 3 0) < 4; omega)
  have ho2 := ho1.ptB (a := a) (b := x 3 0) (by omega) (by omega) (by show x 14 (x 3 0) < 4; omega)
  by_cases hp : x 16 a = -1
  · have e : opX x a = ptB (adB (unX x a)) a (x 3 0) := if_pos hp
    rw [e]
    refine ⟨ho2, h.sy, hr2, fun c c0 c1 => ?_, hp1, h.g, h.t⟩
    have c0 : x 3 0 + 1 ≤ c := c0
    show updI (x 14) (x 3 0) _ c = 0
    rw [updI_n (by omega)]
    exact hz1 c c0 c1
  · have e : opX x a = ptB (ptB (adB (unX x a)) a (x 3 0)) (x 16 a) (x 3 0) := if_neg hp
    have hpa := (h.p a ha.1 (by omega)).elim (fun z => absurd z hp) id
    have hpw := (h.p (x 16 a) hpa.2.1.1 (by omega)).elim (fun z => by rw [hpa.2.2.2.1] at z; omega) id
    have hh : updI (x 15) a (x 3 0) (x 16 a) = -1 := by rw [updI_n hpa.2.2.1]; exact hpw.2.2.2.2
    have hl2 : updI (x 14) (x 3 0) (x 14 (x 3 0) + 1) (x 3 0) < 4 := by rw [updI_s]; omega
    rw [e]
    refine ⟨ho2.ptB (by omega) (by omega) hl2, h.sy, rows_pt hr2 ho2 (by show 0 ≤ x 3 0 ∧ x 3 0 < x 3 0 + 1; omega) hpa.2.1 hh hl2, fun c c0 c1 => ?_, prt_home hp1 (unp_at hp), h.g, h.t⟩
    have c0 : x 3 0 + 1 ≤ c := c0
    show updI (updI (x 14) (x 3 0) _) (x 3 0) _ c = 0
    rw [updI_n (by omega), updI_n (by omega)]
    exact hz1 c c0 c1
theorem mc.unX {x y : Bk} (h : mc y x) (a : Int) : mc (unX y a) (unX x a) := h.wr (by decide) (by rw [h.k 16 (by decide)])
theorem mc.ptB {x y : Bk} (h : mc y x) (a b : Int) : mc (ptB y a b) (ptB x a b) := by
  have e13 := h.k 13 (by decide)
  have e14 := h.k 14 (by decide)
  have e15 := h.k 15 (by decide)
  exact ((h.wr (by decide) (by rw [e13, e14])).wr (by decide) (by rw [e14])).wr (by decide) (by rw [e15])
theorem mc.adB {x y : Bk} (h : mc y x) : mc (adB y) (adB x) := h.wr (by decide) (by rw [h.k 3 (by decide)])
theorem mc_opX {x y : Bk} (h : mc y x) (a : Int) : mc (opX y a) (opX x a) := by
  have e16 := h.k 16 (by decide)
  have e3 := h.k 3 (by decide)
  have h1 := mc.ptB (mc.adB (mc.unX h a)) a (x 3 0)
  unfold opX
  rw [e16, e3]
  split
  · exact h1
  · exact h1.ptB (x 16 a) (x 3 0)
/-! leave -/
theorem tk_ok {b a : Int} {r : Int → Int} {n : Int} (hd : ∀ i j, 0 ≤ i → i < j → j < n → ¬ r (b * 4 + i) = r (b * 4 + j)) (k : Nat) (hk : (k : Int) ≤ n) :
    (∀ i, ¬ (b * 4 ≤ i ∧ i < b * 4 + (k : Int)) → (tk b a r k).1 i = r i) ∧ (∀ i, 0 ≤ i → i < (tk b a r k).2 → ∃ j, 0 ≤ j ∧ j < (k : Int) ∧ (tk b a r k).1 (b * 4 + i) = r (b * 4 + j) ∧ ¬ r (b * 4 + j) = a) ∧ ∀ i j, 0 ≤ i → i < j → j < (tk b a r k).2 → ¬ (tk b a r k).1 (b * 4 + i) = (tk b a r k).1 (b * 4 + j) := by
  induction k with
  | zero =>
    have e : (tk b a r 0).2 = 0 := rfl
    exact ⟨fun i _ => rfl, fun i i0 i1 => by omega, fun i j i0 ij j1 => by omega⟩
  | succ k ih =>
    obtain ⟨h1, h2, h3⟩ := ih (by omega)
    have hn := tk_n b a r k
    have hk1 : (tk b a r k).1 (b * 4 + (k : Int)) = r (b * 4 + (k : Int)) := h1 _ (by omega)
    by_cases e : (tk b a r k).1 (b * 4 + (k : Int)) = a
    · rw [tk_t _ _ _ _ e]
      refine ⟨fun i hi => h1 i (by omega), fun i i0 i1 => ?_, h3⟩
      obtain ⟨j, j0, j1, j2⟩ := h2 i i0 i1
      exact ⟨j, j0, by omega, j2⟩
    · rw [tk_f _ _ _ _ e]
      dsimp only
      refine ⟨fun i hi => ?_, fun i i0 i1 => ?_, fun i j i0 ij j1 => ?_⟩
      · rw [updI_n (by omega)]
        exact h1 i (by omega)
      · by_cases ei : i = (tk b a r k).2
        · refine ⟨(k : Int), by omega, by omega, ?_, by rw [← hk1]; exact e⟩
          rw [ei, updI_s, hk1]
        · obtain ⟨j, j0, j1, j2⟩ := h2 i i0 (by omega)
          refine ⟨j, j0, by omega, ?_, j2.2⟩
          rw [updI_n (by omega)]
          exact j2.1
      · rw [updI_n (show ¬ b * 4 + i = b * 4 + (tk b a r k).2 by omega)]
        by_cases ej : j = (tk b a r k).2
        · rw [ej, updI_s, hk1]
          obtain ⟨c, c0, c1, c2⟩ := h2 i i0 (by omega)
          rw [c2.1]
          exact hd c (k : Int) c0 c1 (by omega)
        · rw [updI_n (by omega)]
          exact h3 i j i0 ij (by omega)
theorem tk_out {b a : Int} {r : Int → Int} {i : Int} {k : Nat} (hi : ¬ (b * 4 ≤ i ∧ i < b * 4 + (k : Int))) (j : Nat) (hj : j ≤ k) : (tk b a r j).1 i = r i := by
  induction j with
  | zero => rfl
  | succ j ih =>
    have ih := ih (by omega)
    have hn := tk_n b a r j
    by_cases e : (tk b a r j).1 (b * 4 + (j : Int)) = a
    · rw [tk_t _ _ _ _ e]; exact ih
    · rw [tk_f _ _ _ _ e]
      show updI _ _ _ i = _
      rw [updI_n (by omega)]
      exact ih
theorem Iv.lea {x : Bk} (h : Iv x) {a : Int} (ha : 0 ≤ a ∧ a < x 1 0) (hf : ¬ x 15 a = -1) : Iv (leX x a) := by
  have ho := h.ok
  have hn := ho.n
  have hb3 := ho.b
  have h15 := ho.r15 a ha.1 (by omega)
  have h14 := ho.r14 (x 15 a) (by omega) (by omega)
  have hti := tk_in (a := a) ho.l13 (x 14 (x 15 a)).toNat (b := x 15 a) (by omega) (by omega)
  have htn := tk_n (x 15 a) a (x 13) (x 14 (x 15 a)).toNat
  refine ⟨⟨ho.n, ho.b, ho.w, ho.s, ho.e, ho.r5, ho.r6, ho.r7, ho.r8, ho.r9, ho.r10, ho.r11, fun i i0 i1 => by have := hti i i0 i1; show 0 ≤ (tk _ _ _ _).1 i ∧ (tk _ _ _ _).1 i ≤ 9; omega, up_rng ho.r14 (by omega), up_rng ho.r15 (by omega), ho.r16⟩, h.sy, ?_, fun c c0 c1 => ?_, prt_free h.p, h.g, h.t⟩
  · intro c c0 c1
    have c1 : c < x 3 0 := c1
    have hc := h.rw c c0 c1
    have hlc := ho.r14 c c0 (by omega)
    show (∀ i, 0 ≤ i → i < updI (x 14) (x 15 a) (tk (x 15 a) a (x 13) (x 14 (x 15 a)).toNat).2 c → (0 ≤ (tk (x 15 a) a (x 13) (x 14 (x 15 a)).toNat).1 (c * 4 + i) ∧ (tk (x 15 a) a (x 13) (x 14 (x 15 a)).toNat).1 (c * 4 + i) < x 1 0) ∧ updI (x 15) a (-1) ((tk (x 15 a) a (x 13) (x 14 (x 15 a)).toNat).1 (c * 4 + i)) = c) ∧ ∀ i j, 0 ≤ i → i < j → j < updI (x 14) (x 15 a) (tk (x 15 a) a (x 13) (x 14 (x 15 a)).toNat).2 c → ¬ (tk (x 15 a) a (x 13) (x 14 (x 15 a)).toNat).1 (c * 4 + i) = (tk (x 15 a) a (x 13) (x 14 (x 15 a)).toNat).1 (c * 4 + j)
    by_cases e : c = x 15 a
    · rw [← e, updI_s]
      rw [← e] at h14
      have hk := tk_ok (a := a) hc.2 (x 14 c).toNat (by omega)
      refine ⟨fun i i0 i1 => ?_, hk.2.2⟩
      obtain ⟨j, j0, j1, j2, j3⟩ := hk.2.1 i i0 i1
      rw [j2, updI_n j3]
      exact hc.1 j j0 (by omega)
    · rw [updI_n e]
      have old : ∀ i, 0 ≤ i → i < x 14 c → (tk (x 15 a) a (x 13) (x 14 (x 15 a)).toNat).1 (c * 4 + i) = x 13 (c * 4 + i) := fun i i0 i1 => by
        exact tk_out (k := (x 14 (x 15 a)).toNat) (by omega) _ (Nat.le_refl _)
      refine ⟨fun i i0 i1 => ?_, fun i j i0 ij j1 => ?_⟩
      · rw [old i i0 i1]
        have hi := hc.1 i i0 i1
        rw [updI_n (fun z => by have := hi.2; rw [z] at this; exact e this.symm)]
        exact hi
      · rw [old i i0 (by omega), old j (by omega) j1]
        exact hc.2 i j i0 ij j1
  · have c0 : x 3 0 ≤ c := c0
    have hzc := h.z c c0 c1
    show updI (x 14) (x 15 a) (tk (x 15 a) a (x 13) (x 14 (x 15 a)).toNat).2 c = 0
    by_cases e : c = x 15 a
    · rw [← e, updI_s, hzc]
      rfl
    · rw [updI_n e]
      exact hzc
theorem mc.lea {x y : Bk} (h : mc y x) (a : Int) : mc (leX y a) (leX x a) := by
  have e13 := h.k 13 (by decide)
  have e14 := h.k 14 (by decide)
  have e15 := h.k 15 (by decide)
  exact ((h.wr (by decide) (by rw [e13, e14, e15])).wr (by decide) (by rw [e13, e14, e15])).wr (by decide) (by rw [e15])
