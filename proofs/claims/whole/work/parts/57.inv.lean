/-! what always holds, of class and model together -/
def mc (y x : Bk) : Prop := (∀ k, k ≠ 0 → k ≠ 2 → k ≠ 12 → k ≠ 17 → k ≠ 18 → y k = x k) ∧ y 2 1 = x 2 1 ∧ y 2 2 = x 2 2
theorem mc.k {y x : Bk} (h : mc y x) (k : Nat) (hk : k ≠ 0 ∧ k ≠ 2 ∧ k ≠ 12 ∧ k ≠ 17 ∧ k ≠ 18) : y k = x k := h.1 k hk.1 hk.2.1 hk.2.2.1 hk.2.2.2.1 hk.2.2.2.2
theorem mc.wr {y x : Bk} (h : mc y x) {k : Nat} (hk : k ≠ 2) {f g : Int → Int} (e : f = g) : mc (bu y k f) (bu x k g) := by
  subst e
  refine ⟨fun j h0 h2 h12 h17 h18 => ?_, ?_, ?_⟩
  · by_cases hj : j = k
    · subst hj; rw [bu_s, bu_s]
    · rw [bu_n hj, bu_n hj]; exact h.1 j h0 h2 h12 h17 h18
  · rw [bu_n (Ne.symm hk), bu_n (Ne.symm hk)]; exact h.2.1
  · rw [bu_n (Ne.symm hk), bu_n (Ne.symm hk)]; exact h.2.2
theorem mc.e0 {z y x : Bk} (h : mc y x) (g : e0 z y) : mc z x := ⟨fun k h0 h2 h12 h17 h18 => (g k h0).trans (h.1 k h0 h2 h12 h17 h18), by rw [g 2 (by decide)]; exact h.2.1, by rw [g 2 (by decide)]; exact h.2.2⟩
theorem mc.cor {y x x' : Bk} (h : mc y x) (g : cor x' x) : mc y x' := ⟨fun k h0 h2 h12 h17 h18 => (h.1 k h0 h2 h12 h17 h18).trans (g.1 k h2 h12 h17 h18).symm, h.2.1.trans g.2.1.symm, h.2.2.trans g.2.2.symm⟩
/-- a bank's face: what class and model share -/
def nf (x : Bk) : Bk := fun k => if k = 0 ∨ k = 12 ∨ k = 17 ∨ k = 18 then fun _ => 0 else if k = 2 then fun j => if j = 1 then x 2 1 else if j = 2 then x 2 2 else 0 else x k
theorem mc_nf {y x : Bk} (h : mc y x) : nf y = nf x := by
  funext k
  unfold nf
  by_cases h1 : k = 0 ∨ k = 12 ∨ k = 17 ∨ k = 18
  · rw [if_pos h1, if_pos h1]
  · rw [if_neg h1, if_neg h1]
    by_cases h2 : k = 2
    · rw [if_pos h2, if_pos h2, h.2.1, h.2.2]
    · rw [if_neg h2, if_neg h2]
      exact h.1 k (by omega) h2 (by omega) (by omega) (by omega)
theorem mc.fn {α : Sort _} {y x : Bk} (h : mc y x) (f : Bk → α) (hf : ∀ z, f z = f (nf z)) : f y = f x := by rw [hf y, hf x, mc_nf h]
/-- partners: two free orders each, and each the other's -/
def prt (n : Int) (h p : Int → Int) : Prop := ∀ i, 0 ≤ i → i < 10 → p i = -1 ∨ (i < n ∧ (0 ≤ p i ∧ p i < n) ∧ ¬ p i = i ∧ p (p i) = i ∧ h i = -1)
theorem prt_bind {n : Int} {h p : Int → Int} (hp : prt n h p) (hn : n ≤ 10) {a b : Int} (ha : 0 ≤ a ∧ a < n) (hb : 0 ≤ b ∧ b < n) (hab : ¬ a = b) (pa : p a = -1) (pb : p b = -1) (h_a : h a = -1) (h_b : h b = -1) : prt n h (updI (updI p a b) b a) := fun i i0 i1 => by
  unfold updI
  by_cases e1 : i = b
  · rw [if_pos e1, if_neg hab, if_pos rfl, e1]
    exact Or.inr ⟨hb.2, ha, hab, rfl, h_b⟩
  · rw [if_neg e1]
    by_cases e2 : i = a
    · rw [if_pos e2, if_pos rfl, e2]
      exact Or.inr ⟨ha.2, hb, fun z => hab z.symm, rfl, h_a⟩
    · rw [if_neg e2]
      rcases hp i i0 i1 with q | q
      · exact Or.inl q
      · have n1 : ¬ p i = b := fun z => by have := q.2.2.2.1; rw [z, pb] at this; omega
        have n2 : ¬ p i = a := fun z => by have := q.2.2.2.1; rw [z, pa] at this; omega
        rw [if_neg n1, if_neg n2]
        exact Or.inr q
theorem unp_self {p : Int → Int} (a : Int) : unp p a a = -1 := by
  unfold unp updI
  split
  · exact if_pos rfl
  · exact if_pos rfl
theorem prt_unp {n : Int} {h p : Int → Int} (hp : prt n h p) (hn : n ≤ 10) {a : Int} (ha : 0 ≤ a ∧ a < 10) : prt n h (unp p a) := fun i i0 i1 => by
  have hpa := hp a ha.1 ha.2
  unfold unp updI
  by_cases e : p a = -1
  · rw [if_pos e]
    by_cases e1 : i = a
    · rw [if_pos e1]; exact Or.inl rfl
    · rw [if_neg e1]
      rcases hp i i0 i1 with q | q
      · exact Or.inl q
      · have n2 : ¬ p i = a := fun z => by have := q.2.2.2.1; rw [z, e] at this; omega
        rw [if_neg n2]
        exact Or.inr q
  · rw [if_neg e]
    have hpa := hpa.elim (fun z => absurd z e) id
    by_cases e1 : i = a
    · rw [if_pos e1]; exact Or.inl rfl
    · rw [if_neg e1]
      by_cases e2 : i = p a
      · rw [if_pos e2]; exact Or.inl rfl
      · rw [if_neg e2]
        rcases hp i i0 i1 with q | q
        · exact Or.inl q
        · have n2 : ¬ p i = a := fun z => by have := q.2.2.2.1; rw [z] at this; exact e2 this.symm
          have n3 : ¬ p i = p a := fun z => by
            have h1 := q.2.2.2.1
            rw [z, hpa.2.2.2.1] at h1
            exact e1 h1.symm
          rw [if_neg n2, if_neg n3]
          exact Or.inr q
theorem prt_home {n : Int} {h p : Int → Int} (hp : prt n h p) {a v : Int} (pa : p a = -1) : prt n (updI h a v) p := fun i i0 i1 => by
  rcases hp i i0 i1 with q | q
  · exact Or.inl q
  · have e : ¬ i = a := fun z => by
      have := q.2.1.1
      rw [z, pa] at this
      omega
    rw [updI_n e]
    exact Or.inr q
theorem prt_free {n : Int} {h p : Int → Int} (hp : prt n h p) {a : Int} : prt n (updI h a (-1)) p := fun i i0 i1 => by
  rcases hp i i0 i1 with q | q
  · exact Or.inl q
  · refine Or.inr ⟨q.1, q.2.1, q.2.2.1, q.2.2.2.1, ?_⟩
    unfold updI
    split
    · rfl
    · exact q.2.2.2.2
theorem mex_prt {x : Bk} (hn : 0 ≤ x 1 0 ∧ x 1 0 ≤ 10) {h : Int → Int} (f : Nat) : ∀ (q : Int) (p : Int → Int), 0 ≤ q → q < 1024 → (∀ i, 0 ≤ i → bt q i → i < x 1 0 ∧ h i = -1 ∧ p i = -1) → prt (x 1 0) h p → prt (x 1 0) h (mex x f q p) := by
  induction f with
  | zero => intro q p _ _ _ hp; exact hp
  | succ f ih =>
    intro q p q0 q1 hb hp
    by_cases h0 : q = 0
    · rw [h0, mex_0]; exact hp
    · have hq : 0 ≤ q ∧ q < 1024 := ⟨q0, q1⟩
      have hL := low_ok hq h0
      have hc := clr_in hq hL.1
      by_cases hu : mxu x q = -1
      · rw [mex_n h0 hu]
        exact ih _ _ (by omega) (by omega) (fun i i0 ib => hb i i0 ((bt_clr hq hL.1 i0).mp ib).1) hp
      · have hm := mxu_in hn hq h0 hu
        have hbu := (bt_clr hq hL.1 (by omega)).mp hm.2.2
        have b1 := hb (low q) (by omega) hL.2.1
        have b2 := hb (mxu x q) (by omega) hbu.1
        have hcc := clr_in (q := clr q (low q)) (o := mxu x q) (by omega) (by omega)
        rw [mex_y h0 hu]
        refine ih _ _ (by omega) (by omega) (fun i i0 ib => ?_) (prt_bind hp hn.2 (by omega) (by omega) (by omega) b1.2.2 b2.2.2 b1.2.1 b2.2.1)
        have c1 := (bt_clr (by omega) (by omega) i0).mp ib
        have c2 := (bt_clr hq hL.1 i0).mp c1.1
        have b3 := hb i i0 c2.1
        exact ⟨b3.1, b3.2.1, by rw [updI_n c1.2, updI_n c2.2]; exact b3.2.2⟩
theorem mbr_prt {x : Bk} (h17 : g17 x) (hn : 0 ≤ x 1 0 ∧ x 1 0 ≤ 10) {h : Int → Int} (f : Nat) : ∀ (q : Int) (p : Int → Int), 0 ≤ q → q < 1024 → (∀ i, 0 ≤ i → bt q i → i < x 1 0 ∧ h i = -1 ∧ p i = -1) → prt (x 1 0) h p → prt (x 1 0) h (mbr x f q p) := by
  induction f with
  | zero => intro q p _ _ _ hp; exact hp
  | succ f ih =>
    intro q p q0 q1 hb hp
    by_cases hz : (mr x q).1 = -1
    · rw [mbr_n hz]; exact hp
    · have hq : 0 ≤ q ∧ q < 1024 := ⟨q0, q1⟩
      have hr := (rgi_1 h17 (q := q) hn.1 (x 1 0).toNat (by omega)).elim (fun z => absurd z.1 hz) id
      have h2 : 0 ≤ (mr x q).1 ∧ (mr x q).1 < (mr x q).2.1 ∧ (mr x q).2.1 < x 1 0 := hr.1
      have b1 := hb (mr x q).1 hr.1.1 hr.2.1
      have b2 := hb (mr x q).2.1 (by omega) hr.2.2.1
      have hc := clr_in (q := q) (o := (mr x q).1) hq (by omega)
      have hcc := clr_in (q := clr q (mr x q).1) (o := (mr x q).2.1) (by omega) (by omega)
      rw [mbr_y hz]
      refine ih _ _ (by omega) (by omega) (fun i i0 ib => ?_) (prt_bind hp hn.2 (by omega) (by omega) (by omega) b1.2.2 b2.2.2 b1.2.1 b2.2.1)
      have c1 := (bt_clr (by omega) (by omega) i0).mp ib
      have c2 := (bt_clr hq (by omega) i0).mp c1.1
      have b3 := hb i i0 c2.1
      exact ⟨b3.1, b3.2.1, by rw [updI_n c1.2, updI_n c2.2]; exact b3.2.2⟩
/-- of the class -/
def Iv (x : Bk) : Prop := Ok x ∧ sym x ∧ rows x ∧ (∀ b, x 3 0 ≤ b → b < 10 → x 14 b = 0) ∧ prt (x 1 0) (x 15) (x 16) ∧ rng x 17 100 0 20000 ∧ tb (x 18)
/-- of both -/
def I2 (x y : Bk) : Prop := Iv x ∧ mc y x ∧ tb (y 18)
theorem Iv.ok {x : Bk} (h : Iv x) : Ok x := h.1
theorem Iv.sy {x : Bk} (h : Iv x) : sym x := h.2.1
theorem Iv.rw {x : Bk} (h : Iv x) : rows x := h.2.2.1
theorem Iv.z {x : Bk} (h : Iv x) : ∀ b, x 3 0 ≤ b → b < 10 → x 14 b = 0 := h.2.2.2.1
theorem Iv.p {x : Bk} (h : Iv x) : prt (x 1 0) (x 15) (x 16) := h.2.2.2.2.1
theorem Iv.g {x : Bk} (h : Iv x) : rng x 17 100 0 20000 := h.2.2.2.2.2.1
theorem Iv.t {x : Bk} (h : Iv x) : tb (x 18) := h.2.2.2.2.2.2
theorem Iv.scr {x x' : Bk} (h : Iv x) (g : scr x' x) : Iv x' := by
  have e : ∀ k, (k ≠ 2 ∧ k ≠ 12) → x' k = x k := fun k hk => g.1 k hk.1 hk.2
  refine ⟨h.ok.cor g.cor, ?_, ?_, ?_, ?_, ?_, ?_⟩
  · unfold sym
    rw [e 10 (by decide), e 11 (by decide)]
    exact h.sy
  · unfold rows
    rw [e 3 (by decide), e 14 (by decide), e 13 (by decide), e 1 (by decide), e 15 (by decide)]
    exact h.rw
  · rw [e 3 (by decide), e 14 (by decide)]
    exact h.z
  · rw [e 1 (by decide), e 15 (by decide), e 16 (by decide)]
    exact h.p
  · unfold rng
    rw [e 17 (by decide)]
    exact h.g
  · rw [e 18 (by decide)]
    exact h.t
/-- a call that is refused -/
theorem I2.thr {x y x' z : Bk} (h : I2 x y) (g : scr x' x) (q : e0 z y) : I2 x' z := ⟨h.1.scr g, (h.2.1.cor g.cor).e0 q, by rw [q 18 (by decide)]; exact h.2.2⟩
/-- the model's own -/
theorem mc.ok {x y : Bk} (h : mc y x) (hok : Ok x) : Ok y := by
  refine ⟨?_, ?_, ?_, ?_, ?_, rng_cor (h.k 5 (by decide)) hok.r5, rng_cor (h.k 6 (by decide)) hok.r6, rng_cor (h.k 7 (by decide)) hok.r7, rng_cor (h.k 8 (by decide)) hok.r8, rng_cor (h.k 9 (by decide)) hok.r9, rng_cor (h.k 10 (by decide)) hok.r10, rng_cor (h.k 11 (by decide)) hok.r11, rng_cor (h.k 13 (by decide)) hok.r13, rng_cor (h.k 14 (by decide)) hok.r14, rng_cor (h.k 15 (by decide)) hok.r15, rng_cor (h.k 16 (by decide)) hok.r16⟩
  · rw [h.k 1 (by decide)]; exact hok.n
  · rw [h.k 3 (by decide)]; exact hok.b
  · rw [h.2.1]; exact hok.w
  · rw [h.2.2]; exact hok.s
  · rw [h.k 4 (by decide)]; exact hok.e
theorem I2.oky {x y : Bk} (h : I2 x y) : Ok y := h.2.1.ok h.1.ok
theorem I2.syy {x y : Bk} (h : I2 x y) : sym y := by
  unfold sym
  rw [h.2.1.k 10 (by decide), h.2.1.k 11 (by decide)]
  exact h.1.sy
theorem I2.rwy {x y : Bk} (h : I2 x y) : rows y := by
  unfold rows
  rw [h.2.1.k 3 (by decide), h.2.1.k 14 (by decide), h.2.1.k 13 (by decide), h.2.1.k 1 (by decide), h.2.1.k 15 (by decide)]
  exact h.1.rw
theorem I2.zy {x y : Bk} (h : I2 x y) : y 3 0 < 10 → y 14 (y 3 0) = 0 := by
  rw [h.2.1.k 3 (by decide), h.2.1.k 14 (by decide)]
  exact fun z => h.1.z _ (Int.le_refl _) z
theorem I2.zx {x y : Bk} (h : I2 x y) : x 3 0 < 10 → x 14 (x 3 0) = 0 := fun z => h.1.z _ (Int.le_refl _) z
