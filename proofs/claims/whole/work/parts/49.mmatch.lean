/-! what the model's matching computes, by the class's own functions over a bank whose place 17 holds the gains -/
def mgv (x : Bk) (a b : Int) : Int := if 0 < sv x a b ∧ okP x a b then sv x a b else 0
def g17 (x : Bk) : Prop := ∀ a b, 0 ≤ a → a < b → b < x 1 0 → x 17 (a * 10 + b) = mgv x a b
theorem mgv_t {x : Bk} {a b : Int} (h : 0 < sv x a b ∧ okP x a b) : mgv x a b = sv x a b := if_pos h
theorem mgv_f {x : Bk} {a b : Int} (h : ¬ (0 < sv x a b ∧ okP x a b)) : mgv x a b = 0 := if_neg h
/-- the table of the best sums, sets in their order as numbers -/
def mT (x : Bk) : Nat → Int → Int
  | 0 => updI (x 18) 0 0
  | j + 1 => updI (mT x j) ((j + 1 : Nat) : Int) (gm (x 17) (mT x j) (low ((j + 1 : Nat) : Int)) (clr ((j + 1 : Nat) : Int) (low ((j + 1 : Nat) : Int))) (x 1 0).toNat)
theorem mT_s (x : Bk) (j : Nat) : mT x (j + 1) = updI (mT x j) ((j + 1 : Nat) : Int) (gm (x 17) (mT x j) (low ((j + 1 : Nat) : Int)) (clr ((j + 1 : Nat) : Int) (low ((j + 1 : Nat) : Int))) (x 1 0).toNat) := rfl
theorem pop_nn {q : Int} (hq : 0 ≤ q ∧ q < 1024) : 0 ≤ popc q := (pop_in hq).1
theorem mT_tb {x : Bk} (hn : 0 ≤ x 1 0 ∧ x 1 0 ≤ 10) (hg : rng x 17 100 0 20000) (ht : tb (x 18)) (j : Nat) (hj : j < 1024) : tb (mT x j) := by
  induction j with
  | zero => exact tb_set ht (by have := pop_nn (q := 0) (by omega); omega)
  | succ j ih =>
    have hq : 0 ≤ ((j + 1 : Nat) : Int) ∧ ((j + 1 : Nat) : Int) < 1024 := by omega
    have hL := low_ok hq (by omega)
    have hc := clr_in hq hL.1
    have h1 := gm_tb (q := clr ((j + 1 : Nat) : Int) (low ((j + 1 : Nat) : Int))) (lo := low ((j + 1 : Nat) : Int)) hL.1 (by omega) (ih (by omega)) hg (x 1 0).toNat (by omega)
    rw [pop_clr hq hL.1 hL.2.1] at h1
    exact tb_set (ih (by omega)) (by omega)
/-- pairs by the table: the lowest one of the set, again and again -/
def mxu (x : Bk) (q : Int) : Int := fnd (fpP x (low q) (clr q (low q)) (x 18 q)) (low q + 1).toNat ((x 1 0).toNat - (low q + 1).toNat)
def mex (x : Bk) : Nat → Int → (Int → Int) → Int → Int
  | 0, _, p => p
  | f + 1, q, p => if q = 0 then p else if mxu x q = -1 then mex x f (clr q (low q)) p else mex x f (clr (clr q (low q)) (mxu x q)) (updI (updI p (low q) (mxu x q)) (mxu x q) (low q))
theorem mex_0 {x : Bk} {f : Nat} {p : Int → Int} : mex x f 0 p = p := by
  cases f with
  | zero => rfl
  | succ f => exact if_pos rfl
theorem mex_n {x : Bk} {f : Nat} {q : Int} {p : Int → Int} (h : ¬ q = 0) (hu : mxu x q = -1) : mex x (f + 1) q p = mex x f (clr q (low q)) p := (if_neg h).trans (if_pos hu)
theorem mex_y {x : Bk} {f : Nat} {q : Int} {p : Int → Int} (h : ¬ q = 0) (hu : ¬ mxu x q = -1) : mex x (f + 1) q p = mex x f (clr (clr q (low q)) (mxu x q)) (updI (updI p (low q) (mxu x q)) (mxu x q) (low q)) := (if_neg h).trans (if_neg hu)
/-- by rule: who is in the set is free -/
def pq (q i : Int) : Int := if bt q i then -1 else 0
theorem pq_t {q i : Int} : pq q i = -1 ↔ bt q i := by
  unfold pq
  split
  · exact ⟨fun _ => by assumption, fun _ => rfl⟩
  · exact ⟨fun h => by omega, fun h => by contradiction⟩
abbrev mr (x : Bk) (q : Int) : Int × Int × Int := r1 (x 17) (pq q) (x 1 0).toNat (x 1 0).toNat
def mbr (x : Bk) : Nat → Int → (Int → Int) → Int → Int
  | 0, _, p => p
  | f + 1, q, p => if (mr x q).1 = -1 then p else mbr x f (clr (clr q (mr x q).1) (mr x q).2.1) (updI (updI p (mr x q).1 (mr x q).2.1) (mr x q).2.1 (mr x q).1)
theorem mbr_n {x : Bk} {f : Nat} {q : Int} {p : Int → Int} (h : (mr x q).1 = -1) : mbr x (f + 1) q p = p := if_pos h
theorem mbr_y {x : Bk} {f : Nat} {q : Int} {p : Int → Int} (h : ¬ (mr x q).1 = -1) : mbr x (f + 1) q p = mbr x f (clr (clr q (mr x q).1) (mr x q).2.1) (updI (updI p (mr x q).1 (mr x q).2.1) (mr x q).2.1 (mr x q).1) := if_neg h
/-- a round's best pair: two of the set, and their saving -/
def rgi (x : Bk) (q : Int) (s : Int × Int × Int) : Prop := (s.1 = -1 ∧ s.2.1 = -1 ∧ s.2.2 = 0) ∨ ((0 ≤ s.1 ∧ s.1 < s.2.1 ∧ s.2.1 < x 1 0) ∧ bt q s.1 ∧ bt q s.2.1 ∧ s.2.2 = sv x s.1 s.2.1 ∧ 0 < s.2.2)
theorem rgi_step {x : Bk} (h17 : g17 x) {q fi : Int} {s0 : Int × Int × Int} (hf : 0 ≤ fi) {k : Nat} (hk : (k : Int) < x 1 0) (h : rgi x q (r2 (x 17) (pq q) fi s0 k)) : rgi x q (r2 (x 17) (pq q) fi s0 (k + 1)) := by
  by_cases hc : fi < (k : Int) ∧ (r2 (x 17) (pq q) fi s0 k).2.2 < x 17 (fi * 10 + (k : Int)) ∧ pq q fi = -1 ∧ pq q (k : Int) = -1
  · rw [r2_t hc]
    refine Or.inr ⟨⟨hf, hc.1, hk⟩, pq_t.mp hc.2.2.1, pq_t.mp hc.2.2.2, ?_, ?_⟩
    · have h1 := h17 fi (k : Int) hf hc.1 hk
      have h0 : 0 ≤ (r2 (x 17) (pq q) fi s0 k).2.2 := by rcases h with h | h <;> omega
      show x 17 (fi * 10 + (k : Int)) = sv x fi (k : Int)
      by_cases hm : 0 < sv x fi (k : Int) ∧ okP x fi (k : Int)
      · rw [h1, mgv_t hm]
      · rw [mgv_f hm] at h1; omega
    · have h0 : 0 ≤ (r2 (x 17) (pq q) fi s0 k).2.2 := by rcases h with h | h <;> omega
      show 0 < x 17 (fi * 10 + (k : Int))
      omega
  · rw [r2_f hc]; exact h
theorem rgi_2 {x : Bk} (h17 : g17 x) {q fi : Int} {s0 : Int × Int × Int} (hf : 0 ≤ fi) (h0 : rgi x q s0) (k : Nat) (hk : (k : Int) ≤ x 1 0) : rgi x q (r2 (x 17) (pq q) fi s0 k) := by
  induction k with
  | zero => exact h0
  | succ k ih => exact rgi_step h17 hf (by omega) (ih (by omega))
theorem rgi_1 {x : Bk} (h17 : g17 x) {q : Int} (hn : 0 ≤ x 1 0) (k : Nat) (hk : (k : Int) ≤ x 1 0) : rgi x q (r1 (x 17) (pq q) (x 1 0).toNat k) := by
  induction k with
  | zero => exact Or.inl ⟨rfl, rfl, rfl⟩
  | succ k ih => exact rgi_2 h17 (by omega) (ih (by omega)) _ (by omega)
/-- what the model's test says, against the class's -/
theorem rg_t {x : Bk} (h17 : g17 x) {q a b : Int} {s : Int × Int × Int} (h : rgi x q s) (ha : 0 ≤ a ∧ a < b ∧ b < x 1 0) (h1 : bt q a) (h2 : bt q b) (h3 : 0 < sv x a b ∧ okP x a b) (h4 : s.1 = -1 ∨ sv x s.1 s.2.1 < sv x a b) : a < b ∧ s.2.2 < x 17 (a * 10 + b) ∧ pq q a = -1 ∧ pq q b = -1 := by
  have e := h17 a b ha.1 ha.2.1 ha.2.2
  rw [mgv_t h3] at e
  refine ⟨ha.2.1, ?_, pq_t.mpr h1, pq_t.mpr h2⟩
  rcases h with h | h <;> rcases h4 with h4 | h4 <;> omega
theorem rg_f {x : Bk} (h17 : g17 x) {q a b : Int} {s : Int × Int × Int} (h : rgi x q s) (ha : 0 ≤ a ∧ a < b ∧ b < x 1 0) (hn : ¬ bt q a ∨ ¬ bt q b ∨ ¬ (0 < sv x a b ∧ okP x a b) ∨ (¬ s.1 = -1 ∧ sv x a b ≤ sv x s.1 s.2.1)) : ¬ (a < b ∧ s.2.2 < x 17 (a * 10 + b) ∧ pq q a = -1 ∧ pq q b = -1) := by
  intro z
  have e := h17 a b ha.1 ha.2.1 ha.2.2
  have b1 := pq_t.mp z.2.2.1
  have b2 := pq_t.mp z.2.2.2
  have hz := z.2.1
  have h0 : 0 ≤ s.2.2 := by rcases h with h | h <;> omega
  by_cases hm : 0 < sv x a b ∧ okP x a b
  · rw [mgv_t hm] at e
    rcases hn with hn | hn | hn | hn
    · exact hn b1
    · exact hn b2
    · exact hn hm
    · rcases h with h | h <;> omega
  · rw [mgv_f hm] at e
    omega
