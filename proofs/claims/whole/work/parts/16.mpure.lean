/-! what Matching's loops compute -/
def gm (g t : Int → Int) (lo q : Int) : Nat → Int
  | 0 => t q
  | k + 1 => if lo < (k : Int) ∧ bt q (k : Int) ∧ 0 < g (lo * 10 + (k : Int)) then (if gm g t lo q k < g (lo * 10 + (k : Int)) + t (clr q (k : Int)) then g (lo * 10 + (k : Int)) + t (clr q (k : Int)) else gm g t lo q k) else gm g t lo q k
theorem gm_lo (g t : Int → Int) (lo q : Int) (k : Nat) (h : (k : Int) ≤ lo + 1) : gm g t lo q k = t q := by
  induction k with
  | zero => rfl
  | succ k ih =>
    show (if _ then _ else _) = _
    rw [if_neg (by omega), ih (by omega)]
theorem gm_t {g t : Int → Int} {lo q : Int} {k : Nat} (h : lo < (k : Int) ∧ bt q (k : Int) ∧ 0 < g (lo * 10 + (k : Int))) : gm g t lo q (k + 1) = (if gm g t lo q k < g (lo * 10 + (k : Int)) + t (clr q (k : Int)) then g (lo * 10 + (k : Int)) + t (clr q (k : Int)) else gm g t lo q k) := if_pos h
theorem gm_f {g t : Int → Int} {lo q : Int} {k : Nat} (h : ¬ (lo < (k : Int) ∧ bt q (k : Int) ∧ 0 < g (lo * 10 + (k : Int)))) : gm g t lo q (k + 1) = gm g t lo q k := if_neg h
theorem gm_bd {g t : Int → Int} {lo q : Int} (hlo : 0 ≤ lo ∧ lo < 10) (hq : 0 ≤ q ∧ q < 1024) (ht : ∀ i, 0 ≤ i → i < 1024 → 0 ≤ t i ∧ t i ≤ 400000) (hg : ∀ i, 0 ≤ i → i < 100 → 0 ≤ g i ∧ g i ≤ 20000) (k : Nat) (hk : k ≤ 10) : 0 ≤ gm g t lo q k ∧ gm g t lo q k ≤ 420000 := by
  induction k with
  | zero =>
    have := ht q hq.1 hq.2
    show 0 ≤ t q ∧ t q ≤ 420000
    omega
  | succ k ih =>
    have ih := ih (by omega)
    unfold gm
    split
    · have h1 := clr_in (q := q) (o := (k : Int)) hq (by omega)
      have h2 := ht (clr q (k : Int)) (by omega) (by omega)
      have h3 := hg (lo * 10 + (k : Int)) (by omega) (by omega)
      split <;> omega
    · exact ih
/-- the inner loop of findSums: sets with the lowest order lo -/
def fsI (g : Int → Int) (n lo : Int) (t : Int → Int) : Nat → Int → Int
  | 0 => t
  | k + 1 => if n - 1 - lo - popc (k : Int) ≤ lo then updI (fsI g n lo t k) ((k : Int) * pw (lo + 1) + pw lo) (gm g (fsI g n lo t k) lo ((k : Int) * pw (lo + 1)) n.toNat) else fsI g n lo t k
/-- the outer one: j lowest orders, from the last one on -/
def fsO (g : Int → Int) (n : Int) (t : Int → Int) : Nat → Int → Int
  | 0 => t
  | j + 1 => fsI g n (n - 1 - (j : Int)) (fsO g n t j) (pw (j : Int)).toNat
theorem fsI_t {g t : Int → Int} {n lo : Int} {k : Nat} (h : n - 1 - lo - popc (k : Int) ≤ lo) : fsI g n lo t (k + 1) = updI (fsI g n lo t k) ((k : Int) * pw (lo + 1) + pw lo) (gm g (fsI g n lo t k) lo ((k : Int) * pw (lo + 1)) n.toNat) := if_pos h
theorem fsI_f {g t : Int → Int} {n lo : Int} {k : Nat} (h : ¬ n - 1 - lo - popc (k : Int) ≤ lo) : fsI g n lo t (k + 1) = fsI g n lo t k := if_neg h
/-- the first place from k on, of d places, with P; -1 if there is none -/
def fnd (P : Int → Prop) [DecidablePred P] : Nat → Nat → Int
  | _, 0 => -1
  | k, d + 1 => if P (k : Int) then (k : Int) else fnd P (k + 1) d
abbrev fpP (x : Bk) (lo q due o : Int) : Prop := mtk x lo o q ∧ x 17 (lo * 10 + o) + x 18 (clr q o) = due
theorem fnd_in (P : Int → Prop) [DecidablePred P] (d k : Nat) : fnd P k d = -1 ∨ ((k : Int) ≤ fnd P k d ∧ fnd P k d < (k : Int) + (d : Int) ∧ P (fnd P k d)) := by
  induction d generalizing k with
  | zero => exact Or.inl rfl
  | succ d ih =>
    show (if _ then _ else _) = -1 ∨ (_ ≤ (if _ then _ else _) ∧ (if _ then _ else _) < _ ∧ P (if _ then _ else _))
    by_cases h : P (k : Int)
    · rw [if_pos h]
      exact Or.inr ⟨by omega, by omega, h⟩
    · rw [if_neg h]
      rcases ih (k + 1) with h1 | h1
      · exact Or.inl h1
      · exact Or.inr ⟨by have := h1.1; omega, by have := h1.2.1; omega, h1.2.2⟩
def pbs (x : Bk) : Nat → Int × (Int → Int)
  | 0 => (pw (x 1 0) - 1, x 16)
  | k + 1 => if bt (pbs x k).1 (k : Int) then (if fnd (fpP x (k : Int) (clr (pbs x k).1 (k : Int)) (x 18 (pbs x k).1)) (k + 1) ((x 1 0).toNat - (k + 1)) = -1 then (clr (pbs x k).1 (k : Int), (pbs x k).2) else (clr (clr (pbs x k).1 (k : Int)) (fnd (fpP x (k : Int) (clr (pbs x k).1 (k : Int)) (x 18 (pbs x k).1)) (k + 1) ((x 1 0).toNat - (k + 1))), updI (updI (pbs x k).2 (k : Int) (fnd (fpP x (k : Int) (clr (pbs x k).1 (k : Int)) (x 18 (pbs x k).1)) (k + 1) ((x 1 0).toNat - (k + 1)))) (fnd (fpP x (k : Int) (clr (pbs x k).1 (k : Int)) (x 18 (pbs x k).1)) (k + 1) ((x 1 0).toNat - (k + 1))) (k : Int))) else pbs x k
theorem pbs_in (x : Bk) (hn : 0 ≤ x 1 0 ∧ x 1 0 ≤ 10) (k : Nat) (hk : (k : Int) ≤ x 1 0) : 0 ≤ (pbs x k).1 ∧ (pbs x k).1 < 1024 := by
  induction k with
  | zero =>
    have h1 := pw_le (o := x 1 0) (by omega)
    have h2 := pw_pos (x 1 0)
    show 0 ≤ pw (x 1 0) - 1 ∧ pw (x 1 0) - 1 < 1024
    omega
  | succ k ih =>
    have ih := ih (by omega)
    have h1 := clr_in (q := (pbs x k).1) (o := (k : Int)) ih (by omega)
    unfold pbs
    split
    · split
      · show 0 ≤ clr _ _ ∧ clr _ _ < 1024
        omega
      · rename_i hb hf
        rcases fnd_in (fpP x (k : Int) (clr (pbs x k).1 (k : Int)) (x 18 (pbs x k).1)) ((x 1 0).toNat - (k + 1)) (k + 1) with h2 | h2
        · exact absurd h2 hf
        · have h3 := clr_in (q := clr (pbs x k).1 (k : Int)) (o := fnd (fpP x (k : Int) (clr (pbs x k).1 (k : Int)) (x 18 (pbs x k).1)) (k + 1) ((x 1 0).toNat - (k + 1))) (by omega) (by omega)
          show 0 ≤ clr (clr _ _) _ ∧ clr (clr _ _) _ < 1024
          omega
    · exact ih
/-- by rule: the best pair of a round -/
def r2 (g p : Int → Int) (fi : Int) (s0 : Int × Int × Int) : Nat → Int × Int × Int
  | 0 => s0
  | k + 1 => if fi < (k : Int) ∧ (r2 g p fi s0 k).2.2 < g (fi * 10 + (k : Int)) ∧ p fi = -1 ∧ p (k : Int) = -1 then (fi, (k : Int), g (fi * 10 + (k : Int))) else r2 g p fi s0 k
def r1 (g p : Int → Int) (n : Nat) : Nat → Int × Int × Int
  | 0 => (-1, -1, 0)
  | k + 1 => r2 g p (k : Int) (r1 g p n k) n
def pbr (g : Int → Int) (n : Nat) (p : Int → Int) : Nat → Int → Int
  | 0 => p
  | j + 1 => if (r1 g (pbr g n p j) n n).1 = -1 then pbr g n p j else updI (updI (pbr g n p j) (r1 g (pbr g n p j) n n).1 (r1 g (pbr g n p j) n n).2.1) (r1 g (pbr g n p j) n n).2.1 (r1 g (pbr g n p j) n n).1
abbrev rok (n : Int) (s : Int × Int × Int) : Prop := (s.1 = -1 ∧ s.2.1 = -1 ∨ (0 ≤ s.1 ∧ s.1 < s.2.1 ∧ s.2.1 < n)) ∧ 0 ≤ s.2.2 ∧ s.2.2 ≤ 20000
theorem r2_lo (g p : Int → Int) (fi : Int) (s0 : Int × Int × Int) (k : Nat) (h : (k : Int) ≤ fi + 1) : r2 g p fi s0 k = s0 := by
  induction k with
  | zero => rfl
  | succ k ih =>
    show (if _ then _ else _) = _
    rw [if_neg (by omega), ih (by omega)]
theorem r2_ok {g p : Int → Int} {fi : Int} {s0 : Int × Int × Int} {n : Int} (hn : n ≤ 10) (hf : 0 ≤ fi ∧ fi < n) (hg : ∀ i, 0 ≤ i → i < 100 → 0 ≤ g i ∧ g i ≤ 20000) (h0 : rok n s0) (k : Nat) (hk : (k : Int) ≤ n) : rok n (r2 g p fi s0 k) := by
  induction k with
  | zero => exact h0
  | succ k ih =>
    have ih := ih (by omega)
    have h3 := hg (fi * 10 + (k : Int)) 
    show rok n (if _ then _ else _)
    split
    · have h3 := h3 (by omega) (by omega)
      exact ⟨Or.inr ⟨hf.1, by show fi < (k : Int); omega, by show (k : Int) < n; omega⟩, by show 0 ≤ g _; omega, by show g _ ≤ 20000; omega⟩
    · exact ih
theorem r1_ok {g p : Int → Int} {n : Nat} (hn : n ≤ 10) (hg : ∀ i, 0 ≤ i → i < 100 → 0 ≤ g i ∧ g i ≤ 20000) (k : Nat) (hk : k ≤ n) : rok n (r1 g p n k) := by
  induction k with
  | zero => exact ⟨Or.inl ⟨rfl, rfl⟩, Int.le_refl 0, by show (0 : Int) ≤ 20000; decide⟩
  | succ k ih => exact r2_ok (by omega) (by omega) hg (ih (by omega)) n (by omega)
