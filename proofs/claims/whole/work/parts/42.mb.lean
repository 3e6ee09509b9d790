/-! what may be together: sets as numbers, and rows -/
def mbs (f : Int → Int) (q : Int) (k : Nat) : Int := sg (fun i => if bt q i then f i else 0) k
theorem mbs_t {f : Int → Int} {q : Int} {k : Nat} (h : bt q (k : Int)) : mbs f q (k + 1) = mbs f q k + f (k : Int) := by
  unfold mbs
  rw [sg_s, if_pos h]
theorem mbs_f {f : Int → Int} {q : Int} {k : Nat} (h : ¬ bt q (k : Int)) : mbs f q (k + 1) = mbs f q k := by
  unfold mbs
  rw [sg_s, if_neg h, Int.add_zero]
theorem mbs_bd {f : Int → Int} {q hi : Int} {k : Nat} (hk : k ≤ 10) (h0 : 0 ≤ hi) (h : ∀ i, 0 ≤ i → i < 10 → 0 ≤ f i ∧ f i ≤ hi) : 0 ≤ mbs f q k ∧ mbs f q k ≤ 10 * hi := by
  have h1 := sg_bd (f := fun i => if bt q i then f i else 0) (n := k) (lo := 0) (hi := hi) (fun j hj => by
    have := h (j : Int) (by omega) (by omega)
    split <;> omega)
  have h2 : (k : Int) * hi ≤ 10 * hi := Int.mul_le_mul_of_nonneg_right (by omega) h0
  unfold mbs
  omega
def mbq (x : Bk) (q k : Int) : Prop := ∀ a b, 0 ≤ b → b < a → a < k → bt q a → bt q b → alg x a b
def mb (x : Bk) (q : Int) : Prop := mbq x q (x 1 0) ∧ mbs (x 6) q (x 1 0).toNat ≤ x 2 2 ∧ mbs (x 8) q (x 1 0).toNat ≤ x 2 1
theorem mbq_0 (x : Bk) (q : Int) : mbq x q 0 := fun a b h0 h1 h2 => by omega
theorem mbq_n {x : Bk} {q : Int} {k : Int} (h : mbq x q k) (hb : ¬ bt q k) : mbq x q (k + 1) := fun a b h0 h1 h2 ha hb2 => by
  by_cases e : a = k
  · exact absurd (e ▸ ha) hb
  · exact h a b h0 h1 (by omega) ha hb2
theorem mbq_y {x : Bk} {q : Int} {k : Int} (h : mbq x q k) (hb : ∀ b, 0 ≤ b → b < k → bt q b → alg x k b) : mbq x q (k + 1) := fun a b h0 h1 h2 ha hb2 => by
  by_cases e : a = k
  · subst e; exact hb b h0 h1 hb2
  · exact h a b h0 h1 (by omega) ha hb2
/-- rules and near zones go both ways -/
def sym (x : Bk) : Prop := (∀ a b, 0 ≤ a → a < 10 → 0 ≤ b → b < 10 → x 10 (a * 10 + b) = x 10 (b * 10 + a)) ∧ ∀ a b, 0 ≤ a → a < 4 → 0 ≤ b → b < 4 → x 11 (a * 4 + b) = x 11 (b * 4 + a)
theorem alg_sym {x : Bk} (hs : sym x) (hok : Ok x) {a b : Int} (ha : 0 ≤ a ∧ a < 10) (hb : 0 ≤ b ∧ b < 10) (h : alg x a b) : alg x b a := by
  have h7 := hok.r7 a ha.1 ha.2
  have h8 := hok.r7 b hb.1 hb.2
  refine ⟨?_, ?_⟩
  · rw [hs.1 b a hb.1 hb.2 ha.1 ha.2]; exact h.1
  · rw [hs.2 (x 7 b) (x 7 a) (by omega) (by omega) (by omega) (by omega)]; exact h.2
/-- the set of a row -/
def sof (f : Int → Int) : Nat → Int
  | 0 => 0
  | k + 1 => sett (sof f k) (f (k : Int))
theorem sof_s (f : Int → Int) (k : Nat) : sof f (k + 1) = sett (sof f k) (f (k : Int)) := rfl
theorem sof_in {f : Int → Int} {m : Nat} (h : ∀ i, 0 ≤ i → i < (m : Int) → 0 ≤ f i ∧ f i < 10) : 0 ≤ sof f m ∧ sof f m < 1024 := by
  induction m with
  | zero => exact ⟨Int.le_refl _, by show (0 : Int) < 1024; omega⟩
  | succ m ih => exact sett_in (ih fun i h0 h1 => h i h0 (by omega)) (h (m : Int) (by omega) (by omega))
theorem sof_congr {f g : Int → Int} {m : Nat} (h : ∀ i, 0 ≤ i → i < (m : Int) → f i = g i) : sof f m = sof g m := by
  induction m with
  | zero => rfl
  | succ m ih => rw [sof_s, sof_s, ih (fun i h0 h1 => h i h0 (by omega)), h (m : Int) (by omega) (by omega)]
theorem bt_sof {f : Int → Int} {m : Nat} (h : ∀ i, 0 ≤ i → i < (m : Int) → 0 ≤ f i ∧ f i < 10) {i : Int} (hi : 0 ≤ i) : bt (sof f m) i ↔ ∃ j, 0 ≤ j ∧ j < (m : Int) ∧ f j = i := by
  induction m with
  | zero => exact ⟨fun z => absurd z (bt_0 i), fun ⟨j, h0, h1, _⟩ => by omega⟩
  | succ m ih =>
    have h' : ∀ i, 0 ≤ i → i < (m : Int) → 0 ≤ f i ∧ f i < 10 := fun i h0 h1 => h i h0 (by omega)
    rw [sof_s, bt_set (sof_in h') (h (m : Int) (by omega) (by omega)) hi, ih h']
    constructor
    · rintro (⟨j, h0, h1, e⟩ | e)
      · exact ⟨j, h0, by omega, e⟩
      · exact ⟨(m : Int), by omega, by omega, e.symm⟩
    · rintro ⟨j, h0, h1, e⟩
      by_cases hj : j = (m : Int)
      · exact Or.inr (by rw [← e, hj])
      · exact Or.inl ⟨j, h0, by omega, e⟩
theorem mbs_set {f : Int → Int} {q b : Int} (hq : 0 ≤ q ∧ q < 1024) (hb : 0 ≤ b ∧ b < 10) (hn : ¬ bt q b) (k : Nat) : mbs f (sett q b) k = mbs f q k + (if b < (k : Int) then f b else 0) := by
  induction k with
  | zero =>
    rw [if_neg (by omega)]
    rfl
  | succ k ih =>
    have e : bt (sett q b) (k : Int) ↔ bt q (k : Int) ∨ (k : Int) = b := bt_set hq hb (by omega)
    by_cases h1 : (k : Int) = b
    · have h2 : ¬ bt q (k : Int) := by rw [h1]; exact hn
      rw [mbs_t (e.mpr (Or.inr h1)), mbs_f h2, ih, if_neg (by omega), if_pos (by omega), h1]
      omega
    · by_cases h2 : bt q (k : Int)
      · rw [mbs_t (e.mpr (Or.inl h2)), mbs_t h2, ih]
        split <;> split <;> omega
      · rw [mbs_f (fun z => (e.mp z).elim h2 h1), mbs_f h2, ih]
        split <;> split <;> omega
/-- all apart -/
def dis (f : Int → Int) (m : Int) : Prop := ∀ i j, 0 ≤ i → i < j → j < m → ¬ f i = f j
theorem mbs_0 (f : Int → Int) (k : Nat) : mbs f 0 k = 0 := by
  induction k with
  | zero => rfl
  | succ k ih => rw [mbs_f (bt_0 _), ih]
theorem mbs_sof {f g : Int → Int} {n : Int} (hn : n ≤ 10) {m : Nat} (h : ∀ i, 0 ≤ i → i < (m : Int) → 0 ≤ f i ∧ f i < n) (hd : dis f (m : Int)) : mbs g (sof f m) n.toNat = sg (fun j => g (f j)) m := by
  induction m with
  | zero => exact mbs_0 g _
  | succ m ih =>
    have h' : ∀ i, 0 ≤ i → i < (m : Int) → 0 ≤ f i ∧ f i < 10 := fun i h0 h1 => by have := h i h0 (by omega); omega
    have hm := h (m : Int) (by omega) (by omega)
    rw [sof_s, mbs_set (sof_in h') (by omega) (fun z => by
      obtain ⟨j, h0, h1, e⟩ := (bt_sof h' (by omega)).mp z
      exact hd j (m : Int) h0 h1 (by omega) e), ih (fun i h0 h1 => h i h0 (by omega)) (fun i j h0 h1 h2 => hd i j h0 h1 (by omega)), if_pos (by omega), sg_s]
theorem mb_sof {x : Bk} (hs : sym x) (hok : Ok x) {f : Int → Int} {m : Nat} (h : ∀ i, 0 ≤ i → i < (m : Int) → 0 ≤ f i ∧ f i < x 1 0) (hd : dis f (m : Int)) : mb x (sof f m) ↔ okS x f (m : Int) := by
  have hn := hok.n
  have h' : ∀ i, 0 ≤ i → i < (m : Int) → 0 ≤ f i ∧ f i < 10 := fun i h0 h1 => by have := h i h0 h1; omega
  unfold mb okS
  rw [mbs_sof hn.2 h hd, mbs_sof hn.2 h hd, show ((m : Int)).toNat = m by omega]
  refine ⟨fun z => ⟨fun i j h0 h1 h2 => ?_, z.2.2, z.2.1⟩, fun z => ⟨fun a b h0 h1 h2 ha hb => ?_, z.2.2, z.2.1⟩⟩
  · have hi := h i h0 (by omega)
    have hj := h j (by omega) h2
    have bi := (bt_sof h' (by omega)).mpr ⟨i, h0, by omega, rfl⟩
    have bj := (bt_sof h' (by omega)).mpr ⟨j, by omega, h2, rfl⟩
    have hne := hd i j h0 h1 h2
    by_cases hl : f i < f j
    · exact alg_sym hs hok (by omega) (by omega) (z.1 (f j) (f i) (by omega) hl (by omega) bj bi)
    · exact z.1 (f i) (f j) (by omega) (by omega) (by omega) bi bj
  · obtain ⟨i, hi0, hi1, rfl⟩ := (bt_sof h' (by omega)).mp ha
    obtain ⟨j, hj0, hj1, rfl⟩ := (bt_sof h' (by omega)).mp hb
    have hi := h i hi0 hi1
    have hj := h j hj0 hj1
    by_cases hl : i < j
    · exact z.1 i j hi0 hl hj1
    · by_cases e : i = j
      · subst e; omega
      · exact alg_sym hs hok (by omega) (by omega) (z.1 j i hj0 (by omega) hi1)
theorem sett_0 (a : Int) : sett 0 a = 1 * pw a := by
  unfold sett clr
  rw [Int.zero_ediv]
  omega
theorem mb_pair {x : Bk} (hs : sym x) (hok : Ok x) {a b : Int} (ha : 0 ≤ a ∧ a < x 1 0) (hb : 0 ≤ b ∧ b < x 1 0) (hab : ¬ a = b) : mb x (sett (1 * pw a) b) ↔ okP x a b := by
  have e : sett (1 * pw a) b = sof (fun i => if i = 0 then a else b) 2 := by
    show _ = sett (sett 0 (if ((0 : Nat) : Int) = 0 then a else b)) (if ((1 : Nat) : Int) = 0 then a else b)
    rw [if_pos (by omega), if_neg (by omega), sett_0]
  rw [e, mb_sof hs hok (fun i h0 h1 => by show _ ≤ (if _ then _ else _) ∧ (if _ then _ else _) < _; split <;> omega) (fun i j h0 h1 h2 => by show ¬ (if _ then _ else _) = (if _ then _ else _); rw [if_pos (by omega), if_neg (by omega)]; exact hab)]
  unfold okS okP
  have e2 : ∀ g : Int → Int, sg (fun i => g (if i = 0 then a else b)) (((2 : Nat) : Int)).toNat = g a + g b := fun g => by
    show 0 + g (if ((0 : Nat) : Int) = 0 then a else b) + g (if ((1 : Nat) : Int) = 0 then a else b) = _
    rw [if_pos (by omega), if_neg (by omega)]
    omega
  rw [e2, e2]
  refine and_congr_left fun _ => ⟨fun z => ?_, fun z i j h0 h1 h2 => ?_⟩
  · have := z 0 1 (by omega) (by omega) (by omega)
    dsimp only at this
    rw [if_pos rfl, if_neg (by omega)] at this
    exact this
  · dsimp only
    rw [if_pos (by omega), if_neg (by omega)]
    exact z
theorem mb_bat {x : Bk} (hs : sym x) (hok : Ok x) {a b : Int} (ha : 0 ≤ a ∧ a < x 1 0) (hb : 0 ≤ b ∧ b < 10) (hr : ∀ i, 0 ≤ i → i < x 14 b → (0 ≤ x 13 (b * 4 + i) ∧ x 13 (b * 4 + i) < x 1 0) ∧ ¬ x 13 (b * 4 + i) = a) (hd : ∀ i j, 0 ≤ i → i < j → j < x 14 b → ¬ x 13 (b * 4 + i) = x 13 (b * 4 + j)) : mb x (sett (sof (fun i => x 13 (b * 4 + i)) (x 14 b).toNat) a) ↔ okS x (bat1 x a b) (x 14 b + 1) := by
  have h14 := hok.r14 b hb.1 hb.2
  have e : sett (sof (fun i => x 13 (b * 4 + i)) (x 14 b).toNat) a = sof (bat1 x a b) ((x 14 b).toNat + 1) := by
    rw [sof_s, sof_congr (f := bat1 x a b) (g := fun i => x 13 (b * 4 + i)) (fun i h0 h1 => if_pos (by omega)), show bat1 x a b (((x 14 b).toNat : Nat) : Int) = a from if_neg (by omega)]
  rw [e, mb_sof hs hok (fun i h0 h1 => ?_) (fun i j h0 h1 h2 => ?_), show (((x 14 b).toNat + 1 : Nat) : Int) = x 14 b + 1 by omega]
  · unfold bat1
    split
    · exact (hr i h0 (by assumption)).1
    · exact ha
  · unfold bat1
    rw [if_pos (by omega)]
    by_cases hj : j < x 14 b
    · rw [if_pos hj]
      exact hd i j h0 h1 hj
    · rw [if_neg hj]
      exact (hr i h0 (by omega)).2
