/-! the best sums: the class's table of sets that come up, and the model's of all sets of free orders -/
def cp (q F : Int) : Int := ((q.toNat &&& F.toNat : Nat) : Int)
theorem cp_in {q F : Int} (hq : 0 ≤ q ∧ q < 1024) : 0 ≤ cp q F ∧ cp q F ≤ q := by
  have := Nat.and_le_left (n := q.toNat) (m := F.toNat)
  unfold cp
  omega
theorem bt_cp {q F i : Int} (hq : 0 ≤ q) (hF : 0 ≤ F) (hi : 0 ≤ i) : bt (cp q F) i ↔ bt q i ∧ bt F i := by
  obtain ⟨n, rfl⟩ := Int.eq_ofNat_of_zero_le hq
  obtain ⟨k, rfl⟩ := Int.eq_ofNat_of_zero_le hF
  obtain ⟨j, rfl⟩ := Int.eq_ofNat_of_zero_le hi
  unfold cp
  rw [bt_nat, bt_nat, bt_nat, Int.toNat_natCast, Int.toNat_natCast, Nat.testBit_and, Bool.and_eq_true]
theorem low_eq {q a : Int} (hq : 0 ≤ q ∧ q < 1024) (ha : 0 ≤ a) (h : bt q a) (hl : ∀ i, 0 ≤ i → i < a → ¬ bt q i) : low q = a := by
  have h0 : ¬ q = 0 := fun z => by rw [z] at h; exact bt_0 a h
  have hL := low_ok hq h0
  rcases Int.lt_trichotomy (low q) a with z | z | z
  · exact absurd hL.2.1 (hl _ (by omega) z)
  · exact z
  · exact absurd h (hL.2.2 a ha z)
theorem gm_congr {g t t' : Int → Int} {lo q : Int} (n : Nat) (hq : t q = t' q) (hc : ∀ i : Nat, i < n → lo < (i : Int) → bt q (i : Int) → t (clr q (i : Int)) = t' (clr q (i : Int))) : gm g t lo q n = gm g t' lo q n := by
  induction n with
  | zero => exact hq
  | succ k ih =>
    have ih := ih (fun i hi => hc i (by omega))
    by_cases h : lo < (k : Int) ∧ bt q (k : Int) ∧ 0 < g (lo * 10 + (k : Int))
    · rw [gm_t h, gm_t h, ih, hc k (by omega) h.1 h.2.1]
    · rw [gm_f h, gm_f h, ih]
theorem gm_none {g t : Int → Int} {lo q : Int} (n : Nat) (h : ∀ i : Nat, i < n → lo < (i : Int) → g (lo * 10 + (i : Int)) = 0) : gm g t lo q n = t q := by
  induction n with
  | zero => rfl
  | succ k ih =>
    rw [gm_f (fun z => by have := h k (by omega) z.1; have := z.2.2; omega), ih (fun i hi => h i (by omega))]
/-- the model's table satisfies its equation -/
theorem mT_keep (x : Bk) (j : Nat) {i : Int} (hi : i ≤ (j : Int)) (d : Nat) : mT x (j + d) i = mT x j i := by
  induction d with
  | zero => rfl
  | succ d ih =>
    rw [← Nat.add_assoc, mT_s, updI_n (by omega), ih]
theorem mT_0 (x : Bk) (j : Nat) : mT x j 0 = 0 := by
  have h := mT_keep x 0 (i := 0) (by omega) j
  rw [Nat.zero_add] at h
  rw [h]
  exact updI_s
theorem mT_rec (x : Bk) {J : Nat} (hJ : J < 1024) {q : Int} (h0 : 0 < q) (h1 : q ≤ (J : Int)) : mT x J q = gm (x 17) (mT x J) (low q) (clr q (low q)) (x 1 0).toNat := by
  obtain ⟨j, rfl⟩ : ∃ j : Nat, q = ((j + 1 : Nat) : Int) := ⟨q.toNat - 1, by omega⟩
  obtain ⟨d, rfl⟩ : ∃ d, J = (j + 1) + d := ⟨J - (j + 1), by omega⟩
  have hq : 0 ≤ ((j + 1 : Nat) : Int) ∧ ((j + 1 : Nat) : Int) < 1024 := by omega
  have hL := low_ok hq (by omega)
  have hc := clr_in hq hL.1
  have hcl := clr_lt hq hL.1 hL.2.1
  rw [mT_keep x (j + 1) (Int.le_refl _) d, mT_s, updI_s]
  have key : ∀ i : Int, i ≤ (j : Int) → mT x j i = mT x (j + 1 + d) i := fun i hi => by
    rw [Nat.add_assoc, mT_keep x j hi]
  refine gm_congr _ (key _ (by omega)) (fun i _ hlo hb => key _ ?_)
  have hi : (i : Int) < 10 := bt_lt (by omega) (by omega) hb
  have := clr_in (q := clr ((j + 1 : Nat) : Int) (low ((j + 1 : Nat) : Int))) (o := (i : Int)) (by omega) (by omega)
  omega
/-- gains of free orders, and of all -/
def gF (n : Int) (g h : Int → Int) (F : Int) : Prop := ∀ a b, 0 ≤ a → a < b → b < n → (bt F a ∧ bt F b → g (a * 10 + b) = h (a * 10 + b)) ∧ (¬ (bt F a ∧ bt F b) → g (a * 10 + b) = 0)
theorem cp_clr {q F a : Int} (hq : 0 ≤ q ∧ q < 1024) (hF : 0 ≤ F) (ha : 0 ≤ a ∧ a < 10) : cp (clr q a) F = clr (cp q F) a := by
  have h1 := clr_in hq ha
  have h2 := cp_in (F := F) hq
  have h3 := cp_in (F := F) (q := clr q a) (by omega)
  have h4 := clr_in (q := cp q F) (by omega) ha
  refine bt_ext (by omega) (by omega) fun i i0 _ => ?_
  rw [bt_cp (by omega) hF i0, bt_clr hq ha i0, bt_clr (by omega) ha i0, bt_cp (by omega) hF i0]
  constructor
  · exact fun z => ⟨⟨z.1.1, z.2⟩, z.1.2⟩
  · exact fun z => ⟨⟨z.1.1, z.2⟩, z.1.2⟩
theorem cp_out {q F a : Int} (hq : 0 ≤ q ∧ q < 1024) (hF : 0 ≤ F) (ha : 0 ≤ a ∧ a < 10) (h : ¬ bt F a) : cp (clr q a) F = cp q F := by
  have h1 := clr_in hq ha
  have h2 := cp_in (F := F) hq
  have h3 := cp_in (F := F) (q := clr q a) (by omega)
  refine bt_ext (by omega) (by omega) fun i i0 _ => ?_
  rw [bt_cp (by omega) hF i0, bt_clr hq ha i0, bt_cp (by omega) hF i0]
  constructor
  · exact fun z => ⟨z.1.1, z.2⟩
  · exact fun z => ⟨⟨z.1, fun e => h (e ▸ z.2)⟩, z.2⟩
theorem gm_cp {g h T : Int → Int} {F n a r : Int} (hF : 0 ≤ F) (hg : gF n g h F) (ha : 0 ≤ a) (hFa : bt F a) (hr : 0 ≤ r ∧ r < 1024) (k : Nat) (hk : (k : Int) ≤ n) (hn : n ≤ 10) : gm g (fun q => T (cp q F)) a r k = gm h T a (cp r F) k := by
  induction k with
  | zero => rfl
  | succ k ih =>
    have ih := ih (by omega)
    by_cases hak : a < (k : Int)
    · have hgk := hg a (k : Int) ha hak (by omega)
      have hb := bt_cp (q := r) (F := F) (i := (k : Int)) hr.1 hF (by omega)
      by_cases hFk : bt F (k : Int)
      · have e := hgk.1 ⟨hFa, hFk⟩
        by_cases hc : a < (k : Int) ∧ bt r (k : Int) ∧ 0 < g (a * 10 + (k : Int))
        · have hc2 : a < (k : Int) ∧ bt (cp r F) (k : Int) ∧ 0 < h (a * 10 + (k : Int)) := ⟨hak, hb.mpr ⟨hc.2.1, hFk⟩, by rw [← e]; exact hc.2.2⟩
          rw [gm_t hc, gm_t hc2, ih, e, cp_clr hr hF (by omega)]
        · have hc2 : ¬ (a < (k : Int) ∧ bt (cp r F) (k : Int) ∧ 0 < h (a * 10 + (k : Int))) := fun z => hc ⟨hak, (hb.mp z.2.1).1, by rw [e]; exact z.2.2⟩
          rw [gm_f hc, gm_f hc2, ih]
      · have e := hgk.2 (fun z => hFk z.2)
        rw [gm_f (fun z => by have := z.2.2; omega), gm_f (fun z => hFk (hb.mp z.2.1).2), ih]
    · rw [gm_f (fun z => hak z.1), gm_f (fun z => hak z.1), ih]
/-- the equation of the class's table, by the model's -/
theorem dp_rec {g h T : Int → Int} {F n q : Int} (hF : 0 ≤ F) (hn : 0 ≤ n ∧ n ≤ 10) (hg : gF n g h F) (hT : ∀ q, 0 < q → q < pw n → T q = gm h T (low q) (clr q (low q)) n.toNat) (h0 : 0 < q) (h1 : q < pw n) : T (cp q F) = gm g (fun q => T (cp q F)) (low q) (clr q (low q)) n.toNat := by
  have hp := pw_le (o := n) hn
  have hq : 0 ≤ q ∧ q < 1024 := by omega
  have hL := low_ok hq (by omega)
  have hc := clr_in hq hL.1
  have hi := cp_in (F := F) hq
  by_cases hFa : bt F (low q)
  · have hb : bt (cp q F) (low q) := (bt_cp hq.1 hF (by omega)).mpr ⟨hL.2.1, hFa⟩
    have hl : low (cp q F) = low q := low_eq (by omega) (by omega) hb (fun i i0 i1 z => hL.2.2 i i0 i1 ((bt_cp hq.1 hF i0).mp z).1)
    have hne : ¬ cp q F = 0 := fun z => by rw [z] at hb; exact bt_0 _ hb
    rw [gm_cp hF hg (by omega) hFa (by omega) n.toNat (by omega) hn.2, cp_clr hq hF hL.1, hT (cp q F) (by omega) (by omega), hl]
  · rw [gm_none n.toNat (fun i hi2 hlo => (hg (low q) (i : Int) (by omega) hlo (by omega)).2 (fun z => hFa z.1))]
    rw [cp_out hq hF hL.1 hFa]
