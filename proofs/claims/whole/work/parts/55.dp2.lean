/-! the class's table, of the sets that come up -/
theorem ix_nat : ∀ lo : Nat, lo < 10 → ∀ k : Nat, k < 2 ^ (9 - lo) → low ((k * 2 ^ (lo + 1) + 2 ^ lo : Nat) : Int) = (lo : Int) ∧ clr ((k * 2 ^ (lo + 1) + 2 ^ lo : Nat) : Int) (lo : Int) = ((k * 2 ^ (lo + 1) : Nat) : Int) ∧ popc ((k * 2 ^ (lo + 1) + 2 ^ lo : Nat) : Int) = popc (k : Int) + 1 := by decide +kernel
theorem low_nat : ∀ q : Nat, q < 1024 → 0 < q → (q / 2 ^ ((low (q : Int)).toNat + 1)) * 2 ^ ((low (q : Int)).toNat + 1) + 2 ^ (low (q : Int)).toNat = q := by decide +kernel
def ixx (lo k : Int) : Int := k * pw (lo + 1) + pw lo
theorem ix_ok {lo k : Int} (hlo : 0 ≤ lo ∧ lo < 10) (hk : 0 ≤ k ∧ k < pw (9 - lo)) : low (ixx lo k) = lo ∧ clr (ixx lo k) lo = k * pw (lo + 1) ∧ popc (ixx lo k) = popc k + 1 := by
  obtain ⟨n, rfl⟩ := Int.eq_ofNat_of_zero_le hk.1
  obtain ⟨j, rfl⟩ := Int.eq_ofNat_of_zero_le hlo.1
  have h1 : pw (9 - (j : Int)) = ((2 ^ (9 - j) : Nat) : Int) := by rw [show (9 : Int) - (j : Int) = ((9 - j : Nat) : Int) by omega, pw_nat]
  have h2 : pw ((j : Int) + 1) = ((2 ^ (j + 1) : Nat) : Int) := by rw [show (j : Int) + 1 = ((j + 1 : Nat) : Int) by omega, pw_nat]
  rw [h1] at hk
  unfold ixx
  rw [h2, pw_nat, ← Int.natCast_mul, ← Int.natCast_add]
  exact ix_nat j (by omega) n (by omega)
theorem ix_of {q : Int} (hq : 0 < q ∧ q < 1024) : q = ixx (low q) (q / pw (low q + 1)) := by
  have hL := low_ok (q := q) (by omega) (by omega)
  obtain ⟨n, rfl⟩ := Int.eq_ofNat_of_zero_le (show 0 ≤ q by omega)
  have h := low_nat n (by omega) (by omega)
  obtain ⟨j, hj⟩ := Int.eq_ofNat_of_zero_le hL.1.1
  rw [hj] at h ⊢
  rw [Int.toNat_natCast] at h
  have h2 : pw ((j : Int) + 1) = ((2 ^ (j + 1) : Nat) : Int) := by rw [show (j : Int) + 1 = ((j + 1 : Nat) : Int) by omega, pw_nat]
  unfold ixx
  rw [h2, pw_nat, ← Int.natCast_ediv, ← Int.natCast_mul, ← Int.natCast_add, h]
/-- each order before the lowest has taken one later order at most -/
def rch (n q : Int) : Prop := n - popc q ≤ 2 * low q
theorem bt_pw {q i : Int} (hq : 0 ≤ q) (hi : 0 ≤ i) (h : bt q i) : pw i ≤ q := by
  refine Classical.byContradiction fun z => ?_
  have h2 : q / pw i = 0 := Int.ediv_eq_zero_of_lt hq (by omega)
  have h3 : q / pw i % 2 = 1 := h
  rw [h2] at h3
  omega
theorem rch_next {n r lo i : Int} (hr : 0 ≤ r ∧ r < 1024) (hb : ∀ i, 0 ≤ i → i ≤ lo → ¬ bt r i) (hlo : 0 ≤ lo) (hp : n - popc r ≤ 2 * lo + 1) (hi : 0 ≤ i) (h : bt r i) (hne : ¬ clr r i = 0) : rch n (clr r i) := by
  have hi2 := bt_lt hr hi h
  have hc := clr_in hr (o := i) (by omega)
  have hL := low_ok (q := clr r i) (by omega) hne
  have h1 := pop_clr hr (by omega) h
  have h2 : lo < low (clr r i) := by
    refine Classical.byContradiction fun z => ?_
    exact hb _ (by omega) (by omega) ((bt_clr hr (by omega) (by omega)).mp hL.2.1).1
  unfold rch
  omega
theorem rch_rest {n r lo : Int} (hr : 0 ≤ r ∧ r < 1024) (hb : ∀ i, 0 ≤ i → i ≤ lo → ¬ bt r i) (hlo : 0 ≤ lo) (hp : n - popc r ≤ 2 * lo + 1) (hne : ¬ r = 0) : rch n r := by
  have hL := low_ok hr hne
  have h2 : lo < low r := by
    refine Classical.byContradiction fun z => ?_
    exact hb _ (by omega) (by omega) hL.2.1
  unfold rch
  omega
theorem low_none {q : Int} (hq : 0 ≤ q ∧ q < 1024) (h0 : ¬ q = 0) : ∀ i, 0 ≤ i → i ≤ low q → ¬ bt (clr q (low q)) i := fun i i0 i1 z => by
  have hL := low_ok hq h0
  have h := (bt_clr hq hL.1 i0).mp z
  exact hL.2.2 i i0 (by omega) h.1
theorem fsI_ok {g B t : Int → Int} {n lo : Int} (hn : n ≤ 10) (hlo : 0 ≤ lo ∧ lo < n) (hB : ∀ q, 0 < q → q < pw n → B q = gm g B (low q) (clr q (low q)) n.toNat) (ht : ∀ q, 0 ≤ q → q < pw n → (∀ i, 0 ≤ i → i ≤ lo → ¬ bt q i) → (q = 0 ∨ rch n q) → t q = B q) (k : Nat) (hk : (k : Int) ≤ pw (n - 1 - lo)) :
    (∀ q, ¬ bt q lo → fsI g n lo t k q = t q) ∧ ∀ o, 0 ≤ o → o < (k : Int) → rch n (ixx lo o) → fsI g n lo t k (ixx lo o) = B (ixx lo o) := by
  induction k with
  | zero => exact ⟨fun q _ => rfl, fun o h0 h1 => by omega⟩
  | succ k ih =>
    have ih := ih (by omega)
    have hpm : pw (n - 1 - lo) ≤ pw (9 - lo) := pw_mono (by omega)
    have hix := ix_ok (lo := lo) (k := (k : Int)) (by omega) ⟨by omega, by omega⟩
    have hpl := pw_le (o := n) (by omega)
    have hp1 := pw_pos (lo + 1)
    have hp2 := pw_two (lo := lo) hlo.1
    have hp3 := pw_pos lo
    have hkn : (k : Int) * pw (lo + 1) + pw (lo + 1) ≤ pw n := by
      have h1 : ((k : Int) + 1) * pw (lo + 1) ≤ pw (n - 1 - lo) * pw (lo + 1) := Int.mul_le_mul_of_nonneg_right (by omega) (by omega)
      rw [pw_add (by omega) (by omega), show n - 1 - lo + (lo + 1) = n by omega, Int.add_mul, Int.one_mul] at h1
      exact h1
    have hk0 : 0 ≤ (k : Int) * pw (lo + 1) := Int.mul_nonneg (by omega) (by omega)
    have hixn : 0 < ixx lo (k : Int) ∧ ixx lo (k : Int) < pw n := by unfold ixx; omega
    have hbl : bt (ixx lo (k : Int)) lo := by
      have := (low_ok (q := ixx lo (k : Int)) (by omega) (by omega)).2.1
      rw [hix.1] at this
      exact this
    by_cases h : n - 1 - lo - popc (k : Int) ≤ lo
    · rw [fsI_t h]
      refine ⟨fun q hq => ?_, fun o o0 o1 hr => ?_⟩
      · rw [updI_n (fun z => hq (by rw [z]; exact hbl))]
        exact ih.1 q hq
      · by_cases e : o = (k : Int)
        · subst e
          show updI _ (ixx lo (k : Int)) _ (ixx lo (k : Int)) = _
          rw [updI_s, hB _ hixn.1 hixn.2, hix.1, hix.2.1]
          have hno : ∀ i, 0 ≤ i → i ≤ lo → ¬ bt ((k : Int) * pw (lo + 1)) i := by
            have := low_none (q := ixx lo (k : Int)) (by omega) (by omega)
            rw [hix.1, hix.2.1] at this
            exact this
          have hpop : popc ((k : Int) * pw (lo + 1)) = popc (k : Int) := by
            have := pop_clr (q := ixx lo (k : Int)) (o := lo) (by omega) (by omega) hbl
            rw [hix.2.1, hix.2.2] at this
            omega
          refine gm_congr _ ?_ (fun i hi hli hb => ?_)
          · rw [ih.1 _ (hno lo hlo.1 (Int.le_refl _))]
            refine ht _ hk0 (by omega) hno ?_
            by_cases hz : (k : Int) * pw (lo + 1) = 0
            · exact Or.inl hz
            · exact Or.inr (rch_rest ⟨hk0, by omega⟩ hno hlo.1 (by omega) hz)
          · have hc := clr_in (q := (k : Int) * pw (lo + 1)) (o := (i : Int)) ⟨hk0, by omega⟩ (by omega)
            have hno2 : ∀ j, 0 ≤ j → j ≤ lo → ¬ bt (clr ((k : Int) * pw (lo + 1)) (i : Int)) j := fun j j0 j1 z => hno j j0 j1 ((bt_clr ⟨hk0, by omega⟩ (by omega) j0).mp z).1
            rw [ih.1 _ (hno2 lo hlo.1 (Int.le_refl _))]
            refine ht _ hc.1 (by omega) hno2 ?_
            by_cases hz : clr ((k : Int) * pw (lo + 1)) (i : Int) = 0
            · exact Or.inl hz
            · exact Or.inr (rch_next ⟨hk0, by omega⟩ hno hlo.1 (by omega) (by omega) hb hz)
        · have hne : ¬ ixx lo o = ixx lo (k : Int) := fun z => by
            unfold ixx at z
            have z2 : o * pw (lo + 1) = (k : Int) * pw (lo + 1) := by omega
            exact e (Int.eq_of_mul_eq_mul_right (by omega) z2)
          show updI _ (ixx lo (k : Int)) _ (ixx lo o) = _
          rw [updI_n hne]
          exact ih.2 o o0 (by omega) hr
    · rw [fsI_f h]
      refine ⟨ih.1, fun o o0 o1 hr => ?_⟩
      by_cases e : o = (k : Int)
      · subst e
        unfold rch at hr
        rw [hix.1, hix.2.2] at hr
        omega
      · exact ih.2 o o0 (by omega) hr
theorem fsO_ok {g B t : Int → Int} {n : Int} (hn : 0 ≤ n ∧ n ≤ 10) (hB : ∀ q, 0 < q → q < pw n → B q = gm g B (low q) (clr q (low q)) n.toNat) (h0 : t 0 = B 0) (j : Nat) (hj : (j : Int) ≤ n) : ∀ q, 0 ≤ q → q < pw n → (∀ i, 0 ≤ i → i < n - (j : Int) → ¬ bt q i) → (q = 0 ∨ rch n q) → fsO g n t j q = B q := by
  have hpl := pw_le (o := n) hn
  induction j with
  | zero =>
    intro q q0 q1 hb _
    have hz : q = 0 := Classical.byContradiction fun z => by
      obtain ⟨i, i0, i1, ib⟩ := bt_ne0 (q := q) (by omega) z
      have h1 := bt_pw q0 i0 ib
      refine hb i i0 ?_ ib
      refine Classical.byContradiction fun w => ?_
      have := pw_mono (a := n) (b := i) (by omega)
      omega
    rw [hz]
    exact h0
  | succ j ih =>
    intro q q0 q1 hb hr
    have ih := ih (by omega)
    have hp := pw_pos (j : Int)
    have hI := fsI_ok (g := g) (B := B) (t := fsO g n t j) (n := n) (lo := n - 1 - (j : Int)) hn.2 (by omega) hB (fun q q0 q1 hb hr => ih q q0 q1 (fun i i0 i1 => hb i i0 (by omega)) hr) (pw (j : Int)).toNat (by rw [show n - 1 - (n - 1 - (j : Int)) = (j : Int) by omega]; omega)
    show fsI g n (n - 1 - (j : Int)) (fsO g n t j) (pw (j : Int)).toNat q = B q
    by_cases hbl : bt q (n - 1 - (j : Int))
    · have hne : ¬ q = 0 := fun z => by rw [z] at hbl; exact bt_0 _ hbl
      have hl : low q = n - 1 - (j : Int) := low_eq (by omega) (by omega) hbl (fun i i0 i1 => hb i i0 (by omega))
      have hix := ix_of (q := q) (by omega)
      rw [hl] at hix
      have hp1 := pw_pos (n - 1 - (j : Int) + 1)
      have ho0 : 0 ≤ q / pw (n - 1 - (j : Int) + 1) := Int.ediv_nonneg q0 (by omega)
      have ho1 : q / pw (n - 1 - (j : Int) + 1) < pw (j : Int) := by
        refine Int.ediv_lt_of_lt_mul (by omega) ?_
        rw [pw_add (by omega) (by omega), show (j : Int) + (n - 1 - (j : Int) + 1) = n by omega]
        exact q1
      have hr2 : rch n q := hr.elim (fun z => absurd z hne) id
      have := hI.2 (q / pw (n - 1 - (j : Int) + 1)) ho0 (by omega) (by rw [← hix]; exact hr2)
      rw [← hix] at this
      exact this
    · rw [hI.1 q hbl]
      refine ih q q0 q1 (fun i i0 i1 => ?_) hr
      by_cases e : i = n - 1 - (j : Int)
      · rw [e]; exact hbl
      · exact hb i i0 (by omega)
