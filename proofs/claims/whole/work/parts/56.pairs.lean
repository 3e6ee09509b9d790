/-! the pairs: class and model -/
theorem fnd_none {P : Int → Prop} [DecidablePred P] (d k : Nat) (h : ∀ i : Nat, k ≤ i → i < k + d → ¬ P (i : Int)) : fnd P k d = -1 := by
  induction d generalizing k with
  | zero => rfl
  | succ d ih => rw [fnd_f (h k (by omega) (by omega)), ih (k + 1) (fun i h0 h1 => h i (by omega) (by omega))]
theorem fnd_eq {P Q : Int → Prop} [DecidablePred P] [DecidablePred Q] (d k : Nat) (h : ∀ i : Nat, k ≤ i → i < k + d → (P (i : Int) ↔ Q (i : Int))) : fnd P k d = fnd Q k d := by
  induction d generalizing k with
  | zero => rfl
  | succ d ih =>
    have ih := ih (k + 1) (fun i h0 h1 => h i (by omega) (by omega))
    by_cases hp : P (k : Int)
    · rw [fnd_t hp, fnd_t ((h k (by omega) (by omega)).mp hp)]
    · rw [fnd_f hp, fnd_f (fun z => hp ((h k (by omega) (by omega)).mpr z)), ih]
theorem mxu_in {x : Bk} (hn : 0 ≤ x 1 0 ∧ x 1 0 ≤ 10) {q : Int} (hq : 0 ≤ q ∧ q < 1024) (h0 : ¬ q = 0) (hu : ¬ mxu x q = -1) : low q < mxu x q ∧ mxu x q < x 1 0 ∧ bt (clr q (low q)) (mxu x q) := by
  have hL := low_ok hq h0
  rcases fnd_in (fpP x (low q) (clr q (low q)) (x 18 q)) ((x 1 0).toNat - (low q + 1).toNat) (low q + 1).toNat with h | h
  · exact absurd h hu
  · have h3 : ((low q + 1).toNat : Int) ≤ mxu x q := h.1
    have h4 : mxu x q < ((low q + 1).toNat : Int) + (((x 1 0).toNat - (low q + 1).toNat : Nat) : Int) := h.2.1
    exact ⟨by omega, by omega, h.2.2.1.1⟩
theorem mex_fuel {x : Bk} (hn : 0 ≤ x 1 0 ∧ x 1 0 ≤ 10) (f : Nat) : ∀ (f' : Nat) (q : Int) (p : Int → Int), 0 ≤ q → q < 1024 → q ≤ (f : Int) → q ≤ (f' : Int) → mex x f q p = mex x f' q p := by
  induction f with
  | zero =>
    intro f' q p q0 _ q1 _
    rw [show q = 0 by omega, mex_0, mex_0]
  | succ f ih =>
    intro f' q p q0 q1 hf hf'
    by_cases h0 : q = 0
    · rw [h0, mex_0, mex_0]
    · obtain ⟨e, rfl⟩ : ∃ e, f' = e + 1 := ⟨f' - 1, by omega⟩
      have hq : 0 ≤ q ∧ q < 1024 := ⟨q0, q1⟩
      have hL := low_ok hq h0
      have hc := clr_in hq hL.1
      have hcl := clr_lt hq hL.1 hL.2.1
      by_cases hu : mxu x q = -1
      · rw [mex_n h0 hu, mex_n h0 hu]
        exact ih e _ _ (by omega) (by omega) (by omega) (by omega)
      · have hb := mxu_in hn hq h0 hu
        have hcc := clr_in (q := clr q (low q)) (o := mxu x q) (by omega) (by omega)
        rw [mex_y h0 hu, mex_y h0 hu]
        exact ih e _ _ (by omega) (by omega) (by omega) (by omega)
theorem pbs_mex {xc ym : Bk} {F n : Int} (h1c : xc 1 0 = n) (h1m : ym 1 0 = n) (hn : 0 ≤ n ∧ n ≤ 10) (hF : 0 ≤ F ∧ F < 1024) (hg : gF n (xc 17) (ym 17) F) (hT : ∀ q, 0 ≤ q → q < pw n → (q = 0 ∨ rch n q) → xc 18 q = ym 18 (cp q F)) (k : Nat) (hk : (k : Int) ≤ n) :
    (0 ≤ (pbs xc k).1 ∧ (pbs xc k).1 < pw n) ∧ (∀ i, 0 ≤ i → i < (k : Int) → ¬ bt (pbs xc k).1 i) ∧ ((pbs xc k).1 = 0 ∨ rch n (pbs xc k).1) ∧ mex ym 1024 (cp (pbs xc k).1 F) (pbs xc k).2 = mex ym 1024 (cp (pw n - 1) F) (xc 16) := by
  have hpl := pw_le (o := n) hn
  have hpp := pw_pos n
  induction k with
  | zero =>
    have e : pbs xc 0 = (pw n - 1, xc 16) := by show (pw (xc 1 0) - 1, xc 16) = _; rw [h1c]
    rw [e]
    refine ⟨by show 0 ≤ pw n - 1 ∧ pw n - 1 < pw n; omega, fun i i0 i1 => by omega, ?_, rfl⟩
    show pw n - 1 = 0 ∨ rch n (pw n - 1)
    by_cases hz : pw n - 1 = 0
    · exact Or.inl hz
    · refine Or.inr ?_
      have hL := low_ok (q := pw n - 1) (by omega) hz
      have h2 : popc (pw n - 1) = n := by
        obtain ⟨j, rfl⟩ := Int.eq_ofNat_of_zero_le hn.1
        have : ∀ j : Nat, j ≤ 10 → popc (pw (j : Int) - 1) = (j : Int) := by decide +kernel
        exact this j (by omega)
      unfold rch
      omega
  | succ k ih =>
    obtain ⟨hL0, hLb, hLr, hE⟩ := ih (by omega)
    obtain ⟨L, hLe⟩ : ∃ L, L = (pbs xc k).1 := ⟨_, rfl⟩
    obtain ⟨p, hpe⟩ : ∃ p, p = (pbs xc k).2 := ⟨_, rfl⟩
    rw [← hLe] at hL0 hLb hLr hE
    rw [← hpe] at hE
    have hL1 : 0 ≤ L ∧ L < 1024 := by omega
    by_cases hb : bt L (k : Int)
    · have hne : ¬ L = 0 := fun z => by rw [z] at hb; exact bt_0 _ hb
      have hlow : low L = (k : Int) := low_eq hL1 (by omega) hb hLb
      have hrch : rch n L := hLr.elim (fun z => absurd z hne) id
      have hko : 0 ≤ (k : Int) ∧ (k : Int) < 10 := by omega
      have hc := clr_in hL1 hko
      have hpc := pop_clr hL1 hko hb
      have hno : ∀ i, 0 ≤ i → i ≤ (k : Int) → ¬ bt (clr L (k : Int)) i := by
        have := low_none hL1 hne
        rw [hlow] at this
        exact this
      have hpr : n - popc (clr L (k : Int)) ≤ 2 * (k : Int) + 1 := by
        unfold rch at hrch
        rw [hlow] at hrch
        omega
      have hrr : clr L (k : Int) = 0 ∨ rch n (clr L (k : Int)) := by
        by_cases hz : clr L (k : Int) = 0
        · exact Or.inl hz
        · exact Or.inr (rch_rest (by omega) hno (by omega) hpr hz)
      have hcpL := cp_in (F := F) hL1
      have hu : pbu xc k = fnd (fpP xc (k : Int) (clr L (k : Int)) (xc 18 L)) (k + 1) (n.toNat - (k + 1)) := by rw [hLe, ← h1c]
      by_cases hFk : bt F (k : Int)
      · have hbc : bt (cp L F) (k : Int) := (bt_cp hL1.1 hF.1 (by omega)).mpr ⟨hb, hFk⟩
        have hcne : ¬ cp L F = 0 := fun z => by rw [z] at hbc; exact bt_0 _ hbc
        have hcl : low (cp L F) = (k : Int) := low_eq (by omega) (by omega) hbc (fun i i0 i1 z => hLb i i0 i1 ((bt_cp hL1.1 hF.1 i0).mp z).1)
        have hum : mxu ym (cp L F) = pbu xc k := by
          rw [hu]
          unfold mxu
          rw [hcl, h1m, show ((k : Int) + 1).toNat = k + 1 by omega]
          refine fnd_eq _ _ (fun i i0 i1 => ?_)
          have hgi := hg (k : Int) (i : Int) (by omega) (by omega) (by omega)
          have hbi := bt_cp (q := clr L (k : Int)) (F := F) (i := (i : Int)) (by omega) hF.1 (by omega)
          have hT0 : xc 18 L = ym 18 (cp L F) := hT L (by omega) (by omega) hLr
          by_cases hFi : bt F (i : Int)
          · have e := hgi.1 ⟨hFk, hFi⟩
            have hTi : bt (clr L (k : Int)) (i : Int) → xc 18 (clr (clr L (k : Int)) (i : Int)) = ym 18 (clr (clr (cp L F) (k : Int)) (i : Int)) := fun hbb => by
              have hcc := clr_in (q := clr L (k : Int)) (o := (i : Int)) (by omega) (by omega)
              rw [← cp_clr hL1 hF.1 hko, ← cp_clr (by omega) hF.1 (by omega)]
              refine hT _ (by omega) (by omega) ?_
              by_cases hz : clr (clr L (k : Int)) (i : Int) = 0
              · exact Or.inl hz
              · exact Or.inr (rch_next (by omega) hno (by omega) hpr (by omega) hbb hz)
            rw [← cp_clr hL1 hF.1 hko] at hTi ⊢
            constructor
            · intro z
              have hbb := (hbi.mp z.1.1).1
              refine ⟨⟨hbb, by rw [e]; exact z.1.2⟩, ?_⟩
              rw [e, hTi hbb, hT0]
              exact z.2
            · intro z
              refine ⟨⟨hbi.mpr ⟨z.1.1, hFi⟩, by rw [← e]; exact z.1.2⟩, ?_⟩
              rw [← e, ← hTi z.1.1, ← hT0]
              exact z.2
          · have e := hgi.2 (fun z => hFi z.2)
            rw [← cp_clr hL1 hF.1 hko]
            exact ⟨fun z => absurd (hbi.mp z.1.1).2 hFi, fun z => by have := z.1.2; omega⟩
        by_cases hz : pbu xc k = -1
        · have hst : pbs xc (k + 1) = (clr L (k : Int), p) := by rw [pbs_0 (by rw [← hLe]; exact hb) hz, hLe, hpe]
          rw [hst]
          refine ⟨by show 0 ≤ clr _ _ ∧ clr _ _ < pw n; omega, fun i i0 i1 => hno i i0 (by omega), hrr, ?_⟩
          rw [← hE]
          show mex ym 1024 (cp (clr L (k : Int)) F) p = mex ym (1023 + 1) (cp L F) p
          have hcc := clr_in (q := cp L F) (o := (k : Int)) (by omega) hko
          rw [mex_n hcne (by rw [hum]; exact hz), hcl, cp_clr hL1 hF.1 hko]
          exact mex_fuel (by omega) 1024 1023 _ _ (by omega) (by omega) (by omega) (by omega)
        · have hin := mxu_in (x := ym) (by omega) (q := cp L F) (by omega) hcne (by rw [hum]; exact hz)
          rw [hum, hcl, ← cp_clr hL1 hF.1 hko] at hin
          have hbu := (bt_cp (by omega) hF.1 (by omega)).mp hin.2.2
          have hst : pbs xc (k + 1) = (clr (clr L (k : Int)) (pbu xc k), updI (updI p (k : Int) (pbu xc k)) (pbu xc k) (k : Int)) := by rw [pbs_1 (by rw [← hLe]; exact hb) hz, hLe, hpe]
          have hcc := clr_in (q := clr L (k : Int)) (o := pbu xc k) (by omega) (by omega)
          rw [hst]
          refine ⟨by show 0 ≤ clr (clr _ _) _ ∧ clr (clr _ _) _ < pw n; omega, fun i i0 i1 z => hno i i0 (by omega) ((bt_clr (by omega) (by omega) i0).mp z).1, ?_, ?_⟩
          · show clr (clr L (k : Int)) (pbu xc k) = 0 ∨ rch n (clr (clr L (k : Int)) (pbu xc k))
            by_cases hz2 : clr (clr L (k : Int)) (pbu xc k) = 0
            · exact Or.inl hz2
            · exact Or.inr (rch_next (by omega) hno (by omega) hpr (by omega) hbu.1 hz2)
          · rw [← hE]
            show mex ym 1024 (cp (clr (clr L (k : Int)) (pbu xc k)) F) _ = mex ym (1023 + 1) (cp L F) p
            have hc1 := clr_in (q := cp L F) (o := (k : Int)) (by omega) hko
            have hc2 := clr_in (q := clr (cp L F) (k : Int)) (o := pbu xc k) (by omega) (by omega)
            rw [mex_y hcne (by rw [hum]; exact hz), hum, hcl, cp_clr (by omega) hF.1 (by omega), cp_clr hL1 hF.1 hko]
            exact mex_fuel (by omega) 1024 1023 _ _ (by omega) (by omega) (by omega) (by omega)
      · have hz : pbu xc k = -1 := by
          rw [hu]
          refine fnd_none _ _ (fun i i0 i1 z => ?_)
          have e := (hg (k : Int) (i : Int) (by omega) (by omega) (by omega)).2 (fun w => hFk w.1)
          have := z.1.2
          omega
        have hst : pbs xc (k + 1) = (clr L (k : Int), p) := by rw [pbs_0 (by rw [← hLe]; exact hb) hz, hLe, hpe]
        rw [hst]
        refine ⟨by show 0 ≤ clr _ _ ∧ clr _ _ < pw n; omega, fun i i0 i1 => hno i i0 (by omega), hrr, ?_⟩
        rw [← hE]
        show mex ym 1024 (cp (clr L (k : Int)) F) p = _
        rw [cp_out hL1 hF.1 hko hFk]
    · have hst : pbs xc (k + 1) = (L, p) := by rw [pbs_n (by rw [← hLe]; exact hb), hLe, hpe]
      rw [hst]
      refine ⟨hL0, fun i i0 i1 => ?_, hLr, hE⟩
      by_cases e : i = (k : Int)
      · rw [e]; exact hb
      · exact hLb i i0 (by omega)
theorem pbs_all {xc ym : Bk} {F n : Int} (h1c : xc 1 0 = n) (h1m : ym 1 0 = n) (hn : 0 ≤ n ∧ n ≤ 10) (hF : 0 ≤ F ∧ F < 1024) (hFn : ∀ i, 0 ≤ i → bt F i → i < n) (hg : gF n (xc 17) (ym 17) F) (hT : ∀ q, 0 ≤ q → q < pw n → (q = 0 ∨ rch n q) → xc 18 q = ym 18 (cp q F)) : (pbs xc n.toNat).2 = mex ym 1024 F (xc 16) := by
  have hpl := pw_le (o := n) hn
  have hpp := pw_pos n
  obtain ⟨h0, hb, _, hE⟩ := pbs_mex h1c h1m hn hF hg hT n.toNat (by omega)
  have hz : (pbs xc n.toNat).1 = 0 := Classical.byContradiction fun z => by
    obtain ⟨i, i0, i1, ib⟩ := bt_ne0 (q := (pbs xc n.toNat).1) (by omega) z
    have h1 := bt_pw h0.1 i0 ib
    refine hb i i0 ?_ ib
    refine Classical.byContradiction fun w => ?_
    have := pw_mono (a := n) (b := i) (by omega)
    omega
  have e : cp (pw n - 1) F = F := by
    have hi := cp_in (F := F) (q := pw n - 1) (by omega)
    refine bt_ext (by omega) hF (fun i i0 _ => ?_)
    rw [bt_cp (by omega) hF.1 i0, bt_full hn i0]
    exact ⟨fun z => z.2, fun z => ⟨hFn i i0 z, z⟩⟩
  rw [hz, e, show cp 0 F = 0 by unfold cp; simp, mex_0] at hE
  exact hE
/-! by rule -/
theorem r2_eq {g h p : Int → Int} {F q n fi : Int} (hg : gF n g h F) (hpq : ∀ i, 0 ≤ i → i < n → (bt q i ↔ bt F i ∧ p i = -1)) (hf : 0 ≤ fi ∧ fi < n) {s0 : Int × Int × Int} (hs : 0 ≤ s0.2.2) (k : Nat) (hk : (k : Int) ≤ n) : r2 g p fi s0 k = r2 h (pq q) fi s0 k ∧ 0 ≤ (r2 g p fi s0 k).2.2 := by
  induction k with
  | zero => exact ⟨rfl, hs⟩
  | succ k ih =>
    obtain ⟨e, h0⟩ := ih (by omega)
    by_cases hc : fi < (k : Int) ∧ (r2 g p fi s0 k).2.2 < g (fi * 10 + (k : Int)) ∧ p fi = -1 ∧ p (k : Int) = -1
    · have hgk := hg fi (k : Int) hf.1 hc.1 (by omega)
      by_cases hF : bt F fi ∧ bt F (k : Int)
      · have eg := hgk.1 hF
        have hc2 : fi < (k : Int) ∧ (r2 h (pq q) fi s0 k).2.2 < h (fi * 10 + (k : Int)) ∧ pq q fi = -1 ∧ pq q (k : Int) = -1 := ⟨hc.1, by rw [← e, ← eg]; exact hc.2.1, pq_t.mpr ((hpq fi hf.1 hf.2).mpr ⟨hF.1, hc.2.2.1⟩), pq_t.mpr ((hpq (k : Int) (by omega) (by omega)).mpr ⟨hF.2, hc.2.2.2⟩)⟩
        rw [r2_t hc, r2_t hc2, eg]
        refine ⟨rfl, ?_⟩
        show 0 ≤ h (fi * 10 + (k : Int))
        have := hc.2.1
        omega
      · have eg := hgk.2 hF
        have := hc.2.1
        omega
    · have hc2 : ¬ (fi < (k : Int) ∧ (r2 h (pq q) fi s0 k).2.2 < h (fi * 10 + (k : Int)) ∧ pq q fi = -1 ∧ pq q (k : Int) = -1) := fun z => by
        have b1 := (hpq fi hf.1 hf.2).mp (pq_t.mp z.2.2.1)
        have b2 := (hpq (k : Int) (by omega) (by omega)).mp (pq_t.mp z.2.2.2)
        have eg := (hg fi (k : Int) hf.1 z.1 (by omega)).1 ⟨b1.1, b2.1⟩
        exact hc ⟨z.1, by rw [e, eg]; exact z.2.1, b1.2, b2.2⟩
      rw [r2_f hc, r2_f hc2]
      exact ⟨e, h0⟩
theorem r1_eq {g h p : Int → Int} {F q n : Int} (hg : gF n g h F) (hpq : ∀ i, 0 ≤ i → i < n → (bt q i ↔ bt F i ∧ p i = -1)) (k : Nat) (hk : (k : Int) ≤ n) : r1 g p n.toNat k = r1 h (pq q) n.toNat k ∧ 0 ≤ (r1 g p n.toNat k).2.2 := by
  induction k with
  | zero => exact ⟨rfl, Int.le_refl _⟩
  | succ k ih =>
    obtain ⟨e, h0⟩ := ih (by omega)
    have h2 := r2_eq hg hpq (fi := (k : Int)) (by omega) h0 n.toNat (by omega)
    refine ⟨?_, h2.2⟩
    show r2 g p (k : Int) (r1 g p n.toNat k) n.toNat = r2 h (pq q) (k : Int) (r1 h (pq q) n.toNat k) n.toNat
    rw [h2.1, e]
theorem mbr_pbr {g p0 : Int → Int} {ym : Bk} {F n : Int} (h1m : ym 1 0 = n) (hn : 0 ≤ n ∧ n ≤ 10) (h17 : g17 ym) (hg : gF n g (ym 17) F) (i : Nat) : ∀ (j : Nat) (q : Int), j + i = 5 → 0 ≤ q → q < 1024 → (∀ a, 0 ≤ a → a < n → (bt q a ↔ bt F a ∧ pbr g n.toNat p0 j a = -1)) → popc q ≤ 2 * (i : Int) → mbr ym (1019 + i) q (pbr g n.toNat p0 j) = pbr g n.toNat p0 5 := by
  induction i with
  | zero =>
    intro j q hj q0 q1 hpq hpop
    have hr := rgi_1 h17 (q := q) (by omega) (ym 1 0).toNat (by omega)
    have hz : (mr ym q).1 = -1 := by
      rcases hr with hr | hr
      · exact hr.1
      · have h2 := hr.2.1
        have h3 := pop_clr (q := q) (o := (r1 (ym 17) (pq q) (ym 1 0).toNat (ym 1 0).toNat).1) ⟨q0, q1⟩ (by omega) h2
        have h4 := clr_in (q := q) (o := (r1 (ym 17) (pq q) (ym 1 0).toNat (ym 1 0).toNat).1) ⟨q0, q1⟩ (by omega)
        have h5 := pop_in (q := clr q (r1 (ym 17) (pq q) (ym 1 0).toNat (ym 1 0).toNat).1) (by omega)
        omega
    rw [show 1019 + 0 = 1018 + 1 from rfl, mbr_n hz, show j = 5 by omega]
  | succ i ih =>
    intro j q hj q0 q1 hpq hpop
    have hr := rgi_1 h17 (q := q) (by omega) (ym 1 0).toNat (by omega)
    have e := (r1_eq hg hpq n.toNat (by omega)).1
    have e' : r1 g (pbr g n.toNat p0 j) n.toNat n.toNat = mr ym q := by unfold mr; rw [h1m]; exact e
    rw [show 1019 + (i + 1) = (1019 + i) + 1 from rfl]
    by_cases hz : (mr ym q).1 = -1
    · rw [mbr_n hz]
      have := pbr_st (g := g) (n := n.toNat) (p := p0) (j := j) (by rw [e']; exact hz) (i + 1)
      rw [hj] at this
      exact this.symm
    · have h2 : (0 ≤ (mr ym q).1 ∧ (mr ym q).1 < (mr ym q).2.1 ∧ (mr ym q).2.1 < n) ∧ bt q (mr ym q).1 ∧ bt q (mr ym q).2.1 := by
        rcases hr with hr | hr
        · exact absurd hr.1 hz
        · rw [← h1m]; exact ⟨hr.1, hr.2.1, hr.2.2.1⟩
      obtain ⟨sA, hA⟩ : ∃ s, s = (mr ym q).1 := ⟨_, rfl⟩
      obtain ⟨sB, hB⟩ : ∃ s, s = (mr ym q).2.1 := ⟨_, rfl⟩
      rw [mbr_y hz, ← hA, ← hB]
      rw [← hA, ← hB] at h2
      have ep : updI (updI (pbr g n.toNat p0 j) sA sB) sB sA = pbr g n.toNat p0 (j + 1) := by
        rw [pbr_1 (by rw [e']; exact hz), e', ← hA, ← hB]
      have hc := clr_in (q := q) (o := sA) ⟨q0, q1⟩ (by omega)
      have hb2 : bt (clr q sA) sB := (bt_clr ⟨q0, q1⟩ (by omega) (by omega)).mpr ⟨h2.2.2, by omega⟩
      have hcc := clr_in (q := clr q sA) (o := sB) (by omega) (by omega)
      have hp1 := pop_clr (q := q) (o := sA) ⟨q0, q1⟩ (by omega) h2.2.1
      have hp2 := pop_clr (q := clr q sA) (o := sB) (by omega) (by omega) hb2
      rw [ep]
      refine ih (j + 1) _ (by omega) (by omega) (by omega) (fun a a0 a1 => ?_) (by omega)
      rw [bt_clr (by omega) (by omega) a0, bt_clr ⟨q0, q1⟩ (by omega) a0, hpq a a0 a1, ← ep]
      unfold updI
      constructor
      · rintro ⟨⟨⟨b1, b2⟩, b3⟩, b4⟩
        rw [if_neg b4, if_neg b3]
        exact ⟨b1, b2⟩
      · rintro ⟨b1, b2⟩
        split at b2
        · omega
        · split at b2
          · omega
          · exact ⟨⟨⟨b1, b2⟩, by assumption⟩, by assumption⟩
