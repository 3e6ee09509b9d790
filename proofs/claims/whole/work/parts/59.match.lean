/-! match: class and model -/
theorem gF_of {x y xg : Bk} (hI : I2 x y) (hg : gok xg x (x 1 0) (x 1 0 + 1)) : gF (x 1 0) (xg 17) (gmt y) (frq y (x 1 0).toNat) := fun a b a0 ab b1 => by
  have hn := hI.1.ok.n
  have e15 := hI.2.1.k 15 (by decide)
  have eg := hg.2.2.1 a b a0 ab b1 (Or.inl (by omega))
  have ea := bt_frq (x := y) (x 1 0).toNat (by omega) (i := a) a0
  have eb := bt_frq (x := y) (x 1 0).toNat (by omega) (i := b) (by omega)
  rw [e15] at ea eb
  have em : gmt y (a * 10 + b) = mgv x a b := by
    rw [gmt_at (by omega)]
    exact hI.2.1.fn (fun z => mgv z a b) (fun _ => rfl)
  rw [eg, em]
  unfold gn mgv
  refine ⟨fun h => ?_, fun h => ?_⟩
  · have h1 := (ea.mp h.1).2
    have h2 := (eb.mp h.2).2
    by_cases hk : okP x a b
    · rw [if_pos ⟨h1, h2, hk⟩]
      by_cases hs : 0 < sv x a b
      · rw [if_pos hs, if_pos ⟨hs, hk⟩]
      · rw [if_neg hs, if_neg (fun z => hs z.1)]
    · rw [if_neg (fun z => hk z.2.2), if_neg (fun z => hk z.2)]
  · rw [if_neg (fun z => h ⟨ea.mpr ⟨by omega, z.1⟩, eb.mpr ⟨by omega, z.2.1⟩⟩)]
theorem fl_all {x y : Bk} (hI : I2 x y) : fl (x 16) (-1) 10 = fl (y 16) (-1) (x 1 0).toNat := by
  have hn := hI.1.ok.n
  rw [hI.2.1.k 16 (by decide)]
  funext i
  unfold fl
  by_cases h : 0 ≤ i ∧ i < 10
  · rw [if_pos (by omega)]
    by_cases h2 : i < x 1 0
    · rw [if_pos (by omega)]
    · rw [if_neg (by omega)]
      rcases hI.1.p i h.1 h.2 with q | q
      · exact q.symm
      · omega
  · rw [if_neg (by omega), if_neg (by omega)]
theorem pan_ex {x y xg : Bk} (hI : I2 x y) (hg : gok xg x (x 1 0) (x 1 0 + 1)) : (pbs (paY xg 1) (xg 1 0).toNat).2 = mex (xE y) 1024 (frq y (y 1 0).toNat) (fl (y 16) (-1) (y 1 0).toNat) := by
  have hn := hI.1.ok.n
  have hpl := pw_le (o := x 1 0) hn
  have hpp := pw_pos (x 1 0)
  have e1 : xg 1 = x 1 := hg.1 1 (by decide) (by decide) (by decide)
  have e16 : xg 16 = x 16 := hg.1 16 (by decide) (by decide) (by decide)
  have y1 := hI.2.1.k 1 (by decide)
  have hF := frq_in (x := y) (x 1 0).toNat (by omega)
  have hgf := gF_of hI hg
  rw [e1, y1]
  have key := pbs_all (xc := paY xg 1) (ym := xE y) (F := frq y (x 1 0).toNat) (n := x 1 0) (by show xg 1 0 = x 1 0; rw [e1]) (by show y 1 0 = x 1 0; rw [y1]) hn hF (fun i i0 ib => by have := (bt_frq (x := y) (x 1 0).toNat (by omega) i0).mp ib; omega) hgf ?_
  · rw [key]
    show mex (xE y) 1024 _ (fl (xg 16) (-1) 10) = _
    rw [e16, fl_all hI]
  · intro q q0 q1 hr
    have hT : ∀ q, 0 < q → q < pw (x 1 0) → xE y 18 q = gm (gmt y) (xE y 18) (low q) (clr q (low q)) (x 1 0).toNat := fun q q0 q1 => by
      show mT (xR y) (pw (y 1 0) - 1).toNat q = gm (gmt y) (mT (xR y) (pw (y 1 0) - 1).toNat) (low q) (clr q (low q)) (x 1 0).toNat
      rw [y1]
      have h := mT_rec (xR y) (J := (pw (x 1 0) - 1).toNat) (by omega) q0 (by omega)
      rw [h]
      show gm (gmt y) _ _ _ (y 1 0).toNat = _
      rw [y1]
    have hB : ∀ q, 0 < q → q < pw (x 1 0) → (fun q => xE y 18 (cp q (frq y (x 1 0).toNat))) q = gm (xg 17) (fun q => xE y 18 (cp q (frq y (x 1 0).toNat))) (low q) (clr q (low q)) (x 1 0).toNat := fun q q0 q1 => dp_rec hF.1 hn hgf hT q0 q1
    have h0 : updI (xg 18) 0 0 0 = (fun q => xE y 18 (cp q (frq y (x 1 0).toNat))) 0 := by
      rw [updI_s]
      show (0 : Int) = mT (xR y) _ (cp 0 _)
      rw [show cp 0 (frq y (x 1 0).toNat) = 0 by unfold cp; simp, mT_0]
    have := fsO_ok (g := xg 17) (t := updI (xg 18) 0 0) hn hB h0 (x 1 0).toNat (by omega) q q0 q1 (fun i i0 i1 => by omega) hr
    show fsO (xg 17) (xg 1 0) (updI (xg 18) 0 0) (xg 1 0).toNat q = _
    rw [e1]
    exact this
theorem pan_br {x y xg : Bk} (hI : I2 x y) (hg : gok xg x (x 1 0) (x 1 0 + 1)) : pbr (xg 17) (xg 1 0).toNat (fl (xg 16) (-1) 10) 5 = mbr (xR y) 1024 (frq y (y 1 0).toNat) (fl (y 16) (-1) (y 1 0).toNat) := by
  have hn := hI.1.ok.n
  have e1 : xg 1 = x 1 := hg.1 1 (by decide) (by decide) (by decide)
  have e16 : xg 16 = x 16 := hg.1 16 (by decide) (by decide) (by decide)
  have y1 := hI.2.1.k 1 (by decide)
  have hF := frq_in (x := y) (x 1 0).toNat (by omega)
  have hgf := gF_of hI hg
  have hpop := pop_in hF
  rw [e1, y1, e16, ← fl_all hI]
  have := mbr_pbr (p0 := fl (x 16) (-1) 10) (ym := xR y) (n := x 1 0) (by show y 1 0 = x 1 0; rw [y1]) hn (xR_g17 hI.oky) hgf 5 0 (frq y (x 1 0).toNat) rfl hF.1 hF.2 (fun a a0 a1 => by
    show _ ↔ _ ∧ fl (x 16) (-1) 10 a = -1
    have e : fl (x 16) (-1) 10 a = -1 := if_pos ⟨a0, by omega⟩
    exact ⟨fun z => ⟨z, e⟩, fun z => z.1⟩) (by omega)
  exact this.symm
theorem mpt_prt {x y : Bk} (hI : I2 x y) (v : Int) : prt (x 1 0) (x 15) (mpt y v) := by
  have hn := hI.1.ok.n
  have y1 := hI.2.1.k 1 (by decide)
  have y15 := hI.2.1.k 15 (by decide)
  have hF := frq_in (x := y) (x 1 0).toNat (by omega)
  have hp0 : prt (x 1 0) (x 15) (fl (y 16) (-1) (x 1 0).toNat) := fun i i0 i1 => by
    rw [← fl_all hI]
    exact Or.inl (if_pos ⟨i0, by omega⟩)
  have hb : ∀ i, 0 ≤ i → bt (frq y (x 1 0).toNat) i → i < x 1 0 ∧ x 15 i = -1 ∧ fl (y 16) (-1) (x 1 0).toNat i = -1 := fun i i0 ib => by
    have h := (bt_frq (x := y) (x 1 0).toNat (by omega) i0).mp ib
    rw [y15] at h
    exact ⟨by omega, h.2, if_pos ⟨i0, h.1⟩⟩
  unfold mpt
  rw [y1]
  by_cases hv : frees y ≤ v
  · rw [cif_t hv]
    have := mex_prt (x := xE y) (h := x 15) (by show 0 ≤ y 1 0 ∧ y 1 0 ≤ 10; rw [y1]; exact hn) 1024 (frq y (x 1 0).toNat) (fl (y 16) (-1) (x 1 0).toNat) hF.1 hF.2 (by show ∀ i, 0 ≤ i → _ → i < y 1 0 ∧ _; rw [y1]; exact hb) (by show prt (y 1 0) _ _; rw [y1]; exact hp0)
    have e : (xE y) 1 0 = x 1 0 := by show y 1 0 = _; rw [y1]
    rw [e] at this
    exact this
  · rw [cif_f hv]
    have := mbr_prt (x := xR y) (h := x 15) (xR_g17 hI.oky) (by show 0 ≤ y 1 0 ∧ y 1 0 ≤ 10; rw [y1]; exact hn) 1024 (frq y (x 1 0).toNat) (fl (y 16) (-1) (x 1 0).toNat) hF.1 hF.2 (by show ∀ i, 0 ≤ i → _ → i < y 1 0 ∧ _; rw [y1]; exact hb) (by show prt (y 1 0) _ _; rw [y1]; exact hp0)
    have e : (xR y) 1 0 = x 1 0 := by show y 1 0 = _; rw [y1]
    rw [e] at this
    exact this
theorem pan_16 {x y xg : Bk} {v u : Int} (hI : I2 x y) (hg : gok xg x (x 1 0) (x 1 0 + 1)) (hu : u = cif (frees x ≤ v) 1 0) : (pan xg u) 16 = mpt y v := by
  have ef : frees y = frees x := hI.2.1.fn frees (fun _ => rfl)
  unfold mpt
  rw [ef]
  by_cases hv : frees x ≤ v
  · rw [cif_t hv] at hu
    rw [cif_t hv, hu]
    have e : pan xg 1 = bu (paY xg 1) 16 (pbs (paY xg 1) (xg 1 0).toNat).2 := if_neg (by omega)
    rw [e, bu_s]
    exact pan_ex hI hg
  · rw [cif_f hv] at hu
    rw [cif_f hv, hu]
    have e : pan xg 0 = bu (paX xg 0) 16 (pbr (xg 17) (xg 1 0).toNat (fl (xg 16) (-1) 10) 5) := if_pos rfl
    rw [e, bu_s]
    exact pan_br hI hg
theorem pan_18 {x xg : Bk} {u : Int} (hI : Iv x) (hg : gok xg x (x 1 0) (x 1 0 + 1)) : tb ((pan xg u) 18) := by
  have hn := hI.ok.n
  have e1 : xg 1 = x 1 := hg.1 1 (by decide) (by decide) (by decide)
  have e18 : xg 18 = x 18 := hg.1 18 (by decide) (by decide) (by decide)
  unfold pan
  split
  · show tb (xg 18)
    rw [e18]
    exact hI.t
  · show tb (fsO (xg 17) (xg 1 0) (updI (xg 18) 0 0) (xg 1 0).toNat)
    rw [e1, e18]
    exact fsO_tb hn.2 (tb_set hI.t (by have := pop_nn (q := 0) (by omega); omega)) hg.2.2.2 _ (by omega)
theorem match_ok {x y xg z : Bk} {v u : Int} (hI : I2 x y) (hg : gok xg x (x 1 0) (x 1 0 + 1)) (hu : u = cif (frees x ≤ v) 1 0) (hj : ∀ j, j ≠ 0 → j ≠ 4 → j ≠ 16 → j ≠ 17 → j ≠ 18 → z j = y j) (h4 : z 4 = updI (y 4) 0 (c01 (frees y ≤ v))) (h18 : tb (z 18)) (h16 : z 16 = mpt y v) : I2 (pan xg u) z ∧ svd z = svd (pan xg u) := by
  have e16 := pan_16 hI hg hu
  have hu01 : u = 0 ∨ u = 1 := by
    rw [hu]
    by_cases h : frees x ≤ v
    · rw [cif_t h]; exact Or.inr rfl
    · rw [cif_f h]; exact Or.inl rfl
  have okg : Ok xg := hI.1.ok.cor hg.cor
  have ek : ∀ k, k ≠ 2 → k ≠ 12 → k ≠ 17 → k ≠ 4 → k ≠ 16 → k ≠ 18 → pan xg u k = x k := fun k k2 k12 k17 k4 k16 k18 => (pan_k k4 k16 k18).trans (hg.1 k k2 k12 k17)
  have ek' : ∀ k, (k ≠ 2 ∧ k ≠ 12 ∧ k ≠ 17 ∧ k ≠ 4 ∧ k ≠ 16 ∧ k ≠ 18) → pan xg u k = x k := fun k h => ek k h.1 h.2.1 h.2.2.1 h.2.2.2.1 h.2.2.2.2.1 h.2.2.2.2.2
  have e2 : pan xg u 2 = xg 2 := pan_k (by decide) (by decide) (by decide)
  have hm : mc z (pan xg u) := by
    refine ⟨fun k k0 k2 k12 k17 k18 => ?_, ?_, ?_⟩
    · by_cases h : k = 16
      · subst h; rw [h16, e16]
      · by_cases h5 : k = 4
        · subst h5
          have ef : frees y = frees x := hI.2.1.fn frees (fun _ => rfl)
          rw [h4, pan_4, hI.2.1.k 4 (by decide), hg.1 4 (by decide) (by decide) (by decide), ef, hu]
          rfl
        · rw [hj k k0 h5 h k17 k18, ek k k2 k12 k17 h5 h k18]
          exact hI.2.1.1 k k0 k2 k12 k17 k18
    · rw [hj 2 (by decide) (by decide) (by decide) (by decide) (by decide), hI.2.1.2.1, e2, hg.2.1.1]
    · rw [hj 2 (by decide) (by decide) (by decide) (by decide) (by decide), hI.2.1.2.2, e2, hg.2.1.2]
  refine ⟨⟨⟨okg.pan hg.2.2.2 hu01, ?_, ?_, ?_, ?_, ?_, pan_18 hI.1 hg⟩, hm, h18⟩, hm.fn svd (fun _ => rfl)⟩
  · unfold sym
    rw [ek' 10 (by decide), ek' 11 (by decide)]
    exact hI.1.sy
  · unfold rows
    rw [ek' 3 (by decide), ek' 14 (by decide), ek' 13 (by decide), ek' 1 (by decide), ek' 15 (by decide)]
    exact hI.1.rw
  · rw [ek' 3 (by decide), ek' 14 (by decide)]
    exact hI.1.z
  · rw [ek' 1 (by decide), ek' 15 (by decide), e16]
    exact mpt_prt hI v
  · unfold rng
    rw [pan_k (by decide) (by decide) (by decide)]
    exact hg.2.2.2
