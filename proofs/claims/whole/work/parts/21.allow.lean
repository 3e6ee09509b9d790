theorem fl_in {f : Int → Int} : ∀ i, 0 ≤ i → i < 10 → -1 ≤ fl f (-1) 10 i ∧ fl f (-1) 10 i ≤ 9 := by
  intro i h0 h1
  unfold fl
  rw [if_pos ⟨h0, h1⟩]
  omega
def paX (x : Bk) (v : Int) : Bk := bu (bu x 16 (fl (x 16) (-1) 10)) 4 (updI (x 4) 0 v)
def paY (x : Bk) (v : Int) : Bk := bu (paX x v) 18 (fsO (x 17) (x 1 0) (updI (x 18) 0 0) (x 1 0).toNat)
/-- the pairs anew, exactly or by rule -/
def pan (x : Bk) (v : Int) : Bk := if v = 0 then bu (paX x v) 16 (pbr (x 17) (x 1 0).toNat (fl (x 16) (-1) 10) 5) else bu (paY x v) 16 (pbs (paY x v) (x 1 0).toNat).2
set_option maxRecDepth 100000 in
set_option maxHeartbeats 4000000 in
theorem m_M_pairAnew {l : Launch} {D : va_G} {cI cZ cJ : ClassId} {base : Nat} {ad : Nat → Nat} (x : Bk) (v : Int) (hv : v = 0 ∨ v = 1) (hn : 0 ≤ x 1 0 ∧ x 1 0 ≤ 10) (hg : ∀ i, 0 ≤ i → i < 100 → 0 ≤ x 17 i ∧ x 17 i ≤ 20000) (hs : tb (x 18)) : Cn l D cls9 (tyl cI cZ cJ) base (zz base) y_M_pairAnew (wz y_M_pairAnew c_M_pairAnew 2 none) ({ frames := 4, cells := 0, slots := 0, locals := 92 } : Room) [.ref (ad 4), .int (iI v)] (cw ad cI cZ x) (fun r w => r = none ∧ w = cw ad cI cZ (pan x v)) 0 0 := by
  refine Cn_of (zzG base) (by decide) rfl (Nat.le_of_ble_eq_true rfl) ?_
  intro p e s m args below meth c A C hr hA hnm
  have C : gC p s m args meth c D cls9 (tyl cI cZ cJ) A c_M_pairAnew 2 "BatchSavings$Matching" (wz y_M_pairAnew c_M_pairAnew 2 none) base (zz base) := C
  refine g_lve (lv' := [(0, .ref (ad 4)), (1, .int (iI v))]) rfl ?_
  refine g_aload_n C (q := 0) d_M_pairAnew_0 rfl rfl ?_
  refine gG C (v := .ref (ad 16)) 4 1 u_M k_130 (cwo_4 _) rfl (by decide) rfl rfl d_M_pairAnew_1 ?_
  refine g_iconst C d_M_pairAnew_4 ?_
  refine gSoW C (st := []) (m_A_fill (cw ad cI cZ x) (x 16) (-1) (ad 16) 16 10 (by decide) (cwa_16 _)) k_34 k_128 k_33 k_3 ho_A_fill rfl rfl ⟨by decide, by decide⟩ rfl rfl (Nat.le_of_ble_eq_true rfl) d_M_pairAnew_5 ⟨by decide, by decide⟩ (fun r w hq => ?_)
  obtain ⟨rfl, rfl⟩ := hq
  refine g_eq (ws' := cw ad cI cZ (bu x 16 (fl (x 16) (-1) 10))) (lv' := [(0, .ref (ad 4)), (1, .int (iI v))]) (pc' := 8) (st' := []) rfl rfl rfl rfl ?_
  refine g_aload_n C (q := 0) d_M_pairAnew_8 rfl rfl ?_
  refine g_iload_n C (q := 1) d_M_pairAnew_9 rfl rfl ?_
  refine gP C 4 4 t_M to_M n_M u_M k_134 (cwo_4 _) rfl (by decide) rfl rfl rfl (nar_zb hv) (fit_z hv) (Nat.le_of_ble_eq_true rfl) d_M_pairAnew_10 (cwf_4_4 _ _) ?_
  refine g_ws (ws' := cw ad cI cZ (bu (bu x 16 (fl (x 16) (-1) 10)) 4 (updI (x 4) 0 v))) rfl ?_
  refine g_iload_n C (q := 1) d_M_pairAnew_13 rfl rfl ?_
  refine g_if_eq C (tgt := 28) d_M_pairAnew_14 rfl (by omega) (fun h14_1 => ?_) (fun h14_1 => ?_)
  · refine g_aload_n C (q := 0) d_M_pairAnew_28 rfl rfl ?_
    refine gV C (st := []) (m_M_pairByRule (bu (bu x 16 (fl (x 16) (-1) 10)) 4 (updI (x 4) 0 v)) (show 0 ≤ (x 1 0) ∧ (x 1 0) ≤ 10 by omega) hg fl_in) k_489 k_486 k_488 kp_30 k_6 rfl ho_M_pairByRule rfl rfl ⟨by decide, by decide⟩ 4 (cwo_4 _) rfl rfl rfl (Nat.le_of_ble_eq_true rfl) d_M_pairAnew_29 ⟨by decide, by decide⟩ (fun r w hq => ?_)
    obtain ⟨rfl, rfl⟩ := hq
    refine g_eq (ws' := cw ad cI cZ (bu (bu (bu x 16 (fl (x 16) (-1) 10)) 4 (updI (x 4) 0 v)) 16 (pbr (x 17) ((x 1 0)).toNat (fl (x 16) (-1) 10) 5))) (lv' := [(0, .ref (ad 4)), (1, .int (iI v))]) (pc' := 32) (st' := []) rfl rfl rfl rfl ?_
    exact g_vret C hA hr d_M_pairAnew_32 (by decide) (by decide) ⟨rfl, by unfold pan; first | (rw [if_pos (by assumption)]; rfl) | (rw [if_neg (by assumption)]; rfl)⟩
  · refine g_aload_n C (q := 0) d_M_pairAnew_17 rfl rfl ?_
    refine gV C (st := []) (m_M_findSums (bu (bu x 16 (fl (x 16) (-1) 10)) 4 (updI (x 4) 0 v)) (show 0 ≤ (x 1 0) ∧ (x 1 0) ≤ 10 by omega) hg hs) k_454 k_451 k_453 kp_23 k_6 rfl ho_M_findSums rfl rfl ⟨by decide, by decide⟩ 4 (cwo_4 _) rfl rfl rfl (Nat.le_of_ble_eq_true rfl) d_M_pairAnew_18 ⟨by decide, by decide⟩ (fun r w hq => ?_)
    obtain ⟨rfl, rfl⟩ := hq
    refine g_eq (ws' := cw ad cI cZ (bu (bu (bu x 16 (fl (x 16) (-1) 10)) 4 (updI (x 4) 0 v)) 18 (fsO (x 17) (x 1 0) (updI (x 18) 0 0) ((x 1 0)).toNat))) (lv' := [(0, .ref (ad 4)), (1, .int (iI v))]) (pc' := 21) (st' := []) rfl rfl rfl rfl ?_
    refine g_aload_n C (q := 0) d_M_pairAnew_21 rfl rfl ?_
    refine gV C (st := []) (m_M_pairBySums (bu (bu (bu x 16 (fl (x 16) (-1) 10)) 4 (updI (x 4) 0 v)) 18 (fsO (x 17) (x 1 0) (updI (x 18) 0 0) ((x 1 0)).toNat)) (show 0 ≤ (x 1 0) ∧ (x 1 0) ≤ 10 by omega) hg (tb_in (fsO_tb hn.2 (tb_set hs (by have := pop_in (q := 0) (by omega); omega)) hg (x 1 0).toNat (by omega)))) k_477 k_474 k_476 kp_27 k_6 rfl ho_M_pairBySums rfl rfl ⟨by decide, by decide⟩ 4 (cwo_4 _) rfl rfl rfl (Nat.le_of_ble_eq_true rfl) d_M_pairAnew_22 ⟨by decide, by decide⟩ (fun r w hq => ?_)
    obtain ⟨rfl, rfl⟩ := hq
    refine g_eq (ws' := cw ad cI cZ (bu (bu (bu (bu x 16 (fl (x 16) (-1) 10)) 4 (updI (x 4) 0 v)) 18 (fsO (x 17) (x 1 0) (updI (x 18) 0 0) ((x 1 0)).toNat)) 16 ((pbs (bu (bu (bu x 16 (fl (x 16) (-1) 10)) 4 (updI (x 4) 0 v)) 18 (fsO (x 17) (x 1 0) (updI (x 18) 0 0) ((x 1 0)).toNat)) ((x 1 0)).toNat).2))) (lv' := [(0, .ref (ad 4)), (1, .int (iI v))]) (pc' := 25) (st' := []) rfl rfl rfl rfl ?_
    refine g_goto C (tgt := 32) d_M_pairAnew_25 rfl ?_
    exact g_vret C hA hr d_M_pairAnew_32 (by decide) (by decide) ⟨rfl, by unfold pan; first | (rw [if_pos (by assumption)]; rfl) | (rw [if_neg (by assumption)]; rfl)⟩
/-- only the set that is asked about has changed -/
def scr (y x : Bk) : Prop := (∀ k, k ≠ 2 → k ≠ 12 → y k = x k) ∧ y 2 1 = x 2 1 ∧ y 2 2 = x 2 2
abbrev okP (x : Bk) (a b : Int) : Prop := alg x a b ∧ x 8 a + x 8 b ≤ x 2 1 ∧ x 6 a + x 6 b ≤ x 2 2
theorem okS_congr {y x : Bk} {f g : Int → Int} {n : Int} (h : scr y x) (hf : ∀ i, 0 ≤ i → i < n → f i = g i) : okS y f n ↔ okS x g n := by
  have e6 := h.1 6 (by decide) (by decide)
  have e7 := h.1 7 (by decide) (by decide)
  have e8 := h.1 8 (by decide) (by decide)
  have e10 := h.1 10 (by decide) (by decide)
  have e11 := h.1 11 (by decide) (by decide)
  have s1 : sg (fun i => y 8 (f i)) n.toNat = sg (fun i => x 8 (g i)) n.toNat := sg_congr fun k hk => by
    show y 8 (f _) = x 8 (g _)
    rw [e8, hf _ (by omega) (by omega)]
  have s2 : sg (fun i => y 6 (f i)) n.toNat = sg (fun i => x 6 (g i)) n.toNat := sg_congr fun k hk => by
    show y 6 (f _) = x 6 (g _)
    rw [e6, hf _ (by omega) (by omega)]
  unfold okS
  rw [s1, s2, h.2.1, h.2.2]
  refine and_congr_left fun _ => ⟨fun q i j h1 h2 h3 => ?_, fun q i j h1 h2 h3 => ?_⟩
  · have := q i j h1 h2 h3
    unfold alg at this ⊢
    rw [hf i h1 (by omega), hf j (by omega) h3, e7, e10, e11] at this
    exact this
  · have := q i j h1 h2 h3
    unfold alg at this ⊢
    rw [hf i h1 (by omega), hf j (by omega) h3, e7, e10, e11]
    exact this
def pf2 (a b : Int) (i : Int) : Int := if i = 0 then a else b
theorem okS_pair {x : Bk} {a b : Int} : okS x (pf2 a b) 2 ↔ okP x a b := by
  unfold okS
  have s1 : sg (fun i => x 8 (pf2 a b i)) (2 : Int).toNat = x 8 a + x 8 b := by
    show 0 + x 8 a + x 8 b = _
    omega
  have s2 : sg (fun i => x 6 (pf2 a b i)) (2 : Int).toNat = x 6 a + x 6 b := by
    show 0 + x 6 a + x 6 b = _
    omega
  rw [s1, s2]
  refine and_congr_left fun _ => ⟨fun q => q 0 1 (by decide) (by decide) (by decide), fun q i j h1 h2 h3 => ?_⟩
  obtain rfl : i = 0 := by omega
  obtain rfl : j = 1 := by omega
  exact q
set_option maxRecDepth 100000 in
set_option maxHeartbeats 4000000 in
theorem m_R_allowPair {l : Launch} {D : va_G} {cI cZ cJ : ClassId} {base : Nat} {ad : Nat → Nat} (x : Bk) (a b : Int) (ha : 0 ≤ a ∧ a < 10) (hb : 0 ≤ b ∧ b < 10) (hz : okZ x) (hw : InR (x 2 1)) (hs : InR (x 2 2)) (h8 : ∀ i, 0 ≤ i → i < 10 → 0 ≤ x 8 i ∧ x 8 i ≤ 1000) (h6 : ∀ i, 0 ≤ i → i < 10 → 0 ≤ x 6 i ∧ x 6 i ≤ 100) : Cn l D cls9 (tyl cI cZ cJ) base (zz base) y_R_allowPair (wz y_R_allowPair c_R_allowPair 3 (some FieldType.boolean)) ({ frames := 3, cells := 0, slots := 0, locals := 67 } : Room) [.ref (ad 2), .int (iI a), .int (iI b)] (cw ad cI cZ x) (fun r w => ∃ (u : Int) (y : Bk), r = some u ∧ (u = 0 ∨ u = 1) ∧ (u = 1 ↔ okP x a b) ∧ scr y x ∧ w = cw ad cI cZ y) 0 0 := by
  refine Cn_of (zzG base) (by decide) rfl (Nat.le_of_ble_eq_true rfl) ?_
  intro p e s m args below meth c A C hr hA hnm
  have C : gC p s m args meth c D cls9 (tyl cI cZ cJ) A c_R_allowPair 3 "BatchSavings$Rules" (wz y_R_allowPair c_R_allowPair 3 (some FieldType.boolean)) base (zz base) := C
  refine g_lve (lv' := [(0, .ref (ad 2)), (1, .int (iI a)), (2, .int (iI b))]) rfl ?_
  refine g_aload_n C (q := 0) d_R_allowPair_0 rfl rfl ?_
  refine gV C (st := []) (m_R_startSet x) k_364 k_361 k_363 kp_13 k_4 rfl ho_R_startSet rfl rfl ⟨by decide, by decide⟩ 2 (cwo_2 _) rfl rfl rfl (Nat.le_of_ble_eq_true rfl) d_R_allowPair_1 ⟨by decide, by decide⟩ (fun r w hq => ?_)
  obtain ⟨rfl, rfl⟩ := hq
  refine g_eq (ws' := cw ad cI cZ (bu x 2 (updI (x 2) 0 0))) (lv' := [(0, .ref (ad 2)), (1, .int (iI a)), (2, .int (iI b))]) (pc' := 4) (st' := []) rfl rfl rfl rfl ?_
  refine g_aload_n C (q := 0) d_R_allowPair_4 rfl rfl ?_
  refine g_iload_n C (q := 1) d_R_allowPair_5 rfl rfl ?_
  refine gV C (st := []) (m_R_addToSet (bu x 2 (updI (x 2) 0 0)) a (show 0 ≤ 0 ∧ 0 < 5 by omega)) k_368 k_365 k_367 kp_14 k_4 rfl ho_R_addToSet rfl rfl ⟨by decide, by decide⟩ 2 (cwo_2 _) rfl rfl rfl (Nat.le_of_ble_eq_true rfl) d_R_allowPair_6 ⟨by decide, by decide⟩ (fun r w hq => ?_)
  obtain ⟨rfl, rfl⟩ := hq
  refine g_eq (ws' := cw ad cI cZ (bu (bu (bu x 2 (updI (x 2) 0 0)) 12 (updI (x 12) 0 a)) 2 (updI (updI (x 2) 0 0) 0 (0 + 1)))) (lv' := [(0, .ref (ad 2)), (1, .int (iI a)), (2, .int (iI b))]) (pc' := 9) (st' := []) rfl rfl rfl rfl ?_
  refine g_aload_n C (q := 0) d_R_allowPair_9 rfl rfl ?_
  refine g_iload_n C (q := 2) d_R_allowPair_10 rfl rfl ?_
  refine gV C (st := []) (m_R_addToSet (bu (bu (bu x 2 (updI (x 2) 0 0)) 12 (updI (x 12) 0 a)) 2 (updI (updI (x 2) 0 0) 0 (0 + 1))) b (show 0 ≤ (0 + 1) ∧ (0 + 1) < 5 by omega)) k_368 k_365 k_367 kp_14 k_4 rfl ho_R_addToSet rfl rfl ⟨by decide, by decide⟩ 2 (cwo_2 _) rfl rfl rfl (Nat.le_of_ble_eq_true rfl) d_R_allowPair_11 ⟨by decide, by decide⟩ (fun r w hq => ?_)
  obtain ⟨rfl, rfl⟩ := hq
  refine g_eq (ws' := cw ad cI cZ (bu (bu (bu (bu (bu x 2 (updI (x 2) 0 0)) 12 (updI (x 12) 0 a)) 2 (updI (updI (x 2) 0 0) 0 (0 + 1))) 12 (updI (updI (x 12) 0 a) (0 + 1) b)) 2 (updI (updI (updI (x 2) 0 0) 0 (0 + 1)) 0 ((0 + 1) + 1)))) (lv' := [(0, .ref (ad 2)), (1, .int (iI a)), (2, .int (iI b))]) (pc' := 14) (st' := []) rfl rfl rfl rfl ?_
  refine g_aload_n C (q := 0) d_R_allowPair_14 rfl rfl ?_
  refine gV C (st := []) (m_R_allowSet (bu (bu (bu (bu (bu x 2 (updI (x 2) 0 0)) 12 (updI (x 12) 0 a)) 2 (updI (updI (x 2) 0 0) 0 (0 + 1))) 12 (updI (updI (x 12) 0 a) (0 + 1) b)) 2 (updI (updI (updI (x 2) 0 0) 0 (0 + 1)) 0 ((0 + 1) + 1))) hz (show 0 ≤ (0 : Int) + 1 + 1 ∧ (0 : Int) + 1 + 1 ≤ 5 by omega) (fun i h0 h1 => by show 0 ≤ (updI (updI (x 12) 0 a) (0 + 1) b) i ∧ (updI (updI (x 12) 0 a) (0 + 1) b) i < 10; have h1 : i < 0 + 1 + 1 := h1; unfold updI; split; omega; split; omega; omega) hw hs h8 h6) k_372 k_369 k_371 kp_15 k_4 rfl ho_R_allowSet rfl rfl ⟨by decide, by decide⟩ 2 (cwo_2 _) rfl rfl rfl (Nat.le_of_ble_eq_true rfl) d_R_allowPair_15 ⟨by decide, by decide⟩ (fun r w hq => ?_)
  obtain ⟨u15, rfl, hu15, hiff15, rfl⟩ := hq
  refine g_eq (ws' := cw ad cI cZ (bu (bu (bu (bu (bu x 2 (updI (x 2) 0 0)) 12 (updI (x 12) 0 a)) 2 (updI (updI (x 2) 0 0) 0 (0 + 1))) 12 (updI (updI (x 12) 0 a) (0 + 1) b)) 2 (updI (updI (updI (x 2) 0 0) 0 (0 + 1)) 0 ((0 + 1) + 1)))) (lv' := [(0, .ref (ad 2)), (1, .int (iI a)), (2, .int (iI b))]) (pc' := 18) (st' := [.int (iI u15)]) rfl rfl rfl rfl ?_
  have hsc : scr (bu (bu (bu (bu (bu x 2 (updI (x 2) 0 0)) 12 (updI (x 12) 0 a)) 2 (updI (updI (x 2) 0 0) 0 (0 + 1))) 12 (updI (updI (x 12) 0 a) (0 + 1) b)) 2 (updI (updI (updI (x 2) 0 0) 0 (0 + 1)) 0 ((0 + 1) + 1))) x := ⟨fun k h1 h2 => by unfold bu; simp [h1, h2], rfl, rfl⟩
  refine g_zret C hA hr d_R_allowPair_18 (by decide) (by decide) (by omega) ⟨_, _, rfl, hu15, hiff15.trans ((okS_congr (g := pf2 a b) hsc (fun i h0 h1 => ?_)).trans okS_pair), hsc, rfl⟩
  have h1 : i < 0 + 1 + 1 := h1
  show (updI (updI (x 12) 0 a) (0 + 1) b) i = _
  unfold updI pf2
  by_cases h : i = 0
  · rw [if_neg (by omega), if_pos h, if_pos h]
  · rw [if_pos (by omega), if_neg h]
