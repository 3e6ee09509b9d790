set_option maxRecDepth 100000 in
set_option maxHeartbeats 4000000 in
theorem m_R_bar {l : Launch} {D : va_G} {cI cZ cJ : ClassId} {base : Nat} {ad : Nat → Nat} (x : Bk) (a b v : Int) (ha : 0 ≤ a ∧ a < 10) (hb : 0 ≤ b ∧ b < 10) (hv : v = 0 ∨ v = 1) : Cn l D cls9 (tyl cI cZ cJ) base (zz base) y_R_bar (wz y_R_bar c_R_bar 4 none) ({ frames := 1, cells := 0, slots := 0, locals := 21 } : Room) [.ref (ad 2), .int (iI a), .int (iI b), .int (iI v)] (cw ad cI cZ x) (fun r w => r = none ∧ w = cw ad cI cZ (bu x 10 (updI (updI (x 10) (a * 10 + b) v) (b * 10 + a) v))) 0 0 := by
  refine Cn_of (zzG base) (by decide) rfl (Nat.le_of_ble_eq_true rfl) ?_
  intro p e s m args below meth c A C hr hA hnm
  have C : gC p s m args meth c D cls9 (tyl cI cZ cJ) A c_R_bar 4 "BatchSavings$Rules" (wz y_R_bar c_R_bar 4 none) base (zz base) := C
  refine g_lve (lv' := [(0, .ref (ad 2)), (1, .int (iI a)), (2, .int (iI b)), (3, .int (iI v))]) rfl ?_
  refine g_aload_n C (q := 0) d_R_bar_0 rfl rfl ?_
  refine gG C (v := .ref (ad 10)) 2 1 u_R k_72 (cwo_2 _) rfl (by decide) rfl rfl d_R_bar_1 ?_
  refine g_iload_n C (q := 1) d_R_bar_4 rfl rfl ?_
  refine g_iload_n C (q := 2) d_R_bar_5 rfl rfl ?_
  refine gSN0 C (st := [.ref (ad 10)]) (m_S_pairIndex a b) k_190 kn_356 k_189 k_1 ho_S_pairIndex rfl rfl ⟨by decide, by decide⟩ rfl rfl (Nat.le_of_ble_eq_true rfl) d_R_bar_6 ⟨by decide, by decide⟩ (fun r w hq => ?_)
  obtain ⟨rfl, rfl⟩ := hq
  refine g_eq (ws' := cw ad cI cZ x) (lv' := [(0, .ref (ad 2)), (1, .int (iI a)), (2, .int (iI b)), (3, .int (iI v))]) (pc' := 9) (st' := [.int (iI (a * 10 + b)), .ref (ad 10)]) rfl rfl rfl rfl ?_
  refine g_iload_n C (q := 3) d_R_bar_9 rfl rfl ?_
  refine g_zast C 10 1 (cwa_10 _) rfl (by decide) (by omega) hv d_R_bar_10 (cws_10 _ _) ?_
  refine g_ws (ws' := cw ad cI cZ (bu x 10 (updI (x 10) (a * 10 + b) v))) rfl ?_
  refine g_aload_n C (q := 0) d_R_bar_11 rfl rfl ?_
  refine gG C (v := .ref (ad 10)) 2 1 u_R k_72 (cwo_2 _) rfl (by decide) rfl rfl d_R_bar_12 ?_
  refine g_iload_n C (q := 2) d_R_bar_15 rfl rfl ?_
  refine g_iload_n C (q := 1) d_R_bar_16 rfl rfl ?_
  refine gSN0 C (st := [.ref (ad 10)]) (m_S_pairIndex b a) k_190 kn_356 k_189 k_1 ho_S_pairIndex rfl rfl ⟨by decide, by decide⟩ rfl rfl (Nat.le_of_ble_eq_true rfl) d_R_bar_17 ⟨by decide, by decide⟩ (fun r w hq => ?_)
  obtain ⟨rfl, rfl⟩ := hq
  refine g_eq (ws' := cw ad cI cZ (bu x 10 (updI (x 10) (a * 10 + b) v))) (lv' := [(0, .ref (ad 2)), (1, .int (iI a)), (2, .int (iI b)), (3, .int (iI v))]) (pc' := 20) (st' := [.int (iI (b * 10 + a)), .ref (ad 10)]) rfl rfl rfl rfl ?_
  refine g_iload_n C (q := 3) d_R_bar_20 rfl rfl ?_
  refine g_zast C 10 1 (cwa_10 _) rfl (by decide) (by omega) hv d_R_bar_21 (cws_10 _ _) ?_
  refine g_ws (ws' := cw ad cI cZ (bu (bu x 10 (updI (x 10) (a * 10 + b) v)) 10 (updI (updI (x 10) (a * 10 + b) v) (b * 10 + a) v))) rfl ?_
  exact g_vret C hA hr d_R_bar_22 (by decide) (by decide) ⟨rfl, rfl⟩
set_option maxRecDepth 100000 in
set_option maxHeartbeats 4000000 in
theorem m_R_bringNear {l : Launch} {D : va_G} {cI cZ cJ : ClassId} {base : Nat} {ad : Nat → Nat} (x : Bk) (a b v : Int) (ha : 0 ≤ a ∧ a < 4) (hb : 0 ≤ b ∧ b < 4) (hv : v = 0 ∨ v = 1) : Cn l D cls9 (tyl cI cZ cJ) base (zz base) y_R_bringNear (wz y_R_bringNear c_R_bringNear 4 none) ({ frames := 0, cells := 0, slots := 0, locals := 0 } : Room) [.ref (ad 2), .int (iI a), .int (iI b), .int (iI v)] (cw ad cI cZ x) (fun r w => r = none ∧ w = cw ad cI cZ (bu x 11 (updI (updI (x 11) (a * 4 + b) v) (b * 4 + a) v))) 0 0 := by
  refine Cn_of (zzG base) (by decide) rfl (Nat.le_of_ble_eq_true rfl) ?_
  intro p e s m args below meth c A C hr hA hnm
  have C : gC p s m args meth c D cls9 (tyl cI cZ cJ) A c_R_bringNear 4 "BatchSavings$Rules" (wz y_R_bringNear c_R_bringNear 4 none) base (zz base) := C
  refine g_lve (lv' := [(0, .ref (ad 2)), (1, .int (iI a)), (2, .int (iI b)), (3, .int (iI v))]) rfl ?_
  refine g_aload_n C (q := 0) d_R_bringNear_0 rfl rfl ?_
  refine gG C (v := .ref (ad 11)) 2 2 u_R k_73 (cwo_2 _) rfl (by decide) rfl rfl d_R_bringNear_1 ?_
  refine g_iload_n C (q := 1) d_R_bringNear_4 rfl rfl ?_
  refine g_iconst C d_R_bringNear_5 ?_
  refine g_imul C d_R_bringNear_6 ?_
  refine g_iload_n C (q := 2) d_R_bringNear_7 rfl rfl ?_
  refine g_iadd C d_R_bringNear_8 ?_
  refine g_iload_n C (q := 3) d_R_bringNear_9 rfl rfl ?_
  refine g_zast C 11 1 (cwa_11 _) rfl (by decide) (by omega) hv d_R_bringNear_10 (cws_11 _ _) ?_
  refine g_ws (ws' := cw ad cI cZ (bu x 11 (updI (x 11) ((a * 4) + b) v))) rfl ?_
  refine g_aload_n C (q := 0) d_R_bringNear_11 rfl rfl ?_
  refine gG C (v := .ref (ad 11)) 2 2 u_R k_73 (cwo_2 _) rfl (by decide) rfl rfl d_R_bringNear_12 ?_
  refine g_iload_n C (q := 2) d_R_bringNear_15 rfl rfl ?_
  refine g_iconst C d_R_bringNear_16 ?_
  refine g_imul C d_R_bringNear_17 ?_
  refine g_iload_n C (q := 1) d_R_bringNear_18 rfl rfl ?_
  refine g_iadd C d_R_bringNear_19 ?_
  refine g_iload_n C (q := 3) d_R_bringNear_20 rfl rfl ?_
  refine g_zast C 11 1 (cwa_11 _) rfl (by decide) (by omega) hv d_R_bringNear_21 (cws_11 _ _) ?_
  refine g_ws (ws' := cw ad cI cZ (bu (bu x 11 (updI (x 11) ((a * 4) + b) v)) 11 (updI (updI (x 11) ((a * 4) + b) v) ((b * 4) + a) v))) rfl ?_
  exact g_vret C hA hr d_R_bringNear_22 (by decide) (by decide) ⟨rfl, rfl⟩
set_option maxRecDepth 100000 in
set_option maxHeartbeats 4000000 in
theorem m_R_startSet {l : Launch} {D : va_G} {cI cZ cJ : ClassId} {base : Nat} {ad : Nat → Nat} (x : Bk)  : Cn l D cls9 (tyl cI cZ cJ) base (zz base) y_R_startSet (wz y_R_startSet c_R_startSet 1 none) ({ frames := 0, cells := 0, slots := 0, locals := 0 } : Room) [.ref (ad 2)] (cw ad cI cZ x) (fun r w => r = none ∧ w = cw ad cI cZ (bu x 2 (updI (x 2) 0 0))) 0 0 := by
  refine Cn_of (zzG base) (by decide) rfl (Nat.le_of_ble_eq_true rfl) ?_
  intro p e s m args below meth c A C hr hA hnm
  have C : gC p s m args meth c D cls9 (tyl cI cZ cJ) A c_R_startSet 1 "BatchSavings$Rules" (wz y_R_startSet c_R_startSet 1 none) base (zz base) := C
  refine g_lve (lv' := [(0, .ref (ad 2))]) rfl ?_
  refine g_aload_n C (q := 0) d_R_startSet_0 rfl rfl ?_
  refine g_iconst C d_R_startSet_1 ?_
  refine gP C 2 4 t_R to_R n_R u_R k_75 (cwo_2 _) rfl (by decide) rfl rfl rfl rfl rfl (Nat.le_of_ble_eq_true rfl) d_R_startSet_2 (cwf_2_4 _ _) ?_
  refine g_ws (ws' := cw ad cI cZ (bu x 2 (updI (x 2) 0 0))) rfl ?_
  exact g_vret C hA hr d_R_startSet_5 (by decide) (by decide) ⟨rfl, rfl⟩
set_option maxRecDepth 100000 in
set_option maxHeartbeats 4000000 in
theorem m_R_addToSet {l : Launch} {D : va_G} {cI cZ cJ : ClassId} {base : Nat} {ad : Nat → Nat} (x : Bk) (a : Int) (hs : 0 ≤ x 2 0 ∧ x 2 0 < 5) : Cn l D cls9 (tyl cI cZ cJ) base (zz base) y_R_addToSet (wz y_R_addToSet c_R_addToSet 2 none) ({ frames := 0, cells := 0, slots := 0, locals := 0 } : Room) [.ref (ad 2), .int (iI a)] (cw ad cI cZ x) (fun r w => r = none ∧ w = cw ad cI cZ (bu (bu x 12 (updI (x 12) (x 2 0) a)) 2 (updI (x 2) 0 (x 2 0 + 1)))) 0 0 := by
  refine Cn_of (zzG base) (by decide) rfl (Nat.le_of_ble_eq_true rfl) ?_
  intro p e s m args below meth c A C hr hA hnm
  have C : gC p s m args meth c D cls9 (tyl cI cZ cJ) A c_R_addToSet 2 "BatchSavings$Rules" (wz y_R_addToSet c_R_addToSet 2 none) base (zz base) := C
  refine g_lve (lv' := [(0, .ref (ad 2)), (1, .int (iI a))]) rfl ?_
  refine g_aload_n C (q := 0) d_R_addToSet_0 rfl rfl ?_
  refine gG C (v := .int (iI (x 2 0))) 2 4 u_R k_75 (cwo_2 _) rfl (by decide) rfl rfl d_R_addToSet_1 ?_
  refine g_aload_n C (q := 0) d_R_addToSet_4 rfl rfl ?_
  refine gG C (v := .ref (ad 12)) 2 3 u_R k_74 (cwo_2 _) rfl (by decide) rfl rfl d_R_addToSet_5 ?_
  refine g_alen C 12 0 (cwa_12 _) rfl d_R_addToSet_8 ?_
  refine g_icmp_ge C (tgt := 32) d_R_addToSet_9 rfl (by omega) (by omega) (fun h9_1 => ?_) (fun h9_1 => ?_)
  · first
      | (exfalso; omega)
      | exact g_vret C hA hr d_R_addToSet_32 (by decide) (by decide) ⟨rfl, rfl⟩
  · refine g_aload_n C (q := 0) d_R_addToSet_12 rfl rfl ?_
    refine gG C (v := .ref (ad 12)) 2 3 u_R k_74 (cwo_2 _) rfl (by decide) rfl rfl d_R_addToSet_13 ?_
    refine g_aload_n C (q := 0) d_R_addToSet_16 rfl rfl ?_
    refine gG C (v := .int (iI (x 2 0))) 2 4 u_R k_75 (cwo_2 _) rfl (by decide) rfl rfl d_R_addToSet_17 ?_
    refine g_iload_n C (q := 1) d_R_addToSet_20 rfl rfl ?_
    refine g_iast C 12 0 (cwa_12 _) rfl (by decide) (by omega) d_R_addToSet_21 (cws_12 _ _) ?_
    refine g_ws (ws' := cw ad cI cZ (bu x 12 (updI (x 12) (x 2 0) a))) rfl ?_
    refine g_aload_n C (q := 0) d_R_addToSet_22 rfl rfl ?_
    refine g_dup C d_R_addToSet_23 rfl ?_
    refine gG C (v := .int (iI (x 2 0))) 2 4 u_R k_75 (cwo_2 _) rfl (by decide) rfl rfl d_R_addToSet_24 ?_
    refine g_iconst C d_R_addToSet_27 ?_
    refine g_iadd C d_R_addToSet_28 ?_
    refine gP C 2 4 t_R to_R n_R u_R k_75 (cwo_2 _) rfl (by decide) rfl rfl rfl rfl rfl (Nat.le_of_ble_eq_true rfl) d_R_addToSet_29 (cwf_2_4 _ _) ?_
    refine g_ws (ws' := cw ad cI cZ (bu (bu x 12 (updI (x 12) (x 2 0) a)) 2 (updI (x 2) 0 ((x 2 0) + 1)))) rfl ?_
    first
      | (exfalso; omega)
      | exact g_vret C hA hr d_R_addToSet_32 (by decide) (by decide) ⟨rfl, rfl⟩
abbrev alg (x : Bk) (a b : Int) : Prop := x 10 (a * 10 + b) = 0 ∧ ¬ x 11 (x 7 a * 4 + x 7 b) = 0
def okZ (x : Bk) : Prop := (∀ i, 0 ≤ i → i < 10 → 0 ≤ x 7 i ∧ x 7 i ≤ 3) ∧ (∀ i, 0 ≤ i → i < 100 → x 10 i = 0 ∨ x 10 i = 1) ∧ (∀ i, 0 ≤ i → i < 16 → x 11 i = 0 ∨ x 11 i = 1)
set_option maxRecDepth 100000 in
set_option maxHeartbeats 4000000 in
theorem m_R_getAlong {l : Launch} {D : va_G} {cI cZ cJ : ClassId} {base : Nat} {ad : Nat → Nat} (x : Bk) (a b : Int) (ha : 0 ≤ a ∧ a < 10) (hb : 0 ≤ b ∧ b < 10) (hz : okZ x) : Cn l D cls9 (tyl cI cZ cJ) base (zz base) y_R_getAlong (wz y_R_getAlong c_R_getAlong 3 (some FieldType.boolean)) ({ frames := 1, cells := 0, slots := 0, locals := 21 } : Room) [.ref (ad 2), .int (iI a), .int (iI b)] (cw ad cI cZ x) (fun r w => r = some (b01 (alg x a b)) ∧ w = cw ad cI cZ x) 0 0 := by
  refine Cn_of (zzG base) (by decide) rfl (Nat.le_of_ble_eq_true rfl) ?_
  intro p e s m args below meth c A C hr hA hnm
  have C : gC p s m args meth c D cls9 (tyl cI cZ cJ) A c_R_getAlong 3 "BatchSavings$Rules" (wz y_R_getAlong c_R_getAlong 3 (some FieldType.boolean)) base (zz base) := C
  refine g_lve (lv' := [(0, .ref (ad 2)), (1, .int (iI a)), (2, .int (iI b))]) rfl ?_
  have z1 := hz.1 a (by omega) (by omega)
  have z2 := hz.1 b (by omega) (by omega)
  have z3 := hz.2.1 (a * 10 + b) (by omega) (by omega)
  have z4 := hz.2.2 (x 7 a * 4 + x 7 b) (by omega) (by omega)
  refine g_aload_n C (q := 0) d_R_getAlong_0 rfl rfl ?_
  refine gG C (v := .ref (ad 10)) 2 1 u_R k_72 (cwo_2 _) rfl (by decide) rfl rfl d_R_getAlong_1 ?_
  refine g_iload_n C (q := 1) d_R_getAlong_4 rfl rfl ?_
  refine g_iload_n C (q := 2) d_R_getAlong_5 rfl rfl ?_
  refine gSN0 C (st := [.ref (ad 10)]) (m_S_pairIndex a b) k_190 kn_356 k_189 k_1 ho_S_pairIndex rfl rfl ⟨by decide, by decide⟩ rfl rfl (Nat.le_of_ble_eq_true rfl) d_R_getAlong_6 ⟨by decide, by decide⟩ (fun r w hq => ?_)
  obtain ⟨rfl, rfl⟩ := hq
  refine g_eq (ws' := cw ad cI cZ x) (lv' := [(0, .ref (ad 2)), (1, .int (iI a)), (2, .int (iI b))]) (pc' := 9) (st' := [.int (iI (a * 10 + b)), .ref (ad 10)]) rfl rfl rfl rfl ?_
  refine g_zald C 10 1 (cwa_10 _) rfl (by decide) (by omega) d_R_getAlong_9 ?_
  refine g_st (st' := [.int (iI (x 10 (a * 10 + b)))]) rfl ?_
  refine g_if_ne C (tgt := 46) d_R_getAlong_10 rfl (by omega) (fun h10_1 => ?_) (fun h10_1 => ?_)
  · refine g_iconst C d_R_getAlong_46 ?_
    exact g_zret C hA hr d_R_getAlong_47 (by decide) (by decide) (by omega) ⟨congrArg some (by unfold b01; first | rw [if_pos (by unfold alg; omega)] | rw [if_neg (by unfold alg; omega)]), rfl⟩
  · refine g_aload_n C (q := 0) d_R_getAlong_13 rfl rfl ?_
    refine gG C (v := .ref (ad 11)) 2 2 u_R k_73 (cwo_2 _) rfl (by decide) rfl rfl d_R_getAlong_14 ?_
    refine g_aload_n C (q := 0) d_R_getAlong_17 rfl rfl ?_
    refine gG C (v := .ref (ad 1)) 2 0 u_R k_71 (cwo_2 _) rfl (by decide) rfl rfl d_R_getAlong_18 ?_
    refine gGN C (v := .ref (ad 7)) 1 2 u_O kn_41 (cwo_1 _) rfl (by decide) rfl rfl d_R_getAlong_21 ?_
    refine g_iload_n C (q := 1) d_R_getAlong_24 rfl rfl ?_
    refine g_iald C 7 0 (cwa_7 _) rfl (by decide) (by omega) d_R_getAlong_25 ?_
    refine g_st (st' := [.int (iI (x 7 a)), .ref (ad 11)]) rfl ?_
    refine g_iconst C d_R_getAlong_26 ?_
    refine g_imul C d_R_getAlong_27 ?_
    refine g_aload_n C (q := 0) d_R_getAlong_28 rfl rfl ?_
    refine gG C (v := .ref (ad 1)) 2 0 u_R k_71 (cwo_2 _) rfl (by decide) rfl rfl d_R_getAlong_29 ?_
    refine gGN C (v := .ref (ad 7)) 1 2 u_O kn_41 (cwo_1 _) rfl (by decide) rfl rfl d_R_getAlong_32 ?_
    refine g_iload_n C (q := 2) d_R_getAlong_35 rfl rfl ?_
    refine g_iald C 7 0 (cwa_7 _) rfl (by decide) (by omega) d_R_getAlong_36 ?_
    refine g_st (st' := [.int (iI (x 7 b)), .int (iI ((x 7 a) * 4)), .ref (ad 11)]) rfl ?_
    refine g_iadd C d_R_getAlong_37 ?_
    refine g_zald C 11 1 (cwa_11 _) rfl (by decide) (by omega) d_R_getAlong_38 ?_
    refine g_st (st' := [.int (iI (x 11 (((x 7 a) * 4) + (x 7 b))))]) rfl ?_
    refine g_if_eq C (tgt := 46) d_R_getAlong_39 rfl (by omega) (fun h39_2 => ?_) (fun h39_2 => ?_)
    · refine g_iconst C d_R_getAlong_46 ?_
      exact g_zret C hA hr d_R_getAlong_47 (by decide) (by decide) (by omega) ⟨congrArg some (by unfold b01; first | rw [if_pos (by unfold alg; omega)] | rw [if_neg (by unfold alg; omega)]), rfl⟩
    · refine g_iconst C d_R_getAlong_42 ?_
      refine g_goto C (tgt := 47) d_R_getAlong_43 rfl ?_
      exact g_zret C hA hr d_R_getAlong_47 (by decide) (by decide) (by omega) ⟨congrArg some (by unfold b01; first | rw [if_pos (by unfold alg; omega)] | rw [if_neg (by unfold alg; omega)]), rfl⟩
def above (x : Bk) : Int := sg (fun i => b01 (x 2 1 < x 8 i ∨ x 2 2 < x 6 i)) (x 1 0).toNat
set_option maxRecDepth 100000 in
set_option maxHeartbeats 4000000 in
theorem lp_R_above {p : Program} {l : Launch} {e : Env} {s : State} {m : MethodId} {args : Array Value} {below : List Frame} {meth : Method} {c : Code} {D : va_G} {cI cZ cJ : ClassId} {base : Nat} {ad : Nat → Nat} {A : Nat → Prop} {Q : State → Prop} (C : gC p s m args meth c D cls9 (tyl cI cZ cJ) A c_R_aboveAlone 3 "BatchSavings$Rules" (wz y_R_aboveAlone c_R_aboveAlone 3 (some FieldType.int)) base (zz base)) (x : Bk) (hn : 0 ≤ x 1 0 ∧ x 1 0 ≤ 10) (h8 : ∀ i, 0 ≤ i → i < 10 → 0 ≤ x 8 i ∧ x 8 i ≤ 1000) (h6 : ∀ i, 0 ≤ i → i < 10 → 0 ≤ x 6 i ∧ x 6 i ≤ 100) (hw : InR (x 2 1)) (hs : InR (x 2 2))
    (K : gW p l e ({ frames := 0, cells := 0, slots := 0, locals := 0 } : Room) s m args below meth c D cls9 A 3 0 0 Q (cw ad cI cZ x) [(0, .ref (ad 2)), (1, .int (iI (sg (fun i => b01 (x 2 1 < x 8 i ∨ x 2 2 < x 6 i)) ((x 1 0).toNat)))), (2, .int (iI ((x 1 0).toNat : Int)))] 56 []) : ∀ (d k : Nat), (k : Int) + (d : Int) = x 1 0 → gW p l e ({ frames := 0, cells := 0, slots := 0, locals := 0 } : Room) s m args below meth c D cls9 A 3 0 0 Q (cw ad cI cZ x) [(0, .ref (ad 2)), (1, .int (iI (sg (fun i => b01 (x 2 1 < x 8 i ∨ x 2 2 < x 6 i)) k))), (2, .int (iI (k : Int)))] 4 [] := by
  intro d
  induction d with
  | zero =>
    intro k hk
    refine g_iload_n C (q := 2) d_R_aboveAlone_4 rfl rfl ?_
    refine g_aload_n C (q := 0) d_R_aboveAlone_5 rfl rfl ?_
    refine gG C (v := .ref (ad 1)) 2 0 u_R k_71 (cwo_2 _) rfl (by decide) rfl rfl d_R_aboveAlone_6 ?_
    refine gGN C (v := .int (iI (x 1 0))) 1 5 u_O kn_48 (cwo_1 _) rfl (by decide) rfl rfl d_R_aboveAlone_9 ?_
    refine g_icmp_ge C (tgt := 56) d_R_aboveAlone_12 rfl (by omega) (by omega) (fun h12_1 => ?_) (fun h12_1 => ?_)
    · obtain rfl : k = (x 1 0).toNat := by omega
      exact K
    · exfalso
      omega
  | succ d ih =>
    intro k hk
    refine g_iload_n C (q := 2) d_R_aboveAlone_4 rfl rfl ?_
    refine g_aload_n C (q := 0) d_R_aboveAlone_5 rfl rfl ?_
    refine gG C (v := .ref (ad 1)) 2 0 u_R k_71 (cwo_2 _) rfl (by decide) rfl rfl d_R_aboveAlone_6 ?_
    refine gGN C (v := .int (iI (x 1 0))) 1 5 u_O kn_48 (cwo_1 _) rfl (by decide) rfl rfl d_R_aboveAlone_9 ?_
    refine g_icmp_ge C (tgt := 56) d_R_aboveAlone_12 rfl (by omega) (by omega) (fun h12_1 => ?_) (fun h12_1 => ?_)
    · exfalso
      omega
    · have g8 := h8 (k : Int) (by omega) (by omega)
      have g6 := h6 (k : Int) (by omega) (by omega)
      refine g_aload_n C (q := 0) d_R_aboveAlone_15 rfl rfl ?_
      refine gG C (v := .ref (ad 1)) 2 0 u_R k_71 (cwo_2 _) rfl (by decide) rfl rfl d_R_aboveAlone_16 ?_
      refine gGN C (v := .ref (ad 8)) 1 3 u_O kn_43 (cwo_1 _) rfl (by decide) rfl rfl d_R_aboveAlone_19 ?_
      refine g_iload_n C (q := 2) d_R_aboveAlone_22 rfl rfl ?_
      refine g_iald C 8 0 (cwa_8 _) rfl (by decide) (by omega) d_R_aboveAlone_23 ?_
      refine g_st (st' := [.int (iI (x 8 (k : Int)))]) rfl ?_
      refine g_aload_n C (q := 0) d_R_aboveAlone_24 rfl rfl ?_
      refine gG C (v := .int (iI (x 2 1))) 2 5 u_R k_76 (cwo_2 _) rfl (by decide) rfl rfl d_R_aboveAlone_25 ?_
      refine g_icmp_gt C (tgt := 47) d_R_aboveAlone_28 rfl (by omega) (by omega) (fun h28_2 => ?_) (fun h28_2 => ?_)
      · refine g_iinc C (q := 1) (lv' := [(0, .ref (ad 2)), (1, .int (iI ((sg (fun i => b01 (x 2 1 < x 8 i ∨ x 2 2 < x 6 i)) k) + 1))), (2, .int (iI (k : Int)))]) d_R_aboveAlone_47 rfl (by decide) rfl rfl ?_
        refine g_lve (lv' := [(0, .ref (ad 2)), (1, .int (iI (sg (fun i => b01 (x 2 1 < x 8 i ∨ x 2 2 < x 6 i)) (k + 1)))), (2, .int (iI (k : Int)))]) (by rw [sg_s]; first | rw [b01_t (by omega)] | (rw [b01_f (by omega)]; simp)) ?_
        refine g_iinc C (q := 2) (lv' := [(0, .ref (ad 2)), (1, .int (iI (sg (fun i => b01 (x 2 1 < x 8 i ∨ x 2 2 < x 6 i)) (k + 1)))), (2, .int (iI ((k : Int) + 1)))]) d_R_aboveAlone_50 rfl (by decide) rfl rfl ?_
        refine g_goto C (tgt := 4) d_R_aboveAlone_53 rfl ?_
        exact ih (k + 1) (by omega)
      · refine g_aload_n C (q := 0) d_R_aboveAlone_31 rfl rfl ?_
        refine gG C (v := .ref (ad 1)) 2 0 u_R k_71 (cwo_2 _) rfl (by decide) rfl rfl d_R_aboveAlone_32 ?_
        refine gGN C (v := .ref (ad 6)) 1 1 u_O kn_38 (cwo_1 _) rfl (by decide) rfl rfl d_R_aboveAlone_35 ?_
        refine g_iload_n C (q := 2) d_R_aboveAlone_38 rfl rfl ?_
        refine g_iald C 6 0 (cwa_6 _) rfl (by decide) (by omega) d_R_aboveAlone_39 ?_
        refine g_st (st' := [.int (iI (x 6 (k : Int)))]) rfl ?_
        refine g_aload_n C (q := 0) d_R_aboveAlone_40 rfl rfl ?_
        refine gG C (v := .int (iI (x 2 2))) 2 6 u_R k_78 (cwo_2 _) rfl (by decide) rfl rfl d_R_aboveAlone_41 ?_
        refine g_icmp_le C (tgt := 50) d_R_aboveAlone_44 rfl (by omega) (by omega) (fun h44_3 => ?_) (fun h44_3 => ?_)
        · refine g_lve (lv' := [(0, .ref (ad 2)), (1, .int (iI (sg (fun i => b01 (x 2 1 < x 8 i ∨ x 2 2 < x 6 i)) (k + 1)))), (2, .int (iI (k : Int)))]) (by rw [sg_s]; first | rw [b01_t (by omega)] | (rw [b01_f (by omega)]; simp)) ?_
          refine g_iinc C (q := 2) (lv' := [(0, .ref (ad 2)), (1, .int (iI (sg (fun i => b01 (x 2 1 < x 8 i ∨ x 2 2 < x 6 i)) (k + 1)))), (2, .int (iI ((k : Int) + 1)))]) d_R_aboveAlone_50 rfl (by decide) rfl rfl ?_
          refine g_goto C (tgt := 4) d_R_aboveAlone_53 rfl ?_
          exact ih (k + 1) (by omega)
        · refine g_iinc C (q := 1) (lv' := [(0, .ref (ad 2)), (1, .int (iI ((sg (fun i => b01 (x 2 1 < x 8 i ∨ x 2 2 < x 6 i)) k) + 1))), (2, .int (iI (k : Int)))]) d_R_aboveAlone_47 rfl (by decide) rfl rfl ?_
          refine g_lve (lv' := [(0, .ref (ad 2)), (1, .int (iI (sg (fun i => b01 (x 2 1 < x 8 i ∨ x 2 2 < x 6 i)) (k + 1)))), (2, .int (iI (k : Int)))]) (by rw [sg_s]; first | rw [b01_t (by omega)] | (rw [b01_f (by omega)]; simp)) ?_
          refine g_iinc C (q := 2) (lv' := [(0, .ref (ad 2)), (1, .int (iI (sg (fun i => b01 (x 2 1 < x 8 i ∨ x 2 2 < x 6 i)) (k + 1)))), (2, .int (iI ((k : Int) + 1)))]) d_R_aboveAlone_50 rfl (by decide) rfl rfl ?_
          refine g_goto C (tgt := 4) d_R_aboveAlone_53 rfl ?_
          exact ih (k + 1) (by omega)
set_option maxRecDepth 100000 in
set_option maxHeartbeats 4000000 in
theorem m_R_aboveAlone {l : Launch} {D : va_G} {cI cZ cJ : ClassId} {base : Nat} {ad : Nat → Nat} (x : Bk) (hn : 0 ≤ x 1 0 ∧ x 1 0 ≤ 10) (h8 : ∀ i, 0 ≤ i → i < 10 → 0 ≤ x 8 i ∧ x 8 i ≤ 1000) (h6 : ∀ i, 0 ≤ i → i < 10 → 0 ≤ x 6 i ∧ x 6 i ≤ 100) (hw : InR (x 2 1)) (hs : InR (x 2 2)) : Cn l D cls9 (tyl cI cZ cJ) base (zz base) y_R_aboveAlone (wz y_R_aboveAlone c_R_aboveAlone 3 (some FieldType.int)) ({ frames := 0, cells := 0, slots := 0, locals := 0 } : Room) [.ref (ad 2)] (cw ad cI cZ x) (fun r w => r = some (above x) ∧ w = cw ad cI cZ x) 0 0 := by
  refine Cn_of (zzG base) (by decide) rfl (Nat.le_of_ble_eq_true rfl) ?_
  intro p e s m args below meth c A C hr hA hnm
  have C : gC p s m args meth c D cls9 (tyl cI cZ cJ) A c_R_aboveAlone 3 "BatchSavings$Rules" (wz y_R_aboveAlone c_R_aboveAlone 3 (some FieldType.int)) base (zz base) := C
  refine g_lve (lv' := [(0, .ref (ad 2))]) rfl ?_
  refine g_iconst C d_R_aboveAlone_0 ?_
  refine g_istore_n C (lv' := [(0, .ref (ad 2)), (1, .int (iI 0))]) d_R_aboveAlone_1 rfl (by decide) rfl rfl ?_
  refine g_iconst C d_R_aboveAlone_2 ?_
  refine g_istore_n C (lv' := [(0, .ref (ad 2)), (1, .int (iI 0)), (2, .int (iI 0))]) d_R_aboveAlone_3 rfl (by decide) rfl rfl ?_
  refine lp_R_above C x hn h8 h6 hw hs ?_ (x 1 0).toNat 0 (by omega)
  refine g_iload_n C (q := 1) d_R_aboveAlone_56 rfl rfl ?_
  exact g_iret C hA hr d_R_aboveAlone_57 (by decide) (by decide) ⟨rfl, rfl⟩
def okS (x : Bk) (f : Int → Int) (n : Int) : Prop := (∀ i j, 0 ≤ i → i < j → j < n → alg x (f i) (f j)) ∧ sg (fun i => x 8 (f i)) n.toNat ≤ x 2 1 ∧ sg (fun i => x 6 (f i)) n.toNat ≤ x 2 2
set_option maxRecDepth 100000 in
set_option maxHeartbeats 4000000 in
theorem lp_R_allow2 {p : Program} {l : Launch} {e : Env} {s : State} {m : MethodId} {args : Array Value} {below : List Frame} {meth : Method} {c : Code} {D : va_G} {cI cZ cJ : ClassId} {base : Nat} {ad : Nat → Nat} {A : Nat → Prop} {Q : State → Prop} (C : gC p s m args meth c D cls9 (tyl cI cZ cJ) A c_R_allowSet 5 "BatchSavings$Rules" (wz y_R_allowSet c_R_allowSet 5 (some FieldType.boolean)) base (zz base)) (x : Bk) (hz : okZ x) (hn : 0 ≤ x 2 0 ∧ x 2 0 ≤ 5) (h12 : ∀ i, 0 ≤ i → i < x 2 0 → 0 ≤ x 12 i ∧ x 12 i < 10) (w1 w2 i : Int) (hi : 0 ≤ i ∧ i < x 2 0)
    (K : (∀ j, i < j → j < x 2 0 → alg x (x 12 i) (x 12 j)) → gW p l e ({ frames := 2, cells := 0, slots := 0, locals := 43 } : Room) s m args below meth c D cls9 A 5 0 0 Q (cw ad cI cZ x) [(0, .ref (ad 2)), (1, .int (iI w1)), (2, .int (iI w2)), (3, .int (iI i)), (4, .int (iI ((x 2 0).toNat : Int)))] 90 [])
    (K0 : ∀ j, i < j → j < x 2 0 → ¬ alg x (x 12 i) (x 12 j) → gW p l e ({ frames := 2, cells := 0, slots := 0, locals := 43 } : Room) s m args below meth c D cls9 A 5 0 0 Q (cw ad cI cZ x) [(0, .ref (ad 2)), (1, .int (iI w1)), (2, .int (iI w2)), (3, .int (iI i)), (4, .int (iI j))] 83 [.int (iI 0)]) : ∀ (d k : Nat), i < (k : Int) → (∀ j, i < j → j < (k : Int) → alg x (x 12 i) (x 12 j)) → (k : Int) + (d : Int) = x 2 0 → gW p l e ({ frames := 2, cells := 0, slots := 0, locals := 43 } : Room) s m args below meth c D cls9 A 5 0 0 Q (cw ad cI cZ x) [(0, .ref (ad 2)), (1, .int (iI w1)), (2, .int (iI w2)), (3, .int (iI i)), (4, .int (iI (k : Int)))] 53 [] := by
  intro d
  induction d with
  | zero =>
    intro k hik hall hk
    refine g_iload C (q := 4) d_R_allowSet_53 rfl ?_
    refine g_aload_n C (q := 0) d_R_allowSet_55 rfl rfl ?_
    refine gG C (v := .int (iI (x 2 0))) 2 4 u_R k_75 (cwo_2 _) rfl (by decide) rfl rfl d_R_allowSet_56 ?_
    refine g_icmp_ge C (tgt := 90) d_R_allowSet_59 rfl (by omega) (by omega) (fun h59_1 => ?_) (fun h59_1 => ?_)
    · obtain rfl : k = (x 2 0).toNat := by omega
      exact K (fun j h1 h2 => hall j h1 (by omega))
    · exfalso
      omega
  | succ d ih =>
    intro k hik hall hk
    refine g_iload C (q := 4) d_R_allowSet_53 rfl ?_
    refine g_aload_n C (q := 0) d_R_allowSet_55 rfl rfl ?_
    refine gG C (v := .int (iI (x 2 0))) 2 4 u_R k_75 (cwo_2 _) rfl (by decide) rfl rfl d_R_allowSet_56 ?_
    refine g_icmp_ge C (tgt := 90) d_R_allowSet_59 rfl (by omega) (by omega) (fun h59_1 => ?_) (fun h59_1 => ?_)
    · exfalso
      omega
    · have g1 := h12 i (by omega) (by omega)
      have g2 := h12 (k : Int) (by omega) (by omega)
      refine g_aload_n C (q := 0) d_R_allowSet_62 rfl rfl ?_
      refine g_aload_n C (q := 0) d_R_allowSet_63 rfl rfl ?_
      refine gG C (v := .ref (ad 12)) 2 3 u_R k_74 (cwo_2 _) rfl (by decide) rfl rfl d_R_allowSet_64 ?_
      refine g_iload_n C (q := 3) d_R_allowSet_67 rfl rfl ?_
      refine g_iald C 12 0 (cwa_12 _) rfl (by decide) (by omega) d_R_allowSet_68 ?_
      refine g_st (st' := [.int (iI (x 12 i)), .ref (ad 2)]) rfl ?_
      refine g_aload_n C (q := 0) d_R_allowSet_69 rfl rfl ?_
      refine gG C (v := .ref (ad 12)) 2 3 u_R k_74 (cwo_2 _) rfl (by decide) rfl rfl d_R_allowSet_70 ?_
      refine g_iload C (q := 4) d_R_allowSet_73 rfl ?_
      refine g_iald C 12 0 (cwa_12 _) rfl (by decide) (by omega) d_R_allowSet_75 ?_
      refine g_st (st' := [.int (iI (x 12 (k : Int))), .int (iI (x 12 i)), .ref (ad 2)]) rfl ?_
      refine gV C (st := []) (m_R_getAlong x (x 12 i) (x 12 (k : Int)) (by omega) (by omega) hz) k_376 k_373 k_375 kp_16 k_4 rfl ho_R_getAlong rfl rfl ⟨by decide, by decide⟩ 2 (cwo_2 _) rfl rfl rfl (Nat.le_of_ble_eq_true rfl) d_R_allowSet_76 ⟨by decide, by decide⟩ (fun r w hq => ?_)
      obtain ⟨rfl, rfl⟩ := hq
      refine g_eq (ws' := cw ad cI cZ x) (lv' := [(0, .ref (ad 2)), (1, .int (iI w1)), (2, .int (iI w2)), (3, .int (iI i)), (4, .int (iI (k : Int)))]) (pc' := 79) (st' := [.int (iI (b01 (alg x (x 12 i) (x 12 (k : Int)))))]) rfl rfl rfl rfl ?_
      have hb := b01_or (p := alg x (x 12 i) (x 12 (k : Int)))
      refine g_if_ne C (tgt := 84) d_R_allowSet_79 rfl (by omega) (fun h79_2 => ?_) (fun h79_2 => ?_)
      · refine g_iinc C (q := 4) (lv' := [(0, .ref (ad 2)), (1, .int (iI w1)), (2, .int (iI w2)), (3, .int (iI i)), (4, .int (iI ((k : Int) + 1)))]) d_R_allowSet_84 rfl (by decide) rfl rfl ?_
        refine g_goto C (tgt := 53) d_R_allowSet_87 rfl ?_
        refine ih (k + 1) (by omega) (fun j h1 h2 => ?_) (by omega)
        by_cases hj : j = (k : Int)
        · rw [hj]
          exact Classical.byContradiction fun q => absurd (b01_f q) ‹_›
        · exact hall j h1 (by omega)
      · refine g_iconst C d_R_allowSet_82 ?_
        exact K0 (k : Int) (by omega) (by omega) (fun q => absurd (b01_t q) (by omega))
set_option maxRecDepth 100000 in
set_option maxHeartbeats 4000000 in
theorem lp_R_allow1 {p : Program} {l : Launch} {e : Env} {s : State} {m : MethodId} {args : Array Value} {below : List Frame} {meth : Method} {c : Code} {D : va_G} {cI cZ cJ : ClassId} {base : Nat} {ad : Nat → Nat} {A : Nat → Prop} {Q : State → Prop} (C : gC p s m args meth c D cls9 (tyl cI cZ cJ) A c_R_allowSet 5 "BatchSavings$Rules" (wz y_R_allowSet c_R_allowSet 5 (some FieldType.boolean)) base (zz base)) (x : Bk) (hz : okZ x) (hn : 0 ≤ x 2 0 ∧ x 2 0 ≤ 5) (h12 : ∀ i, 0 ≤ i → i < x 2 0 → 0 ≤ x 12 i ∧ x 12 i < 10)
    (K : (∀ i j, 0 ≤ i → i < j → j < x 2 0 → alg x (x 12 i) (x 12 j)) → gW p l e ({ frames := 2, cells := 0, slots := 0, locals := 43 } : Room) s m args below meth c D cls9 A 5 0 0 Q (cw ad cI cZ x) [(0, .ref (ad 2)), (1, .int (iI (sg (fun i => x 8 (x 12 i)) (x 2 0).toNat))), (2, .int (iI (sg (fun i => x 6 (x 12 i)) (x 2 0).toNat))), (3, .int (iI ((x 2 0).toNat : Int)))] 96 [])
    (K0 : ∀ w1 w2 i j, ¬ (∀ i j, 0 ≤ i → i < j → j < x 2 0 → alg x (x 12 i) (x 12 j)) → gW p l e ({ frames := 2, cells := 0, slots := 0, locals := 43 } : Room) s m args below meth c D cls9 A 5 0 0 Q (cw ad cI cZ x) [(0, .ref (ad 2)), (1, .int (iI w1)), (2, .int (iI w2)), (3, .int (iI i)), (4, .int (iI j))] 83 [.int (iI 0)]) : ∀ (d k : Nat), (∀ i j, 0 ≤ i → i < j → j < x 2 0 → i < (k : Int) → alg x (x 12 i) (x 12 j)) → (k : Int) + (d : Int) = x 2 0 → gW p l e ({ frames := 2, cells := 0, slots := 0, locals := 43 } : Room) s m args below meth c D cls9 A 5 0 0 Q (cw ad cI cZ x) [(0, .ref (ad 2)), (1, .int (iI (sg (fun i => x 8 (x 12 i)) k))), (2, .int (iI (sg (fun i => x 6 (x 12 i)) k))), (3, .int (iI (k : Int)))] 6 [] := by
  intro d
  induction d with
  | zero =>
    intro k hall hk
    refine g_iload_n C (q := 3) d_R_allowSet_6 rfl rfl ?_
    refine g_aload_n C (q := 0) d_R_allowSet_7 rfl rfl ?_
    refine gG C (v := .int (iI (x 2 0))) 2 4 u_R k_75 (cwo_2 _) rfl (by decide) rfl rfl d_R_allowSet_8 ?_
    refine g_icmp_ge C (tgt := 96) d_R_allowSet_11 rfl (by omega) (by omega) (fun h11_1 => ?_) (fun h11_1 => ?_)
    · obtain rfl : k = (x 2 0).toNat := by omega
      exact K (fun i j h1 h2 h3 => hall i j h1 h2 h3 (by omega))
    · exfalso
      omega
  | succ d ih =>
    intro k hall hk
    refine g_iload_n C (q := 3) d_R_allowSet_6 rfl rfl ?_
    refine g_aload_n C (q := 0) d_R_allowSet_7 rfl rfl ?_
    refine gG C (v := .int (iI (x 2 0))) 2 4 u_R k_75 (cwo_2 _) rfl (by decide) rfl rfl d_R_allowSet_8 ?_
    refine g_icmp_ge C (tgt := 96) d_R_allowSet_11 rfl (by omega) (by omega) (fun h11_1 => ?_) (fun h11_1 => ?_)
    · exfalso
      omega
    · have g1 := h12 (k : Int) (by omega) (by omega)
      refine g_iload_n C (q := 1) d_R_allowSet_14 rfl rfl ?_
      refine g_aload_n C (q := 0) d_R_allowSet_15 rfl rfl ?_
      refine gG C (v := .ref (ad 1)) 2 0 u_R k_71 (cwo_2 _) rfl (by decide) rfl rfl d_R_allowSet_16 ?_
      refine gGN C (v := .ref (ad 8)) 1 3 u_O kn_43 (cwo_1 _) rfl (by decide) rfl rfl d_R_allowSet_19 ?_
      refine g_aload_n C (q := 0) d_R_allowSet_22 rfl rfl ?_
      refine gG C (v := .ref (ad 12)) 2 3 u_R k_74 (cwo_2 _) rfl (by decide) rfl rfl d_R_allowSet_23 ?_
      refine g_iload_n C (q := 3) d_R_allowSet_26 rfl rfl ?_
      refine g_iald C 12 0 (cwa_12 _) rfl (by decide) (by omega) d_R_allowSet_27 ?_
      refine g_st (st' := [.int (iI (x 12 (k : Int))), .ref (ad 8), .int (iI (sg (fun i => x 8 (x 12 i)) k))]) rfl ?_
      refine g_iald C 8 0 (cwa_8 _) rfl (by decide) (by omega) d_R_allowSet_28 ?_
      refine g_st (st' := [.int (iI (x 8 (x 12 (k : Int)))), .int (iI (sg (fun i => x 8 (x 12 i)) k))]) rfl ?_
      refine g_iadd C d_R_allowSet_29 ?_
      refine g_istore_n C (lv' := [(0, .ref (ad 2)), (1, .int (iI ((sg (fun i => x 8 (x 12 i)) k) + (x 8 (x 12 (k : Int)))))), (2, .int (iI (sg (fun i => x 6 (x 12 i)) k))), (3, .int (iI (k : Int)))]) d_R_allowSet_30 rfl (by decide) rfl rfl ?_
      refine g_iload_n C (q := 2) d_R_allowSet_31 rfl rfl ?_
      refine g_aload_n C (q := 0) d_R_allowSet_32 rfl rfl ?_
      refine gG C (v := .ref (ad 1)) 2 0 u_R k_71 (cwo_2 _) rfl (by decide) rfl rfl d_R_allowSet_33 ?_
      refine gGN C (v := .ref (ad 6)) 1 1 u_O kn_38 (cwo_1 _) rfl (by decide) rfl rfl d_R_allowSet_36 ?_
      refine g_aload_n C (q := 0) d_R_allowSet_39 rfl rfl ?_
      refine gG C (v := .ref (ad 12)) 2 3 u_R k_74 (cwo_2 _) rfl (by decide) rfl rfl d_R_allowSet_40 ?_
      refine g_iload_n C (q := 3) d_R_allowSet_43 rfl rfl ?_
      refine g_iald C 12 0 (cwa_12 _) rfl (by decide) (by omega) d_R_allowSet_44 ?_
      refine g_st (st' := [.int (iI (x 12 (k : Int))), .ref (ad 6), .int (iI (sg (fun i => x 6 (x 12 i)) k))]) rfl ?_
      refine g_iald C 6 0 (cwa_6 _) rfl (by decide) (by omega) d_R_allowSet_45 ?_
      refine g_st (st' := [.int (iI (x 6 (x 12 (k : Int)))), .int (iI (sg (fun i => x 6 (x 12 i)) k))]) rfl ?_
      refine g_iadd C d_R_allowSet_46 ?_
      refine g_istore_n C (lv' := [(0, .ref (ad 2)), (1, .int (iI ((sg (fun i => x 8 (x 12 i)) k) + (x 8 (x 12 (k : Int)))))), (2, .int (iI ((sg (fun i => x 6 (x 12 i)) k) + (x 6 (x 12 (k : Int)))))), (3, .int (iI (k : Int)))]) d_R_allowSet_47 rfl (by decide) rfl rfl ?_
      refine g_iload_n C (q := 3) d_R_allowSet_48 rfl rfl ?_
      refine g_iconst C d_R_allowSet_49 ?_
      refine g_iadd C d_R_allowSet_50 ?_
      refine g_istore C (lv' := [(0, .ref (ad 2)), (1, .int (iI ((sg (fun i => x 8 (x 12 i)) k) + (x 8 (x 12 (k : Int)))))), (2, .int (iI ((sg (fun i => x 6 (x 12 i)) k) + (x 6 (x 12 (k : Int)))))), (3, .int (iI (k : Int))), (4, .int (iI ((k : Int) + 1)))]) d_R_allowSet_51 (by decide) rfl rfl ?_
      refine g_lve (lv' := [(0, .ref (ad 2)), (1, .int (iI (sg (fun i => x 8 (x 12 i)) (k + 1)))), (2, .int (iI (sg (fun i => x 6 (x 12 i)) (k + 1)))), (3, .int (iI (k : Int))), (4, .int (iI ((k + 1 : Nat) : Int)))]) rfl ?_
      refine lp_R_allow2 C x hz hn h12 _ _ (k : Int) (by omega) (fun hrow => ?_) (fun j h1 h2 h3 => K0 _ _ _ _ (fun q => h3 (q (k : Int) j (by omega) h1 h2))) ((x 2 0).toNat - (k + 1)) (k + 1) (by omega) (fun j h1 h2 => by exfalso; omega) (by omega)
      refine g_iinc C (q := 3) (lv' := [(0, .ref (ad 2)), (1, .int (iI (sg (fun i => x 8 (x 12 i)) (k + 1)))), (2, .int (iI (sg (fun i => x 6 (x 12 i)) (k + 1)))), (3, .int (iI ((k : Int) + 1))), (4, .int (iI ((x 2 0).toNat : Int)))]) d_R_allowSet_90 rfl (by decide) rfl rfl ?_
      refine g_goto C (tgt := 6) d_R_allowSet_93 rfl ?_
      refine g_lv [0, 1, 2, 3] rfl ?_
      refine ih (k + 1) (fun i j h1 h2 h3 h4 => ?_) (by omega)
      by_cases hi : i = (k : Int)
      · rw [hi]; exact hrow j (by omega) h3
      · exact hall i j h1 h2 h3 (by omega)
set_option maxRecDepth 100000 in
set_option maxHeartbeats 4000000 in
theorem m_R_allowSet {l : Launch} {D : va_G} {cI cZ cJ : ClassId} {base : Nat} {ad : Nat → Nat} (x : Bk) (hz : okZ x) (hn : 0 ≤ x 2 0 ∧ x 2 0 ≤ 5) (h12 : ∀ i, 0 ≤ i → i < x 2 0 → 0 ≤ x 12 i ∧ x 12 i < 10) (hw : InR (x 2 1)) (hs : InR (x 2 2)) (h8 : ∀ i, 0 ≤ i → i < 10 → 0 ≤ x 8 i ∧ x 8 i ≤ 1000) (h6 : ∀ i, 0 ≤ i → i < 10 → 0 ≤ x 6 i ∧ x 6 i ≤ 100) : Cn l D cls9 (tyl cI cZ cJ) base (zz base) y_R_allowSet (wz y_R_allowSet c_R_allowSet 5 (some FieldType.boolean)) ({ frames := 2, cells := 0, slots := 0, locals := 43 } : Room) [.ref (ad 2)] (cw ad cI cZ x) (fun r w => ∃ u : Int, r = some u ∧ (u = 0 ∨ u = 1) ∧ (u = 1 ↔ okS x (x 12) (x 2 0)) ∧ w = cw ad cI cZ x) 0 0 := by
  refine Cn_of (zzG base) (by decide) rfl (Nat.le_of_ble_eq_true rfl) ?_
  intro p e s m args below meth c A C hr hA hnm
  have C : gC p s m args meth c D cls9 (tyl cI cZ cJ) A c_R_allowSet 5 "BatchSavings$Rules" (wz y_R_allowSet c_R_allowSet 5 (some FieldType.boolean)) base (zz base) := C
  refine g_lve (lv' := [(0, .ref (ad 2))]) rfl ?_
  refine g_iconst C d_R_allowSet_0 ?_
  refine g_istore_n C (lv' := [(0, .ref (ad 2)), (1, .int (iI 0))]) d_R_allowSet_1 rfl (by decide) rfl rfl ?_
  refine g_iconst C d_R_allowSet_2 ?_
  refine g_istore_n C (lv' := [(0, .ref (ad 2)), (1, .int (iI 0)), (2, .int (iI 0))]) d_R_allowSet_3 rfl (by decide) rfl rfl ?_
  refine g_iconst C d_R_allowSet_4 ?_
  refine g_istore_n C (lv' := [(0, .ref (ad 2)), (1, .int (iI 0)), (2, .int (iI 0)), (3, .int (iI 0))]) d_R_allowSet_5 rfl (by decide) rfl rfl ?_
  have b1 := sg_bd (f := fun i => x 8 (x 12 i)) (n := (x 2 0).toNat) (lo := 0) (hi := 1000) (fun k hk => by have g := h12 (k : Int) (by omega) (by omega); exact h8 _ g.1 g.2)
  have b2 := sg_bd (f := fun i => x 6 (x 12 i)) (n := (x 2 0).toNat) (lo := 0) (hi := 100) (fun k hk => by have g := h12 (k : Int) (by omega) (by omega); exact h6 _ g.1 g.2)
  refine lp_R_allow1 C x hz hn h12 (fun hall => ?_) (fun w1 w2 i j hno => ?_) (x 2 0).toNat 0 (fun i j h1 h2 h3 h4 => by exfalso; omega) (by omega)
  · refine g_iload_n C (q := 1) d_R_allowSet_96 rfl rfl ?_
    refine g_aload_n C (q := 0) d_R_allowSet_97 rfl rfl ?_
    refine gG C (v := .int (iI (x 2 1))) 2 5 u_R k_76 (cwo_2 _) rfl (by decide) rfl rfl d_R_allowSet_98 ?_
    refine g_icmp_gt C (tgt := 116) d_R_allowSet_101 rfl (by omega) (by omega) (fun h101_1 => ?_) (fun h101_1 => ?_)
    · refine g_iconst C d_R_allowSet_116 ?_
      exact g_zret C hA hr d_R_allowSet_117 (by decide) (by decide) (by omega) ⟨_, rfl, by omega, ⟨fun q => by first | exact ⟨hall, by assumption, by assumption⟩ | (exfalso; omega), fun q => by first | rfl | (exfalso; have := q.2.1; have := q.2.2; omega)⟩, rfl⟩
    · refine g_iload_n C (q := 2) d_R_allowSet_104 rfl rfl ?_
      refine g_aload_n C (q := 0) d_R_allowSet_105 rfl rfl ?_
      refine gG C (v := .int (iI (x 2 2))) 2 6 u_R k_78 (cwo_2 _) rfl (by decide) rfl rfl d_R_allowSet_106 ?_
      refine g_icmp_gt C (tgt := 116) d_R_allowSet_109 rfl (by omega) (by omega) (fun h109_2 => ?_) (fun h109_2 => ?_)
      · refine g_iconst C d_R_allowSet_116 ?_
        exact g_zret C hA hr d_R_allowSet_117 (by decide) (by decide) (by omega) ⟨_, rfl, by omega, ⟨fun q => by first | exact ⟨hall, by assumption, by assumption⟩ | (exfalso; omega), fun q => by first | rfl | (exfalso; have := q.2.1; have := q.2.2; omega)⟩, rfl⟩
      · refine g_iconst C d_R_allowSet_112 ?_
        refine g_goto C (tgt := 117) d_R_allowSet_113 rfl ?_
        exact g_zret C hA hr d_R_allowSet_117 (by decide) (by decide) (by omega) ⟨_, rfl, by omega, ⟨fun q => by first | exact ⟨hall, by assumption, by assumption⟩ | (exfalso; omega), fun q => by first | rfl | (exfalso; have := q.2.1; have := q.2.2; omega)⟩, rfl⟩
  · exact g_zret C hA hr d_R_allowSet_83 (by decide) (by decide) (by omega) ⟨_, rfl, by omega, ⟨fun q => by exfalso; omega, fun q => absurd q.1 hno⟩, rfl⟩
