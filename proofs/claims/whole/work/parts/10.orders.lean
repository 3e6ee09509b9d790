set_option maxRecDepth 100000 in
set_option maxHeartbeats 4000000 in
theorem m_S_pairIndex {l : Launch} {D : va_G} {cI cZ cJ : ClassId} {base : Nat} (a b : Int) : Cn l D cls9 (tyl cI cZ cJ) base (zz base) y_S_pairIndex (wz y_S_pairIndex c_S_pairIndex 2 (some FieldType.int)) ({ frames := 0, cells := 0, slots := 0, locals := 0 } : Room) [.int (iI a), .int (iI b)] [] (fun r w => r = some (a * 10 + b) ∧ w = []) 0 0 := by
  refine Cn_of (zzG base) (by decide) rfl (Nat.le_of_ble_eq_true rfl) ?_
  intro p e s m args below meth c A C hr hA hnm
  have C : gC p s m args meth c D cls9 (tyl cI cZ cJ) A c_S_pairIndex 2 "BatchSavings" (wz y_S_pairIndex c_S_pairIndex 2 (some FieldType.int)) base (zz base) := C
  refine g_lve (lv' := [(0, .int (iI a)), (1, .int (iI b))]) rfl ?_
  refine g_iload_n C (q := 0) d_S_pairIndex_0 rfl rfl ?_
  refine g_bipush C d_S_pairIndex_1 rfl ?_
  refine g_imul C d_S_pairIndex_3 ?_
  refine g_iload_n C (q := 1) d_S_pairIndex_4 rfl rfl ?_
  refine g_iadd C d_S_pairIndex_5 ?_
  exact g_iret C hA hr d_S_pairIndex_6 (by decide) (by decide) ⟨rfl, rfl⟩
def sv (x : Bk) (a b : Int) : Int := if x 9 (a * 10 + b) = -1 then 0 else x 5 a + x 5 b - x 9 (a * 10 + b)
/-- the numbers that orders have are in their ranges -/
def okO (x : Bk) : Prop := (0 ≤ x 1 0 ∧ x 1 0 ≤ 10) ∧ (∀ i, 0 ≤ i → i < 10 → 0 ≤ x 5 i ∧ x 5 i ≤ 10000) ∧ (∀ i, 0 ≤ i → i < 10 → 0 ≤ x 6 i ∧ x 6 i ≤ 100) ∧ (∀ i, 0 ≤ i → i < 10 → 0 ≤ x 7 i ∧ x 7 i ≤ 3) ∧ (∀ i, 0 ≤ i → i < 10 → 0 ≤ x 8 i ∧ x 8 i ≤ 1000) ∧ (∀ i, 0 ≤ i → i < 100 → -1 ≤ x 9 i ∧ x 9 i ≤ 20000)
set_option maxRecDepth 100000 in
set_option maxHeartbeats 4000000 in
theorem m_O_savingOf {l : Launch} {D : va_G} {cI cZ cJ : ClassId} {base : Nat} {ad : Nat → Nat} (x : Bk) (a b : Int) (ha : 0 ≤ a ∧ a < 10) (hb : 0 ≤ b ∧ b < 10) (h9 : InR (x 9 (a * 10 + b))) : Cn l D cls9 (tyl cI cZ cJ) base (zz base) y_O_savingOf (wz y_O_savingOf c_O_savingOf 4 (some FieldType.int)) ({ frames := 1, cells := 0, slots := 0, locals := 21 } : Room) [.ref (ad 1), .int (iI a), .int (iI b)] (cw ad cI cZ x) (fun r w => r = some (sv x a b) ∧ w = cw ad cI cZ x) 0 0 := by
  refine Cn_of (zzG base) (by decide) rfl (Nat.le_of_ble_eq_true rfl) ?_
  intro p e s m args below meth c A C hr hA hnm
  have C : gC p s m args meth c D cls9 (tyl cI cZ cJ) A c_O_savingOf 4 "BatchSavings$Orders" (wz y_O_savingOf c_O_savingOf 4 (some FieldType.int)) base (zz base) := C
  refine g_lve (lv' := [(0, .ref (ad 1)), (1, .int (iI a)), (2, .int (iI b))]) rfl ?_
  refine g_aload_n C (q := 0) d_O_savingOf_0 rfl rfl ?_
  refine gG C (v := .ref (ad 9)) 1 4 u_O k_45 (cwo_1 _) rfl (by decide) rfl rfl d_O_savingOf_1 ?_
  refine g_iload_n C (q := 1) d_O_savingOf_4 rfl rfl ?_
  refine g_iload_n C (q := 2) d_O_savingOf_5 rfl rfl ?_
  refine gSN0 C (st := [.ref (ad 9)]) (m_S_pairIndex a b) k_190 kn_188 k_189 k_1 ho_S_pairIndex rfl rfl ⟨by decide, by decide⟩ rfl rfl (Nat.le_of_ble_eq_true rfl) d_O_savingOf_6 ⟨by decide, by decide⟩ (fun r w hq => ?_)
  obtain ⟨rfl, rfl⟩ := hq
  refine g_eq (ws' := cw ad cI cZ x) (lv' := [(0, .ref (ad 1)), (1, .int (iI a)), (2, .int (iI b))]) (pc' := 9) (st' := [.int (iI (a * 10 + b)), .ref (ad 9)]) rfl rfl rfl rfl ?_
  refine g_iald C 9 0 (cwa_9 _) rfl (by decide) (by omega) d_O_savingOf_9 ?_
  refine g_st (st' := [.int (iI (x 9 (a * 10 + b)))]) rfl ?_
  refine g_istore_n C (lv' := [(0, .ref (ad 1)), (1, .int (iI a)), (2, .int (iI b)), (3, .int (iI (x 9 (a * 10 + b))))]) d_O_savingOf_10 rfl (by decide) rfl rfl ?_
  refine g_iload_n C (q := 3) d_O_savingOf_11 rfl rfl ?_
  refine g_iconst C d_O_savingOf_12 ?_
  refine g_icmp_ne C (tgt := 20) d_O_savingOf_13 rfl (by omega) (by omega) (fun h13_1 => ?_) (fun h13_1 => ?_)
  · refine g_aload_n C (q := 0) d_O_savingOf_20 rfl rfl ?_
    refine gG C (v := .ref (ad 5)) 1 0 u_O k_35 (cwo_1 _) rfl (by decide) rfl rfl d_O_savingOf_21 ?_
    refine g_iload_n C (q := 1) d_O_savingOf_24 rfl rfl ?_
    refine g_iald C 5 0 (cwa_5 _) rfl (by decide) (by omega) d_O_savingOf_25 ?_
    refine g_st (st' := [.int (iI (x 5 a))]) rfl ?_
    refine g_aload_n C (q := 0) d_O_savingOf_26 rfl rfl ?_
    refine gG C (v := .ref (ad 5)) 1 0 u_O k_35 (cwo_1 _) rfl (by decide) rfl rfl d_O_savingOf_27 ?_
    refine g_iload_n C (q := 2) d_O_savingOf_30 rfl rfl ?_
    refine g_iald C 5 0 (cwa_5 _) rfl (by decide) (by omega) d_O_savingOf_31 ?_
    refine g_st (st' := [.int (iI (x 5 b)), .int (iI (x 5 a))]) rfl ?_
    refine g_iadd C d_O_savingOf_32 ?_
    refine g_iload_n C (q := 3) d_O_savingOf_33 rfl rfl ?_
    refine g_isub C d_O_savingOf_34 ?_
    exact g_iret C hA hr d_O_savingOf_35 (by decide) (by decide) ⟨by unfold sv; simp [*], rfl⟩
  · refine g_iconst C d_O_savingOf_16 ?_
    refine g_goto C (tgt := 35) d_O_savingOf_17 rfl ?_
    exact g_iret C hA hr d_O_savingOf_35 (by decide) (by decide) ⟨by unfold sv; simp [*], rfl⟩
set_option maxRecDepth 100000 in
set_option maxHeartbeats 4000000 in
theorem m_O_has {l : Launch} {D : va_G} {cI cZ cJ : ClassId} {base : Nat} {ad : Nat → Nat} (x : Bk) (a : Int) (ha : InR a) (hn : InR (x 1 0)) : Cn l D cls9 (tyl cI cZ cJ) base (zz base) y_O_has (wz y_O_has c_O_has 2 (some FieldType.boolean)) ({ frames := 0, cells := 0, slots := 0, locals := 0 } : Room) [.ref (ad 1), .int (iI a)] (cw ad cI cZ x) (fun r w => r = some (b01 (0 ≤ a ∧ a < x 1 0)) ∧ w = cw ad cI cZ x) 0 0 := by
  refine Cn_of (zzG base) (by decide) rfl (Nat.le_of_ble_eq_true rfl) ?_
  intro p e s m args below meth c A C hr hA hnm
  have C : gC p s m args meth c D cls9 (tyl cI cZ cJ) A c_O_has 2 "BatchSavings$Orders" (wz y_O_has c_O_has 2 (some FieldType.boolean)) base (zz base) := C
  refine g_lve (lv' := [(0, .ref (ad 1)), (1, .int (iI a))]) rfl ?_
  refine g_iload_n C (q := 1) d_O_has_0 rfl rfl ?_
  refine g_if_lt C (tgt := 16) d_O_has_1 rfl (by omega) (fun h1_1 => ?_) (fun h1_1 => ?_)
  · refine g_iconst C d_O_has_16 ?_
    exact g_zret C hA hr d_O_has_17 (by decide) (by decide) (by omega) ⟨congrArg some (by unfold b01; first | rw [if_pos (by omega)] | rw [if_neg (by omega)]), rfl⟩
  · refine g_iload_n C (q := 1) d_O_has_4 rfl rfl ?_
    refine g_aload_n C (q := 0) d_O_has_5 rfl rfl ?_
    refine gG C (v := .int (iI (x 1 0))) 1 5 u_O k_46 (cwo_1 _) rfl (by decide) rfl rfl d_O_has_6 ?_
    refine g_icmp_ge C (tgt := 16) d_O_has_9 rfl (by omega) (by omega) (fun h9_2 => ?_) (fun h9_2 => ?_)
    · refine g_iconst C d_O_has_16 ?_
      exact g_zret C hA hr d_O_has_17 (by decide) (by decide) (by omega) ⟨congrArg some (by unfold b01; first | rw [if_pos (by omega)] | rw [if_neg (by omega)]), rfl⟩
    · refine g_iconst C d_O_has_12 ?_
      refine g_goto C (tgt := 17) d_O_has_13 rfl ?_
      exact g_zret C hA hr d_O_has_17 (by decide) (by decide) (by omega) ⟨congrArg some (by unfold b01; first | rw [if_pos (by omega)] | rw [if_neg (by omega)]), rfl⟩
set_option maxRecDepth 100000 in
set_option maxHeartbeats 4000000 in
theorem m_O_putTogether {l : Launch} {D : va_G} {cI cZ cJ : ClassId} {base : Nat} {ad : Nat → Nat} (x : Bk) (a b v : Int) (ha : 0 ≤ a ∧ a < 10) (hb : 0 ≤ b ∧ b < 10) : Cn l D cls9 (tyl cI cZ cJ) base (zz base) y_O_putTogether (wz y_O_putTogether c_O_putTogether 4 none) ({ frames := 1, cells := 0, slots := 0, locals := 21 } : Room) [.ref (ad 1), .int (iI a), .int (iI b), .int (iI v)] (cw ad cI cZ x) (fun r w => r = none ∧ w = cw ad cI cZ (bu x 9 (updI (updI (x 9) (a * 10 + b) v) (b * 10 + a) v))) 0 0 := by
  refine Cn_of (zzG base) (by decide) rfl (Nat.le_of_ble_eq_true rfl) ?_
  intro p e s m args below meth c A C hr hA hnm
  have C : gC p s m args meth c D cls9 (tyl cI cZ cJ) A c_O_putTogether 4 "BatchSavings$Orders" (wz y_O_putTogether c_O_putTogether 4 none) base (zz base) := C
  refine g_lve (lv' := [(0, .ref (ad 1)), (1, .int (iI a)), (2, .int (iI b)), (3, .int (iI v))]) rfl ?_
  refine g_aload_n C (q := 0) d_O_putTogether_0 rfl rfl ?_
  refine gG C (v := .ref (ad 9)) 1 4 u_O k_45 (cwo_1 _) rfl (by decide) rfl rfl d_O_putTogether_1 ?_
  refine g_iload_n C (q := 1) d_O_putTogether_4 rfl rfl ?_
  refine g_iload_n C (q := 2) d_O_putTogether_5 rfl rfl ?_
  refine gSN0 C (st := [.ref (ad 9)]) (m_S_pairIndex a b) k_190 kn_188 k_189 k_1 ho_S_pairIndex rfl rfl ⟨by decide, by decide⟩ rfl rfl (Nat.le_of_ble_eq_true rfl) d_O_putTogether_6 ⟨by decide, by decide⟩ (fun r w hq => ?_)
  obtain ⟨rfl, rfl⟩ := hq
  refine g_eq (ws' := cw ad cI cZ x) (lv' := [(0, .ref (ad 1)), (1, .int (iI a)), (2, .int (iI b)), (3, .int (iI v))]) (pc' := 9) (st' := [.int (iI (a * 10 + b)), .ref (ad 9)]) rfl rfl rfl rfl ?_
  refine g_iload_n C (q := 3) d_O_putTogether_9 rfl rfl ?_
  refine g_iast C 9 0 (cwa_9 _) rfl (by decide) (by omega) d_O_putTogether_10 (cws_9 _ _) ?_
  refine g_ws (ws' := cw ad cI cZ (bu x 9 (updI (x 9) (a * 10 + b) v))) rfl ?_
  refine g_aload_n C (q := 0) d_O_putTogether_11 rfl rfl ?_
  refine gG C (v := .ref (ad 9)) 1 4 u_O k_45 (cwo_1 _) rfl (by decide) rfl rfl d_O_putTogether_12 ?_
  refine g_iload_n C (q := 2) d_O_putTogether_15 rfl rfl ?_
  refine g_iload_n C (q := 1) d_O_putTogether_16 rfl rfl ?_
  refine gSN0 C (st := [.ref (ad 9)]) (m_S_pairIndex b a) k_190 kn_188 k_189 k_1 ho_S_pairIndex rfl rfl ⟨by decide, by decide⟩ rfl rfl (Nat.le_of_ble_eq_true rfl) d_O_putTogether_17 ⟨by decide, by decide⟩ (fun r w hq => ?_)
  obtain ⟨rfl, rfl⟩ := hq
  refine g_eq (ws' := cw ad cI cZ (bu x 9 (updI (x 9) (a * 10 + b) v))) (lv' := [(0, .ref (ad 1)), (1, .int (iI a)), (2, .int (iI b)), (3, .int (iI v))]) (pc' := 20) (st' := [.int (iI (b * 10 + a)), .ref (ad 9)]) rfl rfl rfl rfl ?_
  refine g_iload_n C (q := 3) d_O_putTogether_20 rfl rfl ?_
  refine g_iast C 9 0 (cwa_9 _) rfl (by decide) (by omega) d_O_putTogether_21 (cws_9 _ _) ?_
  refine g_ws (ws' := cw ad cI cZ (bu (bu x 9 (updI (x 9) (a * 10 + b) v)) 9 (updI (updI (x 9) (a * 10 + b) v) (b * 10 + a) v))) rfl ?_
  exact g_vret C hA hr d_O_putTogether_22 (by decide) (by decide) ⟨rfl, rfl⟩
set_option maxRecDepth 100000 in
set_option maxHeartbeats 4000000 in
theorem m_O_add {l : Launch} {D : va_G} {cI cZ cJ : ClassId} {base : Nat} {ad : Nat → Nat} (x : Bk) (a b v : Int) (hn : 0 ≤ x 1 0 ∧ x 1 0 < 10) : Cn l D cls9 (tyl cI cZ cJ) base (zz base) y_O_add (wz y_O_add c_O_add 5 (some FieldType.int)) ({ frames := 0, cells := 0, slots := 0, locals := 0 } : Room) [.ref (ad 1), .int (iI a), .int (iI b), .int (iI v)] (cw ad cI cZ x) (fun r w => r = some (x 1 0) ∧ w = cw ad cI cZ (bu (bu (bu (bu x 5 (updI (x 5) (x 1 0) a)) 6 (updI (x 6) (x 1 0) b)) 7 (updI (x 7) (x 1 0) v)) 1 (updI (x 1) 0 (x 1 0 + 1)))) 0 0 := by
  refine Cn_of (zzG base) (by decide) rfl (Nat.le_of_ble_eq_true rfl) ?_
  intro p e s m args below meth c A C hr hA hnm
  have C : gC p s m args meth c D cls9 (tyl cI cZ cJ) A c_O_add 5 "BatchSavings$Orders" (wz y_O_add c_O_add 5 (some FieldType.int)) base (zz base) := C
  refine g_lve (lv' := [(0, .ref (ad 1)), (1, .int (iI a)), (2, .int (iI b)), (3, .int (iI v))]) rfl ?_
  refine g_aload_n C (q := 0) d_O_add_0 rfl rfl ?_
  refine gG C (v := .int (iI (x 1 0))) 1 5 u_O k_46 (cwo_1 _) rfl (by decide) rfl rfl d_O_add_1 ?_
  refine g_istore C (lv' := [(0, .ref (ad 1)), (1, .int (iI a)), (2, .int (iI b)), (3, .int (iI v)), (4, .int (iI (x 1 0)))]) d_O_add_4 (by decide) rfl rfl ?_
  refine g_aload_n C (q := 0) d_O_add_6 rfl rfl ?_
  refine gG C (v := .ref (ad 5)) 1 0 u_O k_35 (cwo_1 _) rfl (by decide) rfl rfl d_O_add_7 ?_
  refine g_iload C (q := 4) d_O_add_10 rfl ?_
  refine g_iload_n C (q := 1) d_O_add_12 rfl rfl ?_
  refine g_iast C 5 0 (cwa_5 _) rfl (by decide) (by omega) d_O_add_13 (cws_5 _ _) ?_
  refine g_ws (ws' := cw ad cI cZ (bu x 5 (updI (x 5) (x 1 0) a))) rfl ?_
  refine g_aload_n C (q := 0) d_O_add_14 rfl rfl ?_
  refine gG C (v := .ref (ad 6)) 1 1 u_O k_37 (cwo_1 _) rfl (by decide) rfl rfl d_O_add_15 ?_
  refine g_iload C (q := 4) d_O_add_18 rfl ?_
  refine g_iload_n C (q := 2) d_O_add_20 rfl rfl ?_
  refine g_iast C 6 0 (cwa_6 _) rfl (by decide) (by omega) d_O_add_21 (cws_6 _ _) ?_
  refine g_ws (ws' := cw ad cI cZ (bu (bu x 5 (updI (x 5) (x 1 0) a)) 6 (updI (x 6) (x 1 0) b))) rfl ?_
  refine g_aload_n C (q := 0) d_O_add_22 rfl rfl ?_
  refine gG C (v := .ref (ad 7)) 1 2 u_O k_40 (cwo_1 _) rfl (by decide) rfl rfl d_O_add_23 ?_
  refine g_iload C (q := 4) d_O_add_26 rfl ?_
  refine g_iload_n C (q := 3) d_O_add_28 rfl rfl ?_
  refine g_iast C 7 0 (cwa_7 _) rfl (by decide) (by omega) d_O_add_29 (cws_7 _ _) ?_
  refine g_ws (ws' := cw ad cI cZ (bu (bu (bu x 5 (updI (x 5) (x 1 0) a)) 6 (updI (x 6) (x 1 0) b)) 7 (updI (x 7) (x 1 0) v))) rfl ?_
  refine g_aload_n C (q := 0) d_O_add_30 rfl rfl ?_
  refine g_dup C d_O_add_31 rfl ?_
  refine gG C (v := .int (iI (x 1 0))) 1 5 u_O k_46 (cwo_1 _) rfl (by decide) rfl rfl d_O_add_32 ?_
  refine g_iconst C d_O_add_35 ?_
  refine g_iadd C d_O_add_36 ?_
  refine gP C 1 5 t_O to_O n_O u_O k_46 (cwo_1 _) rfl (by decide) rfl rfl rfl rfl rfl (Nat.le_of_ble_eq_true rfl) d_O_add_37 (cwf_1_5 _ _) ?_
  refine g_ws (ws' := cw ad cI cZ (bu (bu (bu (bu x 5 (updI (x 5) (x 1 0) a)) 6 (updI (x 6) (x 1 0) b)) 7 (updI (x 7) (x 1 0) v)) 1 (updI (x 1) 0 ((x 1 0) + 1)))) rfl ?_
  refine g_iload C (q := 4) d_O_add_40 rfl ?_
  exact g_iret C hA hr d_O_add_42 (by decide) (by decide) ⟨rfl, rfl⟩
