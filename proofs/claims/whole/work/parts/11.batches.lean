set_option maxRecDepth 100000 in
set_option maxHeartbeats 4000000 in
theorem m_B_has {l : Launch} {D : va_G} {cI cZ cJ : ClassId} {base : Nat} {ad : Nat → Nat} (x : Bk) (a : Int) (ha : InR a) (hn : InR (x 3 0)) : Cn l D cls9 (tyl cI cZ cJ) base (zz base) y_B_has (wz y_B_has c_B_has 2 (some FieldType.boolean)) ({ frames := 0, cells := 0, slots := 0, locals := 0 } : Room) [.ref (ad 3), .int (iI a)] (cw ad cI cZ x) (fun r w => r = some (b01 (0 ≤ a ∧ a < x 3 0)) ∧ w = cw ad cI cZ x) 0 0 := by
  refine Cn_of (zzG base) (by decide) rfl (Nat.le_of_ble_eq_true rfl) ?_
  intro p e s m args below meth c A C hr hA hnm
  have C : gC p s m args meth c D cls9 (tyl cI cZ cJ) A c_B_has 2 "BatchSavings$Batches" (wz y_B_has c_B_has 2 (some FieldType.boolean)) base (zz base) := C
  refine g_lve (lv' := [(0, .ref (ad 3)), (1, .int (iI a))]) rfl ?_
  refine g_iload_n C (q := 1) d_B_has_0 rfl rfl ?_
  refine g_if_lt C (tgt := 16) d_B_has_1 rfl (by omega) (fun h1_1 => ?_) (fun h1_1 => ?_)
  · refine g_iconst C d_B_has_16 ?_
    exact g_zret C hA hr d_B_has_17 (by decide) (by decide) (by omega) ⟨congrArg some (by unfold b01; first | rw [if_pos (by omega)] | rw [if_neg (by omega)]), rfl⟩
  · refine g_iload_n C (q := 1) d_B_has_4 rfl rfl ?_
    refine g_aload_n C (q := 0) d_B_has_5 rfl rfl ?_
    refine gG C (v := .int (iI (x 3 0))) 3 4 u_B k_109 (cwo_3 _) rfl (by decide) rfl rfl d_B_has_6 ?_
    refine g_icmp_ge C (tgt := 16) d_B_has_9 rfl (by omega) (by omega) (fun h9_2 => ?_) (fun h9_2 => ?_)
    · refine g_iconst C d_B_has_16 ?_
      exact g_zret C hA hr d_B_has_17 (by decide) (by decide) (by omega) ⟨congrArg some (by unfold b01; first | rw [if_pos (by omega)] | rw [if_neg (by omega)]), rfl⟩
    · refine g_iconst C d_B_has_12 ?_
      refine g_goto C (tgt := 17) d_B_has_13 rfl ?_
      exact g_zret C hA hr d_B_has_17 (by decide) (by decide) (by omega) ⟨congrArg some (by unfold b01; first | rw [if_pos (by omega)] | rw [if_neg (by omega)]), rfl⟩
set_option maxRecDepth 100000 in
set_option maxHeartbeats 4000000 in
theorem m_B_isFull {l : Launch} {D : va_G} {cI cZ cJ : ClassId} {base : Nat} {ad : Nat → Nat} (x : Bk) (b : Int) (hb : 0 ≤ b ∧ b < 10) (hl : InR (x 14 b)) : Cn l D cls9 (tyl cI cZ cJ) base (zz base) y_B_isFull (wz y_B_isFull c_B_isFull 2 (some FieldType.boolean)) ({ frames := 0, cells := 0, slots := 0, locals := 0 } : Room) [.ref (ad 3), .int (iI b)] (cw ad cI cZ x) (fun r w => r = some (b01 (4 ≤ x 14 b)) ∧ w = cw ad cI cZ x) 0 0 := by
  refine Cn_of (zzG base) (by decide) rfl (Nat.le_of_ble_eq_true rfl) ?_
  intro p e s m args below meth c A C hr hA hnm
  have C : gC p s m args meth c D cls9 (tyl cI cZ cJ) A c_B_isFull 2 "BatchSavings$Batches" (wz y_B_isFull c_B_isFull 2 (some FieldType.boolean)) base (zz base) := C
  refine g_lve (lv' := [(0, .ref (ad 3)), (1, .int (iI b))]) rfl ?_
  refine g_aload_n C (q := 0) d_B_isFull_0 rfl rfl ?_
  refine gG C (v := .ref (ad 14)) 3 2 u_B k_105 (cwo_3 _) rfl (by decide) rfl rfl d_B_isFull_1 ?_
  refine g_iload_n C (q := 1) d_B_isFull_4 rfl rfl ?_
  refine g_iald C 14 0 (cwa_14 _) rfl (by decide) (by omega) d_B_isFull_5 ?_
  refine g_st (st' := [.int (iI (x 14 b))]) rfl ?_
  refine g_iconst C d_B_isFull_6 ?_
  refine g_icmp_lt C (tgt := 14) d_B_isFull_7 rfl (by omega) (by omega) (fun h7_1 => ?_) (fun h7_1 => ?_)
  · refine g_iconst C d_B_isFull_14 ?_
    exact g_zret C hA hr d_B_isFull_15 (by decide) (by decide) (by omega) ⟨congrArg some (by unfold b01; first | rw [if_pos (by omega)] | rw [if_neg (by omega)]), rfl⟩
  · refine g_iconst C d_B_isFull_10 ?_
    refine g_goto C (tgt := 15) d_B_isFull_11 rfl ?_
    exact g_zret C hA hr d_B_isFull_15 (by decide) (by decide) (by omega) ⟨congrArg some (by unfold b01; first | rw [if_pos (by omega)] | rw [if_neg (by omega)]), rfl⟩
set_option maxRecDepth 100000 in
set_option maxHeartbeats 4000000 in
theorem m_B_isFree {l : Launch} {D : va_G} {cI cZ cJ : ClassId} {base : Nat} {ad : Nat → Nat} (x : Bk) (a : Int) (ha : 0 ≤ a ∧ a < 10) (hh : InR (x 15 a)) : Cn l D cls9 (tyl cI cZ cJ) base (zz base) y_B_isFree (wz y_B_isFree c_B_isFree 2 (some FieldType.boolean)) ({ frames := 0, cells := 0, slots := 0, locals := 0 } : Room) [.ref (ad 3), .int (iI a)] (cw ad cI cZ x) (fun r w => r = some (b01 (x 15 a = -1)) ∧ w = cw ad cI cZ x) 0 0 := by
  refine Cn_of (zzG base) (by decide) rfl (Nat.le_of_ble_eq_true rfl) ?_
  intro p e s m args below meth c A C hr hA hnm
  have C : gC p s m args meth c D cls9 (tyl cI cZ cJ) A c_B_isFree 2 "BatchSavings$Batches" (wz y_B_isFree c_B_isFree 2 (some FieldType.boolean)) base (zz base) := C
  refine g_lve (lv' := [(0, .ref (ad 3)), (1, .int (iI a))]) rfl ?_
  refine g_aload_n C (q := 0) d_B_isFree_0 rfl rfl ?_
  refine gG C (v := .ref (ad 15)) 3 3 u_B k_107 (cwo_3 _) rfl (by decide) rfl rfl d_B_isFree_1 ?_
  refine g_iload_n C (q := 1) d_B_isFree_4 rfl rfl ?_
  refine g_iald C 15 0 (cwa_15 _) rfl (by decide) (by omega) d_B_isFree_5 ?_
  refine g_st (st' := [.int (iI (x 15 a))]) rfl ?_
  refine g_iconst C d_B_isFree_6 ?_
  refine g_icmp_ne C (tgt := 14) d_B_isFree_7 rfl (by omega) (by omega) (fun h7_1 => ?_) (fun h7_1 => ?_)
  · refine g_iconst C d_B_isFree_14 ?_
    exact g_zret C hA hr d_B_isFree_15 (by decide) (by decide) (by omega) ⟨congrArg some (by unfold b01; first | rw [if_pos (by omega)] | rw [if_neg (by omega)]), rfl⟩
  · refine g_iconst C d_B_isFree_10 ?_
    refine g_goto C (tgt := 15) d_B_isFree_11 rfl ?_
    exact g_zret C hA hr d_B_isFree_15 (by decide) (by decide) (by omega) ⟨congrArg some (by unfold b01; first | rw [if_pos (by omega)] | rw [if_neg (by omega)]), rfl⟩
set_option maxRecDepth 100000 in
set_option maxHeartbeats 4000000 in
theorem m_B_orderAt {l : Launch} {D : va_G} {cI cZ cJ : ClassId} {base : Nat} {ad : Nat → Nat} (x : Bk) (b i : Int) (hb : 0 ≤ b * 4 + i ∧ b * 4 + i < 40) : Cn l D cls9 (tyl cI cZ cJ) base (zz base) y_B_orderAt (wz y_B_orderAt c_B_orderAt 3 (some FieldType.int)) ({ frames := 0, cells := 0, slots := 0, locals := 0 } : Room) [.ref (ad 3), .int (iI b), .int (iI i)] (cw ad cI cZ x) (fun r w => r = some (x 13 (b * 4 + i)) ∧ w = cw ad cI cZ x) 0 0 := by
  refine Cn_of (zzG base) (by decide) rfl (Nat.le_of_ble_eq_true rfl) ?_
  intro p e s m args below meth c A C hr hA hnm
  have C : gC p s m args meth c D cls9 (tyl cI cZ cJ) A c_B_orderAt 3 "BatchSavings$Batches" (wz y_B_orderAt c_B_orderAt 3 (some FieldType.int)) base (zz base) := C
  refine g_lve (lv' := [(0, .ref (ad 3)), (1, .int (iI b)), (2, .int (iI i))]) rfl ?_
  refine g_aload_n C (q := 0) d_B_orderAt_0 rfl rfl ?_
  refine gG C (v := .ref (ad 13)) 3 1 u_B k_104 (cwo_3 _) rfl (by decide) rfl rfl d_B_orderAt_1 ?_
  refine g_iload_n C (q := 1) d_B_orderAt_4 rfl rfl ?_
  refine g_iconst C d_B_orderAt_5 ?_
  refine g_imul C d_B_orderAt_6 ?_
  refine g_iload_n C (q := 2) d_B_orderAt_7 rfl rfl ?_
  refine g_iadd C d_B_orderAt_8 ?_
  refine g_iald C 13 0 (cwa_13 _) rfl (by decide) (by omega) d_B_orderAt_9 ?_
  refine g_st (st' := [.int (iI (x 13 ((b * 4) + i)))]) rfl ?_
  exact g_iret C hA hr d_B_orderAt_10 (by decide) (by decide) ⟨rfl, rfl⟩
set_option maxRecDepth 100000 in
set_option maxHeartbeats 4000000 in
theorem m_B_addEmpty {l : Launch} {D : va_G} {cI cZ cJ : ClassId} {base : Nat} {ad : Nat → Nat} (x : Bk)  : Cn l D cls9 (tyl cI cZ cJ) base (zz base) y_B_addEmpty (wz y_B_addEmpty c_B_addEmpty 2 (some FieldType.int)) ({ frames := 0, cells := 0, slots := 0, locals := 0 } : Room) [.ref (ad 3)] (cw ad cI cZ x) (fun r w => r = some (x 3 0) ∧ w = cw ad cI cZ (bu x 3 (updI (x 3) 0 (x 3 0 + 1)))) 0 0 := by
  refine Cn_of (zzG base) (by decide) rfl (Nat.le_of_ble_eq_true rfl) ?_
  intro p e s m args below meth c A C hr hA hnm
  have C : gC p s m args meth c D cls9 (tyl cI cZ cJ) A c_B_addEmpty 2 "BatchSavings$Batches" (wz y_B_addEmpty c_B_addEmpty 2 (some FieldType.int)) base (zz base) := C
  refine g_lve (lv' := [(0, .ref (ad 3))]) rfl ?_
  refine g_aload_n C (q := 0) d_B_addEmpty_0 rfl rfl ?_
  refine gG C (v := .int (iI (x 3 0))) 3 4 u_B k_109 (cwo_3 _) rfl (by decide) rfl rfl d_B_addEmpty_1 ?_
  refine g_istore_n C (lv' := [(0, .ref (ad 3)), (1, .int (iI (x 3 0)))]) d_B_addEmpty_4 rfl (by decide) rfl rfl ?_
  refine g_aload_n C (q := 0) d_B_addEmpty_5 rfl rfl ?_
  refine g_dup C d_B_addEmpty_6 rfl ?_
  refine gG C (v := .int (iI (x 3 0))) 3 4 u_B k_109 (cwo_3 _) rfl (by decide) rfl rfl d_B_addEmpty_7 ?_
  refine g_iconst C d_B_addEmpty_10 ?_
  refine g_iadd C d_B_addEmpty_11 ?_
  refine gP C 3 4 t_B to_B n_B u_B k_109 (cwo_3 _) rfl (by decide) rfl rfl rfl rfl rfl (Nat.le_of_ble_eq_true rfl) d_B_addEmpty_12 (cwf_3_4 _ _) ?_
  refine g_ws (ws' := cw ad cI cZ (bu x 3 (updI (x 3) 0 ((x 3 0) + 1)))) rfl ?_
  refine g_iload_n C (q := 1) d_B_addEmpty_15 rfl rfl ?_
  exact g_iret C hA hr d_B_addEmpty_16 (by decide) (by decide) ⟨rfl, rfl⟩
set_option maxRecDepth 100000 in
set_option maxHeartbeats 4000000 in
theorem m_B_put {l : Launch} {D : va_G} {cI cZ cJ : ClassId} {base : Nat} {ad : Nat → Nat} (x : Bk) (a b : Int) (ha : 0 ≤ a ∧ a < 10) (hb : 0 ≤ b ∧ b < 10) (hl : 0 ≤ x 14 b ∧ x 14 b < 4) : Cn l D cls9 (tyl cI cZ cJ) base (zz base) y_B_put (wz y_B_put c_B_put 3 none) ({ frames := 0, cells := 0, slots := 0, locals := 0 } : Room) [.ref (ad 3), .int (iI a), .int (iI b)] (cw ad cI cZ x) (fun r w => r = none ∧ w = cw ad cI cZ (bu (bu (bu x 13 (updI (x 13) (b * 4 + x 14 b) a)) 14 (updI (x 14) b (x 14 b + 1))) 15 (updI (x 15) a b))) 0 0 := by
  refine Cn_of (zzG base) (by decide) rfl (Nat.le_of_ble_eq_true rfl) ?_
  intro p e s m args below meth c A C hr hA hnm
  have C : gC p s m args meth c D cls9 (tyl cI cZ cJ) A c_B_put 3 "BatchSavings$Batches" (wz y_B_put c_B_put 3 none) base (zz base) := C
  refine g_lve (lv' := [(0, .ref (ad 3)), (1, .int (iI a)), (2, .int (iI b))]) rfl ?_
  refine g_aload_n C (q := 0) d_B_put_0 rfl rfl ?_
  refine gG C (v := .ref (ad 13)) 3 1 u_B k_104 (cwo_3 _) rfl (by decide) rfl rfl d_B_put_1 ?_
  refine g_iload_n C (q := 2) d_B_put_4 rfl rfl ?_
  refine g_iconst C d_B_put_5 ?_
  refine g_imul C d_B_put_6 ?_
  refine g_aload_n C (q := 0) d_B_put_7 rfl rfl ?_
  refine gG C (v := .ref (ad 14)) 3 2 u_B k_105 (cwo_3 _) rfl (by decide) rfl rfl d_B_put_8 ?_
  refine g_iload_n C (q := 2) d_B_put_11 rfl rfl ?_
  refine g_iald C 14 0 (cwa_14 _) rfl (by decide) (by omega) d_B_put_12 ?_
  refine g_st (st' := [.int (iI (x 14 b)), .int (iI (b * 4)), .ref (ad 13)]) rfl ?_
  refine g_iadd C d_B_put_13 ?_
  refine g_iload_n C (q := 1) d_B_put_14 rfl rfl ?_
  refine g_iast C 13 0 (cwa_13 _) rfl (by decide) (by omega) d_B_put_15 (cws_13 _ _) ?_
  refine g_ws (ws' := cw ad cI cZ (bu x 13 (updI (x 13) ((b * 4) + (x 14 b)) a))) rfl ?_
  refine g_aload_n C (q := 0) d_B_put_16 rfl rfl ?_
  refine gG C (v := .ref (ad 14)) 3 2 u_B k_105 (cwo_3 _) rfl (by decide) rfl rfl d_B_put_17 ?_
  refine g_iload_n C (q := 2) d_B_put_20 rfl rfl ?_
  refine g_dup2 C d_B_put_21 rfl rfl ?_
  refine g_iald C 14 0 (cwa_14 _) rfl (by decide) (by omega) d_B_put_22 ?_
  refine g_st (st' := [.int (iI (x 14 b)), .int (iI b), .ref (ad 14)]) rfl ?_
  refine g_iconst C d_B_put_23 ?_
  refine g_iadd C d_B_put_24 ?_
  refine g_iast C 14 0 (cwa_14 _) rfl (by decide) (by omega) d_B_put_25 (cws_14 _ _) ?_
  refine g_ws (ws' := cw ad cI cZ (bu (bu x 13 (updI (x 13) ((b * 4) + (x 14 b)) a)) 14 (updI (x 14) b ((x 14 b) + 1)))) rfl ?_
  refine g_aload_n C (q := 0) d_B_put_26 rfl rfl ?_
  refine gG C (v := .ref (ad 15)) 3 3 u_B k_107 (cwo_3 _) rfl (by decide) rfl rfl d_B_put_27 ?_
  refine g_iload_n C (q := 1) d_B_put_30 rfl rfl ?_
  refine g_iload_n C (q := 2) d_B_put_31 rfl rfl ?_
  refine g_iast C 15 0 (cwa_15 _) rfl (by decide) (by omega) d_B_put_32 (cws_15 _ _) ?_
  refine g_ws (ws' := cw ad cI cZ (bu (bu (bu x 13 (updI (x 13) ((b * 4) + (x 14 b)) a)) 14 (updI (x 14) b ((x 14 b) + 1))) 15 (updI (x 15) a b))) rfl ?_
  exact g_vret C hA hr d_B_put_33 (by decide) (by decide) ⟨rfl, rfl⟩
def swl (x : Bk) (a b : Int) : Int := if x 14 b = 0 then 0 else sv x (x 13 (b * 4 + (x 14 b - 1))) a
set_option maxRecDepth 100000 in
set_option maxHeartbeats 4000000 in
theorem m_B_savingWithLast {l : Launch} {D : va_G} {cI cZ cJ : ClassId} {base : Nat} {ad : Nat → Nat} (x : Bk) (a b : Int) (ha : 0 ≤ a ∧ a < 10) (hb : 0 ≤ b ∧ b < 10) (hl : 0 ≤ x 14 b ∧ x 14 b ≤ 4) (hr13 : ∀ i, 0 ≤ i → i < 40 → 0 ≤ x 13 i ∧ x 13 i < 10) (h9 : ∀ i, 0 ≤ i → i < 100 → -1 ≤ x 9 i ∧ x 9 i ≤ 20000) : Cn l D cls9 (tyl cI cZ cJ) base (zz base) y_B_savingWithLast (wz y_B_savingWithLast c_B_savingWithLast 4 (some FieldType.int)) ({ frames := 2, cells := 0, slots := 0, locals := 44 } : Room) [.ref (ad 3), .int (iI a), .int (iI b)] (cw ad cI cZ x) (fun r w => r = some (swl x a b) ∧ w = cw ad cI cZ x) 0 0 := by
  refine Cn_of (zzG base) (by decide) rfl (Nat.le_of_ble_eq_true rfl) ?_
  intro p e s m args below meth c A C hr hA hnm
  have C : gC p s m args meth c D cls9 (tyl cI cZ cJ) A c_B_savingWithLast 4 "BatchSavings$Batches" (wz y_B_savingWithLast c_B_savingWithLast 4 (some FieldType.int)) base (zz base) := C
  refine g_lve (lv' := [(0, .ref (ad 3)), (1, .int (iI a)), (2, .int (iI b))]) rfl ?_
  refine g_aload_n C (q := 0) d_B_savingWithLast_0 rfl rfl ?_
  refine gG C (v := .ref (ad 14)) 3 2 u_B k_105 (cwo_3 _) rfl (by decide) rfl rfl d_B_savingWithLast_1 ?_
  refine g_iload_n C (q := 2) d_B_savingWithLast_4 rfl rfl ?_
  refine g_iald C 14 0 (cwa_14 _) rfl (by decide) (by omega) d_B_savingWithLast_5 ?_
  refine g_st (st' := [.int (iI (x 14 b))]) rfl ?_
  refine g_istore_n C (lv' := [(0, .ref (ad 3)), (1, .int (iI a)), (2, .int (iI b)), (3, .int (iI (x 14 b)))]) d_B_savingWithLast_6 rfl (by decide) rfl rfl ?_
  refine g_iload_n C (q := 3) d_B_savingWithLast_7 rfl rfl ?_
  refine g_if_ne C (tgt := 15) d_B_savingWithLast_8 rfl (by omega) (fun h8_1 => ?_) (fun h8_1 => ?_)
  · refine g_aload_n C (q := 0) d_B_savingWithLast_15 rfl rfl ?_
    refine gG C (v := .ref (ad 1)) 3 0 u_B k_103 (cwo_3 _) rfl (by decide) rfl rfl d_B_savingWithLast_16 ?_
    refine g_aload_n C (q := 0) d_B_savingWithLast_19 rfl rfl ?_
    refine g_iload_n C (q := 2) d_B_savingWithLast_20 rfl rfl ?_
    refine g_iload_n C (q := 3) d_B_savingWithLast_21 rfl rfl ?_
    refine g_iconst C d_B_savingWithLast_22 ?_
    refine g_isub C d_B_savingWithLast_23 ?_
    refine gV C (st := [.ref (ad 1)]) (m_B_orderAt x b ((x 14 b) - 1) (by omega)) k_541 k_548 k_540 kp_37 k_5 rfl ho_B_orderAt rfl rfl ⟨by decide, by decide⟩ 3 (cwo_3 _) rfl rfl rfl (Nat.le_of_ble_eq_true rfl) d_B_savingWithLast_24 ⟨by decide, by decide⟩ (fun r w hq => ?_)
    obtain ⟨rfl, rfl⟩ := hq
    refine g_eq (ws' := cw ad cI cZ x) (lv' := [(0, .ref (ad 3)), (1, .int (iI a)), (2, .int (iI b)), (3, .int (iI (x 14 b)))]) (pc' := 27) (st' := [.int (iI (x 13 (b * 4 + ((x 14 b) - 1)))), .ref (ad 1)]) rfl rfl rfl rfl ?_
    have h13 := hr13 (b * 4 + (x 14 b - 1)) (by omega) (by omega)
    have h99 := h9 (x 13 (b * 4 + (x 14 b - 1)) * 10 + a) (by omega) (by omega)
    refine g_iload_n C (q := 1) d_B_savingWithLast_27 rfl rfl ?_
    refine gVN C (st := []) (m_O_savingOf x (x 13 (b * 4 + ((x 14 b) - 1))) a (by omega) (by omega) (by omega)) k_187 kn_549 k_186 kp_4 k_2 ho_O_savingOf rfl rfl ⟨by decide, by decide⟩ 1 (cwo_1 _) rfl rfl rfl (Nat.le_of_ble_eq_true rfl) d_B_savingWithLast_28 ⟨by decide, by decide⟩ (fun r w hq => ?_)
    obtain ⟨rfl, rfl⟩ := hq
    refine g_eq (ws' := cw ad cI cZ x) (lv' := [(0, .ref (ad 3)), (1, .int (iI a)), (2, .int (iI b)), (3, .int (iI (x 14 b)))]) (pc' := 31) (st' := [.int (iI (sv x (x 13 (b * 4 + ((x 14 b) - 1))) a))]) rfl rfl rfl rfl ?_
    exact g_iret C hA hr d_B_savingWithLast_31 (by decide) (by decide) ⟨by unfold swl; simp [*], rfl⟩
  · refine g_iconst C d_B_savingWithLast_11 ?_
    refine g_goto C (tgt := 31) d_B_savingWithLast_12 rfl ?_
    exact g_iret C hA hr d_B_savingWithLast_31 (by decide) (by decide) ⟨by unfold swl; simp [*], rfl⟩
def frees (x : Bk) : Int := sg (fun i => b01 (x 15 i = -1)) (x 1 0).toNat
set_option maxRecDepth 100000 in
set_option maxHeartbeats 4000000 in
theorem lp_B_freeOrders {p : Program} {l : Launch} {e : Env} {s : State} {m : MethodId} {args : Array Value} {below : List Frame} {meth : Method} {c : Code} {D : va_G} {cI cZ cJ : ClassId} {base : Nat} {ad : Nat → Nat} {A : Nat → Prop} {Q : State → Prop} (C : gC p s m args meth c D cls9 (tyl cI cZ cJ) A c_B_freeOrders 3 "BatchSavings$Batches" (wz y_B_freeOrders c_B_freeOrders 3 (some FieldType.int)) base (zz base)) (x : Bk) (hn : 0 ≤ x 1 0 ∧ x 1 0 ≤ 10) (hh : ∀ i, 0 ≤ i → i < 10 → InR (x 15 i))
    (K : gW p l e ({ frames := 1, cells := 0, slots := 0, locals := 21 } : Room) s m args below meth c D cls9 A 3 0 0 Q (cw ad cI cZ x) [(0, .ref (ad 3)), (1, .int (iI (sg (fun i => b01 (x 15 i = -1)) ((x 1 0).toNat)))), (2, .int (iI ((x 1 0).toNat : Int)))] 32 []) : ∀ (d k : Nat), (k : Int) + (d : Int) = x 1 0 → gW p l e ({ frames := 1, cells := 0, slots := 0, locals := 21 } : Room) s m args below meth c D cls9 A 3 0 0 Q (cw ad cI cZ x) [(0, .ref (ad 3)), (1, .int (iI (sg (fun i => b01 (x 15 i = -1)) k))), (2, .int (iI (k : Int)))] 4 [] := by
  intro d
  induction d with
  | zero =>
    intro k hk
    refine g_iload_n C (q := 2) d_B_freeOrders_4 rfl rfl ?_
    refine g_aload_n C (q := 0) d_B_freeOrders_5 rfl rfl ?_
    refine gG C (v := .ref (ad 1)) 3 0 u_B k_103 (cwo_3 _) rfl (by decide) rfl rfl d_B_freeOrders_6 ?_
    refine gGN C (v := .int (iI (x 1 0))) 1 5 u_O kn_49 (cwo_1 _) rfl (by decide) rfl rfl d_B_freeOrders_9 ?_
    refine g_icmp_ge C (tgt := 32) d_B_freeOrders_12 rfl (by omega) (by omega) (fun h12_1 => ?_) (fun h12_1 => ?_)
    · obtain rfl : k = (x 1 0).toNat := by omega
      exact K
    · exfalso
      omega
  | succ d ih =>
    intro k hk
    refine g_iload_n C (q := 2) d_B_freeOrders_4 rfl rfl ?_
    refine g_aload_n C (q := 0) d_B_freeOrders_5 rfl rfl ?_
    refine gG C (v := .ref (ad 1)) 3 0 u_B k_103 (cwo_3 _) rfl (by decide) rfl rfl d_B_freeOrders_6 ?_
    refine gGN C (v := .int (iI (x 1 0))) 1 5 u_O kn_49 (cwo_1 _) rfl (by decide) rfl rfl d_B_freeOrders_9 ?_
    refine g_icmp_ge C (tgt := 32) d_B_freeOrders_12 rfl (by omega) (by omega) (fun h12_1 => ?_) (fun h12_1 => ?_)
    · exfalso
      omega
    · have hh1 := hh (k : Int) (by omega) (by omega)
      refine g_aload_n C (q := 0) d_B_freeOrders_15 rfl rfl ?_
      refine g_iload_n C (q := 2) d_B_freeOrders_16 rfl rfl ?_
      refine gV C (st := []) (m_B_isFree x (k : Int) (by omega) (by omega)) k_175 k_172 k_174 kp_1 k_5 rfl ho_B_isFree rfl rfl ⟨by decide, by decide⟩ 3 (cwo_3 _) rfl rfl rfl (Nat.le_of_ble_eq_true rfl) d_B_freeOrders_17 ⟨by decide, by decide⟩ (fun r w hq => ?_)
      obtain ⟨rfl, rfl⟩ := hq
      refine g_eq (ws' := cw ad cI cZ x) (lv' := [(0, .ref (ad 3)), (1, .int (iI (sg (fun i => b01 (x 15 i = -1)) k))), (2, .int (iI (k : Int)))]) (pc' := 20) (st' := [.int (iI (b01 ((x 15 (k : Int)) = -1)))]) rfl rfl rfl rfl ?_
      have hb1 := b01_or (p := x 15 (k : Int) = -1)
      refine g_if_eq C (tgt := 26) d_B_freeOrders_20 rfl (by omega) (fun h20_2 => ?_) (fun h20_2 => ?_)
      · refine g_lve (lv' := [(0, .ref (ad 3)), (1, .int (iI (sg (fun i => b01 (x 15 i = -1)) (k + 1)))), (2, .int (iI (k : Int)))]) (by rw [sg_s]; first | rw [‹b01 _ = 0›]; simp | rw [show b01 (x 15 (k : Int) = -1) = 1 by omega]) ?_
        refine g_iinc C (q := 2) (lv' := [(0, .ref (ad 3)), (1, .int (iI (sg (fun i => b01 (x 15 i = -1)) (k + 1)))), (2, .int (iI ((k : Int) + 1)))]) d_B_freeOrders_26 rfl (by decide) rfl rfl ?_
        refine g_goto C (tgt := 4) d_B_freeOrders_29 rfl ?_
        exact ih (k + 1) (by omega)
      · refine g_iinc C (q := 1) (lv' := [(0, .ref (ad 3)), (1, .int (iI ((sg (fun i => b01 (x 15 i = -1)) k) + 1))), (2, .int (iI (k : Int)))]) d_B_freeOrders_23 rfl (by decide) rfl rfl ?_
        refine g_lve (lv' := [(0, .ref (ad 3)), (1, .int (iI (sg (fun i => b01 (x 15 i = -1)) (k + 1)))), (2, .int (iI (k : Int)))]) (by rw [sg_s]; first | rw [‹b01 _ = 0›]; simp | rw [show b01 (x 15 (k : Int) = -1) = 1 by omega]) ?_
        refine g_iinc C (q := 2) (lv' := [(0, .ref (ad 3)), (1, .int (iI (sg (fun i => b01 (x 15 i = -1)) (k + 1)))), (2, .int (iI ((k : Int) + 1)))]) d_B_freeOrders_26 rfl (by decide) rfl rfl ?_
        refine g_goto C (tgt := 4) d_B_freeOrders_29 rfl ?_
        exact ih (k + 1) (by omega)
set_option maxRecDepth 100000 in
set_option maxHeartbeats 4000000 in
theorem m_B_freeOrders {l : Launch} {D : va_G} {cI cZ cJ : ClassId} {base : Nat} {ad : Nat → Nat} (x : Bk) (hn : 0 ≤ x 1 0 ∧ x 1 0 ≤ 10) (hh : ∀ i, 0 ≤ i → i < 10 → InR (x 15 i)) : Cn l D cls9 (tyl cI cZ cJ) base (zz base) y_B_freeOrders (wz y_B_freeOrders c_B_freeOrders 3 (some FieldType.int)) ({ frames := 1, cells := 0, slots := 0, locals := 21 } : Room) [.ref (ad 3)] (cw ad cI cZ x) (fun r w => r = some (frees x) ∧ w = cw ad cI cZ x) 0 0 := by
  refine Cn_of (zzG base) (by decide) rfl (Nat.le_of_ble_eq_true rfl) ?_
  intro p e s m args below meth c A C hr hA hnm
  have C : gC p s m args meth c D cls9 (tyl cI cZ cJ) A c_B_freeOrders 3 "BatchSavings$Batches" (wz y_B_freeOrders c_B_freeOrders 3 (some FieldType.int)) base (zz base) := C
  refine g_lve (lv' := [(0, .ref (ad 3))]) rfl ?_
  refine g_iconst C d_B_freeOrders_0 ?_
  refine g_istore_n C (lv' := [(0, .ref (ad 3)), (1, .int (iI 0))]) d_B_freeOrders_1 rfl (by decide) rfl rfl ?_
  refine g_iconst C d_B_freeOrders_2 ?_
  refine g_istore_n C (lv' := [(0, .ref (ad 3)), (1, .int (iI 0)), (2, .int (iI 0))]) d_B_freeOrders_3 rfl (by decide) rfl rfl ?_
  refine lp_B_freeOrders C x hn hh ?_ (x 1 0).toNat 0 (by omega)
  refine g_iload_n C (q := 1) d_B_freeOrders_32 rfl rfl ?_
  exact g_iret C hA hr d_B_freeOrders_33 (by decide) (by decide) ⟨rfl, rfl⟩
def sumB (x : Bk) (f : Int → Int) (b : Int) : Int := sg (fun i => f (x 13 (b * 4 + i))) (x 14 b).toNat
set_option maxRecDepth 100000 in
set_option maxHeartbeats 4000000 in
theorem lp_B_sumOf {p : Program} {l : Launch} {e : Env} {s : State} {m : MethodId} {args : Array Value} {below : List Frame} {meth : Method} {c : Code} {D : va_G} {cI cZ cJ : ClassId} {base : Nat} {ad : Nat → Nat} {A : Nat → Prop} {Q : State → Prop} (C : gC p s m args meth c D cls9 (tyl cI cZ cJ) A c_B_sumOf 5 "BatchSavings$Batches" (wz y_B_sumOf c_B_sumOf 5 (some FieldType.int)) base (zz base)) (x : Bk) (f : Int → Int) (qa q0 : Nat) (hq0 : (cw ad cI cZ x)[q0]? = some (qa, .inl (cI, 10, .inl (aI f)))) (b : Int) (hb : 0 ≤ b ∧ b < 10) (hl : 0 ≤ x 14 b ∧ x 14 b ≤ 4) (hr13 : ∀ i, 0 ≤ i → i < 40 → 0 ≤ x 13 i ∧ x 13 i < 10)
    (K : gW p l e ({ frames := 1, cells := 0, slots := 0, locals := 22 } : Room) s m args below meth c D cls9 A 5 0 0 Q (cw ad cI cZ x) [(0, .ref (ad 3)), (1, .int (iI b)), (2, .ref qa), (3, .int (iI (sg (fun i => f (x 13 (b * 4 + i))) ((x 14 b).toNat)))), (4, .int (iI ((x 14 b).toNat : Int)))] 34 []) : ∀ (d k : Nat), (k : Int) + (d : Int) = x 14 b → gW p l e ({ frames := 1, cells := 0, slots := 0, locals := 22 } : Room) s m args below meth c D cls9 A 5 0 0 Q (cw ad cI cZ x) [(0, .ref (ad 3)), (1, .int (iI b)), (2, .ref qa), (3, .int (iI (sg (fun i => f (x 13 (b * 4 + i))) k))), (4, .int (iI (k : Int)))] 5 [] := by
  intro d
  induction d with
  | zero =>
    intro k hk
    refine g_iload C (q := 4) d_B_sumOf_5 rfl ?_
    refine g_aload_n C (q := 0) d_B_sumOf_7 rfl rfl ?_
    refine gG C (v := .ref (ad 14)) 3 2 u_B k_105 (cwo_3 _) rfl (by decide) rfl rfl d_B_sumOf_8 ?_
    refine g_iload_n C (q := 1) d_B_sumOf_11 rfl rfl ?_
    refine g_iald C 14 0 (cwa_14 _) rfl (by decide) (by omega) d_B_sumOf_12 ?_
    refine g_st (st' := [.int (iI (x 14 b)), .int (iI (k : Int))]) rfl ?_
    refine g_icmp_ge C (tgt := 34) d_B_sumOf_13 rfl (by omega) (by omega) (fun h13_1 => ?_) (fun h13_1 => ?_)
    · obtain rfl : k = (x 14 b).toNat := by omega
      exact K
    · exfalso
      omega
  | succ d ih =>
    intro k hk
    refine g_iload C (q := 4) d_B_sumOf_5 rfl ?_
    refine g_aload_n C (q := 0) d_B_sumOf_7 rfl rfl ?_
    refine gG C (v := .ref (ad 14)) 3 2 u_B k_105 (cwo_3 _) rfl (by decide) rfl rfl d_B_sumOf_8 ?_
    refine g_iload_n C (q := 1) d_B_sumOf_11 rfl rfl ?_
    refine g_iald C 14 0 (cwa_14 _) rfl (by decide) (by omega) d_B_sumOf_12 ?_
    refine g_st (st' := [.int (iI (x 14 b)), .int (iI (k : Int))]) rfl ?_
    refine g_icmp_ge C (tgt := 34) d_B_sumOf_13 rfl (by omega) (by omega) (fun h13_1 => ?_) (fun h13_1 => ?_)
    · exfalso
      omega
    · refine g_iload_n C (q := 3) d_B_sumOf_16 rfl rfl ?_
      refine g_aload_n C (q := 2) d_B_sumOf_17 rfl rfl ?_
      refine g_aload_n C (q := 0) d_B_sumOf_18 rfl rfl ?_
      refine g_iload_n C (q := 1) d_B_sumOf_19 rfl rfl ?_
      refine g_iload C (q := 4) d_B_sumOf_20 rfl ?_
      refine gV C (st := [.ref qa, .int (iI (sg (fun i => f (x 13 (b * 4 + i))) k))]) (m_B_orderAt x b (k : Int) (by omega)) k_541 k_548 k_540 kp_37 k_5 rfl ho_B_orderAt rfl rfl ⟨by decide, by decide⟩ 3 (cwo_3 _) rfl rfl rfl (Nat.le_of_ble_eq_true rfl) d_B_sumOf_22 ⟨by decide, by decide⟩ (fun r w hq => ?_)
      obtain ⟨rfl, rfl⟩ := hq
      refine g_eq (ws' := cw ad cI cZ x) (lv' := [(0, .ref (ad 3)), (1, .int (iI b)), (2, .ref qa), (3, .int (iI (sg (fun i => f (x 13 (b * 4 + i))) k))), (4, .int (iI (k : Int)))]) (pc' := 25) (st' := [.int (iI (x 13 (b * 4 + (k : Int)))), .ref qa, .int (iI (sg (fun i => f (x 13 (b * 4 + i))) k))]) rfl rfl rfl rfl ?_
      have h13 := hr13 (b * 4 + (k : Int)) (by omega) (by omega)
      refine g_iald C q0 0 hq0 rfl (by decide) (by omega) d_B_sumOf_25 ?_
      refine g_st (st' := [.int (iI (f (x 13 (b * 4 + (k : Int))))), .int (iI (sg (fun i => f (x 13 (b * 4 + i))) k))]) rfl ?_
      refine g_iadd C d_B_sumOf_26 ?_
      refine g_istore_n C (lv' := [(0, .ref (ad 3)), (1, .int (iI b)), (2, .ref qa), (3, .int (iI ((sg (fun i => f (x 13 (b * 4 + i))) k) + (f (x 13 (b * 4 + (k : Int))))))), (4, .int (iI (k : Int)))]) d_B_sumOf_27 rfl (by decide) rfl rfl ?_
      refine g_iinc C (q := 4) (lv' := [(0, .ref (ad 3)), (1, .int (iI b)), (2, .ref qa), (3, .int (iI ((sg (fun i => f (x 13 (b * 4 + i))) k) + (f (x 13 (b * 4 + (k : Int))))))), (4, .int (iI ((k : Int) + 1)))]) d_B_sumOf_28 rfl (by decide) rfl rfl ?_
      refine g_goto C (tgt := 5) d_B_sumOf_31 rfl ?_
      exact ih (k + 1) (by omega)
set_option maxRecDepth 100000 in
set_option maxHeartbeats 4000000 in
theorem m_B_sumOf {l : Launch} {D : va_G} {cI cZ cJ : ClassId} {base : Nat} {ad : Nat → Nat} (x : Bk) (f : Int → Int) (qa q0 : Nat) (hq0 : (cw ad cI cZ x)[q0]? = some (qa, .inl (cI, 10, .inl (aI f)))) (b : Int) (hb : 0 ≤ b ∧ b < 10) (hl : 0 ≤ x 14 b ∧ x 14 b ≤ 4) (hr13 : ∀ i, 0 ≤ i → i < 40 → 0 ≤ x 13 i ∧ x 13 i < 10) : Cn l D cls9 (tyl cI cZ cJ) base (zz base) y_B_sumOf (wz y_B_sumOf c_B_sumOf 5 (some FieldType.int)) ({ frames := 1, cells := 0, slots := 0, locals := 22 } : Room) [.ref (ad 3), .int (iI b), .ref qa] (cw ad cI cZ x) (fun r w => r = some (sumB x f b) ∧ w = cw ad cI cZ x) 0 0 := by
  refine Cn_of (zzG base) (by decide) rfl (Nat.le_of_ble_eq_true rfl) ?_
  intro p e s m args below meth c A C hr hA hnm
  have C : gC p s m args meth c D cls9 (tyl cI cZ cJ) A c_B_sumOf 5 "BatchSavings$Batches" (wz y_B_sumOf c_B_sumOf 5 (some FieldType.int)) base (zz base) := C
  refine g_lve (lv' := [(0, .ref (ad 3)), (1, .int (iI b)), (2, .ref qa)]) rfl ?_
  refine g_iconst C d_B_sumOf_0 ?_
  refine g_istore_n C (lv' := [(0, .ref (ad 3)), (1, .int (iI b)), (2, .ref qa), (3, .int (iI 0))]) d_B_sumOf_1 rfl (by decide) rfl rfl ?_
  refine g_iconst C d_B_sumOf_2 ?_
  refine g_istore C (lv' := [(0, .ref (ad 3)), (1, .int (iI b)), (2, .ref qa), (3, .int (iI 0)), (4, .int (iI 0))]) d_B_sumOf_3 (by decide) rfl rfl ?_
  refine lp_B_sumOf C x f qa q0 hq0 b hb hl hr13 ?_ (x 14 b).toNat 0 (by omega)
  refine g_iload_n C (q := 3) d_B_sumOf_34 rfl rfl ?_
  exact g_iret C hA hr d_B_sumOf_35 (by decide) (by decide) ⟨rfl, rfl⟩
def sbt (x : Bk) (b : Int) (i : Int) : Int := if i = 0 then 0 else sv x (x 13 (b * 4 + (i - 1))) (x 13 (b * 4 + i))
def sby (x : Bk) (b : Int) : Int := sg (sbt x b) (x 14 b).toNat
set_option maxRecDepth 100000 in
set_option maxHeartbeats 4000000 in
theorem lp_B_savedBy {p : Program} {l : Launch} {e : Env} {s : State} {m : MethodId} {args : Array Value} {below : List Frame} {meth : Method} {c : Code} {D : va_G} {cI cZ cJ : ClassId} {base : Nat} {ad : Nat → Nat} {A : Nat → Prop} {Q : State → Prop} (C : gC p s m args meth c D cls9 (tyl cI cZ cJ) A c_B_savedBy 4 "BatchSavings$Batches" (wz y_B_savedBy c_B_savedBy 4 (some FieldType.int)) base (zz base)) (x : Bk) (b : Int) (hb : 0 ≤ b ∧ b < 10) (hl : 0 ≤ x 14 b ∧ x 14 b ≤ 4) (hr13 : ∀ i, 0 ≤ i → i < 40 → 0 ≤ x 13 i ∧ x 13 i < 10) (h9 : ∀ i, 0 ≤ i → i < 100 → -1 ≤ x 9 i ∧ x 9 i ≤ 20000)
    (K : gW p l e ({ frames := 2, cells := 0, slots := 0, locals := 44 } : Room) s m args below meth c D cls9 A 4 0 0 Q (cw ad cI cZ x) [(0, .ref (ad 3)), (1, .int (iI b)), (2, .int (iI (sg (sbt x b) ((x 14 b).toNat)))), (3, .int (iI ((x 14 b).toNat : Int)))] 44 []) : ∀ (d k : Nat), 1 ≤ k → (k : Int) + (d : Int) = x 14 b → gW p l e ({ frames := 2, cells := 0, slots := 0, locals := 44 } : Room) s m args below meth c D cls9 A 4 0 0 Q (cw ad cI cZ x) [(0, .ref (ad 3)), (1, .int (iI b)), (2, .int (iI (sg (sbt x b) k))), (3, .int (iI (k : Int)))] 4 [] := by
  intro d
  induction d with
  | zero =>
    intro k hk0 hk
    have hk1 : 1 ≤ k := hk0
    refine g_iload_n C (q := 3) d_B_savedBy_4 rfl rfl ?_
    refine g_aload_n C (q := 0) d_B_savedBy_5 rfl rfl ?_
    refine gG C (v := .ref (ad 14)) 3 2 u_B k_105 (cwo_3 _) rfl (by decide) rfl rfl d_B_savedBy_6 ?_
    refine g_iload_n C (q := 1) d_B_savedBy_9 rfl rfl ?_
    refine g_iald C 14 0 (cwa_14 _) rfl (by decide) (by omega) d_B_savedBy_10 ?_
    refine g_st (st' := [.int (iI (x 14 b)), .int (iI (k : Int))]) rfl ?_
    refine g_icmp_ge C (tgt := 44) d_B_savedBy_11 rfl (by omega) (by omega) (fun h11_1 => ?_) (fun h11_1 => ?_)
    · obtain rfl : k = (x 14 b).toNat := by omega
      exact K
    · exfalso
      omega
  | succ d ih =>
    intro k hk0 hk
    have hk1 : 1 ≤ k := hk0
    refine g_iload_n C (q := 3) d_B_savedBy_4 rfl rfl ?_
    refine g_aload_n C (q := 0) d_B_savedBy_5 rfl rfl ?_
    refine gG C (v := .ref (ad 14)) 3 2 u_B k_105 (cwo_3 _) rfl (by decide) rfl rfl d_B_savedBy_6 ?_
    refine g_iload_n C (q := 1) d_B_savedBy_9 rfl rfl ?_
    refine g_iald C 14 0 (cwa_14 _) rfl (by decide) (by omega) d_B_savedBy_10 ?_
    refine g_st (st' := [.int (iI (x 14 b)), .int (iI (k : Int))]) rfl ?_
    refine g_icmp_ge C (tgt := 44) d_B_savedBy_11 rfl (by omega) (by omega) (fun h11_1 => ?_) (fun h11_1 => ?_)
    · exfalso
      omega
    · refine g_iload_n C (q := 2) d_B_savedBy_14 rfl rfl ?_
      have h13 := hr13 (b * 4 + ((k : Int) - 1)) (by omega) (by omega)
      have h13b := hr13 (b * 4 + (k : Int)) (by omega) (by omega)
      have h99 := h9 (x 13 (b * 4 + ((k : Int) - 1)) * 10 + x 13 (b * 4 + (k : Int))) (by omega) (by omega)
      refine g_aload_n C (q := 0) d_B_savedBy_15 rfl rfl ?_
      refine gG C (v := .ref (ad 1)) 3 0 u_B k_103 (cwo_3 _) rfl (by decide) rfl rfl d_B_savedBy_16 ?_
      refine g_aload_n C (q := 0) d_B_savedBy_19 rfl rfl ?_
      refine g_iload_n C (q := 1) d_B_savedBy_20 rfl rfl ?_
      refine g_iload_n C (q := 3) d_B_savedBy_21 rfl rfl ?_
      refine g_iconst C d_B_savedBy_22 ?_
      refine g_isub C d_B_savedBy_23 ?_
      refine gV C (st := [.ref (ad 1), .int (iI (sg (sbt x b) k))]) (m_B_orderAt x b ((k : Int) - 1) (by omega)) k_541 k_548 k_540 kp_37 k_5 rfl ho_B_orderAt rfl rfl ⟨by decide, by decide⟩ 3 (cwo_3 _) rfl rfl rfl (Nat.le_of_ble_eq_true rfl) d_B_savedBy_24 ⟨by decide, by decide⟩ (fun r w hq => ?_)
      obtain ⟨rfl, rfl⟩ := hq
      refine g_eq (ws' := cw ad cI cZ x) (lv' := [(0, .ref (ad 3)), (1, .int (iI b)), (2, .int (iI (sg (sbt x b) k))), (3, .int (iI (k : Int)))]) (pc' := 27) (st' := [.int (iI (x 13 (b * 4 + ((k : Int) - 1)))), .ref (ad 1), .int (iI (sg (sbt x b) k))]) rfl rfl rfl rfl ?_
      refine g_aload_n C (q := 0) d_B_savedBy_27 rfl rfl ?_
      refine g_iload_n C (q := 1) d_B_savedBy_28 rfl rfl ?_
      refine g_iload_n C (q := 3) d_B_savedBy_29 rfl rfl ?_
      refine gV C (st := [.int (iI (x 13 (b * 4 + ((k : Int) - 1)))), .ref (ad 1), .int (iI (sg (sbt x b) k))]) (m_B_orderAt x b (k : Int) (by omega)) k_541 k_548 k_540 kp_37 k_5 rfl ho_B_orderAt rfl rfl ⟨by decide, by decide⟩ 3 (cwo_3 _) rfl rfl rfl (Nat.le_of_ble_eq_true rfl) d_B_savedBy_30 ⟨by decide, by decide⟩ (fun r w hq => ?_)
      obtain ⟨rfl, rfl⟩ := hq
      refine g_eq (ws' := cw ad cI cZ x) (lv' := [(0, .ref (ad 3)), (1, .int (iI b)), (2, .int (iI (sg (sbt x b) k))), (3, .int (iI (k : Int)))]) (pc' := 33) (st' := [.int (iI (x 13 (b * 4 + (k : Int)))), .int (iI (x 13 (b * 4 + ((k : Int) - 1)))), .ref (ad 1), .int (iI (sg (sbt x b) k))]) rfl rfl rfl rfl ?_
      refine gVN C (st := [.int (iI (sg (sbt x b) k))]) (m_O_savingOf x (x 13 (b * 4 + ((k : Int) - 1))) (x 13 (b * 4 + (k : Int))) (by omega) (by omega) (by omega)) k_187 kn_549 k_186 kp_4 k_2 ho_O_savingOf rfl rfl ⟨by decide, by decide⟩ 1 (cwo_1 _) rfl rfl rfl (Nat.le_of_ble_eq_true rfl) d_B_savedBy_33 ⟨by decide, by decide⟩ (fun r w hq => ?_)
      obtain ⟨rfl, rfl⟩ := hq
      refine g_eq (ws' := cw ad cI cZ x) (lv' := [(0, .ref (ad 3)), (1, .int (iI b)), (2, .int (iI (sg (sbt x b) k))), (3, .int (iI (k : Int)))]) (pc' := 36) (st' := [.int (iI (sv x (x 13 (b * 4 + ((k : Int) - 1))) (x 13 (b * 4 + (k : Int))))), .int (iI (sg (sbt x b) k))]) rfl rfl rfl rfl ?_
      refine g_iadd C d_B_savedBy_36 ?_
      refine g_st (st' := [.int (iI (sg (sbt x b) (k + 1)))]) (by rw [sg_s, show sbt x b (k : Int) = _ from if_neg (by omega)]) ?_
      refine g_istore_n C (lv' := [(0, .ref (ad 3)), (1, .int (iI b)), (2, .int (iI (sg (sbt x b) (k + 1)))), (3, .int (iI (k : Int)))]) d_B_savedBy_37 rfl (by decide) rfl rfl ?_
      refine g_iinc C (q := 3) (lv' := [(0, .ref (ad 3)), (1, .int (iI b)), (2, .int (iI (sg (sbt x b) (k + 1)))), (3, .int (iI ((k : Int) + 1)))]) d_B_savedBy_38 rfl (by decide) rfl rfl ?_
      refine g_goto C (tgt := 4) d_B_savedBy_41 rfl ?_
      exact ih (k + 1) (by omega) (by omega)
set_option maxRecDepth 100000 in
set_option maxHeartbeats 4000000 in
theorem m_B_savedBy {l : Launch} {D : va_G} {cI cZ cJ : ClassId} {base : Nat} {ad : Nat → Nat} (x : Bk) (b : Int) (hb : 0 ≤ b ∧ b < 10) (hl : 0 ≤ x 14 b ∧ x 14 b ≤ 4) (hr13 : ∀ i, 0 ≤ i → i < 40 → 0 ≤ x 13 i ∧ x 13 i < 10) (h9 : ∀ i, 0 ≤ i → i < 100 → -1 ≤ x 9 i ∧ x 9 i ≤ 20000) : Cn l D cls9 (tyl cI cZ cJ) base (zz base) y_B_savedBy (wz y_B_savedBy c_B_savedBy 4 (some FieldType.int)) ({ frames := 2, cells := 0, slots := 0, locals := 44 } : Room) [.ref (ad 3), .int (iI b)] (cw ad cI cZ x) (fun r w => r = some (sby x b) ∧ w = cw ad cI cZ x) 0 0 := by
  refine Cn_of (zzG base) (by decide) rfl (Nat.le_of_ble_eq_true rfl) ?_
  intro p e s m args below meth c A C hr hA hnm
  have C : gC p s m args meth c D cls9 (tyl cI cZ cJ) A c_B_savedBy 4 "BatchSavings$Batches" (wz y_B_savedBy c_B_savedBy 4 (some FieldType.int)) base (zz base) := C
  refine g_lve (lv' := [(0, .ref (ad 3)), (1, .int (iI b))]) rfl ?_
  refine g_iconst C d_B_savedBy_0 ?_
  refine g_istore_n C (lv' := [(0, .ref (ad 3)), (1, .int (iI b)), (2, .int (iI 0))]) d_B_savedBy_1 rfl (by decide) rfl rfl ?_
  refine g_iconst C d_B_savedBy_2 ?_
  refine g_istore_n C (lv' := [(0, .ref (ad 3)), (1, .int (iI b)), (2, .int (iI 0)), (3, .int (iI 1))]) d_B_savedBy_3 rfl (by decide) rfl rfl ?_
  by_cases h1 : 1 ≤ x 14 b
  · refine lp_B_savedBy C x b hb hl hr13 h9 ?_ ((x 14 b).toNat - 1) 1 (by omega) (by omega)
    refine g_iload_n C (q := 2) d_B_savedBy_44 rfl rfl ?_
    exact g_iret C hA hr d_B_savedBy_45 (by decide) (by decide) ⟨rfl, rfl⟩
  · have h0 : x 14 b = 0 := by omega
    refine g_iload_n C (q := 3) d_B_savedBy_4 rfl rfl ?_
    refine g_aload_n C (q := 0) d_B_savedBy_5 rfl rfl ?_
    refine gG C (v := .ref (ad 14)) 3 2 u_B k_105 (cwo_3 _) rfl (by decide) rfl rfl d_B_savedBy_6 ?_
    refine g_iload_n C (q := 1) d_B_savedBy_9 rfl rfl ?_
    refine g_iald C 14 0 (cwa_14 _) rfl (by decide) (by omega) d_B_savedBy_10 ?_
    refine g_st (st' := [.int (iI (x 14 b)), .int (iI 1)]) rfl ?_
    refine g_icmp_ge C (tgt := 44) d_B_savedBy_11 rfl (by omega) (by omega) (fun h11_1 => ?_) (fun h11_1 => ?_)
    · refine g_iload_n C (q := 2) d_B_savedBy_44 rfl rfl ?_
      exact g_iret C hA hr d_B_savedBy_45 (by decide) (by decide) ⟨by unfold sby; rw [h0]; rfl, rfl⟩
    · exfalso
      omega
def wayB (x : Bk) (b : Int) : Int := sumB x (x 5) b - sby x b
set_option maxRecDepth 100000 in
set_option maxHeartbeats 4000000 in
theorem m_B_wayOf {l : Launch} {D : va_G} {cI cZ cJ : ClassId} {base : Nat} {ad : Nat → Nat} (x : Bk) (b : Int) (hb : 0 ≤ b ∧ b < 10) (hl : 0 ≤ x 14 b ∧ x 14 b ≤ 4) (hr13 : ∀ i, 0 ≤ i → i < 40 → 0 ≤ x 13 i ∧ x 13 i < 10) (h9 : ∀ i, 0 ≤ i → i < 100 → -1 ≤ x 9 i ∧ x 9 i ≤ 20000) : Cn l D cls9 (tyl cI cZ cJ) base (zz base) y_B_wayOf (wz y_B_wayOf c_B_wayOf 2 (some FieldType.int)) ({ frames := 3, cells := 0, slots := 0, locals := 67 } : Room) [.ref (ad 3), .int (iI b)] (cw ad cI cZ x) (fun r w => r = some (wayB x b) ∧ w = cw ad cI cZ x) 0 0 := by
  refine Cn_of (zzG base) (by decide) rfl (Nat.le_of_ble_eq_true rfl) ?_
  intro p e s m args below meth c A C hr hA hnm
  have C : gC p s m args meth c D cls9 (tyl cI cZ cJ) A c_B_wayOf 2 "BatchSavings$Batches" (wz y_B_wayOf c_B_wayOf 2 (some FieldType.int)) base (zz base) := C
  refine g_lve (lv' := [(0, .ref (ad 3)), (1, .int (iI b))]) rfl ?_
  refine g_aload_n C (q := 0) d_B_wayOf_0 rfl rfl ?_
  refine g_iload_n C (q := 1) d_B_wayOf_1 rfl rfl ?_
  refine g_aload_n C (q := 0) d_B_wayOf_2 rfl rfl ?_
  refine gG C (v := .ref (ad 1)) 3 0 u_B k_103 (cwo_3 _) rfl (by decide) rfl rfl d_B_wayOf_3 ?_
  refine gGN C (v := .ref (ad 5)) 1 0 u_O kn_36 (cwo_1 _) rfl (by decide) rfl rfl d_B_wayOf_6 ?_
  refine gV C (st := []) (m_B_sumOf x (x 5) (ad 5) 5 (cwa_5 _) b (by omega) hl hr13) k_563 k_560 k_562 kp_41 k_5 rfl ho_B_sumOf rfl rfl ⟨by decide, by decide⟩ 3 (cwo_3 _) rfl rfl rfl (Nat.le_of_ble_eq_true rfl) d_B_wayOf_9 ⟨by decide, by decide⟩ (fun r w hq => ?_)
  obtain ⟨rfl, rfl⟩ := hq
  refine g_eq (ws' := cw ad cI cZ x) (lv' := [(0, .ref (ad 3)), (1, .int (iI b))]) (pc' := 12) (st' := [.int (iI (sumB x (x 5) b))]) rfl rfl rfl rfl ?_
  refine g_aload_n C (q := 0) d_B_wayOf_12 rfl rfl ?_
  refine g_iload_n C (q := 1) d_B_wayOf_13 rfl rfl ?_
  refine gV C (st := [.int (iI (sumB x (x 5) b))]) (m_B_savedBy x b (by omega) hl hr13 h9) k_567 k_564 k_566 kp_42 k_5 rfl ho_B_savedBy rfl rfl ⟨by decide, by decide⟩ 3 (cwo_3 _) rfl rfl rfl (Nat.le_of_ble_eq_true rfl) d_B_wayOf_14 ⟨by decide, by decide⟩ (fun r w hq => ?_)
  obtain ⟨rfl, rfl⟩ := hq
  refine g_eq (ws' := cw ad cI cZ x) (lv' := [(0, .ref (ad 3)), (1, .int (iI b))]) (pc' := 17) (st' := [.int (iI (sby x b)), .int (iI (sumB x (x 5) b))]) rfl rfl rfl rfl ?_
  refine g_isub C d_B_wayOf_17 ?_
  exact g_iret C hA hr d_B_wayOf_18 (by decide) (by decide) ⟨rfl, rfl⟩
set_option maxRecDepth 100000 in
set_option maxHeartbeats 4000000 in
theorem lp_B_saved {p : Program} {l : Launch} {e : Env} {s : State} {m : MethodId} {args : Array Value} {below : List Frame} {meth : Method} {c : Code} {D : va_G} {cI cZ cJ : ClassId} {base : Nat} {ad : Nat → Nat} {A : Nat → Prop} {Q : State → Prop} (C : gC p s m args meth c D cls9 (tyl cI cZ cJ) A c_B_saved 3 "BatchSavings$Batches" (wz y_B_saved c_B_saved 3 (some FieldType.int)) base (zz base)) (x : Bk) (hn3 : 0 ≤ x 3 0 ∧ x 3 0 ≤ 10) (hl : ∀ b, 0 ≤ b → b < 10 → 0 ≤ x 14 b ∧ x 14 b ≤ 4) (hr13 : ∀ i, 0 ≤ i → i < 40 → 0 ≤ x 13 i ∧ x 13 i < 10) (h9 : ∀ i, 0 ≤ i → i < 100 → -1 ≤ x 9 i ∧ x 9 i ≤ 20000)
    (K : gW p l e ({ frames := 3, cells := 0, slots := 0, locals := 67 } : Room) s m args below meth c D cls9 A 3 0 0 Q (cw ad cI cZ x) [(0, .ref (ad 3)), (1, .int (iI (sg (sby x) ((x 3 0).toNat)))), (2, .int (iI ((x 3 0).toNat : Int)))] 26 []) : ∀ (d k : Nat), (k : Int) + (d : Int) = x 3 0 → gW p l e ({ frames := 3, cells := 0, slots := 0, locals := 67 } : Room) s m args below meth c D cls9 A 3 0 0 Q (cw ad cI cZ x) [(0, .ref (ad 3)), (1, .int (iI (sg (sby x) k))), (2, .int (iI (k : Int)))] 4 [] := by
  intro d
  induction d with
  | zero =>
    intro k hk
    refine g_iload_n C (q := 2) d_B_saved_4 rfl rfl ?_
    refine g_aload_n C (q := 0) d_B_saved_5 rfl rfl ?_
    refine gG C (v := .int (iI (x 3 0))) 3 4 u_B k_109 (cwo_3 _) rfl (by decide) rfl rfl d_B_saved_6 ?_
    refine g_icmp_ge C (tgt := 26) d_B_saved_9 rfl (by omega) (by omega) (fun h9_1 => ?_) (fun h9_1 => ?_)
    · obtain rfl : k = (x 3 0).toNat := by omega
      exact K
    · exfalso
      omega
  | succ d ih =>
    intro k hk
    refine g_iload_n C (q := 2) d_B_saved_4 rfl rfl ?_
    refine g_aload_n C (q := 0) d_B_saved_5 rfl rfl ?_
    refine gG C (v := .int (iI (x 3 0))) 3 4 u_B k_109 (cwo_3 _) rfl (by decide) rfl rfl d_B_saved_6 ?_
    refine g_icmp_ge C (tgt := 26) d_B_saved_9 rfl (by omega) (by omega) (fun h9_1 => ?_) (fun h9_1 => ?_)
    · exfalso
      omega
    · refine g_iload_n C (q := 1) d_B_saved_12 rfl rfl ?_
      refine g_aload_n C (q := 0) d_B_saved_13 rfl rfl ?_
      refine g_iload_n C (q := 2) d_B_saved_14 rfl rfl ?_
      refine gV C (st := [.int (iI (sg (sby x) k))]) (m_B_savedBy x (k : Int) (by omega) (hl (k : Int) (by omega) (by omega)) hr13 h9) k_567 k_564 k_566 kp_42 k_5 rfl ho_B_savedBy rfl rfl ⟨by decide, by decide⟩ 3 (cwo_3 _) rfl rfl rfl (Nat.le_of_ble_eq_true rfl) d_B_saved_15 ⟨by decide, by decide⟩ (fun r w hq => ?_)
      obtain ⟨rfl, rfl⟩ := hq
      refine g_eq (ws' := cw ad cI cZ x) (lv' := [(0, .ref (ad 3)), (1, .int (iI (sg (sby x) k))), (2, .int (iI (k : Int)))]) (pc' := 18) (st' := [.int (iI (sby x (k : Int))), .int (iI (sg (sby x) k))]) rfl rfl rfl rfl ?_
      refine g_iadd C d_B_saved_18 ?_
      refine g_istore_n C (lv' := [(0, .ref (ad 3)), (1, .int (iI ((sg (sby x) k) + (sby x (k : Int))))), (2, .int (iI (k : Int)))]) d_B_saved_19 rfl (by decide) rfl rfl ?_
      refine g_iinc C (q := 2) (lv' := [(0, .ref (ad 3)), (1, .int (iI ((sg (sby x) k) + (sby x (k : Int))))), (2, .int (iI ((k : Int) + 1)))]) d_B_saved_20 rfl (by decide) rfl rfl ?_
      refine g_goto C (tgt := 4) d_B_saved_23 rfl ?_
      exact ih (k + 1) (by omega)
set_option maxRecDepth 100000 in
set_option maxHeartbeats 4000000 in
theorem m_B_saved {l : Launch} {D : va_G} {cI cZ cJ : ClassId} {base : Nat} {ad : Nat → Nat} (x : Bk) (hn3 : 0 ≤ x 3 0 ∧ x 3 0 ≤ 10) (hl : ∀ b, 0 ≤ b → b < 10 → 0 ≤ x 14 b ∧ x 14 b ≤ 4) (hr13 : ∀ i, 0 ≤ i → i < 40 → 0 ≤ x 13 i ∧ x 13 i < 10) (h9 : ∀ i, 0 ≤ i → i < 100 → -1 ≤ x 9 i ∧ x 9 i ≤ 20000) : Cn l D cls9 (tyl cI cZ cJ) base (zz base) y_B_saved (wz y_B_saved c_B_saved 3 (some FieldType.int)) ({ frames := 3, cells := 0, slots := 0, locals := 67 } : Room) [.ref (ad 3)] (cw ad cI cZ x) (fun r w => r = some (sg (sby x) (x 3 0).toNat) ∧ w = cw ad cI cZ x) 0 0 := by
  refine Cn_of (zzG base) (by decide) rfl (Nat.le_of_ble_eq_true rfl) ?_
  intro p e s m args below meth c A C hr hA hnm
  have C : gC p s m args meth c D cls9 (tyl cI cZ cJ) A c_B_saved 3 "BatchSavings$Batches" (wz y_B_saved c_B_saved 3 (some FieldType.int)) base (zz base) := C
  refine g_lve (lv' := [(0, .ref (ad 3))]) rfl ?_
  refine g_iconst C d_B_saved_0 ?_
  refine g_istore_n C (lv' := [(0, .ref (ad 3)), (1, .int (iI 0))]) d_B_saved_1 rfl (by decide) rfl rfl ?_
  refine g_iconst C d_B_saved_2 ?_
  refine g_istore_n C (lv' := [(0, .ref (ad 3)), (1, .int (iI 0)), (2, .int (iI 0))]) d_B_saved_3 rfl (by decide) rfl rfl ?_
  refine lp_B_saved C x hn3 hl hr13 h9 ?_ (x 3 0).toNat 0 (by omega)
  refine g_iload_n C (q := 1) d_B_saved_26 rfl rfl ?_
  exact g_iret C hA hr d_B_saved_27 (by decide) (by decide) ⟨rfl, rfl⟩
/-- a row of a batch without one order, place by place -/
def tk (b a : Int) (r : Int → Int) : Nat → (Int → Int) × Int
  | 0 => (r, 0)
  | k + 1 => if (tk b a r k).1 (b * 4 + (k : Int)) = a then tk b a r k else (updI (tk b a r k).1 (b * 4 + (tk b a r k).2) ((tk b a r k).1 (b * 4 + (k : Int))), (tk b a r k).2 + 1)
theorem tk_n (b a : Int) (r : Int → Int) (k : Nat) : 0 ≤ (tk b a r k).2 ∧ (tk b a r k).2 ≤ (k : Int) := by
  induction k with
  | zero => exact ⟨Int.le_refl _, Int.le_refl _⟩
  | succ k ih =>
    unfold tk
    split <;> refine ⟨?_, ?_⟩ <;> (try dsimp only) <;> omega
theorem tk_in {b a : Int} {r : Int → Int} (h : ∀ i, 0 ≤ i → i < 40 → 0 ≤ r i ∧ r i < 10) (k : Nat) (hb : 0 ≤ b ∧ b < 10) (hk : k ≤ 4) : ∀ i, 0 ≤ i → i < 40 → 0 ≤ (tk b a r k).1 i ∧ (tk b a r k).1 i < 10 := by
  induction k with
  | zero => exact h
  | succ k ih =>
    have ih := ih (by omega)
    intro i h0 h1
    unfold tk
    split
    · exact ih i h0 h1
    · show 0 ≤ updI _ _ _ i ∧ updI _ _ _ i < 10
      unfold updI
      split
      · exact ih _ (by omega) (by omega)
      · exact ih i h0 h1
theorem tk_t (b a : Int) (r : Int → Int) (k : Nat) (h : (tk b a r k).1 (b * 4 + (k : Int)) = a) : tk b a r (k + 1) = tk b a r k := by
  show (if _ then _ else _) = _
  rw [if_pos h]
theorem tk_f (b a : Int) (r : Int → Int) (k : Nat) (h : ¬ (tk b a r k).1 (b * 4 + (k : Int)) = a) : tk b a r (k + 1) = (updI (tk b a r k).1 (b * 4 + (tk b a r k).2) ((tk b a r k).1 (b * 4 + (k : Int))), (tk b a r k).2 + 1) := by
  show (if _ then _ else _) = _
  rw [if_neg h]
set_option maxRecDepth 100000 in
set_option maxHeartbeats 4000000 in
theorem lp_B_take {p : Program} {l : Launch} {e : Env} {s : State} {m : MethodId} {args : Array Value} {below : List Frame} {meth : Method} {c : Code} {D : va_G} {cI cZ cJ : ClassId} {base : Nat} {ad : Nat → Nat} {A : Nat → Prop} {Q : State → Prop} (C : gC p s m args meth c D cls9 (tyl cI cZ cJ) A c_B_take 6 "BatchSavings$Batches" (wz y_B_take c_B_take 6 none) base (zz base)) (x : Bk) (a b : Int) (ha : 0 ≤ a ∧ a < 10) (hb : 0 ≤ b ∧ b < 10) (hl : 0 ≤ x 14 b ∧ x 14 b ≤ 4) (hr13 : ∀ i, 0 ≤ i → i < 40 → 0 ≤ x 13 i ∧ x 13 i < 10)
    (K : gW p l e ({ frames := 0, cells := 0, slots := 0, locals := 0 } : Room) s m args below meth c D cls9 A 6 0 0 Q (cw ad cI cZ (bu x 13 ((tk b a (x 13) ((x 14 b).toNat)).1))) [(0, .ref (ad 3)), (1, .int (iI a)), (2, .int (iI b)), (3, .int (iI (b * 4))), (4, .int (iI ((tk b a (x 13) ((x 14 b).toNat)).2))), (5, .int (iI ((x 14 b).toNat : Int)))] 61 []) : ∀ (d k : Nat), (k : Int) + (d : Int) = x 14 b → gW p l e ({ frames := 0, cells := 0, slots := 0, locals := 0 } : Room) s m args below meth c D cls9 A 6 0 0 Q (cw ad cI cZ (bu x 13 ((tk b a (x 13) k).1))) [(0, .ref (ad 3)), (1, .int (iI a)), (2, .int (iI b)), (3, .int (iI (b * 4))), (4, .int (iI ((tk b a (x 13) k).2))), (5, .int (iI (k : Int)))] 10 [] := by
  intro d
  induction d with
  | zero =>
    intro k hk
    have hn := tk_n b a (x 13) k
    have hx := tk_in (a := a) hr13 k hb (by omega)
    refine g_iload C (q := 5) d_B_take_10 rfl ?_
    refine g_aload_n C (q := 0) d_B_take_12 rfl rfl ?_
    refine gG C (v := .ref (ad 14)) 3 2 u_B k_105 (cwo_3 _) rfl (by decide) rfl rfl d_B_take_13 ?_
    refine g_iload_n C (q := 2) d_B_take_16 rfl rfl ?_
    refine g_iald C 14 0 (cwa_14 _) rfl (by decide) (by omega) d_B_take_17 ?_
    refine g_st (st' := [.int (iI (x 14 b)), .int (iI (k : Int))]) rfl ?_
    refine g_icmp_ge C (tgt := 61) d_B_take_18 rfl (by omega) (by omega) (fun h18_1 => ?_) (fun h18_1 => ?_)
    · obtain rfl : k = (x 14 b).toNat := by omega
      exact K
    · exfalso
      omega
  | succ d ih =>
    intro k hk
    have hn := tk_n b a (x 13) k
    have hx := tk_in (a := a) hr13 k hb (by omega)
    refine g_iload C (q := 5) d_B_take_10 rfl ?_
    refine g_aload_n C (q := 0) d_B_take_12 rfl rfl ?_
    refine gG C (v := .ref (ad 14)) 3 2 u_B k_105 (cwo_3 _) rfl (by decide) rfl rfl d_B_take_13 ?_
    refine g_iload_n C (q := 2) d_B_take_16 rfl rfl ?_
    refine g_iald C 14 0 (cwa_14 _) rfl (by decide) (by omega) d_B_take_17 ?_
    refine g_st (st' := [.int (iI (x 14 b)), .int (iI (k : Int))]) rfl ?_
    refine g_icmp_ge C (tgt := 61) d_B_take_18 rfl (by omega) (by omega) (fun h18_1 => ?_) (fun h18_1 => ?_)
    · exfalso
      omega
    · refine g_aload_n C (q := 0) d_B_take_21 rfl rfl ?_
      refine gG C (v := .ref (ad 13)) 3 1 u_B k_104 (cwo_3 _) rfl (by decide) rfl rfl d_B_take_22 ?_
      refine g_iload_n C (q := 3) d_B_take_25 rfl rfl ?_
      refine g_iload C (q := 5) d_B_take_26 rfl ?_
      refine g_iadd C d_B_take_28 ?_
      refine g_iald C 13 0 (cwa_13 _) rfl (by decide) (by omega) d_B_take_29 ?_
      refine g_st (st' := [.int (iI (((tk b a (x 13) k).1) ((b * 4) + (k : Int))))]) rfl ?_
      have hx1 := hx (b * 4 + (k : Int)) (by omega) (by omega)
      refine g_iload_n C (q := 1) d_B_take_30 rfl rfl ?_
      refine g_icmp_eq C (tgt := 55) d_B_take_31 rfl (by omega) (by omega) (fun h31_2 => ?_) (fun h31_2 => ?_)
      · refine g_eq (ws' := cw ad cI cZ (bu x 13 ((tk b a (x 13) (k + 1)).1))) (lv' := [(0, .ref (ad 3)), (1, .int (iI a)), (2, .int (iI b)), (3, .int (iI (b * 4))), (4, .int (iI (tk b a (x 13) (k + 1)).2)), (5, .int (iI (k : Int)))]) (pc' := 55) (st' := []) (by first | (rw [tk_t _ _ _ _ (by assumption)]; done) | (rw [tk_f _ _ _ _ (by assumption)]; rfl)) (by first | rw [tk_t _ _ _ _ (by assumption)] | rw [tk_f _ _ _ _ (by assumption)]) rfl rfl ?_
        refine g_iinc C (q := 5) (lv' := [(0, .ref (ad 3)), (1, .int (iI a)), (2, .int (iI b)), (3, .int (iI (b * 4))), (4, .int (iI ((tk b a (x 13) (k + 1)).2))), (5, .int (iI ((k : Int) + 1)))]) d_B_take_55 rfl (by decide) rfl rfl ?_
        refine g_goto C (tgt := 10) d_B_take_58 rfl ?_
        exact ih (k + 1) (by omega)
      · refine g_aload_n C (q := 0) d_B_take_34 rfl rfl ?_
        refine gG C (v := .ref (ad 13)) 3 1 u_B k_104 (cwo_3 _) rfl (by decide) rfl rfl d_B_take_35 ?_
        refine g_iload_n C (q := 3) d_B_take_38 rfl rfl ?_
        refine g_iload C (q := 4) d_B_take_39 rfl ?_
        refine g_iadd C d_B_take_41 ?_
        refine g_aload_n C (q := 0) d_B_take_42 rfl rfl ?_
        refine gG C (v := .ref (ad 13)) 3 1 u_B k_104 (cwo_3 _) rfl (by decide) rfl rfl d_B_take_43 ?_
        refine g_iload_n C (q := 3) d_B_take_46 rfl rfl ?_
        refine g_iload C (q := 5) d_B_take_47 rfl ?_
        refine g_iadd C d_B_take_49 ?_
        refine g_iald C 13 0 (cwa_13 _) rfl (by decide) (by omega) d_B_take_50 ?_
        refine g_st (st' := [.int (iI (((tk b a (x 13) k).1) ((b * 4) + (k : Int)))), .int (iI ((b * 4) + (tk b a (x 13) k).2)), .ref (ad 13)]) rfl ?_
        refine g_iast C 13 0 (cwa_13 _) rfl (by decide) (by omega) d_B_take_51 (cws_13 _ _) ?_
        refine g_ws (ws' := cw ad cI cZ (bu (bu x 13 ((tk b a (x 13) k).1)) 13 (updI ((tk b a (x 13) k).1) ((b * 4) + (tk b a (x 13) k).2) (((tk b a (x 13) k).1) ((b * 4) + (k : Int)))))) rfl ?_
        refine g_iinc C (q := 4) (lv' := [(0, .ref (ad 3)), (1, .int (iI a)), (2, .int (iI b)), (3, .int (iI (b * 4))), (4, .int (iI ((tk b a (x 13) k).2 + 1))), (5, .int (iI (k : Int)))]) d_B_take_52 rfl (by decide) rfl rfl ?_
        refine g_eq (ws' := cw ad cI cZ (bu x 13 ((tk b a (x 13) (k + 1)).1))) (lv' := [(0, .ref (ad 3)), (1, .int (iI a)), (2, .int (iI b)), (3, .int (iI (b * 4))), (4, .int (iI (tk b a (x 13) (k + 1)).2)), (5, .int (iI (k : Int)))]) (pc' := 55) (st' := []) (by first | (rw [tk_t _ _ _ _ (by assumption)]; done) | (rw [tk_f _ _ _ _ (by assumption)]; rfl)) (by first | rw [tk_t _ _ _ _ (by assumption)] | rw [tk_f _ _ _ _ (by assumption)]) rfl rfl ?_
        refine g_iinc C (q := 5) (lv' := [(0, .ref (ad 3)), (1, .int (iI a)), (2, .int (iI b)), (3, .int (iI (b * 4))), (4, .int (iI ((tk b a (x 13) (k + 1)).2))), (5, .int (iI ((k : Int) + 1)))]) d_B_take_55 rfl (by decide) rfl rfl ?_
        refine g_goto C (tgt := 10) d_B_take_58 rfl ?_
        exact ih (k + 1) (by omega)
set_option maxRecDepth 100000 in
set_option maxHeartbeats 4000000 in
theorem m_B_take {l : Launch} {D : va_G} {cI cZ cJ : ClassId} {base : Nat} {ad : Nat → Nat} (x : Bk) (a b : Int) (ha : 0 ≤ a ∧ a < 10) (hb : 0 ≤ b ∧ b < 10) (hl : 0 ≤ x 14 b ∧ x 14 b ≤ 4) (hr13 : ∀ i, 0 ≤ i → i < 40 → 0 ≤ x 13 i ∧ x 13 i < 10) : Cn l D cls9 (tyl cI cZ cJ) base (zz base) y_B_take (wz y_B_take c_B_take 6 none) ({ frames := 0, cells := 0, slots := 0, locals := 0 } : Room) [.ref (ad 3), .int (iI a), .int (iI b)] (cw ad cI cZ x) (fun r w => r = none ∧ w = cw ad cI cZ (bu (bu (bu x 13 (tk b a (x 13) (x 14 b).toNat).1) 14 (updI (x 14) b (tk b a (x 13) (x 14 b).toNat).2)) 15 (updI (x 15) a (-1)))) 0 0 := by
  refine Cn_of (zzG base) (by decide) rfl (Nat.le_of_ble_eq_true rfl) ?_
  intro p e s m args below meth c A C hr hA hnm
  have C : gC p s m args meth c D cls9 (tyl cI cZ cJ) A c_B_take 6 "BatchSavings$Batches" (wz y_B_take c_B_take 6 none) base (zz base) := C
  refine g_lve (lv' := [(0, .ref (ad 3)), (1, .int (iI a)), (2, .int (iI b))]) rfl ?_
  refine g_iload_n C (q := 2) d_B_take_0 rfl rfl ?_
  refine g_iconst C d_B_take_1 ?_
  refine g_imul C d_B_take_2 ?_
  refine g_istore_n C (lv' := [(0, .ref (ad 3)), (1, .int (iI a)), (2, .int (iI b)), (3, .int (iI (b * 4)))]) d_B_take_3 rfl (by decide) rfl rfl ?_
  refine g_iconst C d_B_take_4 ?_
  refine g_istore C (lv' := [(0, .ref (ad 3)), (1, .int (iI a)), (2, .int (iI b)), (3, .int (iI (b * 4))), (4, .int (iI 0))]) d_B_take_5 (by decide) rfl rfl ?_
  refine g_iconst C d_B_take_7 ?_
  refine g_istore C (lv' := [(0, .ref (ad 3)), (1, .int (iI a)), (2, .int (iI b)), (3, .int (iI (b * 4))), (4, .int (iI 0)), (5, .int (iI 0))]) d_B_take_8 (by decide) rfl rfl ?_
  refine g_ws (ws' := cw ad cI cZ (bu x 13 ((tk b a (x 13) 0).1))) rfl ?_
  refine lp_B_take C x a b ha hb hl hr13 ?_ (x 14 b).toNat 0 (by omega)
  refine g_aload_n C (q := 0) d_B_take_61 rfl rfl ?_
  refine gG C (v := .ref (ad 14)) 3 2 u_B k_105 (cwo_3 _) rfl (by decide) rfl rfl d_B_take_62 ?_
  refine g_iload_n C (q := 2) d_B_take_65 rfl rfl ?_
  refine g_iload C (q := 4) d_B_take_66 rfl ?_
  refine g_iast C 14 0 (cwa_14 _) rfl (by decide) (by omega) d_B_take_68 (cws_14 _ _) ?_
  refine g_ws (ws' := cw ad cI cZ (bu (bu x 13 ((tk b a (x 13) ((x 14 b).toNat)).1)) 14 (updI (x 14) b ((tk b a (x 13) ((x 14 b).toNat)).2)))) rfl ?_
  refine g_aload_n C (q := 0) d_B_take_69 rfl rfl ?_
  refine gG C (v := .ref (ad 15)) 3 3 u_B k_107 (cwo_3 _) rfl (by decide) rfl rfl d_B_take_70 ?_
  refine g_iload_n C (q := 1) d_B_take_73 rfl rfl ?_
  refine g_iconst C d_B_take_74 ?_
  refine g_iast C 15 0 (cwa_15 _) rfl (by decide) (by omega) d_B_take_75 (cws_15 _ _) ?_
  refine g_ws (ws' := cw ad cI cZ (bu (bu (bu x 13 ((tk b a (x 13) ((x 14 b).toNat)).1)) 14 (updI (x 14) b ((tk b a (x 13) ((x 14 b).toNat)).2))) 15 (updI (x 15) a (-1)))) rfl ?_
  exact g_vret C hA hr d_B_take_76 (by decide) (by decide) ⟨rfl, rfl⟩
