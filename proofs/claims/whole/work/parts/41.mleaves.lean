theorem b01_iff {p q : Prop} [Decidable p] [Decidable q] (h : p ↔ q) : b01 p = b01 q := by
  by_cases hp : p
  · rw [b01_t hp, b01_t (h.mp hp)]
  · rw [b01_f hp, b01_f (fun z => hp (h.mpr z))]
theorem clr_b {q a : Int} (hq : 0 ≤ q ∧ q < 1024) (ha : 0 ≤ a ∧ a < 10) : 0 ≤ clr q a ∧ clr q a < 1024 := by
  have := clr_in hq ha
  omega
set_option maxRecDepth 100000 in
set_option maxHeartbeats 4000000 in
theorem m_Tw_in {l : Launch} {D : va_G} {cI cZ cJ : ClassId} {base : Nat} (v lo hi : Int) (hv : InR v) (hlo : InR lo) (hhi : InR hi) : Cn l D cls9 (tyl cI cZ cJ) base (zz base) y_Tw_in (wz y_Tw_in c_Tw_in 3 (some FieldType.boolean)) ({ frames := 0, cells := 0, slots := 0, locals := 0 } : Room) [.int (iI v), .int (iI lo), .int (iI hi)] [] (fun r w => r = some (b01 (lo ≤ v ∧ v ≤ hi)) ∧ w = []) 0 0 := by
  refine Cn_of (zzG base) (by decide) rfl (Nat.le_of_ble_eq_true rfl) ?_
  intro p e s m args below meth c A C hr hA hnm
  have C : gC p s m args meth c D cls9 (tyl cI cZ cJ) A c_Tw_in 3 "BatchSavingsModel" (wz y_Tw_in c_Tw_in 3 (some FieldType.boolean)) base (zz base) := C
  refine g_lve (lv' := [(0, .int (iI v)), (1, .int (iI lo)), (2, .int (iI hi))]) rfl ?_
  refine g_iload_n C (q := 0) d_Tw_in_0 rfl rfl ?_
  refine g_iload_n C (q := 1) d_Tw_in_1 rfl rfl ?_
  refine g_icmp_lt C (tgt := 14) d_Tw_in_2 rfl (by omega) (by omega) (fun h2_1 => ?_) (fun h2_1 => ?_)
  · refine g_iconst C d_Tw_in_14 ?_
    exact g_zret C hA hr d_Tw_in_15 (by decide) (by decide) (by omega) ⟨congrArg some (by unfold b01; first | rw [if_pos (by omega)] | rw [if_neg (by omega)]), rfl⟩
  · refine g_iload_n C (q := 0) d_Tw_in_5 rfl rfl ?_
    refine g_iload_n C (q := 2) d_Tw_in_6 rfl rfl ?_
    refine g_icmp_gt C (tgt := 14) d_Tw_in_7 rfl (by omega) (by omega) (fun h7_2 => ?_) (fun h7_2 => ?_)
    · refine g_iconst C d_Tw_in_14 ?_
      exact g_zret C hA hr d_Tw_in_15 (by decide) (by decide) (by omega) ⟨congrArg some (by unfold b01; first | rw [if_pos (by omega)] | rw [if_neg (by omega)]), rfl⟩
    · refine g_iconst C d_Tw_in_10 ?_
      refine g_goto C (tgt := 15) d_Tw_in_11 rfl ?_
      exact g_zret C hA hr d_Tw_in_15 (by decide) (by decide) (by omega) ⟨congrArg some (by unfold b01; first | rw [if_pos (by omega)] | rw [if_neg (by omega)]), rfl⟩
set_option maxRecDepth 100000 in
set_option maxHeartbeats 4000000 in
theorem m_Tw_isOrder {l : Launch} {D : va_G} {cI cZ cJ : ClassId} {base : Nat} {ad : Nat → Nat} (x : Bk) (a : Int) (ha : InR a) (hn : 0 ≤ x 1 0 ∧ x 1 0 ≤ 10) : Cn l D cls9 (tyl cI cZ cJ) base (zz base) y_Tw_isOrder (wz y_Tw_isOrder c_Tw_isOrder 2 (some FieldType.boolean)) ({ frames := 1, cells := 0, slots := 0, locals := 22 } : Room) [.ref (ad 0), .int (iI a)] (mw ad cI cZ x) (fun r w => r = some (b01 (0 ≤ a ∧ a < x 1 0)) ∧ w = mw ad cI cZ x) 0 0 := by
  refine Cn_of (zzG base) (by decide) rfl (Nat.le_of_ble_eq_true rfl) ?_
  intro p e s m args below meth c A C hr hA hnm
  have C : gC p s m args meth c D cls9 (tyl cI cZ cJ) A c_Tw_isOrder 2 "BatchSavingsModel" (wz y_Tw_isOrder c_Tw_isOrder 2 (some FieldType.boolean)) base (zz base) := C
  refine g_lve (lv' := [(0, .ref (ad 0)), (1, .int (iI a))]) rfl ?_
  refine g_iload_n C (q := 1) d_Tw_isOrder_0 rfl rfl ?_
  refine g_iconst C d_Tw_isOrder_1 ?_
  refine g_aload_n C (q := 0) d_Tw_isOrder_2 rfl rfl ?_
  refine gG C (v := .int (iI (x 1 0))) 0 1 u_Tw k_649 (mwo_0 _) rfl (by decide) rfl rfl d_Tw_isOrder_3 ?_
  refine g_iconst C d_Tw_isOrder_6 ?_
  refine g_isub C d_Tw_isOrder_7 ?_
  refine gS0 C (st := []) (m_Tw_in a 0 ((x 1 0) - 1) (by omega) (by omega) (by omega)) k_713 k_711 k_712 k_7 rfl ho_Tw_in rfl rfl ⟨by decide, by decide⟩ rfl rfl (Nat.le_of_ble_eq_true rfl) d_Tw_isOrder_8 ⟨by decide, by decide⟩ (fun r w hq => ?_)
  obtain ⟨rfl, rfl⟩ := hq
  refine g_eq (ws' := mw ad cI cZ x) (lv' := [(0, .ref (ad 0)), (1, .int (iI a))]) (pc' := 11) (st' := [.int (iI (b01 (0 ≤ a ∧ a ≤ ((x 1 0) - 1))))]) rfl rfl rfl rfl ?_
  exact g_zret C hA hr d_Tw_isOrder_11 (by decide) (by decide) b01_or ⟨congrArg some (b01_iff (by omega)), rfl⟩
set_option maxRecDepth 100000 in
set_option maxHeartbeats 4000000 in
theorem m_Tw_isBatch {l : Launch} {D : va_G} {cI cZ cJ : ClassId} {base : Nat} {ad : Nat → Nat} (x : Bk) (a : Int) (ha : InR a) (hn : 0 ≤ x 3 0 ∧ x 3 0 ≤ 10) : Cn l D cls9 (tyl cI cZ cJ) base (zz base) y_Tw_isBatch (wz y_Tw_isBatch c_Tw_isBatch 2 (some FieldType.boolean)) ({ frames := 1, cells := 0, slots := 0, locals := 22 } : Room) [.ref (ad 0), .int (iI a)] (mw ad cI cZ x) (fun r w => r = some (b01 (0 ≤ a ∧ a < x 3 0)) ∧ w = mw ad cI cZ x) 0 0 := by
  refine Cn_of (zzG base) (by decide) rfl (Nat.le_of_ble_eq_true rfl) ?_
  intro p e s m args below meth c A C hr hA hnm
  have C : gC p s m args meth c D cls9 (tyl cI cZ cJ) A c_Tw_isBatch 2 "BatchSavingsModel" (wz y_Tw_isBatch c_Tw_isBatch 2 (some FieldType.boolean)) base (zz base) := C
  refine g_lve (lv' := [(0, .ref (ad 0)), (1, .int (iI a))]) rfl ?_
  refine g_iload_n C (q := 1) d_Tw_isBatch_0 rfl rfl ?_
  refine g_iconst C d_Tw_isBatch_1 ?_
  refine g_aload_n C (q := 0) d_Tw_isBatch_2 rfl rfl ?_
  refine gG C (v := .int (iI (x 3 0))) 0 13 u_Tw k_661 (mwo_0 _) rfl (by decide) rfl rfl d_Tw_isBatch_3 ?_
  refine g_iconst C d_Tw_isBatch_6 ?_
  refine g_isub C d_Tw_isBatch_7 ?_
  refine gS0 C (st := []) (m_Tw_in a 0 ((x 3 0) - 1) (by omega) (by omega) (by omega)) k_713 k_711 k_712 k_7 rfl ho_Tw_in rfl rfl ⟨by decide, by decide⟩ rfl rfl (Nat.le_of_ble_eq_true rfl) d_Tw_isBatch_8 ⟨by decide, by decide⟩ (fun r w hq => ?_)
  obtain ⟨rfl, rfl⟩ := hq
  refine g_eq (ws' := mw ad cI cZ x) (lv' := [(0, .ref (ad 0)), (1, .int (iI a))]) (pc' := 11) (st' := [.int (iI (b01 (0 ≤ a ∧ a ≤ ((x 3 0) - 1))))]) rfl rfl rfl rfl ?_
  exact g_zret C hA hr d_Tw_isBatch_11 (by decide) (by decide) b01_or ⟨congrArg some (b01_iff (by omega)), rfl⟩
set_option maxRecDepth 100000 in
set_option maxHeartbeats 4000000 in
theorem m_Tw_save {l : Launch} {D : va_G} {cI cZ cJ : ClassId} {base : Nat} {ad : Nat → Nat} (x : Bk) (a b : Int) (ha : 0 ≤ a ∧ a < 10) (hb : 0 ≤ b ∧ b < 10) (h9 : InR (x 9 (a * 10 + b))) : Cn l D cls9 (tyl cI cZ cJ) base (zz base) y_Tw_save (wz y_Tw_save c_Tw_save 4 (some FieldType.int)) ({ frames := 0, cells := 0, slots := 0, locals := 0 } : Room) [.ref (ad 0), .int (iI a), .int (iI b)] (mw ad cI cZ x) (fun r w => r = some (sv x a b) ∧ w = mw ad cI cZ x) 0 0 := by
  refine Cn_of (zzG base) (by decide) rfl (Nat.le_of_ble_eq_true rfl) ?_
  intro p e s m args below meth c A C hr hA hnm
  have C : gC p s m args meth c D cls9 (tyl cI cZ cJ) A c_Tw_save 4 "BatchSavingsModel" (wz y_Tw_save c_Tw_save 4 (some FieldType.int)) base (zz base) := C
  refine g_lve (lv' := [(0, .ref (ad 0)), (1, .int (iI a)), (2, .int (iI b))]) rfl ?_
  refine g_aload_n C (q := 0) d_Tw_save_0 rfl rfl ?_
  refine gG C (v := .ref (ad 5)) 0 6 u_Tw k_654 (mwo_0 _) rfl (by decide) rfl rfl d_Tw_save_1 ?_
  refine g_bipush C d_Tw_save_4 rfl ?_
  refine g_iload_n C (q := 1) d_Tw_save_6 rfl rfl ?_
  refine g_imul C d_Tw_save_7 ?_
  refine g_iload_n C (q := 2) d_Tw_save_8 rfl rfl ?_
  refine g_iadd C d_Tw_save_9 ?_
  refine g_iald C 5 0 (mwa_5 _) rfl (by decide) (by omega) d_Tw_save_10 ?_
  refine g_st (st' := [.int (iI (x 9 ((10 * a) + b)))]) rfl ?_
  refine g_st (st' := [.int (iI (x 9 (a * 10 + b)))]) (by rw [Int.mul_comm 10 a]) ?_
  refine g_istore_n C (lv' := [(0, .ref (ad 0)), (1, .int (iI a)), (2, .int (iI b)), (3, .int (iI (x 9 (a * 10 + b))))]) d_Tw_save_11 rfl (by decide) rfl rfl ?_
  refine g_iload_n C (q := 3) d_Tw_save_12 rfl rfl ?_
  refine g_iconst C d_Tw_save_13 ?_
  refine g_icmp_ne C (tgt := 21) d_Tw_save_14 rfl (by omega) (by omega) (fun h14_1 => ?_) (fun h14_1 => ?_)
  · refine g_aload_n C (q := 0) d_Tw_save_21 rfl rfl ?_
    refine gG C (v := .ref (ad 1)) 0 2 u_Tw k_650 (mwo_0 _) rfl (by decide) rfl rfl d_Tw_save_22 ?_
    refine g_iload_n C (q := 1) d_Tw_save_25 rfl rfl ?_
    refine g_iald C 1 0 (mwa_1 _) rfl (by decide) (by omega) d_Tw_save_26 ?_
    refine g_st (st' := [.int (iI (x 5 a))]) rfl ?_
    refine g_aload_n C (q := 0) d_Tw_save_27 rfl rfl ?_
    refine gG C (v := .ref (ad 1)) 0 2 u_Tw k_650 (mwo_0 _) rfl (by decide) rfl rfl d_Tw_save_28 ?_
    refine g_iload_n C (q := 2) d_Tw_save_31 rfl rfl ?_
    refine g_iald C 1 0 (mwa_1 _) rfl (by decide) (by omega) d_Tw_save_32 ?_
    refine g_st (st' := [.int (iI (x 5 b)), .int (iI (x 5 a))]) rfl ?_
    refine g_iadd C d_Tw_save_33 ?_
    refine g_iload_n C (q := 3) d_Tw_save_34 rfl rfl ?_
    refine g_isub C d_Tw_save_35 ?_
    exact g_iret C hA hr d_Tw_save_36 (by decide) (by decide) ⟨by unfold sv; simp [*], rfl⟩
  · refine g_iconst C d_Tw_save_17 ?_
    refine g_goto C (tgt := 36) d_Tw_save_18 rfl ?_
    exact g_iret C hA hr d_Tw_save_36 (by decide) (by decide) ⟨by unfold sv; simp [*], rfl⟩
set_option maxRecDepth 100000 in
set_option maxHeartbeats 4000000 in
theorem m_Tw_isFree {l : Launch} {D : va_G} {cI cZ cJ : ClassId} {base : Nat} {ad : Nat → Nat} (x : Bk) (a : Int) (ha : 0 ≤ a ∧ a < 10) (hh : InR (x 15 a)) : Cn l D cls9 (tyl cI cZ cJ) base (zz base) y_Tw_isFree (wz y_Tw_isFree c_Tw_isFree 2 (some FieldType.boolean)) ({ frames := 0, cells := 0, slots := 0, locals := 0 } : Room) [.ref (ad 0), .int (iI a)] (mw ad cI cZ x) (fun r w => r = some (b01 (x 15 a = -1)) ∧ w = mw ad cI cZ x) 0 0 := by
  refine Cn_of (zzG base) (by decide) rfl (Nat.le_of_ble_eq_true rfl) ?_
  intro p e s m args below meth c A C hr hA hnm
  have C : gC p s m args meth c D cls9 (tyl cI cZ cJ) A c_Tw_isFree 2 "BatchSavingsModel" (wz y_Tw_isFree c_Tw_isFree 2 (some FieldType.boolean)) base (zz base) := C
  refine g_lve (lv' := [(0, .ref (ad 0)), (1, .int (iI a))]) rfl ?_
  refine g_aload_n C (q := 0) d_Tw_isFree_0 rfl rfl ?_
  refine gG C (v := .ref (ad 11)) 0 16 u_Tw k_664 (mwo_0 _) rfl (by decide) rfl rfl d_Tw_isFree_1 ?_
  refine g_iload_n C (q := 1) d_Tw_isFree_4 rfl rfl ?_
  refine g_iald C 11 0 (mwa_11 _) rfl (by decide) (by omega) d_Tw_isFree_5 ?_
  refine g_st (st' := [.int (iI (x 15 a))]) rfl ?_
  refine g_iconst C d_Tw_isFree_6 ?_
  refine g_icmp_ne C (tgt := 14) d_Tw_isFree_7 rfl (by omega) (by omega) (fun h7_1 => ?_) (fun h7_1 => ?_)
  · refine g_iconst C d_Tw_isFree_14 ?_
    exact g_zret C hA hr d_Tw_isFree_15 (by decide) (by decide) (by omega) ⟨congrArg some (by unfold b01; first | rw [if_pos (by omega)] | rw [if_neg (by omega)]), rfl⟩
  · refine g_iconst C d_Tw_isFree_10 ?_
    refine g_goto C (tgt := 15) d_Tw_isFree_11 rfl ?_
    exact g_zret C hA hr d_Tw_isFree_15 (by decide) (by decide) (by omega) ⟨congrArg some (by unfold b01; first | rw [if_pos (by omega)] | rw [if_neg (by omega)]), rfl⟩
set_option maxRecDepth 100000 in
set_option maxHeartbeats 4000000 in
theorem m_Tw_thrown {l : Launch} {D : va_G} {cI cZ cJ : ClassId} {base : Nat} {ad : Nat → Nat} (x : Bk)  : Cn l D cls9 (tyl cI cZ cJ) base (zz base) y_Tw_thrown (wz y_Tw_thrown c_Tw_thrown 1 (some FieldType.int)) ({ frames := 0, cells := 0, slots := 0, locals := 0 } : Room) [.ref (ad 0)] (mw ad cI cZ x) (fun r w => r = some (x 0 0) ∧ w = mw ad cI cZ x) 0 0 := by
  refine Cn_of (zzG base) (by decide) rfl (Nat.le_of_ble_eq_true rfl) ?_
  intro p e s m args below meth c A C hr hA hnm
  have C : gC p s m args meth c D cls9 (tyl cI cZ cJ) A c_Tw_thrown 1 "BatchSavingsModel" (wz y_Tw_thrown c_Tw_thrown 1 (some FieldType.int)) base (zz base) := C
  refine g_lve (lv' := [(0, .ref (ad 0))]) rfl ?_
  refine g_aload_n C (q := 0) d_Tw_thrown_0 rfl rfl ?_
  refine gG C (v := .int (iI (x 0 0))) 0 0 u_Tw k_648 (mwo_0 _) rfl (by decide) rfl rfl d_Tw_thrown_1 ?_
  exact g_iret C hA hr d_Tw_thrown_4 (by decide) (by decide) ⟨rfl, rfl⟩
set_option maxRecDepth 100000 in
set_option maxHeartbeats 4000000 in
theorem m_Tw_pair {l : Launch} {D : va_G} {cI cZ cJ : ClassId} {base : Nat} {ad : Nat → Nat} (x : Bk) (a b : Int) (ha : 0 ≤ a ∧ a < 10) (hb : 0 ≤ b ∧ b < 10) : Cn l D cls9 (tyl cI cZ cJ) base (zz base) y_Tw_pair (wz y_Tw_pair c_Tw_pair 3 none) ({ frames := 0, cells := 0, slots := 0, locals := 0 } : Room) [.ref (ad 0), .int (iI a), .int (iI b)] (mw ad cI cZ x) (fun r w => r = none ∧ w = mw ad cI cZ (bu x 16 (updI (updI (x 16) a b) b a))) 0 0 := by
  refine Cn_of (zzG base) (by decide) rfl (Nat.le_of_ble_eq_true rfl) ?_
  intro p e s m args below meth c A C hr hA hnm
  have C : gC p s m args meth c D cls9 (tyl cI cZ cJ) A c_Tw_pair 3 "BatchSavingsModel" (wz y_Tw_pair c_Tw_pair 3 none) base (zz base) := C
  refine g_lve (lv' := [(0, .ref (ad 0)), (1, .int (iI a)), (2, .int (iI b))]) rfl ?_
  refine g_aload_n C (q := 0) d_Tw_pair_0 rfl rfl ?_
  refine gG C (v := .ref (ad 8)) 0 11 u_Tw k_659 (mwo_0 _) rfl (by decide) rfl rfl d_Tw_pair_1 ?_
  refine g_iload_n C (q := 1) d_Tw_pair_4 rfl rfl ?_
  refine g_iload_n C (q := 2) d_Tw_pair_5 rfl rfl ?_
  refine g_iast C 8 0 (mwa_8 _) rfl (by decide) (by omega) d_Tw_pair_6 (mws_8 _ _) ?_
  refine g_ws (ws' := mw ad cI cZ (bu x 16 (updI (x 16) a b))) rfl ?_
  refine g_aload_n C (q := 0) d_Tw_pair_7 rfl rfl ?_
  refine gG C (v := .ref (ad 8)) 0 11 u_Tw k_659 (mwo_0 _) rfl (by decide) rfl rfl d_Tw_pair_8 ?_
  refine g_iload_n C (q := 2) d_Tw_pair_11 rfl rfl ?_
  refine g_iload_n C (q := 1) d_Tw_pair_12 rfl rfl ?_
  refine g_iast C 8 0 (mwa_8 _) rfl (by decide) (by omega) d_Tw_pair_13 (mws_8 _ _) ?_
  refine g_ws (ws' := mw ad cI cZ (bu (bu x 16 (updI (x 16) a b)) 16 (updI (updI (x 16) a b) b a))) rfl ?_
  exact g_vret C hA hr d_Tw_pair_14 (by decide) (by decide) ⟨rfl, rfl⟩
set_option maxRecDepth 100000 in
set_option maxHeartbeats 4000000 in
theorem m_Tw_unpair {l : Launch} {D : va_G} {cI cZ cJ : ClassId} {base : Nat} {ad : Nat → Nat} (x : Bk) (a : Int) (ha : 0 ≤ a ∧ a < 10) (hp : -1 ≤ x 16 a ∧ x 16 a < 10) : Cn l D cls9 (tyl cI cZ cJ) base (zz base) y_Tw_unpair (wz y_Tw_unpair c_Tw_unpair 2 none) ({ frames := 0, cells := 0, slots := 0, locals := 0 } : Room) [.ref (ad 0), .int (iI a)] (mw ad cI cZ x) (fun r w => r = none ∧ w = mw ad cI cZ (bu x 16 (unp (x 16) a))) 0 0 := by
  refine Cn_of (zzG base) (by decide) rfl (Nat.le_of_ble_eq_true rfl) ?_
  intro p e s m args below meth c A C hr hA hnm
  have C : gC p s m args meth c D cls9 (tyl cI cZ cJ) A c_Tw_unpair 2 "BatchSavingsModel" (wz y_Tw_unpair c_Tw_unpair 2 none) base (zz base) := C
  refine g_lve (lv' := [(0, .ref (ad 0)), (1, .int (iI a))]) rfl ?_
  refine g_aload_n C (q := 0) d_Tw_unpair_0 rfl rfl ?_
  refine gG C (v := .ref (ad 8)) 0 11 u_Tw k_659 (mwo_0 _) rfl (by decide) rfl rfl d_Tw_unpair_1 ?_
  refine g_iload_n C (q := 1) d_Tw_unpair_4 rfl rfl ?_
  refine g_iald C 8 0 (mwa_8 _) rfl (by decide) (by omega) d_Tw_unpair_5 ?_
  refine g_st (st' := [.int (iI (x 16 a))]) rfl ?_
  refine g_iconst C d_Tw_unpair_6 ?_
  refine g_icmp_eq C (tgt := 22) d_Tw_unpair_7 rfl (by omega) (by omega) (fun h7_1 => ?_) (fun h7_1 => ?_)
  · refine g_aload_n C (q := 0) d_Tw_unpair_22 rfl rfl ?_
    refine gG C (v := .ref (ad 8)) 0 11 u_Tw k_659 (mwo_0 _) rfl (by decide) rfl rfl d_Tw_unpair_23 ?_
    refine g_iload_n C (q := 1) d_Tw_unpair_26 rfl rfl ?_
    refine g_iconst C d_Tw_unpair_27 ?_
    refine g_iast C 8 0 (mwa_8 _) rfl (by decide) (by omega) d_Tw_unpair_28 (mws_8 _ _) ?_
    refine g_ws (ws' := mw ad cI cZ (bu x 16 (updI (x 16) a (-1)))) rfl ?_
    exact g_vret C hA hr d_Tw_unpair_29 (by decide) (by decide) ⟨rfl, by unfold unp; first | rw [if_pos (by assumption)] | (rw [if_neg (by assumption)]; rfl)⟩
  · refine g_aload_n C (q := 0) d_Tw_unpair_10 rfl rfl ?_
    refine gG C (v := .ref (ad 8)) 0 11 u_Tw k_659 (mwo_0 _) rfl (by decide) rfl rfl d_Tw_unpair_11 ?_
    refine g_aload_n C (q := 0) d_Tw_unpair_14 rfl rfl ?_
    refine gG C (v := .ref (ad 8)) 0 11 u_Tw k_659 (mwo_0 _) rfl (by decide) rfl rfl d_Tw_unpair_15 ?_
    refine g_iload_n C (q := 1) d_Tw_unpair_18 rfl rfl ?_
    refine g_iald C 8 0 (mwa_8 _) rfl (by decide) (by omega) d_Tw_unpair_19 ?_
    refine g_st (st' := [.int (iI (x 16 a)), .ref (ad 8)]) rfl ?_
    refine g_iconst C d_Tw_unpair_20 ?_
    refine g_iast C 8 0 (mwa_8 _) rfl (by decide) (by omega) d_Tw_unpair_21 (mws_8 _ _) ?_
    refine g_ws (ws' := mw ad cI cZ (bu x 16 (updI (x 16) (x 16 a) (-1)))) rfl ?_
    refine g_aload_n C (q := 0) d_Tw_unpair_22 rfl rfl ?_
    refine gG C (v := .ref (ad 8)) 0 11 u_Tw k_659 (mwo_0 _) rfl (by decide) rfl rfl d_Tw_unpair_23 ?_
    refine g_iload_n C (q := 1) d_Tw_unpair_26 rfl rfl ?_
    refine g_iconst C d_Tw_unpair_27 ?_
    refine g_iast C 8 0 (mwa_8 _) rfl (by decide) (by omega) d_Tw_unpair_28 (mws_8 _ _) ?_
    refine g_ws (ws' := mw ad cI cZ (bu (bu x 16 (updI (x 16) (x 16 a) (-1))) 16 (updI (updI (x 16) (x 16 a) (-1)) a (-1)))) rfl ?_
    exact g_vret C hA hr d_Tw_unpair_29 (by decide) (by decide) ⟨rfl, by unfold unp; first | rw [if_pos (by assumption)] | (rw [if_neg (by assumption)]; rfl)⟩
set_option maxRecDepth 100000 in
set_option maxHeartbeats 4000000 in
theorem m_Tw_put {l : Launch} {D : va_G} {cI cZ cJ : ClassId} {base : Nat} {ad : Nat → Nat} (x : Bk) (a b : Int) (ha : 0 ≤ a ∧ a < 10) (hb : 0 ≤ b ∧ b < 10) (hl : 0 ≤ x 14 b ∧ x 14 b < 4) (hp : -1 ≤ x 16 a ∧ x 16 a < 10) : Cn l D cls9 (tyl cI cZ cJ) base (zz base) y_Tw_put (wz y_Tw_put c_Tw_put 3 none) ({ frames := 1, cells := 0, slots := 0, locals := 21 } : Room) [.ref (ad 0), .int (iI a), .int (iI b)] (mw ad cI cZ x) (fun r w => r = none ∧ w = mw ad cI cZ (ptB (unX x a) a b)) 0 0 := by
  refine Cn_of (zzG base) (by decide) rfl (Nat.le_of_ble_eq_true rfl) ?_
  intro p e s m args below meth c A C hr hA hnm
  have C : gC p s m args meth c D cls9 (tyl cI cZ cJ) A c_Tw_put 3 "BatchSavingsModel" (wz y_Tw_put c_Tw_put 3 none) base (zz base) := C
  refine g_lve (lv' := [(0, .ref (ad 0)), (1, .int (iI a)), (2, .int (iI b))]) rfl ?_
  refine g_aload_n C (q := 0) d_Tw_put_0 rfl rfl ?_
  refine g_iload_n C (q := 1) d_Tw_put_1 rfl rfl ?_
  refine gV C (st := []) (m_Tw_unpair x a (by omega) (by omega)) k_808 k_805 k_807 kp_57 k_7 rfl ho_Tw_unpair rfl rfl ⟨by decide, by decide⟩ 0 (mwo_0 _) rfl rfl rfl (Nat.le_of_ble_eq_true rfl) d_Tw_put_2 ⟨by decide, by decide⟩ (fun r w hq => ?_)
  obtain ⟨rfl, rfl⟩ := hq
  refine g_eq (ws' := mw ad cI cZ (bu x 16 (unp (x 16) a))) (lv' := [(0, .ref (ad 0)), (1, .int (iI a)), (2, .int (iI b))]) (pc' := 5) (st' := []) rfl rfl rfl rfl ?_
  refine g_aload_n C (q := 0) d_Tw_put_5 rfl rfl ?_
  refine gG C (v := .ref (ad 10)) 0 15 u_Tw k_663 (mwo_0 _) rfl (by decide) rfl rfl d_Tw_put_6 ?_
  refine g_iconst C d_Tw_put_9 ?_
  refine g_iload_n C (q := 2) d_Tw_put_10 rfl rfl ?_
  refine g_imul C d_Tw_put_11 ?_
  refine g_aload_n C (q := 0) d_Tw_put_12 rfl rfl ?_
  refine gG C (v := .ref (ad 9)) 0 14 u_Tw k_662 (mwo_0 _) rfl (by decide) rfl rfl d_Tw_put_13 ?_
  refine g_iload_n C (q := 2) d_Tw_put_16 rfl rfl ?_
  refine g_iald C 9 0 (mwa_9 _) rfl (by decide) (by omega) d_Tw_put_17 ?_
  refine g_st (st' := [.int (iI (x 14 b)), .int (iI (4 * b)), .ref (ad 10)]) rfl ?_
  refine g_iadd C d_Tw_put_18 ?_
  refine g_st (st' := [.int (iI (b * 4 + (x 14 b))), .ref (ad 10)]) (by rw [Int.mul_comm 4 b]) ?_
  refine g_iload_n C (q := 1) d_Tw_put_19 rfl rfl ?_
  refine g_iast C 10 0 (mwa_10 _) rfl (by decide) (by omega) d_Tw_put_20 (mws_10 _ _) ?_
  refine g_ws (ws' := mw ad cI cZ (bu (bu x 16 (unp (x 16) a)) 13 (updI (x 13) (b * 4 + (x 14 b)) a))) rfl ?_
  refine g_aload_n C (q := 0) d_Tw_put_21 rfl rfl ?_
  refine gG C (v := .ref (ad 9)) 0 14 u_Tw k_662 (mwo_0 _) rfl (by decide) rfl rfl d_Tw_put_22 ?_
  refine g_iload_n C (q := 2) d_Tw_put_25 rfl rfl ?_
  refine g_dup2 C d_Tw_put_26 rfl rfl ?_
  refine g_iald C 9 0 (mwa_9 _) rfl (by decide) (by omega) d_Tw_put_27 ?_
  refine g_st (st' := [.int (iI (x 14 b)), .int (iI b), .ref (ad 9)]) rfl ?_
  refine g_iconst C d_Tw_put_28 ?_
  refine g_iadd C d_Tw_put_29 ?_
  refine g_iast C 9 0 (mwa_9 _) rfl (by decide) (by omega) d_Tw_put_30 (mws_9 _ _) ?_
  refine g_ws (ws' := mw ad cI cZ (bu (bu (bu x 16 (unp (x 16) a)) 13 (updI (x 13) (b * 4 + (x 14 b)) a)) 14 (updI (x 14) b ((x 14 b) + 1)))) rfl ?_
  refine g_aload_n C (q := 0) d_Tw_put_31 rfl rfl ?_
  refine gG C (v := .ref (ad 11)) 0 16 u_Tw k_664 (mwo_0 _) rfl (by decide) rfl rfl d_Tw_put_32 ?_
  refine g_iload_n C (q := 1) d_Tw_put_35 rfl rfl ?_
  refine g_iload_n C (q := 2) d_Tw_put_36 rfl rfl ?_
  refine g_iast C 11 0 (mwa_11 _) rfl (by decide) (by omega) d_Tw_put_37 (mws_11 _ _) ?_
  refine g_ws (ws' := mw ad cI cZ (bu (bu (bu (bu x 16 (unp (x 16) a)) 13 (updI (x 13) (b * 4 + (x 14 b)) a)) 14 (updI (x 14) b ((x 14 b) + 1))) 15 (updI (x 15) a b))) rfl ?_
  exact g_vret C hA hr d_Tw_put_38 (by decide) (by decide) ⟨rfl, rfl⟩
set_option maxRecDepth 100000 in
set_option maxHeartbeats 4000000 in
theorem lp_Tw_lowest {p : Program} {l : Launch} {e : Env} {s : State} {m : MethodId} {args : Array Value} {below : List Frame} {meth : Method} {c : Code} {D : va_G} {cI cZ cJ : ClassId} {base : Nat} {A : Nat → Prop} {Q : State → Prop} (C : gC p s m args meth c D cls9 (tyl cI cZ cJ) A c_Tw_lowest 2 "BatchSavingsModel" (wz y_Tw_lowest c_Tw_lowest 2 (some FieldType.int)) base (zz base)) (q : Int) (hq : 0 ≤ q ∧ q < 1024) (u : Int) (hu : ¬ u = -1)
    (K : gW p l e ({ frames := 0, cells := 0, slots := 0, locals := 0 } : Room) s m args below meth c D cls9 A 2 0 0 Q [] [(0, .int (iI q)), (1, .int (iI u))] 16 []) : ∀ (d k : Nat), k + d = 10 → fnd (fun i => bt q i) k d = u → gW p l e ({ frames := 0, cells := 0, slots := 0, locals := 0 } : Room) s m args below meth c D cls9 A 2 0 0 Q [] [(0, .int (iI q)), (1, .int (iI (k : Int)))] 2 [] := by
  intro d
  induction d with
  | zero =>
    intro k hk hf
    exact absurd hf.symm hu
  | succ d ih =>
    intro k hk hf
    refine g_iload_n C (q := 0) d_Tw_lowest_2 rfl rfl ?_
    refine g_iload_n C (q := 1) d_Tw_lowest_3 rfl rfl ?_
    refine g_ishrv C d_Tw_lowest_4 (i_shr (by omega) (by omega)) ?_
    refine g_iconst C d_Tw_lowest_5 ?_
    refine g_iandv C d_Tw_lowest_6 (i_and1 (shr_in _ (by omega))) ?_
    refine g_if_ne C (tgt := 16) d_Tw_lowest_7 rfl (by omega) (fun h7_1 => ?_) (fun h7_1 => ?_)
    · have hb : bt q (k : Int) := by
        have := bit_or q (k : Int)
        unfold bt
        omega
      have hf2 : (k : Int) = u := by rw [← hf]; exact (if_pos hb).symm
      rw [hf2]
      exact K
    · refine g_iinc C (q := 1) (lv' := [(0, .int (iI q)), (1, .int (iI ((k : Int) + 1)))]) d_Tw_lowest_10 rfl (by decide) rfl rfl ?_
      refine g_goto C (tgt := 2) d_Tw_lowest_13 rfl ?_
      have hb : ¬ bt q (k : Int) := by
        unfold bt
        omega
      exact ih (k + 1) (by omega) (by rw [← hf]; exact (if_neg hb).symm)
set_option maxRecDepth 100000 in
set_option maxHeartbeats 4000000 in
theorem m_Tw_lowest {l : Launch} {D : va_G} {cI cZ cJ : ClassId} {base : Nat} (q : Int) (hq : 0 ≤ q ∧ q < 1024) (h0 : ¬ q = 0) : Cn l D cls9 (tyl cI cZ cJ) base (zz base) y_Tw_lowest (wz y_Tw_lowest c_Tw_lowest 2 (some FieldType.int)) ({ frames := 0, cells := 0, slots := 0, locals := 0 } : Room) [.int (iI q)] [] (fun r w => r = some (low q) ∧ w = []) 0 0 := by
  refine Cn_of (zzG base) (by decide) rfl (Nat.le_of_ble_eq_true rfl) ?_
  intro p e s m args below meth c A C hr hA hnm
  have C : gC p s m args meth c D cls9 (tyl cI cZ cJ) A c_Tw_lowest 2 "BatchSavingsModel" (wz y_Tw_lowest c_Tw_lowest 2 (some FieldType.int)) base (zz base) := C
  refine g_lve (lv' := [(0, .int (iI q))]) rfl ?_
  refine g_iconst C d_Tw_lowest_0 ?_
  refine g_istore_n C (lv' := [(0, .int (iI q)), (1, .int (iI 0))]) d_Tw_lowest_1 rfl (by decide) rfl rfl ?_
  have hL := low_ok hq h0
  refine lp_Tw_lowest C q hq (low q) (by omega) ?_ 10 0 (by omega) rfl
  refine g_iload_n C (q := 1) d_Tw_lowest_16 rfl rfl ?_
  exact g_iret C hA hr d_Tw_lowest_17 (by decide) (by decide) ⟨rfl, rfl⟩
