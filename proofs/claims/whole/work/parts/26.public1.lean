set_option maxRecDepth 100000 in
set_option maxHeartbeats 4000000 in
theorem m_S_needTwoOrders {l : Launch} {D : va_G} {cI cZ cJ : ClassId} {base : Nat} {ad : Nat → Nat} (x : Bk) (a b : Int) (ha : InR a) (hb : InR b) (hn : 0 ≤ x 1 0 ∧ x 1 0 ≤ 10) (hg : (0 ≤ a ∧ a < x 1 0) ∧ (0 ≤ b ∧ b < x 1 0) ∧ ¬ a = b) : Cn l D cls9 (tyl cI cZ cJ) base (zz base) y_S_needTwoOrders (wz y_S_needTwoOrders c_S_needTwoOrders 3 none) ({ frames := 7, cells := 0, slots := 0, locals := 103 } : Room) [.ref (ad 0), .int (iI a), .int (iI b)] (cw ad cI cZ x) (fun r w => r = none ∧ w = cw ad cI cZ x) 0 0 := by
  refine Cn_of (zzG base) (by decide) rfl (Nat.le_of_ble_eq_true rfl) ?_
  intro p e s m args below meth c A C hr hA hnm
  have C : gC p s m args meth c D cls9 (tyl cI cZ cJ) A c_S_needTwoOrders 3 "BatchSavings" (wz y_S_needTwoOrders c_S_needTwoOrders 3 none) base (zz base) := C
  refine g_lve (lv' := [(0, .ref (ad 0)), (1, .int (iI a)), (2, .int (iI b))]) rfl ?_
  refine g_aload_n C (q := 0) d_S_needTwoOrders_0 rfl rfl ?_
  refine g_iload_n C (q := 1) d_S_needTwoOrders_1 rfl rfl ?_
  by_cases hc2 : 0 ≤ a ∧ a < (x 1 0)
  · refine gV C (st := []) (m_S_needOrder x a (by omega) (show InR (x 1 0) by omega) hc2) k_308 k_305 k_307 kp_8 k_1 rfl ho_S_needOrder rfl rfl ⟨by decide, by decide⟩ 0 (cwo_0 _) rfl rfl rfl (Nat.le_of_ble_eq_true rfl) d_S_needTwoOrders_2 ⟨by decide, by decide⟩ (fun r w hq => ?_)
    obtain ⟨rfl, rfl⟩ := hq
    refine g_eq (ws' := cw ad cI cZ x) (lv' := [(0, .ref (ad 0)), (1, .int (iI a)), (2, .int (iI b))]) (pc' := 5) (st' := []) rfl rfl rfl rfl ?_
    refine g_aload_n C (q := 0) d_S_needTwoOrders_5 rfl rfl ?_
    refine g_iload_n C (q := 2) d_S_needTwoOrders_6 rfl rfl ?_
    by_cases hc7 : 0 ≤ b ∧ b < (x 1 0)
    · refine gV C (st := []) (m_S_needOrder x b (by omega) (show InR (x 1 0) by omega) hc7) k_308 k_305 k_307 kp_8 k_1 rfl ho_S_needOrder rfl rfl ⟨by decide, by decide⟩ 0 (cwo_0 _) rfl rfl rfl (Nat.le_of_ble_eq_true rfl) d_S_needTwoOrders_7 ⟨by decide, by decide⟩ (fun r w hq => ?_)
      obtain ⟨rfl, rfl⟩ := hq
      refine g_eq (ws' := cw ad cI cZ x) (lv' := [(0, .ref (ad 0)), (1, .int (iI a)), (2, .int (iI b))]) (pc' := 10) (st' := []) rfl rfl rfl rfl ?_
      refine g_iload_n C (q := 1) d_S_needTwoOrders_10 rfl rfl ?_
      refine g_iload_n C (q := 2) d_S_needTwoOrders_11 rfl rfl ?_
      by_cases hc12 : ¬ a = b
      · refine gS0 C (st := []) (m_S_needDifferent a b (by omega) (by omega) hc12) k_331 k_329 k_330 k_1 rfl ho_S_needDifferent rfl rfl ⟨by decide, by decide⟩ rfl rfl (Nat.le_of_ble_eq_true rfl) d_S_needTwoOrders_12 ⟨by decide, by decide⟩ (fun r w hq => ?_)
        obtain ⟨rfl, rfl⟩ := hq
        refine g_eq (ws' := cw ad cI cZ x) (lv' := [(0, .ref (ad 0)), (1, .int (iI a)), (2, .int (iI b))]) (pc' := 15) (st' := []) rfl rfl rfl rfl ?_
        exact g_vret C hA hr d_S_needTwoOrders_15 (by decide) (by decide) ⟨rfl, rfl⟩
      · exfalso
        omega
    · exfalso
      omega
  · exfalso
    omega
set_option maxRecDepth 100000 in
set_option maxHeartbeats 4000000 in
theorem t_S_needTwoOrders {l : Launch} {D : va_G} {cI cZ cJ : ClassId} {base : Nat} {ad : Nat → Nat} (hl : l.stackTraces = false) (x : Bk) (a b : Int) (ha : InR a) (hb : InR b) (hn : 0 ≤ x 1 0 ∧ x 1 0 ≤ 10) (hg : ¬ ((0 ≤ a ∧ a < x 1 0) ∧ (0 ≤ b ∧ b < x 1 0) ∧ ¬ a = b)) : Cx l D cls9 (tyl cI cZ cJ) base (zz base) y_S_needTwoOrders (wz y_S_needTwoOrders c_S_needTwoOrders 3 none) ({ frames := 7, cells := 1, slots := 6, locals := 103 } : Room) [.ref (ad 0), .int (iI a), .int (iI b)] (cw ad cI cZ x) (fun r w => False) (fun E w => w = cw ad cI cZ x ∧ ((E = "java/util/NoSuchElementException" ∧ ¬ ((0 ≤ a ∧ a < x 1 0) ∧ (0 ≤ b ∧ b < x 1 0))) ∨ (E = "java/lang/IllegalArgumentException" ∧ ((0 ≤ a ∧ a < x 1 0) ∧ (0 ≤ b ∧ b < x 1 0)) ∧ a = b))) 1 6 := by
  refine Cx_of (zzG base) (by decide) rfl (Nat.le_of_ble_eq_true rfl) ?_
  intro p e s m args below meth c A C hr hA hno
  have C : gC p s m args meth c D cls9 (tyl cI cZ cJ) A c_S_needTwoOrders 3 "BatchSavings" (wz y_S_needTwoOrders c_S_needTwoOrders 3 none) base (zz base) := C
  refine g_lve (lv' := [(0, .ref (ad 0)), (1, .int (iI a)), (2, .int (iI b))]) rfl ?_
  refine g_aload_n C (q := 0) d_S_needTwoOrders_0 rfl rfl ?_
  refine g_iload_n C (q := 1) d_S_needTwoOrders_1 rfl rfl ?_
  by_cases hc2 : 0 ≤ a ∧ a < (x 1 0)
  · refine gV C (st := []) (m_S_needOrder x a (by omega) (show InR (x 1 0) by omega) hc2) k_308 k_305 k_307 kp_8 k_1 rfl ho_S_needOrder rfl rfl ⟨by decide, by decide⟩ 0 (cwo_0 _) rfl rfl rfl (Nat.le_of_ble_eq_true rfl) d_S_needTwoOrders_2 ⟨by decide, by decide⟩ (fun r w hq => ?_)
    obtain ⟨rfl, rfl⟩ := hq
    refine g_eq (ws' := cw ad cI cZ x) (lv' := [(0, .ref (ad 0)), (1, .int (iI a)), (2, .int (iI b))]) (pc' := 5) (st' := []) rfl rfl rfl rfl ?_
    refine g_aload_n C (q := 0) d_S_needTwoOrders_5 rfl rfl ?_
    refine g_iload_n C (q := 2) d_S_needTwoOrders_6 rfl rfl ?_
    by_cases hc7 : 0 ≤ b ∧ b < (x 1 0)
    · refine gV C (st := []) (m_S_needOrder x b (by omega) (show InR (x 1 0) by omega) hc7) k_308 k_305 k_307 kp_8 k_1 rfl ho_S_needOrder rfl rfl ⟨by decide, by decide⟩ 0 (cwo_0 _) rfl rfl rfl (Nat.le_of_ble_eq_true rfl) d_S_needTwoOrders_7 ⟨by decide, by decide⟩ (fun r w hq => ?_)
      obtain ⟨rfl, rfl⟩ := hq
      refine g_eq (ws' := cw ad cI cZ x) (lv' := [(0, .ref (ad 0)), (1, .int (iI a)), (2, .int (iI b))]) (pc' := 10) (st' := []) rfl rfl rfl rfl ?_
      refine g_iload_n C (q := 1) d_S_needTwoOrders_10 rfl rfl ?_
      refine g_iload_n C (q := 2) d_S_needTwoOrders_11 rfl rfl ?_
      by_cases hc12 : ¬ a = b
      · refine gS0 C (st := []) (m_S_needDifferent a b (by omega) (by omega) hc12) k_331 k_329 k_330 k_1 rfl ho_S_needDifferent rfl rfl ⟨by decide, by decide⟩ rfl rfl (Nat.le_of_ble_eq_true rfl) d_S_needTwoOrders_12 ⟨by decide, by decide⟩ (fun r w hq => ?_)
        obtain ⟨rfl, rfl⟩ := hq
        refine g_eq (ws' := cw ad cI cZ x) (lv' := [(0, .ref (ad 0)), (1, .int (iI a)), (2, .int (iI b))]) (pc' := 15) (st' := []) rfl rfl rfl rfl ?_
        exfalso
        omega
      · refine gSx C (st := []) (t_S_needDifferent hl a b (by omega) (by omega) (by omega)) k_331 k_329 k_330 k_1 rfl ho_S_needDifferent rfl rfl ⟨by decide, by decide⟩ rfl rfl (Nat.le_of_ble_eq_true rfl) d_S_needTwoOrders_12 ⟨by decide, by decide⟩ (fun E w hq => ?_) (fun r w hq => hq.elim)
        obtain ⟨rfl, rfl⟩ := hq
        exact g_out C hno hA (by decide) (by decide) ⟨rfl, by first | exact Or.inl ⟨rfl, by omega⟩ | exact Or.inr ⟨rfl, by omega⟩⟩
    · refine gVx C (st := []) (t_S_needOrder hl x b (by omega) (show InR (x 1 0) by omega) hc7) k_308 k_305 k_307 kp_8 k_1 rfl ho_S_needOrder rfl rfl ⟨by decide, by decide⟩ 0 (cwo_0 _) rfl rfl rfl (Nat.le_of_ble_eq_true rfl) d_S_needTwoOrders_7 ⟨by decide, by decide⟩ (fun E w hq => ?_) (fun r w hq => hq.elim)
      obtain ⟨rfl, rfl⟩ := hq
      exact g_out C hno hA (by decide) (by decide) ⟨rfl, by first | exact Or.inl ⟨rfl, by omega⟩ | exact Or.inr ⟨rfl, by omega⟩⟩
  · refine gVx C (st := []) (t_S_needOrder hl x a (by omega) (show InR (x 1 0) by omega) hc2) k_308 k_305 k_307 kp_8 k_1 rfl ho_S_needOrder rfl rfl ⟨by decide, by decide⟩ 0 (cwo_0 _) rfl rfl rfl (Nat.le_of_ble_eq_true rfl) d_S_needTwoOrders_2 ⟨by decide, by decide⟩ (fun E w hq => ?_) (fun r w hq => hq.elim)
    obtain ⟨rfl, rfl⟩ := hq
    exact g_out C hno hA (by decide) (by decide) ⟨rfl, by first | exact Or.inl ⟨rfl, by omega⟩ | exact Or.inr ⟨rfl, by omega⟩⟩
def ordX (x : Bk) (a b z : Int) : Bk := bu (bu (bu (bu x 5 (updI (x 5) (x 1 0) a)) 6 (updI (x 6) (x 1 0) b)) 7 (updI (x 7) (x 1 0) z)) 1 (updI (x 1) 0 (x 1 0 + 1))
set_option maxRecDepth 100000 in
set_option maxHeartbeats 4000000 in
theorem m_S_order {l : Launch} {D : va_G} {cI cZ cJ : ClassId} {base : Nat} {ad : Nat → Nat} (hl : l.stackTraces = false) (x : Bk) (a b z : Int) (ha : InR a) (hb : InR b) (hz : InR z) (hok : Ok x) : Cx l D cls9 (tyl cI cZ cJ) base (zz base) y_S_order (wz y_S_order c_S_order 4 (some FieldType.int)) ({ frames := 7, cells := 1, slots := 6, locals := 104 } : Room) [.ref (ad 0), .int (iI a), .int (iI b), .int (iI z)] (cw ad cI cZ x) (fun r w => (((1 ≤ a ∧ a ≤ 10000) ∧ (1 ≤ b ∧ b ≤ 100) ∧ (0 ≤ z ∧ z ≤ 3)) ∧ x 1 0 < 10) ∧ r = some (x 1 0) ∧ w = cw ad cI cZ (ordX x a b z)) (fun E w => ∃ y : Bk, w = cw ad cI cZ y ∧ scr y x ∧ ((E = "java/lang/IllegalArgumentException" ∧ ¬ ((1 ≤ a ∧ a ≤ 10000) ∧ (1 ≤ b ∧ b ≤ 100) ∧ (0 ≤ z ∧ z ≤ 3))) ∨ (E = "java/lang/UnsupportedOperationException" ∧ ((1 ≤ a ∧ a ≤ 10000) ∧ (1 ≤ b ∧ b ≤ 100) ∧ (0 ≤ z ∧ z ≤ 3)) ∧ ¬ x 1 0 < 10))) 1 6 := by
  refine Cx_of (zzG base) (by decide) rfl (Nat.le_of_ble_eq_true rfl) ?_
  intro p e s m args below meth c A C hr hA hno
  have C : gC p s m args meth c D cls9 (tyl cI cZ cJ) A c_S_order 4 "BatchSavings" (wz y_S_order c_S_order 4 (some FieldType.int)) base (zz base) := C
  refine g_lve (lv' := [(0, .ref (ad 0)), (1, .int (iI a)), (2, .int (iI b)), (3, .int (iI z))]) rfl ?_
  have hn := hok.n
  have hnb := hok.b
  have hww := hok.w
  have hss := hok.s
  refine g_iload_n C (q := 1) d_S_order_0 rfl rfl ?_
  refine g_iconst C d_S_order_1 ?_
  refine g_sipush C d_S_order_2 rfl ?_
  by_cases hc5 : 1 ≤ a ∧ a ≤ 10000
  · refine gS0 C (st := []) (m_S_needRange a 1 10000 (by omega) (by omega) (by omega) hc5) k_202 k_200 k_201 k_1 rfl ho_S_needRange rfl rfl ⟨by decide, by decide⟩ rfl rfl (Nat.le_of_ble_eq_true rfl) d_S_order_5 ⟨by decide, by decide⟩ (fun r w hq => ?_)
    obtain ⟨rfl, rfl⟩ := hq
    refine g_eq (ws' := cw ad cI cZ x) (lv' := [(0, .ref (ad 0)), (1, .int (iI a)), (2, .int (iI b)), (3, .int (iI z))]) (pc' := 8) (st' := []) rfl rfl rfl rfl ?_
    refine g_iload_n C (q := 2) d_S_order_8 rfl rfl ?_
    refine g_iconst C d_S_order_9 ?_
    refine g_bipush C d_S_order_10 rfl ?_
    by_cases hc12 : 1 ≤ b ∧ b ≤ 100
    · refine gS0 C (st := []) (m_S_needRange b 1 100 (by omega) (by omega) (by omega) hc12) k_202 k_200 k_201 k_1 rfl ho_S_needRange rfl rfl ⟨by decide, by decide⟩ rfl rfl (Nat.le_of_ble_eq_true rfl) d_S_order_12 ⟨by decide, by decide⟩ (fun r w hq => ?_)
      obtain ⟨rfl, rfl⟩ := hq
      refine g_eq (ws' := cw ad cI cZ x) (lv' := [(0, .ref (ad 0)), (1, .int (iI a)), (2, .int (iI b)), (3, .int (iI z))]) (pc' := 15) (st' := []) rfl rfl rfl rfl ?_
      refine g_iload_n C (q := 3) d_S_order_15 rfl rfl ?_
      refine g_iconst C d_S_order_16 ?_
      refine g_iconst C d_S_order_17 ?_
      by_cases hc18 : 0 ≤ z ∧ z ≤ 3
      · refine gS0 C (st := []) (m_S_needRange z 0 3 (by omega) (by omega) (by omega) hc18) k_202 k_200 k_201 k_1 rfl ho_S_needRange rfl rfl ⟨by decide, by decide⟩ rfl rfl (Nat.le_of_ble_eq_true rfl) d_S_order_18 ⟨by decide, by decide⟩ (fun r w hq => ?_)
        obtain ⟨rfl, rfl⟩ := hq
        refine g_eq (ws' := cw ad cI cZ x) (lv' := [(0, .ref (ad 0)), (1, .int (iI a)), (2, .int (iI b)), (3, .int (iI z))]) (pc' := 21) (st' := []) rfl rfl rfl rfl ?_
        refine g_aload_n C (q := 0) d_S_order_21 rfl rfl ?_
        refine gG C (v := .ref (ad 1)) 0 0 u_S k_147 (cwo_0 _) rfl (by decide) rfl rfl d_S_order_22 ?_
        refine gGN C (v := .int (iI (x 1 0))) 1 5 u_O kn_47 (cwo_1 _) rfl (by decide) rfl rfl d_S_order_25 ?_
        refine g_bipush C d_S_order_28 rfl ?_
        refine g_icmp_lt C (tgt := 43) d_S_order_30 rfl (by omega) (by omega) (fun h30_1 => ?_) (fun h30_1 => ?_)
        · refine g_aload_n C (q := 0) d_S_order_43 rfl rfl ?_
          refine gG C (v := .ref (ad 1)) 0 0 u_S k_147 (cwo_0 _) rfl (by decide) rfl rfl d_S_order_44 ?_
          refine g_iload_n C (q := 1) d_S_order_47 rfl rfl ?_
          refine g_iload_n C (q := 2) d_S_order_48 rfl rfl ?_
          refine g_iload_n C (q := 3) d_S_order_49 rfl rfl ?_
          refine gVN C (st := []) (m_O_add x a b z (show 0 ≤ (x 1 0) ∧ (x 1 0) < 10 by omega)) k_292 kn_289 k_291 kp_6 k_2 ho_O_add rfl rfl ⟨by decide, by decide⟩ 1 (cwo_1 _) rfl rfl rfl (Nat.le_of_ble_eq_true rfl) d_S_order_50 ⟨by decide, by decide⟩ (fun r w hq => ?_)
          obtain ⟨rfl, rfl⟩ := hq
          refine g_eq (ws' := cw ad cI cZ (bu (bu (bu (bu x 5 (updI (x 5) (x 1 0) a)) 6 (updI (x 6) (x 1 0) b)) 7 (updI (x 7) (x 1 0) z)) 1 (updI (x 1) 0 ((x 1 0) + 1)))) (lv' := [(0, .ref (ad 0)), (1, .int (iI a)), (2, .int (iI b)), (3, .int (iI z))]) (pc' := 53) (st' := [.int (iI (x 1 0))]) rfl rfl rfl rfl ?_
          exact g_x (g_iret C hA hr d_S_order_53 (by decide) (by decide) ⟨by omega, rfl, rfl⟩)
        · exact gT C hl hno hA (by decide +kernel) thk_UOE thi_UOE (is := 49) (text := "no room for another order") (by decide +kernel) thr_UOE thg_UOE d_S_order_33 d_S_order_36 d_S_order_37 d_S_order_39 d_S_order_42 (by decide) (Nat.le_of_ble_eq_true rfl) (by decide) (by decide) (by decide) (by decide) ⟨_, rfl, (scr.rf x), by first | exact Or.inl ⟨rfl, by omega⟩ | exact Or.inr (⟨rfl, by omega⟩)⟩
      · refine gSx C (st := []) (t_S_needRange hl z 0 3 (by omega) (by omega) (by omega) hc18) k_202 k_200 k_201 k_1 rfl ho_S_needRange rfl rfl ⟨by decide, by decide⟩ rfl rfl (Nat.le_of_ble_eq_true rfl) d_S_order_18 ⟨by decide, by decide⟩ (fun E w hq => ?_) (fun r w hq => hq.elim)
        obtain ⟨rfl, rfl⟩ := hq
        exact g_out C hno hA (by decide) (by decide) ⟨_, rfl, (scr.rf x), by first | exact Or.inl ⟨rfl, by omega⟩ | exact Or.inr (⟨rfl, by omega⟩)⟩
    · refine gSx C (st := []) (t_S_needRange hl b 1 100 (by omega) (by omega) (by omega) hc12) k_202 k_200 k_201 k_1 rfl ho_S_needRange rfl rfl ⟨by decide, by decide⟩ rfl rfl (Nat.le_of_ble_eq_true rfl) d_S_order_12 ⟨by decide, by decide⟩ (fun E w hq => ?_) (fun r w hq => hq.elim)
      obtain ⟨rfl, rfl⟩ := hq
      exact g_out C hno hA (by decide) (by decide) ⟨_, rfl, (scr.rf x), by first | exact Or.inl ⟨rfl, by omega⟩ | exact Or.inr (⟨rfl, by omega⟩)⟩
  · refine gSx C (st := []) (t_S_needRange hl a 1 10000 (by omega) (by omega) (by omega) hc5) k_202 k_200 k_201 k_1 rfl ho_S_needRange rfl rfl ⟨by decide, by decide⟩ rfl rfl (Nat.le_of_ble_eq_true rfl) d_S_order_5 ⟨by decide, by decide⟩ (fun E w hq => ?_) (fun r w hq => hq.elim)
    obtain ⟨rfl, rfl⟩ := hq
    exact g_out C hno hA (by decide) (by decide) ⟨_, rfl, (scr.rf x), by first | exact Or.inl ⟨rfl, by omega⟩ | exact Or.inr (⟨rfl, by omega⟩)⟩
def joiX (x : Bk) (a b v : Int) : Bk := bu x 9 (updI (updI (x 9) (a * 10 + b) v) (b * 10 + a) v)
set_option maxRecDepth 100000 in
set_option maxHeartbeats 4000000 in
theorem m_S_joined {l : Launch} {D : va_G} {cI cZ cJ : ClassId} {base : Nat} {ad : Nat → Nat} (hl : l.stackTraces = false) (x : Bk) (a b v : Int) (ha : InR a) (hb : InR b) (hv : InR v) (hok : Ok x) : Cx l D cls9 (tyl cI cZ cJ) base (zz base) y_S_joined (wz y_S_joined c_S_joined 4 (some FieldType.int)) ({ frames := 8, cells := 1, slots := 6, locals := 125 } : Room) [.ref (ad 0), .int (iI a), .int (iI b), .int (iI v)] (cw ad cI cZ x) (fun r w => (((0 ≤ a ∧ a < x 1 0) ∧ (0 ≤ b ∧ b < x 1 0)) ∧ ¬ a = b ∧ 0 ≤ v ∧ v ≤ 20000) ∧ r = some (sv (joiX x a b v) a b) ∧ w = cw ad cI cZ (joiX x a b v)) (fun E w => ∃ y : Bk, w = cw ad cI cZ y ∧ scr y x ∧ ((E = "java/util/NoSuchElementException" ∧ ¬ ((0 ≤ a ∧ a < x 1 0) ∧ (0 ≤ b ∧ b < x 1 0))) ∨ (E = "java/lang/IllegalArgumentException" ∧ ((0 ≤ a ∧ a < x 1 0) ∧ (0 ≤ b ∧ b < x 1 0)) ∧ (a = b ∨ ¬ (0 ≤ v ∧ v ≤ 20000))))) 1 6 := by
  refine Cx_of (zzG base) (by decide) rfl (Nat.le_of_ble_eq_true rfl) ?_
  intro p e s m args below meth c A C hr hA hno
  have C : gC p s m args meth c D cls9 (tyl cI cZ cJ) A c_S_joined 4 "BatchSavings" (wz y_S_joined c_S_joined 4 (some FieldType.int)) base (zz base) := C
  refine g_lve (lv' := [(0, .ref (ad 0)), (1, .int (iI a)), (2, .int (iI b)), (3, .int (iI v))]) rfl ?_
  have hn := hok.n
  have hnb := hok.b
  have hww := hok.w
  have hss := hok.s
  refine g_aload_n C (q := 0) d_S_joined_0 rfl rfl ?_
  refine g_iload_n C (q := 1) d_S_joined_1 rfl rfl ?_
  refine g_iload_n C (q := 2) d_S_joined_2 rfl rfl ?_
  by_cases hc3 : (0 ≤ a ∧ a < (x 1 0)) ∧ (0 ≤ b ∧ b < (x 1 0)) ∧ ¬ a = b
  · refine gV C (st := []) (m_S_needTwoOrders x a b (by omega) (by omega) (show 0 ≤ (x 1 0) ∧ (x 1 0) ≤ 10 by omega) hc3) k_304 k_301 k_303 kp_7 k_1 rfl ho_S_needTwoOrders rfl rfl ⟨by decide, by decide⟩ 0 (cwo_0 _) rfl rfl rfl (Nat.le_of_ble_eq_true rfl) d_S_joined_3 ⟨by decide, by decide⟩ (fun r w hq => ?_)
    obtain ⟨rfl, rfl⟩ := hq
    refine g_eq (ws' := cw ad cI cZ x) (lv' := [(0, .ref (ad 0)), (1, .int (iI a)), (2, .int (iI b)), (3, .int (iI v))]) (pc' := 6) (st' := []) rfl rfl rfl rfl ?_
    refine g_iload_n C (q := 3) d_S_joined_6 rfl rfl ?_
    refine g_iconst C d_S_joined_7 ?_
    refine g_sipush C d_S_joined_8 rfl ?_
    by_cases hc11 : 0 ≤ v ∧ v ≤ 20000
    · refine gS0 C (st := []) (m_S_needRange v 0 20000 (by omega) (by omega) (by omega) hc11) k_202 k_200 k_201 k_1 rfl ho_S_needRange rfl rfl ⟨by decide, by decide⟩ rfl rfl (Nat.le_of_ble_eq_true rfl) d_S_joined_11 ⟨by decide, by decide⟩ (fun r w hq => ?_)
      obtain ⟨rfl, rfl⟩ := hq
      refine g_eq (ws' := cw ad cI cZ x) (lv' := [(0, .ref (ad 0)), (1, .int (iI a)), (2, .int (iI b)), (3, .int (iI v))]) (pc' := 14) (st' := []) rfl rfl rfl rfl ?_
      refine g_aload_n C (q := 0) d_S_joined_14 rfl rfl ?_
      refine gG C (v := .ref (ad 1)) 0 0 u_S k_147 (cwo_0 _) rfl (by decide) rfl rfl d_S_joined_15 ?_
      refine g_iload_n C (q := 1) d_S_joined_18 rfl rfl ?_
      refine g_iload_n C (q := 2) d_S_joined_19 rfl rfl ?_
      refine g_iload_n C (q := 3) d_S_joined_20 rfl rfl ?_
      refine gVN C (st := []) (m_O_putTogether x a b v (by omega) (by omega)) k_336 kn_333 k_335 kp_10 k_2 ho_O_putTogether rfl rfl ⟨by decide, by decide⟩ 1 (cwo_1 _) rfl rfl rfl (Nat.le_of_ble_eq_true rfl) d_S_joined_21 ⟨by decide, by decide⟩ (fun r w hq => ?_)
      obtain ⟨rfl, rfl⟩ := hq
      refine g_eq (ws' := cw ad cI cZ (bu (bu x 9 (updI (x 9) (a * 10 + b) v)) 9 (updI (updI (x 9) (a * 10 + b) v) (b * 10 + a) v))) (lv' := [(0, .ref (ad 0)), (1, .int (iI a)), (2, .int (iI b)), (3, .int (iI v))]) (pc' := 24) (st' := []) rfl rfl rfl rfl ?_
      refine g_aload_n C (q := 0) d_S_joined_24 rfl rfl ?_
      refine gG C (v := .ref (ad 1)) 0 0 u_S k_147 (cwo_0 _) rfl (by decide) rfl rfl d_S_joined_25 ?_
      refine g_iload_n C (q := 1) d_S_joined_28 rfl rfl ?_
      refine g_iload_n C (q := 2) d_S_joined_29 rfl rfl ?_
      refine gVN C (st := []) (m_O_savingOf (bu (bu x 9 (updI (x 9) (a * 10 + b) v)) 9 (updI (updI (x 9) (a * 10 + b) v) (b * 10 + a) v)) a b (by omega) (by omega) (show InR (updI (updI (x 9) (a * 10 + b) v) (b * 10 + a) v (a * 10 + b)) by unfold updI; have := hok.r9 (a * 10 + b) (by omega) (by omega); split; omega; split; omega; omega)) k_187 kn_337 k_186 kp_4 k_2 ho_O_savingOf rfl rfl ⟨by decide, by decide⟩ 1 (cwo_1 _) rfl rfl rfl (Nat.le_of_ble_eq_true rfl) d_S_joined_30 ⟨by decide, by decide⟩ (fun r w hq => ?_)
      obtain ⟨rfl, rfl⟩ := hq
      refine g_eq (ws' := cw ad cI cZ (bu (bu x 9 (updI (x 9) (a * 10 + b) v)) 9 (updI (updI (x 9) (a * 10 + b) v) (b * 10 + a) v))) (lv' := [(0, .ref (ad 0)), (1, .int (iI a)), (2, .int (iI b)), (3, .int (iI v))]) (pc' := 33) (st' := [.int (iI (sv (bu (bu x 9 (updI (x 9) (a * 10 + b) v)) 9 (updI (updI (x 9) (a * 10 + b) v) (b * 10 + a) v)) a b))]) rfl rfl rfl rfl ?_
      exact g_x (g_iret C hA hr d_S_joined_33 (by decide) (by decide) ⟨by omega, rfl, rfl⟩)
    · refine gSx C (st := []) (t_S_needRange hl v 0 20000 (by omega) (by omega) (by omega) hc11) k_202 k_200 k_201 k_1 rfl ho_S_needRange rfl rfl ⟨by decide, by decide⟩ rfl rfl (Nat.le_of_ble_eq_true rfl) d_S_joined_11 ⟨by decide, by decide⟩ (fun E w hq => ?_) (fun r w hq => hq.elim)
      obtain ⟨rfl, rfl⟩ := hq
      exact g_out C hno hA (by decide) (by decide) ⟨_, rfl, (scr.rf x), by first | exact Or.inl ⟨rfl, by omega⟩ | exact Or.inr (⟨rfl, by omega⟩)⟩
  · refine gVx C (st := []) (t_S_needTwoOrders hl x a b (by omega) (by omega) (show 0 ≤ (x 1 0) ∧ (x 1 0) ≤ 10 by omega) hc3) k_304 k_301 k_303 kp_7 k_1 rfl ho_S_needTwoOrders rfl rfl ⟨by decide, by decide⟩ 0 (cwo_0 _) rfl rfl rfl (Nat.le_of_ble_eq_true rfl) d_S_joined_3 ⟨by decide, by decide⟩ (fun E w hq => ?_) (fun r w hq => hq.elim)
    obtain ⟨rfl, hq⟩ := hq
    rcases hq with ⟨rfl, hq⟩ | ⟨rfl, hq⟩
    · exact g_out C hno hA (by decide) (by decide) ⟨_, rfl, (scr.rf x), by first | exact Or.inl ⟨rfl, by omega⟩ | exact Or.inr (⟨rfl, by omega⟩)⟩
    · exact g_out C hno hA (by decide) (by decide) ⟨_, rfl, (scr.rf x), by first | exact Or.inl ⟨rfl, by omega⟩ | exact Or.inr (⟨rfl, by omega⟩)⟩
set_option maxRecDepth 100000 in
set_option maxHeartbeats 4000000 in
theorem m_S_saving {l : Launch} {D : va_G} {cI cZ cJ : ClassId} {base : Nat} {ad : Nat → Nat} (hl : l.stackTraces = false) (x : Bk) (a b : Int) (ha : InR a) (hb : InR b) (hok : Ok x) : Cx l D cls9 (tyl cI cZ cJ) base (zz base) y_S_saving (wz y_S_saving c_S_saving 3 (some FieldType.int)) ({ frames := 8, cells := 1, slots := 6, locals := 125 } : Room) [.ref (ad 0), .int (iI a), .int (iI b)] (cw ad cI cZ x) (fun r w => (((0 ≤ a ∧ a < x 1 0) ∧ (0 ≤ b ∧ b < x 1 0)) ∧ ¬ a = b) ∧ r = some (sv x a b) ∧ w = cw ad cI cZ x) (fun E w => ∃ y : Bk, w = cw ad cI cZ y ∧ scr y x ∧ ((E = "java/util/NoSuchElementException" ∧ ¬ ((0 ≤ a ∧ a < x 1 0) ∧ (0 ≤ b ∧ b < x 1 0))) ∨ (E = "java/lang/IllegalArgumentException" ∧ ((0 ≤ a ∧ a < x 1 0) ∧ (0 ≤ b ∧ b < x 1 0)) ∧ a = b))) 1 6 := by
  refine Cx_of (zzG base) (by decide) rfl (Nat.le_of_ble_eq_true rfl) ?_
  intro p e s m args below meth c A C hr hA hno
  have C : gC p s m args meth c D cls9 (tyl cI cZ cJ) A c_S_saving 3 "BatchSavings" (wz y_S_saving c_S_saving 3 (some FieldType.int)) base (zz base) := C
  refine g_lve (lv' := [(0, .ref (ad 0)), (1, .int (iI a)), (2, .int (iI b))]) rfl ?_
  have hn := hok.n
  have hnb := hok.b
  have hww := hok.w
  have hss := hok.s
  refine g_aload_n C (q := 0) d_S_saving_0 rfl rfl ?_
  refine g_iload_n C (q := 1) d_S_saving_1 rfl rfl ?_
  refine g_iload_n C (q := 2) d_S_saving_2 rfl rfl ?_
  by_cases hc3 : (0 ≤ a ∧ a < (x 1 0)) ∧ (0 ≤ b ∧ b < (x 1 0)) ∧ ¬ a = b
  · refine gV C (st := []) (m_S_needTwoOrders x a b (by omega) (by omega) (show 0 ≤ (x 1 0) ∧ (x 1 0) ≤ 10 by omega) hc3) k_304 k_301 k_303 kp_7 k_1 rfl ho_S_needTwoOrders rfl rfl ⟨by decide, by decide⟩ 0 (cwo_0 _) rfl rfl rfl (Nat.le_of_ble_eq_true rfl) d_S_saving_3 ⟨by decide, by decide⟩ (fun r w hq => ?_)
    obtain ⟨rfl, rfl⟩ := hq
    refine g_eq (ws' := cw ad cI cZ x) (lv' := [(0, .ref (ad 0)), (1, .int (iI a)), (2, .int (iI b))]) (pc' := 6) (st' := []) rfl rfl rfl rfl ?_
    refine g_aload_n C (q := 0) d_S_saving_6 rfl rfl ?_
    refine gG C (v := .ref (ad 1)) 0 0 u_S k_147 (cwo_0 _) rfl (by decide) rfl rfl d_S_saving_7 ?_
    refine g_iload_n C (q := 1) d_S_saving_10 rfl rfl ?_
    refine g_iload_n C (q := 2) d_S_saving_11 rfl rfl ?_
    refine gVN C (st := []) (m_O_savingOf x a b (by omega) (by omega) (by have := hok.r9 (a * 10 + b) (by omega) (by omega); omega)) k_187 kn_337 k_186 kp_4 k_2 ho_O_savingOf rfl rfl ⟨by decide, by decide⟩ 1 (cwo_1 _) rfl rfl rfl (Nat.le_of_ble_eq_true rfl) d_S_saving_12 ⟨by decide, by decide⟩ (fun r w hq => ?_)
    obtain ⟨rfl, rfl⟩ := hq
    refine g_eq (ws' := cw ad cI cZ x) (lv' := [(0, .ref (ad 0)), (1, .int (iI a)), (2, .int (iI b))]) (pc' := 15) (st' := [.int (iI (sv x a b))]) rfl rfl rfl rfl ?_
    exact g_x (g_iret C hA hr d_S_saving_15 (by decide) (by decide) ⟨by omega, rfl, rfl⟩)
  · refine gVx C (st := []) (t_S_needTwoOrders hl x a b (by omega) (by omega) (show 0 ≤ (x 1 0) ∧ (x 1 0) ≤ 10 by omega) hc3) k_304 k_301 k_303 kp_7 k_1 rfl ho_S_needTwoOrders rfl rfl ⟨by decide, by decide⟩ 0 (cwo_0 _) rfl rfl rfl (Nat.le_of_ble_eq_true rfl) d_S_saving_3 ⟨by decide, by decide⟩ (fun E w hq => ?_) (fun r w hq => hq.elim)
    obtain ⟨rfl, hq⟩ := hq
    rcases hq with ⟨rfl, hq⟩ | ⟨rfl, hq⟩
    · exact g_out C hno hA (by decide) (by decide) ⟨_, rfl, (scr.rf x), by first | exact Or.inl ⟨rfl, by omega⟩ | exact Or.inr (⟨rfl, by omega⟩)⟩
    · exact g_out C hno hA (by decide) (by decide) ⟨_, rfl, (scr.rf x), by first | exact Or.inl ⟨rfl, by omega⟩ | exact Or.inr (⟨rfl, by omega⟩)⟩
theorem bu_bu (x : Bk) (k : Nat) (f g : Int → Int) : bu (bu x k g) k f = bu x k f := by
  funext j
  unfold bu
  by_cases h : j = k
  · rw [if_pos h, if_pos h]
  · rw [if_neg h, if_neg h, if_neg h]
def rulX (x : Bk) (a b v : Int) : Bk := bu x 10 (updI (updI (x 10) (a * 10 + b) v) (b * 10 + a) v)
set_option maxRecDepth 100000 in
set_option maxHeartbeats 4000000 in
theorem m_S_rule {l : Launch} {D : va_G} {cI cZ cJ : ClassId} {base : Nat} {ad : Nat → Nat} (hl : l.stackTraces = false) (x : Bk) (a b v : Int) (ha : InR a) (hb : InR b) (hv : v = 0 ∨ v = 1) (hok : Ok x) : Cx l D cls9 (tyl cI cZ cJ) base (zz base) y_S_rule (wz y_S_rule c_S_rule 4 (some FieldType.boolean)) ({ frames := 8, cells := 1, slots := 6, locals := 125 } : Room) [.ref (ad 0), .int (iI a), .int (iI b), .int (iI v)] (cw ad cI cZ x) (fun r w => (((0 ≤ a ∧ a < x 1 0) ∧ (0 ≤ b ∧ b < x 1 0)) ∧ ¬ a = b) ∧ ∃ (u : Int) (y : Bk), r = some u ∧ (u = 0 ∨ u = 1) ∧ (u = 1 ↔ okP (rulX x a b v) a b) ∧ scr y (rulX x a b v) ∧ w = cw ad cI cZ y) (fun E w => ∃ y : Bk, w = cw ad cI cZ y ∧ scr y x ∧ ((E = "java/util/NoSuchElementException" ∧ ¬ ((0 ≤ a ∧ a < x 1 0) ∧ (0 ≤ b ∧ b < x 1 0))) ∨ (E = "java/lang/IllegalArgumentException" ∧ ((0 ≤ a ∧ a < x 1 0) ∧ (0 ≤ b ∧ b < x 1 0)) ∧ a = b))) 1 6 := by
  refine Cx_of (zzG base) (by decide) rfl (Nat.le_of_ble_eq_true rfl) ?_
  intro p e s m args below meth c A C hr hA hno
  have C : gC p s m args meth c D cls9 (tyl cI cZ cJ) A c_S_rule 4 "BatchSavings" (wz y_S_rule c_S_rule 4 (some FieldType.boolean)) base (zz base) := C
  refine g_lve (lv' := [(0, .ref (ad 0)), (1, .int (iI a)), (2, .int (iI b)), (3, .int (iI v))]) rfl ?_
  have hn := hok.n
  have hnb := hok.b
  have hww := hok.w
  have hss := hok.s
  refine g_aload_n C (q := 0) d_S_rule_0 rfl rfl ?_
  refine g_iload_n C (q := 1) d_S_rule_1 rfl rfl ?_
  refine g_iload_n C (q := 2) d_S_rule_2 rfl rfl ?_
  by_cases hc3 : (0 ≤ a ∧ a < (x 1 0)) ∧ (0 ≤ b ∧ b < (x 1 0)) ∧ ¬ a = b
  · refine gV C (st := []) (m_S_needTwoOrders x a b (by omega) (by omega) (show 0 ≤ (x 1 0) ∧ (x 1 0) ≤ 10 by omega) hc3) k_304 k_301 k_303 kp_7 k_1 rfl ho_S_needTwoOrders rfl rfl ⟨by decide, by decide⟩ 0 (cwo_0 _) rfl rfl rfl (Nat.le_of_ble_eq_true rfl) d_S_rule_3 ⟨by decide, by decide⟩ (fun r w hq => ?_)
    obtain ⟨rfl, rfl⟩ := hq
    refine g_eq (ws' := cw ad cI cZ x) (lv' := [(0, .ref (ad 0)), (1, .int (iI a)), (2, .int (iI b)), (3, .int (iI v))]) (pc' := 6) (st' := []) rfl rfl rfl rfl ?_
    refine g_aload_n C (q := 0) d_S_rule_6 rfl rfl ?_
    refine gG C (v := .ref (ad 2)) 0 1 u_S k_148 (cwo_0 _) rfl (by decide) rfl rfl d_S_rule_7 ?_
    refine g_iload_n C (q := 1) d_S_rule_10 rfl rfl ?_
    refine g_iload_n C (q := 2) d_S_rule_11 rfl rfl ?_
    refine g_iload_n C (q := 3) d_S_rule_12 rfl rfl ?_
    refine gVN C (st := []) (m_R_bar x a b v (by omega) (by omega) (by omega)) k_355 kn_352 k_354 kp_11 k_4 ho_R_bar rfl rfl ⟨by decide, by decide⟩ 2 (cwo_2 _) rfl rfl rfl (Nat.le_of_ble_eq_true rfl) d_S_rule_13 ⟨by decide, by decide⟩ (fun r w hq => ?_)
    obtain ⟨rfl, rfl⟩ := hq
    refine g_eq (ws' := cw ad cI cZ (bu (bu x 10 (updI (x 10) (a * 10 + b) v)) 10 (updI (updI (x 10) (a * 10 + b) v) (b * 10 + a) v))) (lv' := [(0, .ref (ad 0)), (1, .int (iI a)), (2, .int (iI b)), (3, .int (iI v))]) (pc' := 16) (st' := []) rfl rfl rfl rfl ?_
    have hzr : okZ (rulX x a b v) := ⟨hok.z.1, fun i h0 h1 => by show updI (updI (x 10) (a * 10 + b) v) (b * 10 + a) v i = 0 ∨ updI (updI (x 10) (a * 10 + b) v) (b * 10 + a) v i = 1; have := hok.r10 i h0 h1; unfold updI; split; omega; split; omega; omega, hok.z.2.2⟩
    refine g_aload_n C (q := 0) d_S_rule_16 rfl rfl ?_
    refine gG C (v := .ref (ad 2)) 0 1 u_S k_148 (cwo_0 _) rfl (by decide) rfl rfl d_S_rule_17 ?_
    refine g_iload_n C (q := 1) d_S_rule_20 rfl rfl ?_
    refine g_iload_n C (q := 2) d_S_rule_21 rfl rfl ?_
    refine gVN C (st := []) (m_R_allowPair (bu (bu x 10 (updI (x 10) (a * 10 + b) v)) 10 (updI (updI (x 10) (a * 10 + b) v) (b * 10 + a) v)) a b (by omega) (by omega) hzr hok.wr hok.sr hok.r8 hok.r6) k_360 kn_357 k_359 kp_12 k_4 ho_R_allowPair rfl rfl ⟨by decide, by decide⟩ 2 (cwo_2 _) rfl rfl rfl (Nat.le_of_ble_eq_true rfl) d_S_rule_22 ⟨by decide, by decide⟩ (fun r w hq => ?_)
    obtain ⟨u22, y22, rfl, hu22, hiff22, hsc22, rfl⟩ := hq
    refine g_eq (ws' := cw ad cI cZ y22) (lv' := [(0, .ref (ad 0)), (1, .int (iI a)), (2, .int (iI b)), (3, .int (iI v))]) (pc' := 25) (st' := [.int (iI u22)]) rfl rfl rfl rfl ?_
    exact g_x (g_zret C hA hr d_S_rule_25 (by decide) (by decide) (by omega) ⟨by omega, u22, y22, rfl, hu22, hiff22, (by rw [bu_bu] at hsc22; exact hsc22), rfl⟩)
  · refine gVx C (st := []) (t_S_needTwoOrders hl x a b (by omega) (by omega) (show 0 ≤ (x 1 0) ∧ (x 1 0) ≤ 10 by omega) hc3) k_304 k_301 k_303 kp_7 k_1 rfl ho_S_needTwoOrders rfl rfl ⟨by decide, by decide⟩ 0 (cwo_0 _) rfl rfl rfl (Nat.le_of_ble_eq_true rfl) d_S_rule_3 ⟨by decide, by decide⟩ (fun E w hq => ?_) (fun r w hq => hq.elim)
    obtain ⟨rfl, hq⟩ := hq
    rcases hq with ⟨rfl, hq⟩ | ⟨rfl, hq⟩
    · exact g_out C hno hA (by decide) (by decide) ⟨_, rfl, (scr.rf x), by first | exact Or.inl ⟨rfl, by omega⟩ | exact Or.inr (⟨rfl, by omega⟩)⟩
    · exact g_out C hno hA (by decide) (by decide) ⟨_, rfl, (scr.rf x), by first | exact Or.inl ⟨rfl, by omega⟩ | exact Or.inr (⟨rfl, by omega⟩)⟩
set_option maxRecDepth 100000 in
set_option maxHeartbeats 4000000 in
theorem m_S_weight {l : Launch} {D : va_G} {cI cZ cJ : ClassId} {base : Nat} {ad : Nat → Nat} (hl : l.stackTraces = false) (x : Bk) (a v : Int) (ha : InR a) (hv : InR v) (hok : Ok x) : Cx l D cls9 (tyl cI cZ cJ) base (zz base) y_S_weight (wz y_S_weight c_S_weight 3 (some FieldType.boolean)) ({ frames := 7, cells := 1, slots := 6, locals := 104 } : Room) [.ref (ad 0), .int (iI a), .int (iI v)] (cw ad cI cZ x) (fun r w => ((0 ≤ a ∧ a < x 1 0) ∧ (0 ≤ v ∧ v ≤ 1000) ∧ x 15 a = -1) ∧ ((x 2 1 < v ∧ r = some 0 ∧ w = cw ad cI cZ x) ∨ (v ≤ x 2 1 ∧ r = some 1 ∧ w = cw ad cI cZ (bu x 8 (updI (x 8) a v))))) (fun E w => ∃ y : Bk, w = cw ad cI cZ y ∧ scr y x ∧ ((E = "java/util/NoSuchElementException" ∧ ¬ (0 ≤ a ∧ a < x 1 0)) ∨ (E = "java/lang/IllegalArgumentException" ∧ (0 ≤ a ∧ a < x 1 0) ∧ ¬ (0 ≤ v ∧ v ≤ 1000)) ∨ (E = "java/lang/IllegalStateException" ∧ ((0 ≤ a ∧ a < x 1 0) ∧ (0 ≤ v ∧ v ≤ 1000)) ∧ ¬ x 15 a = -1))) 1 6 := by
  refine Cx_of (zzG base) (by decide) rfl (Nat.le_of_ble_eq_true rfl) ?_
  intro p e s m args below meth c A C hr hA hno
  have C : gC p s m args meth c D cls9 (tyl cI cZ cJ) A c_S_weight 3 "BatchSavings" (wz y_S_weight c_S_weight 3 (some FieldType.boolean)) base (zz base) := C
  refine g_lve (lv' := [(0, .ref (ad 0)), (1, .int (iI a)), (2, .int (iI v))]) rfl ?_
  have hn := hok.n
  have hnb := hok.b
  have hww := hok.w
  have hss := hok.s
  refine g_aload_n C (q := 0) d_S_weight_0 rfl rfl ?_
  refine g_iload_n C (q := 1) d_S_weight_1 rfl rfl ?_
  by_cases hc2 : 0 ≤ a ∧ a < (x 1 0)
  · refine gV C (st := []) (m_S_needOrder x a (by omega) (show InR (x 1 0) by omega) hc2) k_308 k_305 k_307 kp_8 k_1 rfl ho_S_needOrder rfl rfl ⟨by decide, by decide⟩ 0 (cwo_0 _) rfl rfl rfl (Nat.le_of_ble_eq_true rfl) d_S_weight_2 ⟨by decide, by decide⟩ (fun r w hq => ?_)
    obtain ⟨rfl, rfl⟩ := hq
    refine g_eq (ws' := cw ad cI cZ x) (lv' := [(0, .ref (ad 0)), (1, .int (iI a)), (2, .int (iI v))]) (pc' := 5) (st' := []) rfl rfl rfl rfl ?_
    refine g_iload_n C (q := 2) d_S_weight_5 rfl rfl ?_
    refine g_iconst C d_S_weight_6 ?_
    refine g_sipush C d_S_weight_7 rfl ?_
    by_cases hc10 : 0 ≤ v ∧ v ≤ 1000
    · refine gS0 C (st := []) (m_S_needRange v 0 1000 (by omega) (by omega) (by omega) hc10) k_202 k_200 k_201 k_1 rfl ho_S_needRange rfl rfl ⟨by decide, by decide⟩ rfl rfl (Nat.le_of_ble_eq_true rfl) d_S_weight_10 ⟨by decide, by decide⟩ (fun r w hq => ?_)
      obtain ⟨rfl, rfl⟩ := hq
      refine g_eq (ws' := cw ad cI cZ x) (lv' := [(0, .ref (ad 0)), (1, .int (iI a)), (2, .int (iI v))]) (pc' := 13) (st' := []) rfl rfl rfl rfl ?_
      refine g_aload_n C (q := 0) d_S_weight_13 rfl rfl ?_
      refine g_iload_n C (q := 1) d_S_weight_14 rfl rfl ?_
      by_cases hc15 : (x 15 a) = -1
      · refine gV C (st := []) (m_S_needFree x a (by omega) (hok.i15 a (by omega) (by omega)) hc15) k_388 k_385 k_387 kp_17 k_1 rfl ho_S_needFree rfl rfl ⟨by decide, by decide⟩ 0 (cwo_0 _) rfl rfl rfl (Nat.le_of_ble_eq_true rfl) d_S_weight_15 ⟨by decide, by decide⟩ (fun r w hq => ?_)
        obtain ⟨rfl, rfl⟩ := hq
        refine g_eq (ws' := cw ad cI cZ x) (lv' := [(0, .ref (ad 0)), (1, .int (iI a)), (2, .int (iI v))]) (pc' := 18) (st' := []) rfl rfl rfl rfl ?_
        refine g_iload_n C (q := 2) d_S_weight_18 rfl rfl ?_
        refine g_aload_n C (q := 0) d_S_weight_19 rfl rfl ?_
        refine gG C (v := .ref (ad 2)) 0 1 u_S k_148 (cwo_0 _) rfl (by decide) rfl rfl d_S_weight_20 ?_
        refine gGN C (v := .int (iI (x 2 1))) 2 5 u_R kn_77 (cwo_2 _) rfl (by decide) rfl rfl d_S_weight_23 ?_
        refine g_icmp_le C (tgt := 31) d_S_weight_26 rfl (by omega) (by omega) (fun h26_1 => ?_) (fun h26_1 => ?_)
        · refine g_aload_n C (q := 0) d_S_weight_31 rfl rfl ?_
          refine gG C (v := .ref (ad 1)) 0 0 u_S k_147 (cwo_0 _) rfl (by decide) rfl rfl d_S_weight_32 ?_
          refine gGN C (v := .ref (ad 8)) 1 3 u_O kn_44 (cwo_1 _) rfl (by decide) rfl rfl d_S_weight_35 ?_
          refine g_iload_n C (q := 1) d_S_weight_38 rfl rfl ?_
          refine g_iload_n C (q := 2) d_S_weight_39 rfl rfl ?_
          refine g_iast C 8 0 (cwa_8 _) rfl (by decide) (by omega) d_S_weight_40 (cws_8 _ _) ?_
          refine g_ws (ws' := cw ad cI cZ (bu x 8 (updI (x 8) a v))) rfl ?_
          refine g_iconst C d_S_weight_41 ?_
          exact g_x (g_zret C hA hr d_S_weight_42 (by decide) (by decide) (by omega) ⟨by omega, Or.inr ⟨by omega, rfl, rfl⟩⟩)
        · refine g_iconst C d_S_weight_29 ?_
          exact g_x (g_zret C hA hr d_S_weight_30 (by decide) (by decide) (by omega) ⟨by omega, Or.inl ⟨by omega, rfl, rfl⟩⟩)
      · refine gVx C (st := []) (t_S_needFree hl x a (by omega) (hok.i15 a (by omega) (by omega)) hc15) k_388 k_385 k_387 kp_17 k_1 rfl ho_S_needFree rfl rfl ⟨by decide, by decide⟩ 0 (cwo_0 _) rfl rfl rfl (Nat.le_of_ble_eq_true rfl) d_S_weight_15 ⟨by decide, by decide⟩ (fun E w hq => ?_) (fun r w hq => hq.elim)
        obtain ⟨rfl, rfl⟩ := hq
        exact g_out C hno hA (by decide) (by decide) ⟨_, rfl, (scr.rf x), by first | exact Or.inl ⟨rfl, by omega⟩ | exact Or.inr (Or.inl ⟨rfl, by omega⟩) | exact Or.inr (Or.inr (⟨rfl, by omega⟩))⟩
    · refine gSx C (st := []) (t_S_needRange hl v 0 1000 (by omega) (by omega) (by omega) hc10) k_202 k_200 k_201 k_1 rfl ho_S_needRange rfl rfl ⟨by decide, by decide⟩ rfl rfl (Nat.le_of_ble_eq_true rfl) d_S_weight_10 ⟨by decide, by decide⟩ (fun E w hq => ?_) (fun r w hq => hq.elim)
      obtain ⟨rfl, rfl⟩ := hq
      exact g_out C hno hA (by decide) (by decide) ⟨_, rfl, (scr.rf x), by first | exact Or.inl ⟨rfl, by omega⟩ | exact Or.inr (Or.inl ⟨rfl, by omega⟩) | exact Or.inr (Or.inr (⟨rfl, by omega⟩))⟩
  · refine gVx C (st := []) (t_S_needOrder hl x a (by omega) (show InR (x 1 0) by omega) hc2) k_308 k_305 k_307 kp_8 k_1 rfl ho_S_needOrder rfl rfl ⟨by decide, by decide⟩ 0 (cwo_0 _) rfl rfl rfl (Nat.le_of_ble_eq_true rfl) d_S_weight_2 ⟨by decide, by decide⟩ (fun E w hq => ?_) (fun r w hq => hq.elim)
    obtain ⟨rfl, rfl⟩ := hq
    exact g_out C hno hA (by decide) (by decide) ⟨_, rfl, (scr.rf x), by first | exact Or.inl ⟨rfl, by omega⟩ | exact Or.inr (Or.inl ⟨rfl, by omega⟩) | exact Or.inr (Or.inr (⟨rfl, by omega⟩))⟩
set_option maxRecDepth 100000 in
set_option maxHeartbeats 4000000 in
theorem m_S_near {l : Launch} {D : va_G} {cI cZ cJ : ClassId} {base : Nat} {ad : Nat → Nat} (hl : l.stackTraces = false) (x : Bk) (a b v : Int) (ha : InR a) (hb : InR b) (hv : v = 0 ∨ v = 1) (hok : Ok x) : Cx l D cls9 (tyl cI cZ cJ) base (zz base) y_S_near (wz y_S_near c_S_near 4 none) ({ frames := 7, cells := 1, slots := 6, locals := 104 } : Room) [.ref (ad 0), .int (iI a), .int (iI b), .int (iI v)] (cw ad cI cZ x) (fun r w => ((0 ≤ a ∧ a ≤ 3) ∧ (0 ≤ b ∧ b ≤ 3) ∧ ¬ a = b) ∧ r = none ∧ w = cw ad cI cZ (bu x 11 (updI (updI (x 11) (a * 4 + b) v) (b * 4 + a) v))) (fun E w => ∃ y : Bk, w = cw ad cI cZ y ∧ scr y x ∧ ((E = "java/lang/IllegalArgumentException" ∧ ¬ ((0 ≤ a ∧ a ≤ 3) ∧ (0 ≤ b ∧ b ≤ 3) ∧ ¬ a = b)))) 1 6 := by
  refine Cx_of (zzG base) (by decide) rfl (Nat.le_of_ble_eq_true rfl) ?_
  intro p e s m args below meth c A C hr hA hno
  have C : gC p s m args meth c D cls9 (tyl cI cZ cJ) A c_S_near 4 "BatchSavings" (wz y_S_near c_S_near 4 none) base (zz base) := C
  refine g_lve (lv' := [(0, .ref (ad 0)), (1, .int (iI a)), (2, .int (iI b)), (3, .int (iI v))]) rfl ?_
  have hn := hok.n
  have hnb := hok.b
  have hww := hok.w
  have hss := hok.s
  refine g_iload_n C (q := 1) d_S_near_0 rfl rfl ?_
  refine g_iconst C d_S_near_1 ?_
  refine g_iconst C d_S_near_2 ?_
  by_cases hc3 : 0 ≤ a ∧ a ≤ 3
  · refine gS0 C (st := []) (m_S_needRange a 0 3 (by omega) (by omega) (by omega) hc3) k_202 k_200 k_201 k_1 rfl ho_S_needRange rfl rfl ⟨by decide, by decide⟩ rfl rfl (Nat.le_of_ble_eq_true rfl) d_S_near_3 ⟨by decide, by decide⟩ (fun r w hq => ?_)
    obtain ⟨rfl, rfl⟩ := hq
    refine g_eq (ws' := cw ad cI cZ x) (lv' := [(0, .ref (ad 0)), (1, .int (iI a)), (2, .int (iI b)), (3, .int (iI v))]) (pc' := 6) (st' := []) rfl rfl rfl rfl ?_
    refine g_iload_n C (q := 2) d_S_near_6 rfl rfl ?_
    refine g_iconst C d_S_near_7 ?_
    refine g_iconst C d_S_near_8 ?_
    by_cases hc9 : 0 ≤ b ∧ b ≤ 3
    · refine gS0 C (st := []) (m_S_needRange b 0 3 (by omega) (by omega) (by omega) hc9) k_202 k_200 k_201 k_1 rfl ho_S_needRange rfl rfl ⟨by decide, by decide⟩ rfl rfl (Nat.le_of_ble_eq_true rfl) d_S_near_9 ⟨by decide, by decide⟩ (fun r w hq => ?_)
      obtain ⟨rfl, rfl⟩ := hq
      refine g_eq (ws' := cw ad cI cZ x) (lv' := [(0, .ref (ad 0)), (1, .int (iI a)), (2, .int (iI b)), (3, .int (iI v))]) (pc' := 12) (st' := []) rfl rfl rfl rfl ?_
      refine g_iload_n C (q := 1) d_S_near_12 rfl rfl ?_
      refine g_iload_n C (q := 2) d_S_near_13 rfl rfl ?_
      by_cases hc14 : ¬ a = b
      · refine gS0 C (st := []) (m_S_needDifferent a b (by omega) (by omega) hc14) k_331 k_329 k_330 k_1 rfl ho_S_needDifferent rfl rfl ⟨by decide, by decide⟩ rfl rfl (Nat.le_of_ble_eq_true rfl) d_S_near_14 ⟨by decide, by decide⟩ (fun r w hq => ?_)
        obtain ⟨rfl, rfl⟩ := hq
        refine g_eq (ws' := cw ad cI cZ x) (lv' := [(0, .ref (ad 0)), (1, .int (iI a)), (2, .int (iI b)), (3, .int (iI v))]) (pc' := 17) (st' := []) rfl rfl rfl rfl ?_
        refine g_aload_n C (q := 0) d_S_near_17 rfl rfl ?_
        refine gG C (v := .ref (ad 2)) 0 1 u_S k_148 (cwo_0 _) rfl (by decide) rfl rfl d_S_near_18 ?_
        refine g_iload_n C (q := 1) d_S_near_21 rfl rfl ?_
        refine g_iload_n C (q := 2) d_S_near_22 rfl rfl ?_
        refine g_iload_n C (q := 3) d_S_near_23 rfl rfl ?_
        refine gVN C (st := []) (m_R_bringNear x a b v (by omega) (by omega) (by omega)) k_416 kn_413 k_415 kp_18 k_4 ho_R_bringNear rfl rfl ⟨by decide, by decide⟩ 2 (cwo_2 _) rfl rfl rfl (Nat.le_of_ble_eq_true rfl) d_S_near_24 ⟨by decide, by decide⟩ (fun r w hq => ?_)
        obtain ⟨rfl, rfl⟩ := hq
        refine g_eq (ws' := cw ad cI cZ (bu (bu x 11 (updI (x 11) (a * 4 + b) v)) 11 (updI (updI (x 11) (a * 4 + b) v) (b * 4 + a) v))) (lv' := [(0, .ref (ad 0)), (1, .int (iI a)), (2, .int (iI b)), (3, .int (iI v))]) (pc' := 27) (st' := []) rfl rfl rfl rfl ?_
        exact g_x (g_vret C hA hr d_S_near_27 (by decide) (by decide) ⟨by omega, rfl, rfl⟩)
      · refine gSx C (st := []) (t_S_needDifferent hl a b (by omega) (by omega) (by omega)) k_331 k_329 k_330 k_1 rfl ho_S_needDifferent rfl rfl ⟨by decide, by decide⟩ rfl rfl (Nat.le_of_ble_eq_true rfl) d_S_near_14 ⟨by decide, by decide⟩ (fun E w hq => ?_) (fun r w hq => hq.elim)
        obtain ⟨rfl, rfl⟩ := hq
        exact g_out C hno hA (by decide) (by decide) ⟨_, rfl, scr.rf x, rfl, by omega⟩
    · refine gSx C (st := []) (t_S_needRange hl b 0 3 (by omega) (by omega) (by omega) hc9) k_202 k_200 k_201 k_1 rfl ho_S_needRange rfl rfl ⟨by decide, by decide⟩ rfl rfl (Nat.le_of_ble_eq_true rfl) d_S_near_9 ⟨by decide, by decide⟩ (fun E w hq => ?_) (fun r w hq => hq.elim)
      obtain ⟨rfl, rfl⟩ := hq
      exact g_out C hno hA (by decide) (by decide) ⟨_, rfl, scr.rf x, rfl, by omega⟩
  · refine gSx C (st := []) (t_S_needRange hl a 0 3 (by omega) (by omega) (by omega) hc3) k_202 k_200 k_201 k_1 rfl ho_S_needRange rfl rfl ⟨by decide, by decide⟩ rfl rfl (Nat.le_of_ble_eq_true rfl) d_S_near_3 ⟨by decide, by decide⟩ (fun E w hq => ?_) (fun r w hq => hq.elim)
    obtain ⟨rfl, rfl⟩ := hq
    exact g_out C hno hA (by decide) (by decide) ⟨_, rfl, scr.rf x, rfl, by omega⟩
def limX (x : Bk) (a b : Int) : Bk := bu (bu x 2 (updI (x 2) 1 a)) 2 (updI (updI (x 2) 1 a) 2 b)
set_option maxRecDepth 100000 in
set_option maxHeartbeats 4000000 in
theorem m_S_limit {l : Launch} {D : va_G} {cI cZ cJ : ClassId} {base : Nat} {ad : Nat → Nat} (hl : l.stackTraces = false) (x : Bk) (a b : Int) (ha : InR a) (hb : InR b) (hok : Ok x) : Cx l D cls9 (tyl cI cZ cJ) base (zz base) y_S_limit (wz y_S_limit c_S_limit 3 (some FieldType.int)) ({ frames := 7, cells := 1, slots := 6, locals := 104 } : Room) [.ref (ad 0), .int (iI a), .int (iI b)] (cw ad cI cZ x) (fun r w => ((0 ≤ a ∧ a ≤ 4000) ∧ (1 ≤ b ∧ b ≤ 400)) ∧ r = some (above (limX x a b)) ∧ w = cw ad cI cZ (limX x a b)) (fun E w => ∃ y : Bk, w = cw ad cI cZ y ∧ scr y x ∧ ((E = "java/lang/IllegalArgumentException" ∧ ¬ ((0 ≤ a ∧ a ≤ 4000) ∧ (1 ≤ b ∧ b ≤ 400))))) 1 6 := by
  refine Cx_of (zzG base) (by decide) rfl (Nat.le_of_ble_eq_true rfl) ?_
  intro p e s m args below meth c A C hr hA hno
  have C : gC p s m args meth c D cls9 (tyl cI cZ cJ) A c_S_limit 3 "BatchSavings" (wz y_S_limit c_S_limit 3 (some FieldType.int)) base (zz base) := C
  refine g_lve (lv' := [(0, .ref (ad 0)), (1, .int (iI a)), (2, .int (iI b))]) rfl ?_
  have hn := hok.n
  have hnb := hok.b
  have hww := hok.w
  have hss := hok.s
  refine g_iload_n C (q := 1) d_S_limit_0 rfl rfl ?_
  refine g_iconst C d_S_limit_1 ?_
  refine g_sipush C d_S_limit_2 rfl ?_
  by_cases hc5 : 0 ≤ a ∧ a ≤ 4000
  · refine gS0 C (st := []) (m_S_needRange a 0 4000 (by omega) (by omega) (by omega) hc5) k_202 k_200 k_201 k_1 rfl ho_S_needRange rfl rfl ⟨by decide, by decide⟩ rfl rfl (Nat.le_of_ble_eq_true rfl) d_S_limit_5 ⟨by decide, by decide⟩ (fun r w hq => ?_)
    obtain ⟨rfl, rfl⟩ := hq
    refine g_eq (ws' := cw ad cI cZ x) (lv' := [(0, .ref (ad 0)), (1, .int (iI a)), (2, .int (iI b))]) (pc' := 8) (st' := []) rfl rfl rfl rfl ?_
    refine g_iload_n C (q := 2) d_S_limit_8 rfl rfl ?_
    refine g_iconst C d_S_limit_9 ?_
    refine g_sipush C d_S_limit_10 rfl ?_
    by_cases hc13 : 1 ≤ b ∧ b ≤ 400
    · refine gS0 C (st := []) (m_S_needRange b 1 400 (by omega) (by omega) (by omega) hc13) k_202 k_200 k_201 k_1 rfl ho_S_needRange rfl rfl ⟨by decide, by decide⟩ rfl rfl (Nat.le_of_ble_eq_true rfl) d_S_limit_13 ⟨by decide, by decide⟩ (fun r w hq => ?_)
      obtain ⟨rfl, rfl⟩ := hq
      refine g_eq (ws' := cw ad cI cZ x) (lv' := [(0, .ref (ad 0)), (1, .int (iI a)), (2, .int (iI b))]) (pc' := 16) (st' := []) rfl rfl rfl rfl ?_
      refine g_aload_n C (q := 0) d_S_limit_16 rfl rfl ?_
      refine gG C (v := .ref (ad 2)) 0 1 u_S k_148 (cwo_0 _) rfl (by decide) rfl rfl d_S_limit_17 ?_
      refine g_iload_n C (q := 1) d_S_limit_20 rfl rfl ?_
      refine gPN C 2 5 t_R to_R n_R u_R kn_77 (cwo_2 _) rfl (by decide) rfl rfl rfl rfl rfl (Nat.le_of_ble_eq_true rfl) d_S_limit_21 (cwf_2_5 _ _) ?_
      refine g_ws (ws' := cw ad cI cZ (bu x 2 (updI (x 2) 1 a))) rfl ?_
      refine g_aload_n C (q := 0) d_S_limit_24 rfl rfl ?_
      refine gG C (v := .ref (ad 2)) 0 1 u_S k_148 (cwo_0 _) rfl (by decide) rfl rfl d_S_limit_25 ?_
      refine g_iload_n C (q := 2) d_S_limit_28 rfl rfl ?_
      refine gPN C 2 6 t_R to_R n_R u_R kn_79 (cwo_2 _) rfl (by decide) rfl rfl rfl rfl rfl (Nat.le_of_ble_eq_true rfl) d_S_limit_29 (cwf_2_6 _ _) ?_
      refine g_ws (ws' := cw ad cI cZ (bu (bu x 2 (updI (x 2) 1 a)) 2 (updI (updI (x 2) 1 a) 2 b))) rfl ?_
      refine g_aload_n C (q := 0) d_S_limit_32 rfl rfl ?_
      refine gG C (v := .ref (ad 2)) 0 1 u_S k_148 (cwo_0 _) rfl (by decide) rfl rfl d_S_limit_33 ?_
      refine gVN C (st := []) (m_R_aboveAlone (bu (bu x 2 (updI (x 2) 1 a)) 2 (updI (updI (x 2) 1 a) 2 b)) hok.n hok.r8 hok.r6 (show InR a by omega) (show InR b by omega)) k_427 kn_424 k_426 kp_19 k_4 ho_R_aboveAlone rfl rfl ⟨by decide, by decide⟩ 2 (cwo_2 _) rfl rfl rfl (Nat.le_of_ble_eq_true rfl) d_S_limit_36 ⟨by decide, by decide⟩ (fun r w hq => ?_)
      obtain ⟨rfl, rfl⟩ := hq
      refine g_eq (ws' := cw ad cI cZ (bu (bu x 2 (updI (x 2) 1 a)) 2 (updI (updI (x 2) 1 a) 2 b))) (lv' := [(0, .ref (ad 0)), (1, .int (iI a)), (2, .int (iI b))]) (pc' := 39) (st' := [.int (iI (above (bu (bu x 2 (updI (x 2) 1 a)) 2 (updI (updI (x 2) 1 a) 2 b))))]) rfl rfl rfl rfl ?_
      exact g_x (g_iret C hA hr d_S_limit_39 (by decide) (by decide) ⟨by omega, rfl, rfl⟩)
    · refine gSx C (st := []) (t_S_needRange hl b 1 400 (by omega) (by omega) (by omega) hc13) k_202 k_200 k_201 k_1 rfl ho_S_needRange rfl rfl ⟨by decide, by decide⟩ rfl rfl (Nat.le_of_ble_eq_true rfl) d_S_limit_13 ⟨by decide, by decide⟩ (fun E w hq => ?_) (fun r w hq => hq.elim)
      obtain ⟨rfl, rfl⟩ := hq
      exact g_out C hno hA (by decide) (by decide) ⟨_, rfl, scr.rf x, rfl, by omega⟩
  · refine gSx C (st := []) (t_S_needRange hl a 0 4000 (by omega) (by omega) (by omega) hc5) k_202 k_200 k_201 k_1 rfl ho_S_needRange rfl rfl ⟨by decide, by decide⟩ rfl rfl (Nat.le_of_ble_eq_true rfl) d_S_limit_5 ⟨by decide, by decide⟩ (fun E w hq => ?_) (fun r w hq => hq.elim)
    obtain ⟨rfl, rfl⟩ := hq
    exact g_out C hno hA (by decide) (by decide) ⟨_, rfl, scr.rf x, rfl, by omega⟩
set_option maxRecDepth 100000 in
set_option maxHeartbeats 4000000 in
theorem m_S_with {l : Launch} {D : va_G} {cI cZ cJ : ClassId} {base : Nat} {ad : Nat → Nat} (hl : l.stackTraces = false) (x : Bk) (a : Int) (ha : InR a) (hok : Ok x) : Cx l D cls9 (tyl cI cZ cJ) base (zz base) y_S_with (wz y_S_with c_S_with 2 (some FieldType.int)) ({ frames := 7, cells := 1, slots := 6, locals := 103 } : Room) [.ref (ad 0), .int (iI a)] (cw ad cI cZ x) (fun r w => (0 ≤ a ∧ a < x 1 0) ∧ r = some (x 16 a) ∧ w = cw ad cI cZ x) (fun E w => ∃ y : Bk, w = cw ad cI cZ y ∧ scr y x ∧ ((E = "java/util/NoSuchElementException" ∧ ¬ (0 ≤ a ∧ a < x 1 0)))) 1 6 := by
  refine Cx_of (zzG base) (by decide) rfl (Nat.le_of_ble_eq_true rfl) ?_
  intro p e s m args below meth c A C hr hA hno
  have C : gC p s m args meth c D cls9 (tyl cI cZ cJ) A c_S_with 2 "BatchSavings" (wz y_S_with c_S_with 2 (some FieldType.int)) base (zz base) := C
  refine g_lve (lv' := [(0, .ref (ad 0)), (1, .int (iI a))]) rfl ?_
  have hn := hok.n
  have hnb := hok.b
  have hww := hok.w
  have hss := hok.s
  refine g_aload_n C (q := 0) d_S_with_0 rfl rfl ?_
  refine g_iload_n C (q := 1) d_S_with_1 rfl rfl ?_
  by_cases hc2 : 0 ≤ a ∧ a < (x 1 0)
  · refine gV C (st := []) (m_S_needOrder x a (by omega) (show InR (x 1 0) by omega) hc2) k_308 k_305 k_307 kp_8 k_1 rfl ho_S_needOrder rfl rfl ⟨by decide, by decide⟩ 0 (cwo_0 _) rfl rfl rfl (Nat.le_of_ble_eq_true rfl) d_S_with_2 ⟨by decide, by decide⟩ (fun r w hq => ?_)
    obtain ⟨rfl, rfl⟩ := hq
    refine g_eq (ws' := cw ad cI cZ x) (lv' := [(0, .ref (ad 0)), (1, .int (iI a))]) (pc' := 5) (st' := []) rfl rfl rfl rfl ?_
    refine g_aload_n C (q := 0) d_S_with_5 rfl rfl ?_
    refine gG C (v := .ref (ad 4)) 0 3 u_S k_150 (cwo_0 _) rfl (by decide) rfl rfl d_S_with_6 ?_
    refine gGN C (v := .ref (ad 16)) 4 1 u_M kn_131 (cwo_4 _) rfl (by decide) rfl rfl d_S_with_9 ?_
    refine g_iload_n C (q := 1) d_S_with_12 rfl rfl ?_
    refine g_iald C 16 0 (cwa_16 _) rfl (by decide) (by omega) d_S_with_13 ?_
    refine g_st (st' := [.int (iI (x 16 a))]) rfl ?_
    exact g_x (g_iret C hA hr d_S_with_14 (by decide) (by decide) ⟨by omega, rfl, rfl⟩)
  · refine gVx C (st := []) (t_S_needOrder hl x a (by omega) (show InR (x 1 0) by omega) hc2) k_308 k_305 k_307 kp_8 k_1 rfl ho_S_needOrder rfl rfl ⟨by decide, by decide⟩ 0 (cwo_0 _) rfl rfl rfl (Nat.le_of_ble_eq_true rfl) d_S_with_2 ⟨by decide, by decide⟩ (fun E w hq => ?_) (fun r w hq => hq.elim)
    obtain ⟨rfl, rfl⟩ := hq
    exact g_out C hno hA (by decide) (by decide) ⟨_, rfl, scr.rf x, rfl, by omega⟩
set_option maxRecDepth 100000 in
set_option maxHeartbeats 4000000 in
theorem m_S_batch {l : Launch} {D : va_G} {cI cZ cJ : ClassId} {base : Nat} {ad : Nat → Nat} (hl : l.stackTraces = false) (x : Bk) (a : Int) (ha : InR a) (hok : Ok x) : Cx l D cls9 (tyl cI cZ cJ) base (zz base) y_S_batch (wz y_S_batch c_S_batch 2 (some FieldType.int)) ({ frames := 7, cells := 1, slots := 6, locals := 103 } : Room) [.ref (ad 0), .int (iI a)] (cw ad cI cZ x) (fun r w => (0 ≤ a ∧ a < x 1 0) ∧ r = some (x 15 a) ∧ w = cw ad cI cZ x) (fun E w => ∃ y : Bk, w = cw ad cI cZ y ∧ scr y x ∧ ((E = "java/util/NoSuchElementException" ∧ ¬ (0 ≤ a ∧ a < x 1 0)))) 1 6 := by
  refine Cx_of (zzG base) (by decide) rfl (Nat.le_of_ble_eq_true rfl) ?_
  intro p e s m args below meth c A C hr hA hno
  have C : gC p s m args meth c D cls9 (tyl cI cZ cJ) A c_S_batch 2 "BatchSavings" (wz y_S_batch c_S_batch 2 (some FieldType.int)) base (zz base) := C
  refine g_lve (lv' := [(0, .ref (ad 0)), (1, .int (iI a))]) rfl ?_
  have hn := hok.n
  have hnb := hok.b
  have hww := hok.w
  have hss := hok.s
  refine g_aload_n C (q := 0) d_S_batch_0 rfl rfl ?_
  refine g_iload_n C (q := 1) d_S_batch_1 rfl rfl ?_
  by_cases hc2 : 0 ≤ a ∧ a < (x 1 0)
  · refine gV C (st := []) (m_S_needOrder x a (by omega) (show InR (x 1 0) by omega) hc2) k_308 k_305 k_307 kp_8 k_1 rfl ho_S_needOrder rfl rfl ⟨by decide, by decide⟩ 0 (cwo_0 _) rfl rfl rfl (Nat.le_of_ble_eq_true rfl) d_S_batch_2 ⟨by decide, by decide⟩ (fun r w hq => ?_)
    obtain ⟨rfl, rfl⟩ := hq
    refine g_eq (ws' := cw ad cI cZ x) (lv' := [(0, .ref (ad 0)), (1, .int (iI a))]) (pc' := 5) (st' := []) rfl rfl rfl rfl ?_
    refine g_aload_n C (q := 0) d_S_batch_5 rfl rfl ?_
    refine gG C (v := .ref (ad 3)) 0 2 u_S k_149 (cwo_0 _) rfl (by decide) rfl rfl d_S_batch_6 ?_
    refine gGN C (v := .ref (ad 15)) 3 3 u_B kn_108 (cwo_3 _) rfl (by decide) rfl rfl d_S_batch_9 ?_
    refine g_iload_n C (q := 1) d_S_batch_12 rfl rfl ?_
    refine g_iald C 15 0 (cwa_15 _) rfl (by decide) (by omega) d_S_batch_13 ?_
    refine g_st (st' := [.int (iI (x 15 a))]) rfl ?_
    exact g_x (g_iret C hA hr d_S_batch_14 (by decide) (by decide) ⟨by omega, rfl, rfl⟩)
  · refine gVx C (st := []) (t_S_needOrder hl x a (by omega) (show InR (x 1 0) by omega) hc2) k_308 k_305 k_307 kp_8 k_1 rfl ho_S_needOrder rfl rfl ⟨by decide, by decide⟩ 0 (cwo_0 _) rfl rfl rfl (Nat.le_of_ble_eq_true rfl) d_S_batch_2 ⟨by decide, by decide⟩ (fun E w hq => ?_) (fun r w hq => hq.elim)
    obtain ⟨rfl, rfl⟩ := hq
    exact g_out C hno hA (by decide) (by decide) ⟨_, rfl, scr.rf x, rfl, by omega⟩
