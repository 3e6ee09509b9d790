set_option maxRecDepth 100000 in
set_option maxHeartbeats 4000000 in
theorem m_Tw_order {l : Launch} {D : va_G} {cI cZ cJ : ClassId} {base : Nat} {ad : Nat → Nat} (x : Bk) (a b v : Int) (ha : InR a) (hb : InR b) (hv : InR v) (hok : Ok x) : Cn l D cls9 (tyl cI cZ cJ) base (zz base) y_Tw_order (wz y_Tw_order c_Tw_order 4 (some FieldType.int)) ({ frames := 1, cells := 0, slots := 0, locals := 22 } : Room) [.ref (ad 0), .int (iI a), .int (iI b), .int (iI v)] (mw ad cI cZ x) (fun r w => ∃ z : Bk, w = mw ad cI cZ z ∧ ((z 0 0 = 1 ∧ (¬ ((1 ≤ a ∧ a ≤ 10000) ∧ (1 ≤ b ∧ b ≤ 100) ∧ (0 ≤ v ∧ v ≤ 3))) ∧ r = some (0) ∧ e0 z x) ∨ (z 0 0 = 2 ∧ (((1 ≤ a ∧ a ≤ 10000) ∧ (1 ≤ b ∧ b ≤ 100) ∧ (0 ≤ v ∧ v ≤ 3)) ∧ ¬ x 1 0 < 10) ∧ r = some (0) ∧ e0 z x) ∨ (z 0 0 = 0 ∧ (((1 ≤ a ∧ a ≤ 10000) ∧ (1 ≤ b ∧ b ≤ 100) ∧ (0 ≤ v ∧ v ≤ 3)) ∧ x 1 0 < 10) ∧ r = some (x 1 0) ∧ e0 z (ordX x a b v)))) 0 0 := by
  refine Cn_of (zzG base) (by decide) rfl (Nat.le_of_ble_eq_true rfl) ?_
  intro p e s m args below meth c A C hr hA hnm
  have C : gC p s m args meth c D cls9 (tyl cI cZ cJ) A c_Tw_order 4 "BatchSavingsModel" (wz y_Tw_order c_Tw_order 4 (some FieldType.int)) base (zz base) := C
  refine g_lve (lv' := [(0, .ref (ad 0)), (1, .int (iI a)), (2, .int (iI b)), (3, .int (iI v))]) rfl ?_
  have hn := hok.n
  refine g_aload_n C (q := 0) d_Tw_order_0 rfl rfl ?_
  refine g_iload_n C (q := 1) d_Tw_order_1 rfl rfl ?_
  refine g_iconst C d_Tw_order_2 ?_
  refine g_sipush C d_Tw_order_3 rfl ?_
  refine gS0 C (st := [.ref (ad 0)]) (m_Tw_in a 1 10000 (by omega) (by omega) (by omega)) k_713 k_711 k_712 k_7 rfl ho_Tw_in rfl rfl ⟨by decide, by decide⟩ rfl rfl (Nat.le_of_ble_eq_true rfl) d_Tw_order_6 ⟨by decide, by decide⟩ (fun r w hq => ?_)
  obtain ⟨rfl, rfl⟩ := hq
  refine g_eq (ws' := mw ad cI cZ x) (lv' := [(0, .ref (ad 0)), (1, .int (iI a)), (2, .int (iI b)), (3, .int (iI v))]) (pc' := 9) (st' := [.int (iI (b01 (1 ≤ a ∧ a ≤ 10000))), .ref (ad 0)]) rfl rfl rfl rfl ?_
  by_cases hb6_1 : (1 ≤ a ∧ a ≤ 10000)
  · refine g_st (st' := [.int (iI 1), .ref (ad 0)]) (by rw [b01_t hb6_1]) ?_
    refine g_if_eq C (tgt := 31) d_Tw_order_9 rfl (by omega) (fun h9_2 => ?_) (fun h9_2 => ?_)
    · exfalso
      omega
    · refine g_iload_n C (q := 2) d_Tw_order_12 rfl rfl ?_
      refine g_iconst C d_Tw_order_13 ?_
      refine g_bipush C d_Tw_order_14 rfl ?_
      refine gS0 C (st := [.ref (ad 0)]) (m_Tw_in b 1 100 (by omega) (by omega) (by omega)) k_713 k_711 k_712 k_7 rfl ho_Tw_in rfl rfl ⟨by decide, by decide⟩ rfl rfl (Nat.le_of_ble_eq_true rfl) d_Tw_order_16 ⟨by decide, by decide⟩ (fun r w hq => ?_)
      obtain ⟨rfl, rfl⟩ := hq
      refine g_eq (ws' := mw ad cI cZ x) (lv' := [(0, .ref (ad 0)), (1, .int (iI a)), (2, .int (iI b)), (3, .int (iI v))]) (pc' := 19) (st' := [.int (iI (b01 (1 ≤ b ∧ b ≤ 100))), .ref (ad 0)]) rfl rfl rfl rfl ?_
      by_cases hb16_3 : (1 ≤ b ∧ b ≤ 100)
      · refine g_st (st' := [.int (iI 1), .ref (ad 0)]) (by rw [b01_t hb16_3]) ?_
        refine g_if_eq C (tgt := 31) d_Tw_order_19 rfl (by omega) (fun h19_4 => ?_) (fun h19_4 => ?_)
        · exfalso
          omega
        · refine g_iload_n C (q := 3) d_Tw_order_22 rfl rfl ?_
          refine g_iconst C d_Tw_order_23 ?_
          refine g_iconst C d_Tw_order_24 ?_
          refine gS0 C (st := [.ref (ad 0)]) (m_Tw_in v 0 3 (by omega) (by omega) (by omega)) k_713 k_711 k_712 k_7 rfl ho_Tw_in rfl rfl ⟨by decide, by decide⟩ rfl rfl (Nat.le_of_ble_eq_true rfl) d_Tw_order_25 ⟨by decide, by decide⟩ (fun r w hq => ?_)
          obtain ⟨rfl, rfl⟩ := hq
          refine g_eq (ws' := mw ad cI cZ x) (lv' := [(0, .ref (ad 0)), (1, .int (iI a)), (2, .int (iI b)), (3, .int (iI v))]) (pc' := 28) (st' := [.int (iI (b01 (0 ≤ v ∧ v ≤ 3))), .ref (ad 0)]) rfl rfl rfl rfl ?_
          by_cases hb25_5 : (0 ≤ v ∧ v ≤ 3)
          · refine g_st (st' := [.int (iI 1), .ref (ad 0)]) (by rw [b01_t hb25_5]) ?_
            refine g_if_ne C (tgt := 35) d_Tw_order_28 rfl (by omega) (fun h28_6 => ?_) (fun h28_6 => ?_)
            · refine g_aload_n C (q := 0) d_Tw_order_35 rfl rfl ?_
              refine gG C (v := .int (iI (x 1 0))) 0 1 u_Tw k_649 (mwo_0 _) rfl (by decide) rfl rfl d_Tw_order_36 ?_
              refine g_bipush C d_Tw_order_39 rfl ?_
              refine g_icmp_ne C (tgt := 48) d_Tw_order_41 rfl (by omega) (by omega) (fun h41_7 => ?_) (fun h41_7 => ?_)
              · refine g_iconst C d_Tw_order_48 ?_
                refine gP C 0 0 t_Tw to_Tw n_Tw u_Tw k_648 (mwo_0 _) rfl (by decide) rfl rfl rfl rfl rfl (Nat.le_of_ble_eq_true rfl) d_Tw_order_49 (mwf_0_0 _ _) ?_
                refine g_ws (ws' := mw ad cI cZ (bu x 0 (updI (x 0) 0 0))) rfl ?_
                refine g_aload_n C (q := 0) d_Tw_order_52 rfl rfl ?_
                refine gG C (v := .int (iI 0)) 0 0 u_Tw k_648 (mwo_0 _) rfl (by decide) rfl rfl d_Tw_order_53 ?_
                refine g_if_le C (tgt := 61) d_Tw_order_56 rfl (by omega) (fun h56_8 => ?_) (fun h56_8 => ?_)
                · refine g_aload_n C (q := 0) d_Tw_order_61 rfl rfl ?_
                  refine gG C (v := .ref (ad 1)) 0 2 u_Tw k_650 (mwo_0 _) rfl (by decide) rfl rfl d_Tw_order_62 ?_
                  refine g_aload_n C (q := 0) d_Tw_order_65 rfl rfl ?_
                  refine gG C (v := .int (iI (x 1 0))) 0 1 u_Tw k_649 (mwo_0 _) rfl (by decide) rfl rfl d_Tw_order_66 ?_
                  refine g_iload_n C (q := 1) d_Tw_order_69 rfl rfl ?_
                  refine g_iast C 1 0 (mwa_1 _) rfl (by decide) (by omega) d_Tw_order_70 (mws_1 _ _) ?_
                  refine g_ws (ws' := mw ad cI cZ (bu (bu x 0 (updI (x 0) 0 0)) 5 (updI (x 5) (x 1 0) a))) rfl ?_
                  refine g_aload_n C (q := 0) d_Tw_order_71 rfl rfl ?_
                  refine gG C (v := .ref (ad 2)) 0 3 u_Tw k_651 (mwo_0 _) rfl (by decide) rfl rfl d_Tw_order_72 ?_
                  refine g_aload_n C (q := 0) d_Tw_order_75 rfl rfl ?_
                  refine gG C (v := .int (iI (x 1 0))) 0 1 u_Tw k_649 (mwo_0 _) rfl (by decide) rfl rfl d_Tw_order_76 ?_
                  refine g_iload_n C (q := 2) d_Tw_order_79 rfl rfl ?_
                  refine g_iast C 2 0 (mwa_2 _) rfl (by decide) (by omega) d_Tw_order_80 (mws_2 _ _) ?_
                  refine g_ws (ws' := mw ad cI cZ (bu (bu (bu x 0 (updI (x 0) 0 0)) 5 (updI (x 5) (x 1 0) a)) 6 (updI (x 6) (x 1 0) b))) rfl ?_
                  refine g_aload_n C (q := 0) d_Tw_order_81 rfl rfl ?_
                  refine gG C (v := .ref (ad 3)) 0 4 u_Tw k_652 (mwo_0 _) rfl (by decide) rfl rfl d_Tw_order_82 ?_
                  refine g_aload_n C (q := 0) d_Tw_order_85 rfl rfl ?_
                  refine gG C (v := .int (iI (x 1 0))) 0 1 u_Tw k_649 (mwo_0 _) rfl (by decide) rfl rfl d_Tw_order_86 ?_
                  refine g_iload_n C (q := 3) d_Tw_order_89 rfl rfl ?_
                  refine g_iast C 3 0 (mwa_3 _) rfl (by decide) (by omega) d_Tw_order_90 (mws_3 _ _) ?_
                  refine g_ws (ws' := mw ad cI cZ (bu (bu (bu (bu x 0 (updI (x 0) 0 0)) 5 (updI (x 5) (x 1 0) a)) 6 (updI (x 6) (x 1 0) b)) 7 (updI (x 7) (x 1 0) v))) rfl ?_
                  refine g_aload_n C (q := 0) d_Tw_order_91 rfl rfl ?_
                  refine g_dup C d_Tw_order_92 rfl ?_
                  refine gG C (v := .int (iI (x 1 0))) 0 1 u_Tw k_649 (mwo_0 _) rfl (by decide) rfl rfl d_Tw_order_93 ?_
                  refine g_iconst C d_Tw_order_96 ?_
                  refine g_iadd C d_Tw_order_97 ?_
                  refine gP C 0 1 t_Tw to_Tw n_Tw u_Tw k_649 (mwo_0 _) rfl (by decide) rfl rfl rfl rfl rfl (Nat.le_of_ble_eq_true rfl) d_Tw_order_98 (mwf_0_1 _ _) ?_
                  refine g_ws (ws' := mw ad cI cZ (bu (bu (bu (bu (bu x 0 (updI (x 0) 0 0)) 5 (updI (x 5) (x 1 0) a)) 6 (updI (x 6) (x 1 0) b)) 7 (updI (x 7) (x 1 0) v)) 1 (updI (x 1) 0 ((x 1 0) + 1)))) rfl ?_
                  refine g_aload_n C (q := 0) d_Tw_order_101 rfl rfl ?_
                  refine gG C (v := .int (iI ((x 1 0) + 1))) 0 1 u_Tw k_649 (mwo_0 _) rfl (by decide) rfl rfl d_Tw_order_102 ?_
                  refine g_iconst C d_Tw_order_105 ?_
                  refine g_isub C d_Tw_order_106 ?_
                  exact g_iret C hA hr d_Tw_order_107 (by decide) (by decide) ⟨_, rfl, Or.inr (Or.inr (⟨rfl, (by omega), (by first | rfl | exact congrArg some (by omega)), (e0.bu (e0.bu (e0.bu (e0.bu (e0.sc (e0.rf x) _) _ _) _ _) _ _) _ _)⟩))⟩
                · exfalso
                  omega
              · refine g_iconst C d_Tw_order_44 ?_
                refine g_goto C (tgt := 49) d_Tw_order_45 rfl ?_
                refine gP C 0 0 t_Tw to_Tw n_Tw u_Tw k_648 (mwo_0 _) rfl (by decide) rfl rfl rfl rfl rfl (Nat.le_of_ble_eq_true rfl) d_Tw_order_49 (mwf_0_0 _ _) ?_
                refine g_ws (ws' := mw ad cI cZ (bu x 0 (updI (x 0) 0 2))) rfl ?_
                refine g_aload_n C (q := 0) d_Tw_order_52 rfl rfl ?_
                refine gG C (v := .int (iI 2)) 0 0 u_Tw k_648 (mwo_0 _) rfl (by decide) rfl rfl d_Tw_order_53 ?_
                refine g_if_le C (tgt := 61) d_Tw_order_56 rfl (by omega) (fun h56_9 => ?_) (fun h56_9 => ?_)
                · exfalso
                  omega
                · refine g_iconst C d_Tw_order_59 ?_
                  exact g_iret C hA hr d_Tw_order_60 (by decide) (by decide) ⟨_, rfl, Or.inr (Or.inl (⟨rfl, (by omega), (by first | rfl | exact congrArg some (by omega)), (e0.sc (e0.rf x) _)⟩))⟩
            · exfalso
              omega
          · refine g_st (st' := [.int (iI 0), .ref (ad 0)]) (by rw [b01_f hb25_5]) ?_
            refine g_if_ne C (tgt := 35) d_Tw_order_28 rfl (by omega) (fun h28_10 => ?_) (fun h28_10 => ?_)
            · exfalso
              omega
            · refine g_iconst C d_Tw_order_31 ?_
              refine g_goto C (tgt := 49) d_Tw_order_32 rfl ?_
              refine gP C 0 0 t_Tw to_Tw n_Tw u_Tw k_648 (mwo_0 _) rfl (by decide) rfl rfl rfl rfl rfl (Nat.le_of_ble_eq_true rfl) d_Tw_order_49 (mwf_0_0 _ _) ?_
              refine g_ws (ws' := mw ad cI cZ (bu x 0 (updI (x 0) 0 1))) rfl ?_
              refine g_aload_n C (q := 0) d_Tw_order_52 rfl rfl ?_
              refine gG C (v := .int (iI 1)) 0 0 u_Tw k_648 (mwo_0 _) rfl (by decide) rfl rfl d_Tw_order_53 ?_
              refine g_if_le C (tgt := 61) d_Tw_order_56 rfl (by omega) (fun h56_11 => ?_) (fun h56_11 => ?_)
              · exfalso
                omega
              · refine g_iconst C d_Tw_order_59 ?_
                exact g_iret C hA hr d_Tw_order_60 (by decide) (by decide) ⟨_, rfl, Or.inl (⟨rfl, (by omega), (by first | rfl | exact congrArg some (by omega)), (e0.sc (e0.rf x) _)⟩)⟩
      · refine g_st (st' := [.int (iI 0), .ref (ad 0)]) (by rw [b01_f hb16_3]) ?_
        refine g_if_eq C (tgt := 31) d_Tw_order_19 rfl (by omega) (fun h19_12 => ?_) (fun h19_12 => ?_)
        · refine g_iconst C d_Tw_order_31 ?_
          refine g_goto C (tgt := 49) d_Tw_order_32 rfl ?_
          refine gP C 0 0 t_Tw to_Tw n_Tw u_Tw k_648 (mwo_0 _) rfl (by decide) rfl rfl rfl rfl rfl (Nat.le_of_ble_eq_true rfl) d_Tw_order_49 (mwf_0_0 _ _) ?_
          refine g_ws (ws' := mw ad cI cZ (bu x 0 (updI (x 0) 0 1))) rfl ?_
          refine g_aload_n C (q := 0) d_Tw_order_52 rfl rfl ?_
          refine gG C (v := .int (iI 1)) 0 0 u_Tw k_648 (mwo_0 _) rfl (by decide) rfl rfl d_Tw_order_53 ?_
          refine g_if_le C (tgt := 61) d_Tw_order_56 rfl (by omega) (fun h56_13 => ?_) (fun h56_13 => ?_)
          · exfalso
            omega
          · refine g_iconst C d_Tw_order_59 ?_
            exact g_iret C hA hr d_Tw_order_60 (by decide) (by decide) ⟨_, rfl, Or.inl (⟨rfl, (by omega), (by first | rfl | exact congrArg some (by omega)), (e0.sc (e0.rf x) _)⟩)⟩
        · exfalso
          omega
  · refine g_st (st' := [.int (iI 0), .ref (ad 0)]) (by rw [b01_f hb6_1]) ?_
    refine g_if_eq C (tgt := 31) d_Tw_order_9 rfl (by omega) (fun h9_14 => ?_) (fun h9_14 => ?_)
    · refine g_iconst C d_Tw_order_31 ?_
      refine g_goto C (tgt := 49) d_Tw_order_32 rfl ?_
      refine gP C 0 0 t_Tw to_Tw n_Tw u_Tw k_648 (mwo_0 _) rfl (by decide) rfl rfl rfl rfl rfl (Nat.le_of_ble_eq_true rfl) d_Tw_order_49 (mwf_0_0 _ _) ?_
      refine g_ws (ws' := mw ad cI cZ (bu x 0 (updI (x 0) 0 1))) rfl ?_
      refine g_aload_n C (q := 0) d_Tw_order_52 rfl rfl ?_
      refine gG C (v := .int (iI 1)) 0 0 u_Tw k_648 (mwo_0 _) rfl (by decide) rfl rfl d_Tw_order_53 ?_
      refine g_if_le C (tgt := 61) d_Tw_order_56 rfl (by omega) (fun h56_15 => ?_) (fun h56_15 => ?_)
      · exfalso
        omega
      · refine g_iconst C d_Tw_order_59 ?_
        exact g_iret C hA hr d_Tw_order_60 (by decide) (by decide) ⟨_, rfl, Or.inl (⟨rfl, (by omega), (by first | rfl | exact congrArg some (by omega)), (e0.sc (e0.rf x) _)⟩)⟩
    · exfalso
      omega
set_option maxRecDepth 100000 in
set_option maxHeartbeats 4000000 in
theorem m_Tw_joined {l : Launch} {D : va_G} {cI cZ cJ : ClassId} {base : Nat} {ad : Nat → Nat} (x : Bk) (a b v : Int) (ha : InR a) (hb : InR b) (hv : InR v) (hok : Ok x) : Cn l D cls9 (tyl cI cZ cJ) base (zz base) y_Tw_joined (wz y_Tw_joined c_Tw_joined 4 (some FieldType.int)) ({ frames := 2, cells := 0, slots := 0, locals := 43 } : Room) [.ref (ad 0), .int (iI a), .int (iI b), .int (iI v)] (mw ad cI cZ x) (fun r w => ∃ z : Bk, w = mw ad cI cZ z ∧ ((z 0 0 = 1 ∧ (¬ ((0 ≤ a ∧ a < x 1 0) ∧ (0 ≤ b ∧ b < x 1 0))) ∧ r = some (0) ∧ e0 z x) ∨ (z 0 0 = 2 ∧ (((0 ≤ a ∧ a < x 1 0) ∧ (0 ≤ b ∧ b < x 1 0)) ∧ (a = b ∨ ¬ (0 ≤ v ∧ v ≤ 20000))) ∧ r = some (0) ∧ e0 z x) ∨ (z 0 0 = 0 ∧ (((0 ≤ a ∧ a < x 1 0) ∧ (0 ≤ b ∧ b < x 1 0)) ∧ ¬ a = b ∧ 0 ≤ v ∧ v ≤ 20000) ∧ r = some (sv (joiX x a b v) a b) ∧ e0 z (joiX x a b v)))) 0 0 := by
  refine Cn_of (zzG base) (by decide) rfl (Nat.le_of_ble_eq_true rfl) ?_
  intro p e s m args below meth c A C hr hA hnm
  have C : gC p s m args meth c D cls9 (tyl cI cZ cJ) A c_Tw_joined 4 "BatchSavingsModel" (wz y_Tw_joined c_Tw_joined 4 (some FieldType.int)) base (zz base) := C
  refine g_lve (lv' := [(0, .ref (ad 0)), (1, .int (iI a)), (2, .int (iI b)), (3, .int (iI v))]) rfl ?_
  have hn := hok.n
  refine g_aload_n C (q := 0) d_Tw_joined_0 rfl rfl ?_
  refine g_aload_n C (q := 0) d_Tw_joined_1 rfl rfl ?_
  refine g_iload_n C (q := 1) d_Tw_joined_2 rfl rfl ?_
  refine gV C (st := [.ref (ad 0)]) (m_Tw_isOrder x a (by omega) (show 0 ≤ (x 1 0) ∧ (x 1 0) ≤ 10 by omega)) k_721 k_718 k_720 kp_45 k_7 rfl ho_Tw_isOrder rfl rfl ⟨by decide, by decide⟩ 0 (mwo_0 _) rfl rfl rfl (Nat.le_of_ble_eq_true rfl) d_Tw_joined_3 ⟨by decide, by decide⟩ (fun r w hq => ?_)
  obtain ⟨rfl, rfl⟩ := hq
  refine g_eq (ws' := mw ad cI cZ x) (lv' := [(0, .ref (ad 0)), (1, .int (iI a)), (2, .int (iI b)), (3, .int (iI v))]) (pc' := 6) (st' := [.int (iI (b01 (0 ≤ a ∧ a < (x 1 0)))), .ref (ad 0)]) rfl rfl rfl rfl ?_
  by_cases hb3_1 : (0 ≤ a ∧ a < (x 1 0))
  · refine g_st (st' := [.int (iI 1), .ref (ad 0)]) (by rw [b01_t hb3_1]) ?_
    refine g_if_eq C (tgt := 17) d_Tw_joined_6 rfl (by omega) (fun h6_2 => ?_) (fun h6_2 => ?_)
    · exfalso
      omega
    · refine g_aload_n C (q := 0) d_Tw_joined_9 rfl rfl ?_
      refine g_iload_n C (q := 2) d_Tw_joined_10 rfl rfl ?_
      refine gV C (st := [.ref (ad 0)]) (m_Tw_isOrder x b (by omega) (show 0 ≤ (x 1 0) ∧ (x 1 0) ≤ 10 by omega)) k_721 k_718 k_720 kp_45 k_7 rfl ho_Tw_isOrder rfl rfl ⟨by decide, by decide⟩ 0 (mwo_0 _) rfl rfl rfl (Nat.le_of_ble_eq_true rfl) d_Tw_joined_11 ⟨by decide, by decide⟩ (fun r w hq => ?_)
      obtain ⟨rfl, rfl⟩ := hq
      refine g_eq (ws' := mw ad cI cZ x) (lv' := [(0, .ref (ad 0)), (1, .int (iI a)), (2, .int (iI b)), (3, .int (iI v))]) (pc' := 14) (st' := [.int (iI (b01 (0 ≤ b ∧ b < (x 1 0)))), .ref (ad 0)]) rfl rfl rfl rfl ?_
      by_cases hb11_3 : (0 ≤ b ∧ b < (x 1 0))
      · refine g_st (st' := [.int (iI 1), .ref (ad 0)]) (by rw [b01_t hb11_3]) ?_
        refine g_if_ne C (tgt := 21) d_Tw_joined_14 rfl (by omega) (fun h14_4 => ?_) (fun h14_4 => ?_)
        · refine g_iload_n C (q := 1) d_Tw_joined_21 rfl rfl ?_
          refine g_iload_n C (q := 2) d_Tw_joined_22 rfl rfl ?_
          refine g_icmp_eq C (tgt := 37) d_Tw_joined_23 rfl (by omega) (by omega) (fun h23_5 => ?_) (fun h23_5 => ?_)
          · refine g_iconst C d_Tw_joined_37 ?_
            refine g_goto C (tgt := 42) d_Tw_joined_38 rfl ?_
            refine gP C 0 0 t_Tw to_Tw n_Tw u_Tw k_648 (mwo_0 _) rfl (by decide) rfl rfl rfl rfl rfl (Nat.le_of_ble_eq_true rfl) d_Tw_joined_42 (mwf_0_0 _ _) ?_
            refine g_ws (ws' := mw ad cI cZ (bu x 0 (updI (x 0) 0 2))) rfl ?_
            refine g_aload_n C (q := 0) d_Tw_joined_45 rfl rfl ?_
            refine gG C (v := .int (iI 2)) 0 0 u_Tw k_648 (mwo_0 _) rfl (by decide) rfl rfl d_Tw_joined_46 ?_
            refine g_if_le C (tgt := 54) d_Tw_joined_49 rfl (by omega) (fun h49_6 => ?_) (fun h49_6 => ?_)
            · exfalso
              omega
            · refine g_iconst C d_Tw_joined_52 ?_
              exact g_iret C hA hr d_Tw_joined_53 (by decide) (by decide) ⟨_, rfl, Or.inr (Or.inl (⟨rfl, (by omega), (by first | rfl | exact congrArg some (by omega)), (e0.sc (e0.rf x) _)⟩))⟩
          · refine g_iload_n C (q := 3) d_Tw_joined_26 rfl rfl ?_
            refine g_iconst C d_Tw_joined_27 ?_
            refine g_sipush C d_Tw_joined_28 rfl ?_
            refine gS0 C (st := [.ref (ad 0)]) (m_Tw_in v 0 20000 (by omega) (by omega) (by omega)) k_713 k_711 k_712 k_7 rfl ho_Tw_in rfl rfl ⟨by decide, by decide⟩ rfl rfl (Nat.le_of_ble_eq_true rfl) d_Tw_joined_31 ⟨by decide, by decide⟩ (fun r w hq => ?_)
            obtain ⟨rfl, rfl⟩ := hq
            refine g_eq (ws' := mw ad cI cZ x) (lv' := [(0, .ref (ad 0)), (1, .int (iI a)), (2, .int (iI b)), (3, .int (iI v))]) (pc' := 34) (st' := [.int (iI (b01 (0 ≤ v ∧ v ≤ 20000))), .ref (ad 0)]) rfl rfl rfl rfl ?_
            by_cases hb31_7 : (0 ≤ v ∧ v ≤ 20000)
            · refine g_st (st' := [.int (iI 1), .ref (ad 0)]) (by rw [b01_t hb31_7]) ?_
              refine g_if_ne C (tgt := 41) d_Tw_joined_34 rfl (by omega) (fun h34_8 => ?_) (fun h34_8 => ?_)
              · refine g_iconst C d_Tw_joined_41 ?_
                refine gP C 0 0 t_Tw to_Tw n_Tw u_Tw k_648 (mwo_0 _) rfl (by decide) rfl rfl rfl rfl rfl (Nat.le_of_ble_eq_true rfl) d_Tw_joined_42 (mwf_0_0 _ _) ?_
                refine g_ws (ws' := mw ad cI cZ (bu x 0 (updI (x 0) 0 0))) rfl ?_
                refine g_aload_n C (q := 0) d_Tw_joined_45 rfl rfl ?_
                refine gG C (v := .int (iI 0)) 0 0 u_Tw k_648 (mwo_0 _) rfl (by decide) rfl rfl d_Tw_joined_46 ?_
                refine g_if_le C (tgt := 54) d_Tw_joined_49 rfl (by omega) (fun h49_9 => ?_) (fun h49_9 => ?_)
                · refine g_aload_n C (q := 0) d_Tw_joined_54 rfl rfl ?_
                  refine gG C (v := .ref (ad 5)) 0 6 u_Tw k_654 (mwo_0 _) rfl (by decide) rfl rfl d_Tw_joined_55 ?_
                  refine g_bipush C d_Tw_joined_58 rfl ?_
                  refine g_iload_n C (q := 1) d_Tw_joined_60 rfl rfl ?_
                  refine g_imul C d_Tw_joined_61 ?_
                  refine g_iload_n C (q := 2) d_Tw_joined_62 rfl rfl ?_
                  refine g_iadd C d_Tw_joined_63 ?_
                  refine g_st (st' := [.int (iI ((a * 10) + b)), .ref (ad 5)]) (by rw [Int.mul_comm 10 a]) ?_
                  refine g_iload_n C (q := 3) d_Tw_joined_64 rfl rfl ?_
                  refine g_iast C 5 0 (mwa_5 _) rfl (by decide) (by omega) d_Tw_joined_65 (mws_5 _ _) ?_
                  refine g_ws (ws' := mw ad cI cZ (bu (bu x 0 (updI (x 0) 0 0)) 9 (updI (x 9) ((a * 10) + b) v))) rfl ?_
                  refine g_aload_n C (q := 0) d_Tw_joined_66 rfl rfl ?_
                  refine gG C (v := .ref (ad 5)) 0 6 u_Tw k_654 (mwo_0 _) rfl (by decide) rfl rfl d_Tw_joined_67 ?_
                  refine g_bipush C d_Tw_joined_70 rfl ?_
                  refine g_iload_n C (q := 2) d_Tw_joined_72 rfl rfl ?_
                  refine g_imul C d_Tw_joined_73 ?_
                  refine g_iload_n C (q := 1) d_Tw_joined_74 rfl rfl ?_
                  refine g_iadd C d_Tw_joined_75 ?_
                  refine g_st (st' := [.int (iI ((b * 10) + a)), .ref (ad 5)]) (by rw [Int.mul_comm 10 b]) ?_
                  refine g_iload_n C (q := 3) d_Tw_joined_76 rfl rfl ?_
                  refine g_iast C 5 0 (mwa_5 _) rfl (by decide) (by omega) d_Tw_joined_77 (mws_5 _ _) ?_
                  refine g_ws (ws' := mw ad cI cZ (bu (bu (bu x 0 (updI (x 0) 0 0)) 9 (updI (x 9) ((a * 10) + b) v)) 9 (updI (updI (x 9) ((a * 10) + b) v) ((b * 10) + a) v))) rfl ?_
                  refine g_aload_n C (q := 0) d_Tw_joined_78 rfl rfl ?_
                  refine g_iload_n C (q := 1) d_Tw_joined_79 rfl rfl ?_
                  refine g_iload_n C (q := 2) d_Tw_joined_80 rfl rfl ?_
                  refine gV C (st := []) (m_Tw_save (bu (bu (bu x 0 (updI (x 0) 0 0)) 9 (updI (x 9) ((a * 10) + b) v)) 9 (updI (updI (x 9) ((a * 10) + b) v) ((b * 10) + a) v)) a b (by omega) (by omega) (by show InR (updI (updI (x 9) (a * 10 + b) v) (b * 10 + a) v (a * 10 + b)); rw [updI_n (by omega), updI_s]; omega)) k_725 k_722 k_724 kp_46 k_7 rfl ho_Tw_save rfl rfl ⟨by decide, by decide⟩ 0 (mwo_0 _) rfl rfl rfl (Nat.le_of_ble_eq_true rfl) d_Tw_joined_81 ⟨by decide, by decide⟩ (fun r w hq => ?_)
                  obtain ⟨rfl, rfl⟩ := hq
                  refine g_eq (ws' := mw ad cI cZ (bu (bu (bu x 0 (updI (x 0) 0 0)) 9 (updI (x 9) ((a * 10) + b) v)) 9 (updI (updI (x 9) ((a * 10) + b) v) ((b * 10) + a) v))) (lv' := [(0, .ref (ad 0)), (1, .int (iI a)), (2, .int (iI b)), (3, .int (iI v))]) (pc' := 84) (st' := [.int (iI (sv (bu (bu (bu x 0 (updI (x 0) 0 0)) 9 (updI (x 9) ((a * 10) + b) v)) 9 (updI (updI (x 9) ((a * 10) + b) v) ((b * 10) + a) v)) a b))]) rfl rfl rfl rfl ?_
                  exact g_iret C hA hr d_Tw_joined_84 (by decide) (by decide) ⟨_, rfl, Or.inr (Or.inr (⟨rfl, (by omega), (by first | rfl | exact congrArg some (by omega)), (e0.b2 (e0.sc (e0.rf x) _) _ _ _)⟩))⟩
                · exfalso
                  omega
              · exfalso
                omega
            · refine g_st (st' := [.int (iI 0), .ref (ad 0)]) (by rw [b01_f hb31_7]) ?_
              refine g_if_ne C (tgt := 41) d_Tw_joined_34 rfl (by omega) (fun h34_10 => ?_) (fun h34_10 => ?_)
              · exfalso
                omega
              · refine g_iconst C d_Tw_joined_37 ?_
                refine g_goto C (tgt := 42) d_Tw_joined_38 rfl ?_
                refine gP C 0 0 t_Tw to_Tw n_Tw u_Tw k_648 (mwo_0 _) rfl (by decide) rfl rfl rfl rfl rfl (Nat.le_of_ble_eq_true rfl) d_Tw_joined_42 (mwf_0_0 _ _) ?_
                refine g_ws (ws' := mw ad cI cZ (bu x 0 (updI (x 0) 0 2))) rfl ?_
                refine g_aload_n C (q := 0) d_Tw_joined_45 rfl rfl ?_
                refine gG C (v := .int (iI 2)) 0 0 u_Tw k_648 (mwo_0 _) rfl (by decide) rfl rfl d_Tw_joined_46 ?_
                refine g_if_le C (tgt := 54) d_Tw_joined_49 rfl (by omega) (fun h49_11 => ?_) (fun h49_11 => ?_)
                · exfalso
                  omega
                · refine g_iconst C d_Tw_joined_52 ?_
                  exact g_iret C hA hr d_Tw_joined_53 (by decide) (by decide) ⟨_, rfl, Or.inr (Or.inl (⟨rfl, (by omega), (by first | rfl | exact congrArg some (by omega)), (e0.sc (e0.rf x) _)⟩))⟩
        · exfalso
          omega
      · refine g_st (st' := [.int (iI 0), .ref (ad 0)]) (by rw [b01_f hb11_3]) ?_
        refine g_if_ne C (tgt := 21) d_Tw_joined_14 rfl (by omega) (fun h14_12 => ?_) (fun h14_12 => ?_)
        · exfalso
          omega
        · refine g_iconst C d_Tw_joined_17 ?_
          refine g_goto C (tgt := 42) d_Tw_joined_18 rfl ?_
          refine gP C 0 0 t_Tw to_Tw n_Tw u_Tw k_648 (mwo_0 _) rfl (by decide) rfl rfl rfl rfl rfl (Nat.le_of_ble_eq_true rfl) d_Tw_joined_42 (mwf_0_0 _ _) ?_
          refine g_ws (ws' := mw ad cI cZ (bu x 0 (updI (x 0) 0 1))) rfl ?_
          refine g_aload_n C (q := 0) d_Tw_joined_45 rfl rfl ?_
          refine gG C (v := .int (iI 1)) 0 0 u_Tw k_648 (mwo_0 _) rfl (by decide) rfl rfl d_Tw_joined_46 ?_
          refine g_if_le C (tgt := 54) d_Tw_joined_49 rfl (by omega) (fun h49_13 => ?_) (fun h49_13 => ?_)
          · exfalso
            omega
          · refine g_iconst C d_Tw_joined_52 ?_
            exact g_iret C hA hr d_Tw_joined_53 (by decide) (by decide) ⟨_, rfl, Or.inl (⟨rfl, (by omega), (by first | rfl | exact congrArg some (by omega)), (e0.sc (e0.rf x) _)⟩)⟩
  · refine g_st (st' := [.int (iI 0), .ref (ad 0)]) (by rw [b01_f hb3_1]) ?_
    refine g_if_eq C (tgt := 17) d_Tw_joined_6 rfl (by omega) (fun h6_14 => ?_) (fun h6_14 => ?_)
    · refine g_iconst C d_Tw_joined_17 ?_
      refine g_goto C (tgt := 42) d_Tw_joined_18 rfl ?_
      refine gP C 0 0 t_Tw to_Tw n_Tw u_Tw k_648 (mwo_0 _) rfl (by decide) rfl rfl rfl rfl rfl (Nat.le_of_ble_eq_true rfl) d_Tw_joined_42 (mwf_0_0 _ _) ?_
      refine g_ws (ws' := mw ad cI cZ (bu x 0 (updI (x 0) 0 1))) rfl ?_
      refine g_aload_n C (q := 0) d_Tw_joined_45 rfl rfl ?_
      refine gG C (v := .int (iI 1)) 0 0 u_Tw k_648 (mwo_0 _) rfl (by decide) rfl rfl d_Tw_joined_46 ?_
      refine g_if_le C (tgt := 54) d_Tw_joined_49 rfl (by omega) (fun h49_15 => ?_) (fun h49_15 => ?_)
      · exfalso
        omega
      · refine g_iconst C d_Tw_joined_52 ?_
        exact g_iret C hA hr d_Tw_joined_53 (by decide) (by decide) ⟨_, rfl, Or.inl (⟨rfl, (by omega), (by first | rfl | exact congrArg some (by omega)), (e0.sc (e0.rf x) _)⟩)⟩
    · exfalso
      omega
set_option maxRecDepth 100000 in
set_option maxHeartbeats 4000000 in
theorem m_Tw_saving {l : Launch} {D : va_G} {cI cZ cJ : ClassId} {base : Nat} {ad : Nat → Nat} (x : Bk) (a b : Int) (ha : InR a) (hb : InR b) (hok : Ok x) : Cn l D cls9 (tyl cI cZ cJ) base (zz base) y_Tw_saving (wz y_Tw_saving c_Tw_saving 3 (some FieldType.int)) ({ frames := 2, cells := 0, slots := 0, locals := 43 } : Room) [.ref (ad 0), .int (iI a), .int (iI b)] (mw ad cI cZ x) (fun r w => ∃ z : Bk, w = mw ad cI cZ z ∧ ((z 0 0 = 1 ∧ (¬ ((0 ≤ a ∧ a < x 1 0) ∧ (0 ≤ b ∧ b < x 1 0))) ∧ r = some (0) ∧ e0 z x) ∨ (z 0 0 = 2 ∧ (((0 ≤ a ∧ a < x 1 0) ∧ (0 ≤ b ∧ b < x 1 0)) ∧ a = b) ∧ r = some (0) ∧ e0 z x) ∨ (z 0 0 = 0 ∧ (((0 ≤ a ∧ a < x 1 0) ∧ (0 ≤ b ∧ b < x 1 0)) ∧ ¬ a = b) ∧ r = some (sv x a b) ∧ e0 z x))) 0 0 := by
  refine Cn_of (zzG base) (by decide) rfl (Nat.le_of_ble_eq_true rfl) ?_
  intro p e s m args below meth c A C hr hA hnm
  have C : gC p s m args meth c D cls9 (tyl cI cZ cJ) A c_Tw_saving 3 "BatchSavingsModel" (wz y_Tw_saving c_Tw_saving 3 (some FieldType.int)) base (zz base) := C
  refine g_lve (lv' := [(0, .ref (ad 0)), (1, .int (iI a)), (2, .int (iI b))]) rfl ?_
  have hn := hok.n
  refine g_aload_n C (q := 0) d_Tw_saving_0 rfl rfl ?_
  refine g_aload_n C (q := 0) d_Tw_saving_1 rfl rfl ?_
  refine g_iload_n C (q := 1) d_Tw_saving_2 rfl rfl ?_
  refine gV C (st := [.ref (ad 0)]) (m_Tw_isOrder x a (by omega) (show 0 ≤ (x 1 0) ∧ (x 1 0) ≤ 10 by omega)) k_721 k_718 k_720 kp_45 k_7 rfl ho_Tw_isOrder rfl rfl ⟨by decide, by decide⟩ 0 (mwo_0 _) rfl rfl rfl (Nat.le_of_ble_eq_true rfl) d_Tw_saving_3 ⟨by decide, by decide⟩ (fun r w hq => ?_)
  obtain ⟨rfl, rfl⟩ := hq
  refine g_eq (ws' := mw ad cI cZ x) (lv' := [(0, .ref (ad 0)), (1, .int (iI a)), (2, .int (iI b))]) (pc' := 6) (st' := [.int (iI (b01 (0 ≤ a ∧ a < (x 1 0)))), .ref (ad 0)]) rfl rfl rfl rfl ?_
  by_cases hb3_1 : (0 ≤ a ∧ a < (x 1 0))
  · refine g_st (st' := [.int (iI 1), .ref (ad 0)]) (by rw [b01_t hb3_1]) ?_
    refine g_if_eq C (tgt := 17) d_Tw_saving_6 rfl (by omega) (fun h6_2 => ?_) (fun h6_2 => ?_)
    · exfalso
      omega
    · refine g_aload_n C (q := 0) d_Tw_saving_9 rfl rfl ?_
      refine g_iload_n C (q := 2) d_Tw_saving_10 rfl rfl ?_
      refine gV C (st := [.ref (ad 0)]) (m_Tw_isOrder x b (by omega) (show 0 ≤ (x 1 0) ∧ (x 1 0) ≤ 10 by omega)) k_721 k_718 k_720 kp_45 k_7 rfl ho_Tw_isOrder rfl rfl ⟨by decide, by decide⟩ 0 (mwo_0 _) rfl rfl rfl (Nat.le_of_ble_eq_true rfl) d_Tw_saving_11 ⟨by decide, by decide⟩ (fun r w hq => ?_)
      obtain ⟨rfl, rfl⟩ := hq
      refine g_eq (ws' := mw ad cI cZ x) (lv' := [(0, .ref (ad 0)), (1, .int (iI a)), (2, .int (iI b))]) (pc' := 14) (st' := [.int (iI (b01 (0 ≤ b ∧ b < (x 1 0)))), .ref (ad 0)]) rfl rfl rfl rfl ?_
      by_cases hb11_3 : (0 ≤ b ∧ b < (x 1 0))
      · refine g_st (st' := [.int (iI 1), .ref (ad 0)]) (by rw [b01_t hb11_3]) ?_
        refine g_if_ne C (tgt := 21) d_Tw_saving_14 rfl (by omega) (fun h14_4 => ?_) (fun h14_4 => ?_)
        · refine g_iload_n C (q := 1) d_Tw_saving_21 rfl rfl ?_
          refine g_iload_n C (q := 2) d_Tw_saving_22 rfl rfl ?_
          refine g_icmp_ne C (tgt := 30) d_Tw_saving_23 rfl (by omega) (by omega) (fun h23_5 => ?_) (fun h23_5 => ?_)
          · refine g_iconst C d_Tw_saving_30 ?_
            refine gP C 0 0 t_Tw to_Tw n_Tw u_Tw k_648 (mwo_0 _) rfl (by decide) rfl rfl rfl rfl rfl (Nat.le_of_ble_eq_true rfl) d_Tw_saving_31 (mwf_0_0 _ _) ?_
            refine g_ws (ws' := mw ad cI cZ (bu x 0 (updI (x 0) 0 0))) rfl ?_
            refine g_aload_n C (q := 0) d_Tw_saving_34 rfl rfl ?_
            refine gG C (v := .int (iI 0)) 0 0 u_Tw k_648 (mwo_0 _) rfl (by decide) rfl rfl d_Tw_saving_35 ?_
            refine g_if_le C (tgt := 45) d_Tw_saving_38 rfl (by omega) (fun h38_6 => ?_) (fun h38_6 => ?_)
            · refine g_aload_n C (q := 0) d_Tw_saving_45 rfl rfl ?_
              refine g_iload_n C (q := 1) d_Tw_saving_46 rfl rfl ?_
              refine g_iload_n C (q := 2) d_Tw_saving_47 rfl rfl ?_
              have h9 := hok.r9 (a * 10 + b) (by omega) (by omega)
              refine gV C (st := []) (m_Tw_save (bu x 0 (updI (x 0) 0 0)) a b (by omega) (by omega) (show InR (x 9 (a * 10 + b)) by omega)) k_725 k_722 k_724 kp_46 k_7 rfl ho_Tw_save rfl rfl ⟨by decide, by decide⟩ 0 (mwo_0 _) rfl rfl rfl (Nat.le_of_ble_eq_true rfl) d_Tw_saving_48 ⟨by decide, by decide⟩ (fun r w hq => ?_)
              obtain ⟨rfl, rfl⟩ := hq
              refine g_eq (ws' := mw ad cI cZ (bu x 0 (updI (x 0) 0 0))) (lv' := [(0, .ref (ad 0)), (1, .int (iI a)), (2, .int (iI b))]) (pc' := 51) (st' := [.int (iI (sv x a b))]) rfl rfl rfl rfl ?_
              exact g_iret C hA hr d_Tw_saving_51 (by decide) (by decide) ⟨_, rfl, Or.inr (Or.inr (⟨rfl, (by omega), (by first | rfl | exact congrArg some (by omega)), (e0.sc (e0.rf x) _)⟩))⟩
            · exfalso
              omega
          · refine g_iconst C d_Tw_saving_26 ?_
            refine g_goto C (tgt := 31) d_Tw_saving_27 rfl ?_
            refine gP C 0 0 t_Tw to_Tw n_Tw u_Tw k_648 (mwo_0 _) rfl (by decide) rfl rfl rfl rfl rfl (Nat.le_of_ble_eq_true rfl) d_Tw_saving_31 (mwf_0_0 _ _) ?_
            refine g_ws (ws' := mw ad cI cZ (bu x 0 (updI (x 0) 0 2))) rfl ?_
            refine g_aload_n C (q := 0) d_Tw_saving_34 rfl rfl ?_
            refine gG C (v := .int (iI 2)) 0 0 u_Tw k_648 (mwo_0 _) rfl (by decide) rfl rfl d_Tw_saving_35 ?_
            refine g_if_le C (tgt := 45) d_Tw_saving_38 rfl (by omega) (fun h38_7 => ?_) (fun h38_7 => ?_)
            · exfalso
              omega
            · refine g_iconst C d_Tw_saving_41 ?_
              refine g_goto C (tgt := 51) d_Tw_saving_42 rfl ?_
              exact g_iret C hA hr d_Tw_saving_51 (by decide) (by decide) ⟨_, rfl, Or.inr (Or.inl (⟨rfl, (by omega), (by first | rfl | exact congrArg some (by omega)), (e0.sc (e0.rf x) _)⟩))⟩
        · exfalso
          omega
      · refine g_st (st' := [.int (iI 0), .ref (ad 0)]) (by rw [b01_f hb11_3]) ?_
        refine g_if_ne C (tgt := 21) d_Tw_saving_14 rfl (by omega) (fun h14_8 => ?_) (fun h14_8 => ?_)
        · exfalso
          omega
        · refine g_iconst C d_Tw_saving_17 ?_
          refine g_goto C (tgt := 31) d_Tw_saving_18 rfl ?_
          refine gP C 0 0 t_Tw to_Tw n_Tw u_Tw k_648 (mwo_0 _) rfl (by decide) rfl rfl rfl rfl rfl (Nat.le_of_ble_eq_true rfl) d_Tw_saving_31 (mwf_0_0 _ _) ?_
          refine g_ws (ws' := mw ad cI cZ (bu x 0 (updI (x 0) 0 1))) rfl ?_
          refine g_aload_n C (q := 0) d_Tw_saving_34 rfl rfl ?_
          refine gG C (v := .int (iI 1)) 0 0 u_Tw k_648 (mwo_0 _) rfl (by decide) rfl rfl d_Tw_saving_35 ?_
          refine g_if_le C (tgt := 45) d_Tw_saving_38 rfl (by omega) (fun h38_9 => ?_) (fun h38_9 => ?_)
          · exfalso
            omega
          · refine g_iconst C d_Tw_saving_41 ?_
            refine g_goto C (tgt := 51) d_Tw_saving_42 rfl ?_
            exact g_iret C hA hr d_Tw_saving_51 (by decide) (by decide) ⟨_, rfl, Or.inl (⟨rfl, (by omega), (by first | rfl | exact congrArg some (by omega)), (e0.sc (e0.rf x) _)⟩)⟩
  · refine g_st (st' := [.int (iI 0), .ref (ad 0)]) (by rw [b01_f hb3_1]) ?_
    refine g_if_eq C (tgt := 17) d_Tw_saving_6 rfl (by omega) (fun h6_10 => ?_) (fun h6_10 => ?_)
    · refine g_iconst C d_Tw_saving_17 ?_
      refine g_goto C (tgt := 31) d_Tw_saving_18 rfl ?_
      refine gP C 0 0 t_Tw to_Tw n_Tw u_Tw k_648 (mwo_0 _) rfl (by decide) rfl rfl rfl rfl rfl (Nat.le_of_ble_eq_true rfl) d_Tw_saving_31 (mwf_0_0 _ _) ?_
      refine g_ws (ws' := mw ad cI cZ (bu x 0 (updI (x 0) 0 1))) rfl ?_
      refine g_aload_n C (q := 0) d_Tw_saving_34 rfl rfl ?_
      refine gG C (v := .int (iI 1)) 0 0 u_Tw k_648 (mwo_0 _) rfl (by decide) rfl rfl d_Tw_saving_35 ?_
      refine g_if_le C (tgt := 45) d_Tw_saving_38 rfl (by omega) (fun h38_11 => ?_) (fun h38_11 => ?_)
      · exfalso
        omega
      · refine g_iconst C d_Tw_saving_41 ?_
        refine g_goto C (tgt := 51) d_Tw_saving_42 rfl ?_
        exact g_iret C hA hr d_Tw_saving_51 (by decide) (by decide) ⟨_, rfl, Or.inl (⟨rfl, (by omega), (by first | rfl | exact congrArg some (by omega)), (e0.sc (e0.rf x) _)⟩)⟩
    · exfalso
      omega
set_option maxRecDepth 100000 in
set_option maxHeartbeats 4000000 in
theorem m_Tw_rule {l : Launch} {D : va_G} {cI cZ cJ : ClassId} {base : Nat} {ad : Nat → Nat} (x : Bk) (a b v : Int) (ha : InR a) (hb : InR b) (hv : v = 0 ∨ v = 1) (hok : Ok x) (hs : sym x) : Cn l D cls9 (tyl cI cZ cJ) base (zz base) y_Tw_rule (wz y_Tw_rule c_Tw_rule 4 (some FieldType.boolean)) ({ frames := 2, cells := 0, slots := 0, locals := 47 } : Room) [.ref (ad 0), .int (iI a), .int (iI b), .int (iI v)] (mw ad cI cZ x) (fun r w => ∃ z : Bk, w = mw ad cI cZ z ∧ ((z 0 0 = 1 ∧ (¬ ((0 ≤ a ∧ a < x 1 0) ∧ (0 ≤ b ∧ b < x 1 0))) ∧ r = some (0) ∧ e0 z x) ∨ (z 0 0 = 2 ∧ (((0 ≤ a ∧ a < x 1 0) ∧ (0 ≤ b ∧ b < x 1 0)) ∧ a = b) ∧ r = some (0) ∧ e0 z x) ∨ (z 0 0 = 0 ∧ (((0 ≤ a ∧ a < x 1 0) ∧ (0 ≤ b ∧ b < x 1 0)) ∧ ¬ a = b) ∧ r = some (c01 (okP (rulX x a b v) a b)) ∧ e0 z (rulX x a b v)))) 0 0 := by
  refine Cn_of (zzG base) (by decide) rfl (Nat.le_of_ble_eq_true rfl) ?_
  intro p e s m args below meth c A C hr hA hnm
  have C : gC p s m args meth c D cls9 (tyl cI cZ cJ) A c_Tw_rule 4 "BatchSavingsModel" (wz y_Tw_rule c_Tw_rule 4 (some FieldType.boolean)) base (zz base) := C
  refine g_lve (lv' := [(0, .ref (ad 0)), (1, .int (iI a)), (2, .int (iI b)), (3, .int (iI v))]) rfl ?_
  have hn := hok.n
  refine g_aload_n C (q := 0) d_Tw_rule_0 rfl rfl ?_
  refine g_aload_n C (q := 0) d_Tw_rule_1 rfl rfl ?_
  refine g_iload_n C (q := 1) d_Tw_rule_2 rfl rfl ?_
  refine gV C (st := [.ref (ad 0)]) (m_Tw_isOrder x a (by omega) (show 0 ≤ (x 1 0) ∧ (x 1 0) ≤ 10 by omega)) k_721 k_718 k_720 kp_45 k_7 rfl ho_Tw_isOrder rfl rfl ⟨by decide, by decide⟩ 0 (mwo_0 _) rfl rfl rfl (Nat.le_of_ble_eq_true rfl) d_Tw_rule_3 ⟨by decide, by decide⟩ (fun r w hq => ?_)
  obtain ⟨rfl, rfl⟩ := hq
  refine g_eq (ws' := mw ad cI cZ x) (lv' := [(0, .ref (ad 0)), (1, .int (iI a)), (2, .int (iI b)), (3, .int (iI v))]) (pc' := 6) (st' := [.int (iI (b01 (0 ≤ a ∧ a < (x 1 0)))), .ref (ad 0)]) rfl rfl rfl rfl ?_
  by_cases hb3_1 : (0 ≤ a ∧ a < (x 1 0))
  · refine g_st (st' := [.int (iI 1), .ref (ad 0)]) (by rw [b01_t hb3_1]) ?_
    refine g_if_eq C (tgt := 17) d_Tw_rule_6 rfl (by omega) (fun h6_2 => ?_) (fun h6_2 => ?_)
    · exfalso
      omega
    · refine g_aload_n C (q := 0) d_Tw_rule_9 rfl rfl ?_
      refine g_iload_n C (q := 2) d_Tw_rule_10 rfl rfl ?_
      refine gV C (st := [.ref (ad 0)]) (m_Tw_isOrder x b (by omega) (show 0 ≤ (x 1 0) ∧ (x 1 0) ≤ 10 by omega)) k_721 k_718 k_720 kp_45 k_7 rfl ho_Tw_isOrder rfl rfl ⟨by decide, by decide⟩ 0 (mwo_0 _) rfl rfl rfl (Nat.le_of_ble_eq_true rfl) d_Tw_rule_11 ⟨by decide, by decide⟩ (fun r w hq => ?_)
      obtain ⟨rfl, rfl⟩ := hq
      refine g_eq (ws' := mw ad cI cZ x) (lv' := [(0, .ref (ad 0)), (1, .int (iI a)), (2, .int (iI b)), (3, .int (iI v))]) (pc' := 14) (st' := [.int (iI (b01 (0 ≤ b ∧ b < (x 1 0)))), .ref (ad 0)]) rfl rfl rfl rfl ?_
      by_cases hb11_3 : (0 ≤ b ∧ b < (x 1 0))
      · refine g_st (st' := [.int (iI 1), .ref (ad 0)]) (by rw [b01_t hb11_3]) ?_
        refine g_if_ne C (tgt := 21) d_Tw_rule_14 rfl (by omega) (fun h14_4 => ?_) (fun h14_4 => ?_)
        · refine g_iload_n C (q := 1) d_Tw_rule_21 rfl rfl ?_
          refine g_iload_n C (q := 2) d_Tw_rule_22 rfl rfl ?_
          refine g_icmp_ne C (tgt := 30) d_Tw_rule_23 rfl (by omega) (by omega) (fun h23_5 => ?_) (fun h23_5 => ?_)
          · refine g_iconst C d_Tw_rule_30 ?_
            refine gP C 0 0 t_Tw to_Tw n_Tw u_Tw k_648 (mwo_0 _) rfl (by decide) rfl rfl rfl rfl rfl (Nat.le_of_ble_eq_true rfl) d_Tw_rule_31 (mwf_0_0 _ _) ?_
            refine g_ws (ws' := mw ad cI cZ (bu x 0 (updI (x 0) 0 0))) rfl ?_
            refine g_aload_n C (q := 0) d_Tw_rule_34 rfl rfl ?_
            refine gG C (v := .int (iI 0)) 0 0 u_Tw k_648 (mwo_0 _) rfl (by decide) rfl rfl d_Tw_rule_35 ?_
            refine g_if_le C (tgt := 43) d_Tw_rule_38 rfl (by omega) (fun h38_6 => ?_) (fun h38_6 => ?_)
            · refine g_aload_n C (q := 0) d_Tw_rule_43 rfl rfl ?_
              refine gG C (v := .ref (ad 6)) 0 7 u_Tw k_655 (mwo_0 _) rfl (by decide) rfl rfl d_Tw_rule_44 ?_
              refine g_bipush C d_Tw_rule_47 rfl ?_
              refine g_iload_n C (q := 1) d_Tw_rule_49 rfl rfl ?_
              refine g_imul C d_Tw_rule_50 ?_
              refine g_iload_n C (q := 2) d_Tw_rule_51 rfl rfl ?_
              refine g_iadd C d_Tw_rule_52 ?_
              refine g_st (st' := [.int (iI ((a * 10) + b)), .ref (ad 6)]) (by rw [Int.mul_comm 10 a]) ?_
              refine g_iload_n C (q := 3) d_Tw_rule_53 rfl rfl ?_
              refine g_zast C 6 1 (mwa_6 _) rfl (by decide) (by omega) (by omega) d_Tw_rule_54 (mws_6 _ _) ?_
              refine g_ws (ws' := mw ad cI cZ (bu (bu x 0 (updI (x 0) 0 0)) 10 (updI (x 10) ((a * 10) + b) v))) rfl ?_
              refine g_aload_n C (q := 0) d_Tw_rule_55 rfl rfl ?_
              refine gG C (v := .ref (ad 6)) 0 7 u_Tw k_655 (mwo_0 _) rfl (by decide) rfl rfl d_Tw_rule_56 ?_
              refine g_bipush C d_Tw_rule_59 rfl ?_
              refine g_iload_n C (q := 2) d_Tw_rule_61 rfl rfl ?_
              refine g_imul C d_Tw_rule_62 ?_
              refine g_iload_n C (q := 1) d_Tw_rule_63 rfl rfl ?_
              refine g_iadd C d_Tw_rule_64 ?_
              refine g_st (st' := [.int (iI ((b * 10) + a)), .ref (ad 6)]) (by rw [Int.mul_comm 10 b]) ?_
              refine g_iload_n C (q := 3) d_Tw_rule_65 rfl rfl ?_
              refine g_zast C 6 1 (mwa_6 _) rfl (by decide) (by omega) (by omega) d_Tw_rule_66 (mws_6 _ _) ?_
              refine g_ws (ws' := mw ad cI cZ (bu (bu (bu x 0 (updI (x 0) 0 0)) 10 (updI (x 10) ((a * 10) + b) v)) 10 (updI (updI (x 10) ((a * 10) + b) v) ((b * 10) + a) v))) rfl ?_
              refine g_aload_n C (q := 0) d_Tw_rule_67 rfl rfl ?_
              refine g_iload_n C (q := 1) d_Tw_rule_68 rfl rfl ?_
              refine g_iload_n C (q := 2) d_Tw_rule_69 rfl rfl ?_
              refine gV C (st := []) (m_Tw_mayPair (bu (bu (bu x 0 (updI (x 0) 0 0)) 10 (updI (x 10) ((a * 10) + b) v)) 10 (updI (updI (x 10) ((a * 10) + b) v) ((b * 10) + a) v)) a b (show 0 ≤ a ∧ a < x 1 0 by omega) (show 0 ≤ b ∧ b < x 1 0 by omega) (by omega) ((hs.rulX (by omega) (by omega)).e0 (show e0 _ (rulX x a b v) from e0.b2 (e0.sc (e0.rf x) _) _ _ _)) ((hok.rulX hv).e0 (show e0 _ (rulX x a b v) from e0.b2 (e0.sc (e0.rf x) _) _ _ _))) k_737 k_734 k_736 kp_47 k_7 rfl ho_Tw_mayPair rfl rfl ⟨by decide, by decide⟩ 0 (mwo_0 _) rfl rfl rfl (Nat.le_of_ble_eq_true rfl) d_Tw_rule_70 ⟨by decide, by decide⟩ (fun r w hq => ?_)
              obtain ⟨rfl, rfl⟩ := hq
              refine g_eq (ws' := mw ad cI cZ (bu (bu (bu x 0 (updI (x 0) 0 0)) 10 (updI (x 10) ((a * 10) + b) v)) 10 (updI (updI (x 10) ((a * 10) + b) v) ((b * 10) + a) v))) (lv' := [(0, .ref (ad 0)), (1, .int (iI a)), (2, .int (iI b)), (3, .int (iI v))]) (pc' := 73) (st' := [.int (iI (c01 (okP (bu (bu (bu x 0 (updI (x 0) 0 0)) 10 (updI (x 10) ((a * 10) + b) v)) 10 (updI (updI (x 10) ((a * 10) + b) v) ((b * 10) + a) v)) a b)))]) rfl rfl rfl rfl ?_
              exact g_zret C hA hr d_Tw_rule_73 (by decide) (by decide) (c01_b _) ⟨_, rfl, Or.inr (Or.inr (⟨rfl, (by omega), (by first | rfl | exact congrArg some (by omega)), (show e0 _ (rulX x a b v) from e0.b2 (e0.sc (e0.rf x) _) _ _ _)⟩))⟩
            · exfalso
              omega
          · refine g_iconst C d_Tw_rule_26 ?_
            refine g_goto C (tgt := 31) d_Tw_rule_27 rfl ?_
            refine gP C 0 0 t_Tw to_Tw n_Tw u_Tw k_648 (mwo_0 _) rfl (by decide) rfl rfl rfl rfl rfl (Nat.le_of_ble_eq_true rfl) d_Tw_rule_31 (mwf_0_0 _ _) ?_
            refine g_ws (ws' := mw ad cI cZ (bu x 0 (updI (x 0) 0 2))) rfl ?_
            refine g_aload_n C (q := 0) d_Tw_rule_34 rfl rfl ?_
            refine gG C (v := .int (iI 2)) 0 0 u_Tw k_648 (mwo_0 _) rfl (by decide) rfl rfl d_Tw_rule_35 ?_
            refine g_if_le C (tgt := 43) d_Tw_rule_38 rfl (by omega) (fun h38_7 => ?_) (fun h38_7 => ?_)
            · exfalso
              omega
            · refine g_iconst C d_Tw_rule_41 ?_
              exact g_zret C hA hr d_Tw_rule_42 (by decide) (by decide) (by omega) ⟨_, rfl, Or.inr (Or.inl (⟨rfl, (by omega), (by first | rfl | exact congrArg some (by omega)), (e0.sc (e0.rf x) _)⟩))⟩
        · exfalso
          omega
      · refine g_st (st' := [.int (iI 0), .ref (ad 0)]) (by rw [b01_f hb11_3]) ?_
        refine g_if_ne C (tgt := 21) d_Tw_rule_14 rfl (by omega) (fun h14_8 => ?_) (fun h14_8 => ?_)
        · exfalso
          omega
        · refine g_iconst C d_Tw_rule_17 ?_
          refine g_goto C (tgt := 31) d_Tw_rule_18 rfl ?_
          refine gP C 0 0 t_Tw to_Tw n_Tw u_Tw k_648 (mwo_0 _) rfl (by decide) rfl rfl rfl rfl rfl (Nat.le_of_ble_eq_true rfl) d_Tw_rule_31 (mwf_0_0 _ _) ?_
          refine g_ws (ws' := mw ad cI cZ (bu x 0 (updI (x 0) 0 1))) rfl ?_
          refine g_aload_n C (q := 0) d_Tw_rule_34 rfl rfl ?_
          refine gG C (v := .int (iI 1)) 0 0 u_Tw k_648 (mwo_0 _) rfl (by decide) rfl rfl d_Tw_rule_35 ?_
          refine g_if_le C (tgt := 43) d_Tw_rule_38 rfl (by omega) (fun h38_9 => ?_) (fun h38_9 => ?_)
          · exfalso
            omega
          · refine g_iconst C d_Tw_rule_41 ?_
            exact g_zret C hA hr d_Tw_rule_42 (by decide) (by decide) (by omega) ⟨_, rfl, Or.inl (⟨rfl, (by omega), (by first | rfl | exact congrArg some (by omega)), (e0.sc (e0.rf x) _)⟩)⟩
  · refine g_st (st' := [.int (iI 0), .ref (ad 0)]) (by rw [b01_f hb3_1]) ?_
    refine g_if_eq C (tgt := 17) d_Tw_rule_6 rfl (by omega) (fun h6_10 => ?_) (fun h6_10 => ?_)
    · refine g_iconst C d_Tw_rule_17 ?_
      refine g_goto C (tgt := 31) d_Tw_rule_18 rfl ?_
      refine gP C 0 0 t_Tw to_Tw n_Tw u_Tw k_648 (mwo_0 _) rfl (by decide) rfl rfl rfl rfl rfl (Nat.le_of_ble_eq_true rfl) d_Tw_rule_31 (mwf_0_0 _ _) ?_
      refine g_ws (ws' := mw ad cI cZ (bu x 0 (updI (x 0) 0 1))) rfl ?_
      refine g_aload_n C (q := 0) d_Tw_rule_34 rfl rfl ?_
      refine gG C (v := .int (iI 1)) 0 0 u_Tw k_648 (mwo_0 _) rfl (by decide) rfl rfl d_Tw_rule_35 ?_
      refine g_if_le C (tgt := 43) d_Tw_rule_38 rfl (by omega) (fun h38_11 => ?_) (fun h38_11 => ?_)
      · exfalso
        omega
      · refine g_iconst C d_Tw_rule_41 ?_
        exact g_zret C hA hr d_Tw_rule_42 (by decide) (by decide) (by omega) ⟨_, rfl, Or.inl (⟨rfl, (by omega), (by first | rfl | exact congrArg some (by omega)), (e0.sc (e0.rf x) _)⟩)⟩
    · exfalso
      omega
set_option maxRecDepth 100000 in
set_option maxHeartbeats 4000000 in
theorem m_Tw_weight {l : Launch} {D : va_G} {cI cZ cJ : ClassId} {base : Nat} {ad : Nat → Nat} (x : Bk) (a v : Int) (ha : InR a) (hv : InR v) (hok : Ok x) : Cn l D cls9 (tyl cI cZ cJ) base (zz base) y_Tw_weight (wz y_Tw_weight c_Tw_weight 3 (some FieldType.boolean)) ({ frames := 2, cells := 0, slots := 0, locals := 43 } : Room) [.ref (ad 0), .int (iI a), .int (iI v)] (mw ad cI cZ x) (fun r w => ∃ z : Bk, w = mw ad cI cZ z ∧ ((z 0 0 = 1 ∧ (¬ (0 ≤ a ∧ a < x 1 0)) ∧ r = some (0) ∧ e0 z x) ∨ (z 0 0 = 2 ∧ ((0 ≤ a ∧ a < x 1 0) ∧ ¬ (0 ≤ v ∧ v ≤ 1000)) ∧ r = some (0) ∧ e0 z x) ∨ (z 0 0 = 3 ∧ (((0 ≤ a ∧ a < x 1 0) ∧ (0 ≤ v ∧ v ≤ 1000)) ∧ ¬ x 15 a = -1) ∧ r = some (0) ∧ e0 z x) ∨ (z 0 0 = 0 ∧ (((0 ≤ a ∧ a < x 1 0) ∧ (0 ≤ v ∧ v ≤ 1000) ∧ x 15 a = -1) ∧ x 2 1 < v) ∧ r = some (0) ∧ e0 z x) ∨ (z 0 0 = 0 ∧ (((0 ≤ a ∧ a < x 1 0) ∧ (0 ≤ v ∧ v ≤ 1000) ∧ x 15 a = -1) ∧ v ≤ x 2 1) ∧ r = some (1) ∧ e0 z (bu x 8 (updI (x 8) a v))))) 0 0 := by
  refine Cn_of (zzG base) (by decide) rfl (Nat.le_of_ble_eq_true rfl) ?_
  intro p e s m args below meth c A C hr hA hnm
  have C : gC p s m args meth c D cls9 (tyl cI cZ cJ) A c_Tw_weight 3 "BatchSavingsModel" (wz y_Tw_weight c_Tw_weight 3 (some FieldType.boolean)) base (zz base) := C
  refine g_lve (lv' := [(0, .ref (ad 0)), (1, .int (iI a)), (2, .int (iI v))]) rfl ?_
  have hn := hok.n
  have hw := hok.w
  refine g_aload_n C (q := 0) d_Tw_weight_0 rfl rfl ?_
  refine g_aload_n C (q := 0) d_Tw_weight_1 rfl rfl ?_
  refine g_iload_n C (q := 1) d_Tw_weight_2 rfl rfl ?_
  refine gV C (st := [.ref (ad 0)]) (m_Tw_isOrder x a (by omega) (show 0 ≤ (x 1 0) ∧ (x 1 0) ≤ 10 by omega)) k_721 k_718 k_720 kp_45 k_7 rfl ho_Tw_isOrder rfl rfl ⟨by decide, by decide⟩ 0 (mwo_0 _) rfl rfl rfl (Nat.le_of_ble_eq_true rfl) d_Tw_weight_3 ⟨by decide, by decide⟩ (fun r w hq => ?_)
  obtain ⟨rfl, rfl⟩ := hq
  refine g_eq (ws' := mw ad cI cZ x) (lv' := [(0, .ref (ad 0)), (1, .int (iI a)), (2, .int (iI v))]) (pc' := 6) (st' := [.int (iI (b01 (0 ≤ a ∧ a < (x 1 0)))), .ref (ad 0)]) rfl rfl rfl rfl ?_
  by_cases hb3_1 : (0 ≤ a ∧ a < (x 1 0))
  · refine g_st (st' := [.int (iI 1), .ref (ad 0)]) (by rw [b01_t hb3_1]) ?_
    refine g_if_ne C (tgt := 13) d_Tw_weight_6 rfl (by omega) (fun h6_2 => ?_) (fun h6_2 => ?_)
    · refine g_iload_n C (q := 2) d_Tw_weight_13 rfl rfl ?_
      refine g_iconst C d_Tw_weight_14 ?_
      refine g_sipush C d_Tw_weight_15 rfl ?_
      refine gS0 C (st := [.ref (ad 0)]) (m_Tw_in v 0 1000 (by omega) (by omega) (by omega)) k_713 k_711 k_712 k_7 rfl ho_Tw_in rfl rfl ⟨by decide, by decide⟩ rfl rfl (Nat.le_of_ble_eq_true rfl) d_Tw_weight_18 ⟨by decide, by decide⟩ (fun r w hq => ?_)
      obtain ⟨rfl, rfl⟩ := hq
      refine g_eq (ws' := mw ad cI cZ x) (lv' := [(0, .ref (ad 0)), (1, .int (iI a)), (2, .int (iI v))]) (pc' := 21) (st' := [.int (iI (b01 (0 ≤ v ∧ v ≤ 1000))), .ref (ad 0)]) rfl rfl rfl rfl ?_
      by_cases hb18_3 : (0 ≤ v ∧ v ≤ 1000)
      · refine g_st (st' := [.int (iI 1), .ref (ad 0)]) (by rw [b01_t hb18_3]) ?_
        refine g_if_ne C (tgt := 28) d_Tw_weight_21 rfl (by omega) (fun h21_4 => ?_) (fun h21_4 => ?_)
        · refine g_iconst C d_Tw_weight_28 ?_
          refine gP C 0 0 t_Tw to_Tw n_Tw u_Tw k_648 (mwo_0 _) rfl (by decide) rfl rfl rfl rfl rfl (Nat.le_of_ble_eq_true rfl) d_Tw_weight_29 (mwf_0_0 _ _) ?_
          refine g_ws (ws' := mw ad cI cZ (bu x 0 (updI (x 0) 0 0))) rfl ?_
          refine g_aload_n C (q := 0) d_Tw_weight_32 rfl rfl ?_
          refine gG C (v := .int (iI 0)) 0 0 u_Tw k_648 (mwo_0 _) rfl (by decide) rfl rfl d_Tw_weight_33 ?_
          refine g_if_ne C (tgt := 56) d_Tw_weight_36 rfl (by omega) (fun h36_5 => ?_) (fun h36_5 => ?_)
          · exfalso
            omega
          · refine g_aload_n C (q := 0) d_Tw_weight_39 rfl rfl ?_
            refine g_aload_n C (q := 0) d_Tw_weight_40 rfl rfl ?_
            refine g_iload_n C (q := 1) d_Tw_weight_41 rfl rfl ?_
            have h15 := hok.r15 a (by omega) (by omega)
            refine gV C (st := [.ref (ad 0)]) (m_Tw_isFree (bu x 0 (updI (x 0) 0 0)) a (by omega) (show InR (x 15 a) by omega)) k_749 k_746 k_748 kp_49 k_7 rfl ho_Tw_isFree rfl rfl ⟨by decide, by decide⟩ 0 (mwo_0 _) rfl rfl rfl (Nat.le_of_ble_eq_true rfl) d_Tw_weight_42 ⟨by decide, by decide⟩ (fun r w hq => ?_)
            obtain ⟨rfl, rfl⟩ := hq
            refine g_eq (ws' := mw ad cI cZ (bu x 0 (updI (x 0) 0 0))) (lv' := [(0, .ref (ad 0)), (1, .int (iI a)), (2, .int (iI v))]) (pc' := 45) (st' := [.int (iI (b01 ((x 15 a) = -1))), .ref (ad 0)]) rfl rfl rfl rfl ?_
            by_cases hb42_6 : ((x 15 a) = -1)
            · refine g_st (st' := [.int (iI 1), .ref (ad 0)]) (by rw [b01_t hb42_6]) ?_
              refine g_if_ne C (tgt := 52) d_Tw_weight_45 rfl (by omega) (fun h45_7 => ?_) (fun h45_7 => ?_)
              · refine g_iconst C d_Tw_weight_52 ?_
                refine gP C 0 0 t_Tw to_Tw n_Tw u_Tw k_648 (mwo_0 _) rfl (by decide) rfl rfl rfl rfl rfl (Nat.le_of_ble_eq_true rfl) d_Tw_weight_53 (mwf_0_0 _ _) ?_
                refine g_ws (ws' := mw ad cI cZ (bu (bu x 0 (updI (x 0) 0 0)) 0 (updI (updI (x 0) 0 0) 0 0))) rfl ?_
                refine g_aload_n C (q := 0) d_Tw_weight_56 rfl rfl ?_
                refine gG C (v := .int (iI 0)) 0 0 u_Tw k_648 (mwo_0 _) rfl (by decide) rfl rfl d_Tw_weight_57 ?_
                refine g_if_gt C (tgt := 71) d_Tw_weight_60 rfl (by omega) (fun h60_8 => ?_) (fun h60_8 => ?_)
                · exfalso
                  omega
                · refine g_iload_n C (q := 2) d_Tw_weight_63 rfl rfl ?_
                  refine g_aload_n C (q := 0) d_Tw_weight_64 rfl rfl ?_
                  refine gG C (v := .int (iI (x 2 1))) 0 9 u_Tw k_657 (mwo_0 _) rfl (by decide) rfl rfl d_Tw_weight_65 ?_
                  refine g_icmp_le C (tgt := 73) d_Tw_weight_68 rfl (by omega) (by omega) (fun h68_9 => ?_) (fun h68_9 => ?_)
                  · refine g_aload_n C (q := 0) d_Tw_weight_73 rfl rfl ?_
                    refine gG C (v := .ref (ad 4)) 0 5 u_Tw k_653 (mwo_0 _) rfl (by decide) rfl rfl d_Tw_weight_74 ?_
                    refine g_iload_n C (q := 1) d_Tw_weight_77 rfl rfl ?_
                    refine g_iload_n C (q := 2) d_Tw_weight_78 rfl rfl ?_
                    refine g_iast C 4 0 (mwa_4 _) rfl (by decide) (by omega) d_Tw_weight_79 (mws_4 _ _) ?_
                    refine g_ws (ws' := mw ad cI cZ (bu (bu (bu x 0 (updI (x 0) 0 0)) 0 (updI (updI (x 0) 0 0) 0 0)) 8 (updI (x 8) a v))) rfl ?_
                    refine g_iconst C d_Tw_weight_80 ?_
                    exact g_zret C hA hr d_Tw_weight_81 (by decide) (by decide) (by omega) ⟨_, rfl, Or.inr (Or.inr (Or.inr (Or.inr (⟨rfl, (by omega), (by first | rfl | exact congrArg some (by omega)), (e0.bu (e0.sc (e0.sc (e0.rf x) _) _) _ _)⟩))))⟩
                  · refine g_iconst C d_Tw_weight_71 ?_
                    exact g_zret C hA hr d_Tw_weight_72 (by decide) (by decide) (by omega) ⟨_, rfl, Or.inr (Or.inr (Or.inr (Or.inl (⟨rfl, (by omega), (by first | rfl | exact congrArg some (by omega)), (e0.sc (e0.sc (e0.rf x) _) _)⟩))))⟩
              · exfalso
                omega
            · refine g_st (st' := [.int (iI 0), .ref (ad 0)]) (by rw [b01_f hb42_6]) ?_
              refine g_if_ne C (tgt := 52) d_Tw_weight_45 rfl (by omega) (fun h45_10 => ?_) (fun h45_10 => ?_)
              · exfalso
                omega
              · refine g_iconst C d_Tw_weight_48 ?_
                refine g_goto C (tgt := 53) d_Tw_weight_49 rfl ?_
                refine gP C 0 0 t_Tw to_Tw n_Tw u_Tw k_648 (mwo_0 _) rfl (by decide) rfl rfl rfl rfl rfl (Nat.le_of_ble_eq_true rfl) d_Tw_weight_53 (mwf_0_0 _ _) ?_
                refine g_ws (ws' := mw ad cI cZ (bu (bu x 0 (updI (x 0) 0 0)) 0 (updI (updI (x 0) 0 0) 0 3))) rfl ?_
                refine g_aload_n C (q := 0) d_Tw_weight_56 rfl rfl ?_
                refine gG C (v := .int (iI 3)) 0 0 u_Tw k_648 (mwo_0 _) rfl (by decide) rfl rfl d_Tw_weight_57 ?_
                refine g_if_gt C (tgt := 71) d_Tw_weight_60 rfl (by omega) (fun h60_11 => ?_) (fun h60_11 => ?_)
                · refine g_iconst C d_Tw_weight_71 ?_
                  exact g_zret C hA hr d_Tw_weight_72 (by decide) (by decide) (by omega) ⟨_, rfl, Or.inr (Or.inr (Or.inl (⟨rfl, (by omega), (by first | rfl | exact congrArg some (by omega)), (e0.sc (e0.sc (e0.rf x) _) _)⟩)))⟩
                · exfalso
                  omega
        · exfalso
          omega
      · refine g_st (st' := [.int (iI 0), .ref (ad 0)]) (by rw [b01_f hb18_3]) ?_
        refine g_if_ne C (tgt := 28) d_Tw_weight_21 rfl (by omega) (fun h21_12 => ?_) (fun h21_12 => ?_)
        · exfalso
          omega
        · refine g_iconst C d_Tw_weight_24 ?_
          refine g_goto C (tgt := 29) d_Tw_weight_25 rfl ?_
          refine gP C 0 0 t_Tw to_Tw n_Tw u_Tw k_648 (mwo_0 _) rfl (by decide) rfl rfl rfl rfl rfl (Nat.le_of_ble_eq_true rfl) d_Tw_weight_29 (mwf_0_0 _ _) ?_
          refine g_ws (ws' := mw ad cI cZ (bu x 0 (updI (x 0) 0 2))) rfl ?_
          refine g_aload_n C (q := 0) d_Tw_weight_32 rfl rfl ?_
          refine gG C (v := .int (iI 2)) 0 0 u_Tw k_648 (mwo_0 _) rfl (by decide) rfl rfl d_Tw_weight_33 ?_
          refine g_if_ne C (tgt := 56) d_Tw_weight_36 rfl (by omega) (fun h36_13 => ?_) (fun h36_13 => ?_)
          · refine g_aload_n C (q := 0) d_Tw_weight_56 rfl rfl ?_
            refine gG C (v := .int (iI 2)) 0 0 u_Tw k_648 (mwo_0 _) rfl (by decide) rfl rfl d_Tw_weight_57 ?_
            refine g_if_gt C (tgt := 71) d_Tw_weight_60 rfl (by omega) (fun h60_14 => ?_) (fun h60_14 => ?_)
            · refine g_iconst C d_Tw_weight_71 ?_
              exact g_zret C hA hr d_Tw_weight_72 (by decide) (by decide) (by omega) ⟨_, rfl, Or.inr (Or.inl (⟨rfl, (by omega), (by first | rfl | exact congrArg some (by omega)), (e0.sc (e0.rf x) _)⟩))⟩
            · exfalso
              omega
          · exfalso
            omega
    · exfalso
      omega
  · refine g_st (st' := [.int (iI 0), .ref (ad 0)]) (by rw [b01_f hb3_1]) ?_
    refine g_if_ne C (tgt := 13) d_Tw_weight_6 rfl (by omega) (fun h6_15 => ?_) (fun h6_15 => ?_)
    · exfalso
      omega
    · refine g_iconst C d_Tw_weight_9 ?_
      refine g_goto C (tgt := 29) d_Tw_weight_10 rfl ?_
      refine gP C 0 0 t_Tw to_Tw n_Tw u_Tw k_648 (mwo_0 _) rfl (by decide) rfl rfl rfl rfl rfl (Nat.le_of_ble_eq_true rfl) d_Tw_weight_29 (mwf_0_0 _ _) ?_
      refine g_ws (ws' := mw ad cI cZ (bu x 0 (updI (x 0) 0 1))) rfl ?_
      refine g_aload_n C (q := 0) d_Tw_weight_32 rfl rfl ?_
      refine gG C (v := .int (iI 1)) 0 0 u_Tw k_648 (mwo_0 _) rfl (by decide) rfl rfl d_Tw_weight_33 ?_
      refine g_if_ne C (tgt := 56) d_Tw_weight_36 rfl (by omega) (fun h36_16 => ?_) (fun h36_16 => ?_)
      · refine g_aload_n C (q := 0) d_Tw_weight_56 rfl rfl ?_
        refine gG C (v := .int (iI 1)) 0 0 u_Tw k_648 (mwo_0 _) rfl (by decide) rfl rfl d_Tw_weight_57 ?_
        refine g_if_gt C (tgt := 71) d_Tw_weight_60 rfl (by omega) (fun h60_17 => ?_) (fun h60_17 => ?_)
        · refine g_iconst C d_Tw_weight_71 ?_
          exact g_zret C hA hr d_Tw_weight_72 (by decide) (by decide) (by omega) ⟨_, rfl, Or.inl (⟨rfl, (by omega), (by first | rfl | exact congrArg some (by omega)), (e0.sc (e0.rf x) _)⟩)⟩
        · exfalso
          omega
      · exfalso
        omega
set_option maxRecDepth 100000 in
set_option maxHeartbeats 4000000 in
theorem m_Tw_near {l : Launch} {D : va_G} {cI cZ cJ : ClassId} {base : Nat} {ad : Nat → Nat} (x : Bk) (a b v : Int) (ha : InR a) (hb : InR b) (hv : v = 0 ∨ v = 1) (hok : Ok x) : Cn l D cls9 (tyl cI cZ cJ) base (zz base) y_Tw_near (wz y_Tw_near c_Tw_near 4 none) ({ frames := 1, cells := 0, slots := 0, locals := 22 } : Room) [.ref (ad 0), .int (iI a), .int (iI b), .int (iI v)] (mw ad cI cZ x) (fun r w => ∃ z : Bk, w = mw ad cI cZ z ∧ ((z 0 0 = 1 ∧ (¬ ((0 ≤ a ∧ a ≤ 3) ∧ (0 ≤ b ∧ b ≤ 3) ∧ ¬ a = b)) ∧ r = none ∧ e0 z x) ∨ (z 0 0 = 0 ∧ (((0 ≤ a ∧ a ≤ 3) ∧ (0 ≤ b ∧ b ≤ 3) ∧ ¬ a = b)) ∧ r = none ∧ e0 z (bu x 11 (updI (updI (x 11) (a * 4 + b) v) (b * 4 + a) v))))) 0 0 := by
  refine Cn_of (zzG base) (by decide) rfl (Nat.le_of_ble_eq_true rfl) ?_
  intro p e s m args below meth c A C hr hA hnm
  have C : gC p s m args meth c D cls9 (tyl cI cZ cJ) A c_Tw_near 4 "BatchSavingsModel" (wz y_Tw_near c_Tw_near 4 none) base (zz base) := C
  refine g_lve (lv' := [(0, .ref (ad 0)), (1, .int (iI a)), (2, .int (iI b)), (3, .int (iI v))]) rfl ?_
  refine g_aload_n C (q := 0) d_Tw_near_0 rfl rfl ?_
  refine g_iload_n C (q := 1) d_Tw_near_1 rfl rfl ?_
  refine g_iconst C d_Tw_near_2 ?_
  refine g_iconst C d_Tw_near_3 ?_
  refine gS0 C (st := [.ref (ad 0)]) (m_Tw_in a 0 3 (by omega) (by omega) (by omega)) k_713 k_711 k_712 k_7 rfl ho_Tw_in rfl rfl ⟨by decide, by decide⟩ rfl rfl (Nat.le_of_ble_eq_true rfl) d_Tw_near_4 ⟨by decide, by decide⟩ (fun r w hq => ?_)
  obtain ⟨rfl, rfl⟩ := hq
  refine g_eq (ws' := mw ad cI cZ x) (lv' := [(0, .ref (ad 0)), (1, .int (iI a)), (2, .int (iI b)), (3, .int (iI v))]) (pc' := 7) (st' := [.int (iI (b01 (0 ≤ a ∧ a ≤ 3))), .ref (ad 0)]) rfl rfl rfl rfl ?_
  by_cases hb4_1 : (0 ≤ a ∧ a ≤ 3)
  · refine g_st (st' := [.int (iI 1), .ref (ad 0)]) (by rw [b01_t hb4_1]) ?_
    refine g_if_eq C (tgt := 24) d_Tw_near_7 rfl (by omega) (fun h7_2 => ?_) (fun h7_2 => ?_)
    · exfalso
      omega
    · refine g_iload_n C (q := 2) d_Tw_near_10 rfl rfl ?_
      refine g_iconst C d_Tw_near_11 ?_
      refine g_iconst C d_Tw_near_12 ?_
      refine gS0 C (st := [.ref (ad 0)]) (m_Tw_in b 0 3 (by omega) (by omega) (by omega)) k_713 k_711 k_712 k_7 rfl ho_Tw_in rfl rfl ⟨by decide, by decide⟩ rfl rfl (Nat.le_of_ble_eq_true rfl) d_Tw_near_13 ⟨by decide, by decide⟩ (fun r w hq => ?_)
      obtain ⟨rfl, rfl⟩ := hq
      refine g_eq (ws' := mw ad cI cZ x) (lv' := [(0, .ref (ad 0)), (1, .int (iI a)), (2, .int (iI b)), (3, .int (iI v))]) (pc' := 16) (st' := [.int (iI (b01 (0 ≤ b ∧ b ≤ 3))), .ref (ad 0)]) rfl rfl rfl rfl ?_
      by_cases hb13_3 : (0 ≤ b ∧ b ≤ 3)
      · refine g_st (st' := [.int (iI 1), .ref (ad 0)]) (by rw [b01_t hb13_3]) ?_
        refine g_if_eq C (tgt := 24) d_Tw_near_16 rfl (by omega) (fun h16_4 => ?_) (fun h16_4 => ?_)
        · exfalso
          omega
        · refine g_iload_n C (q := 1) d_Tw_near_19 rfl rfl ?_
          refine g_iload_n C (q := 2) d_Tw_near_20 rfl rfl ?_
          refine g_icmp_ne C (tgt := 28) d_Tw_near_21 rfl (by omega) (by omega) (fun h21_5 => ?_) (fun h21_5 => ?_)
          · refine g_iconst C d_Tw_near_28 ?_
            refine gP C 0 0 t_Tw to_Tw n_Tw u_Tw k_648 (mwo_0 _) rfl (by decide) rfl rfl rfl rfl rfl (Nat.le_of_ble_eq_true rfl) d_Tw_near_29 (mwf_0_0 _ _) ?_
            refine g_ws (ws' := mw ad cI cZ (bu x 0 (updI (x 0) 0 0))) rfl ?_
            refine g_aload_n C (q := 0) d_Tw_near_32 rfl rfl ?_
            refine gG C (v := .int (iI 0)) 0 0 u_Tw k_648 (mwo_0 _) rfl (by decide) rfl rfl d_Tw_near_33 ?_
            refine g_if_le C (tgt := 40) d_Tw_near_36 rfl (by omega) (fun h36_6 => ?_) (fun h36_6 => ?_)
            · refine g_aload_n C (q := 0) d_Tw_near_40 rfl rfl ?_
              refine gG C (v := .ref (ad 7)) 0 8 u_Tw k_656 (mwo_0 _) rfl (by decide) rfl rfl d_Tw_near_41 ?_
              refine g_iconst C d_Tw_near_44 ?_
              refine g_iload_n C (q := 1) d_Tw_near_45 rfl rfl ?_
              refine g_imul C d_Tw_near_46 ?_
              refine g_iload_n C (q := 2) d_Tw_near_47 rfl rfl ?_
              refine g_iadd C d_Tw_near_48 ?_
              refine g_st (st' := [.int (iI ((a * 4) + b)), .ref (ad 7)]) (by rw [Int.mul_comm 4 a]) ?_
              refine g_iload_n C (q := 3) d_Tw_near_49 rfl rfl ?_
              refine g_zast C 7 1 (mwa_7 _) rfl (by decide) (by omega) (by omega) d_Tw_near_50 (mws_7 _ _) ?_
              refine g_ws (ws' := mw ad cI cZ (bu (bu x 0 (updI (x 0) 0 0)) 11 (updI (x 11) ((a * 4) + b) v))) rfl ?_
              refine g_aload_n C (q := 0) d_Tw_near_51 rfl rfl ?_
              refine gG C (v := .ref (ad 7)) 0 8 u_Tw k_656 (mwo_0 _) rfl (by decide) rfl rfl d_Tw_near_52 ?_
              refine g_iconst C d_Tw_near_55 ?_
              refine g_iload_n C (q := 2) d_Tw_near_56 rfl rfl ?_
              refine g_imul C d_Tw_near_57 ?_
              refine g_iload_n C (q := 1) d_Tw_near_58 rfl rfl ?_
              refine g_iadd C d_Tw_near_59 ?_
              refine g_st (st' := [.int (iI ((b * 4) + a)), .ref (ad 7)]) (by rw [Int.mul_comm 4 b]) ?_
              refine g_iload_n C (q := 3) d_Tw_near_60 rfl rfl ?_
              refine g_zast C 7 1 (mwa_7 _) rfl (by decide) (by omega) (by omega) d_Tw_near_61 (mws_7 _ _) ?_
              refine g_ws (ws' := mw ad cI cZ (bu (bu (bu x 0 (updI (x 0) 0 0)) 11 (updI (x 11) ((a * 4) + b) v)) 11 (updI (updI (x 11) ((a * 4) + b) v) ((b * 4) + a) v))) rfl ?_
              exact g_vret C hA hr d_Tw_near_62 (by decide) (by decide) ⟨_, rfl, Or.inr (⟨rfl, (by omega), (by first | rfl | exact congrArg some (by omega)), (e0.b2 (e0.sc (e0.rf x) _) _ _ _)⟩)⟩
            · exfalso
              omega
          · refine g_iconst C d_Tw_near_24 ?_
            refine g_goto C (tgt := 29) d_Tw_near_25 rfl ?_
            refine gP C 0 0 t_Tw to_Tw n_Tw u_Tw k_648 (mwo_0 _) rfl (by decide) rfl rfl rfl rfl rfl (Nat.le_of_ble_eq_true rfl) d_Tw_near_29 (mwf_0_0 _ _) ?_
            refine g_ws (ws' := mw ad cI cZ (bu x 0 (updI (x 0) 0 1))) rfl ?_
            refine g_aload_n C (q := 0) d_Tw_near_32 rfl rfl ?_
            refine gG C (v := .int (iI 1)) 0 0 u_Tw k_648 (mwo_0 _) rfl (by decide) rfl rfl d_Tw_near_33 ?_
            refine g_if_le C (tgt := 40) d_Tw_near_36 rfl (by omega) (fun h36_7 => ?_) (fun h36_7 => ?_)
            · exfalso
              omega
            · exact g_vret C hA hr d_Tw_near_39 (by decide) (by decide) ⟨_, rfl, Or.inl (⟨rfl, (by omega), (by first | rfl | exact congrArg some (by omega)), (e0.sc (e0.rf x) _)⟩)⟩
      · refine g_st (st' := [.int (iI 0), .ref (ad 0)]) (by rw [b01_f hb13_3]) ?_
        refine g_if_eq C (tgt := 24) d_Tw_near_16 rfl (by omega) (fun h16_8 => ?_) (fun h16_8 => ?_)
        · refine g_iconst C d_Tw_near_24 ?_
          refine g_goto C (tgt := 29) d_Tw_near_25 rfl ?_
          refine gP C 0 0 t_Tw to_Tw n_Tw u_Tw k_648 (mwo_0 _) rfl (by decide) rfl rfl rfl rfl rfl (Nat.le_of_ble_eq_true rfl) d_Tw_near_29 (mwf_0_0 _ _) ?_
          refine g_ws (ws' := mw ad cI cZ (bu x 0 (updI (x 0) 0 1))) rfl ?_
          refine g_aload_n C (q := 0) d_Tw_near_32 rfl rfl ?_
          refine gG C (v := .int (iI 1)) 0 0 u_Tw k_648 (mwo_0 _) rfl (by decide) rfl rfl d_Tw_near_33 ?_
          refine g_if_le C (tgt := 40) d_Tw_near_36 rfl (by omega) (fun h36_9 => ?_) (fun h36_9 => ?_)
          · exfalso
            omega
          · exact g_vret C hA hr d_Tw_near_39 (by decide) (by decide) ⟨_, rfl, Or.inl (⟨rfl, (by omega), (by first | rfl | exact congrArg some (by omega)), (e0.sc (e0.rf x) _)⟩)⟩
        · exfalso
          omega
  · refine g_st (st' := [.int (iI 0), .ref (ad 0)]) (by rw [b01_f hb4_1]) ?_
    refine g_if_eq C (tgt := 24) d_Tw_near_7 rfl (by omega) (fun h7_10 => ?_) (fun h7_10 => ?_)
    · refine g_iconst C d_Tw_near_24 ?_
      refine g_goto C (tgt := 29) d_Tw_near_25 rfl ?_
      refine gP C 0 0 t_Tw to_Tw n_Tw u_Tw k_648 (mwo_0 _) rfl (by decide) rfl rfl rfl rfl rfl (Nat.le_of_ble_eq_true rfl) d_Tw_near_29 (mwf_0_0 _ _) ?_
      refine g_ws (ws' := mw ad cI cZ (bu x 0 (updI (x 0) 0 1))) rfl ?_
      refine g_aload_n C (q := 0) d_Tw_near_32 rfl rfl ?_
      refine gG C (v := .int (iI 1)) 0 0 u_Tw k_648 (mwo_0 _) rfl (by decide) rfl rfl d_Tw_near_33 ?_
      refine g_if_le C (tgt := 40) d_Tw_near_36 rfl (by omega) (fun h36_11 => ?_) (fun h36_11 => ?_)
      · exfalso
        omega
      · exact g_vret C hA hr d_Tw_near_39 (by decide) (by decide) ⟨_, rfl, Or.inl (⟨rfl, (by omega), (by first | rfl | exact congrArg some (by omega)), (e0.sc (e0.rf x) _)⟩)⟩
    · exfalso
      omega
set_option maxRecDepth 100000 in
set_option maxHeartbeats 4000000 in
theorem m_Tw_exact {l : Launch} {D : va_G} {cI cZ cJ : ClassId} {base : Nat} {ad : Nat → Nat} (x : Bk) (hok : Ok x) : Cn l D cls9 (tyl cI cZ cJ) base (zz base) y_Tw_exact (wz y_Tw_exact c_Tw_exact 1 (some FieldType.boolean)) ({ frames := 0, cells := 0, slots := 0, locals := 0 } : Room) [.ref (ad 0)] (mw ad cI cZ x) (fun r w => ∃ z : Bk, w = mw ad cI cZ z ∧ ((z 0 0 = 0 ∧ (True) ∧ r = some (x 4 0) ∧ e0 z x))) 0 0 := by
  refine Cn_of (zzG base) (by decide) rfl (Nat.le_of_ble_eq_true rfl) ?_
  intro p e s m args below meth c A C hr hA hnm
  have C : gC p s m args meth c D cls9 (tyl cI cZ cJ) A c_Tw_exact 1 "BatchSavingsModel" (wz y_Tw_exact c_Tw_exact 1 (some FieldType.boolean)) base (zz base) := C
  refine g_lve (lv' := [(0, .ref (ad 0))]) rfl ?_
  refine g_aload_n C (q := 0) d_Tw_exact_0 rfl rfl ?_
  refine g_iconst C d_Tw_exact_1 ?_
  refine gP C 0 0 t_Tw to_Tw n_Tw u_Tw k_648 (mwo_0 _) rfl (by decide) rfl rfl rfl rfl rfl (Nat.le_of_ble_eq_true rfl) d_Tw_exact_2 (mwf_0_0 _ _) ?_
  refine g_ws (ws' := mw ad cI cZ (bu x 0 (updI (x 0) 0 0))) rfl ?_
  refine g_aload_n C (q := 0) d_Tw_exact_5 rfl rfl ?_
  refine gG C (v := .int (iI (x 4 0))) 0 12 u_Tw k_660 (mwo_0 _) rfl (by decide) rfl rfl d_Tw_exact_6 ?_
  exact g_zret C hA hr d_Tw_exact_9 (by decide) (by decide) hok.e ⟨_, rfl, ⟨rfl, (trivial), (by first | rfl | exact congrArg some (by omega)), (e0.sc (e0.rf x) _)⟩⟩
set_option maxRecDepth 100000 in
set_option maxHeartbeats 4000000 in
theorem m_Tw_with {l : Launch} {D : va_G} {cI cZ cJ : ClassId} {base : Nat} {ad : Nat → Nat} (x : Bk) (a : Int) (ha : InR a) (hok : Ok x) : Cn l D cls9 (tyl cI cZ cJ) base (zz base) y_Tw_with (wz y_Tw_with c_Tw_with 2 (some FieldType.int)) ({ frames := 2, cells := 0, slots := 0, locals := 43 } : Room) [.ref (ad 0), .int (iI a)] (mw ad cI cZ x) (fun r w => ∃ z : Bk, w = mw ad cI cZ z ∧ ((z 0 0 = 1 ∧ (¬ (0 ≤ a ∧ a < x 1 0)) ∧ r = some (0) ∧ e0 z x) ∨ (z 0 0 = 0 ∧ ((0 ≤ a ∧ a < x 1 0)) ∧ r = some (x 16 a) ∧ e0 z x))) 0 0 := by
  refine Cn_of (zzG base) (by decide) rfl (Nat.le_of_ble_eq_true rfl) ?_
  intro p e s m args below meth c A C hr hA hnm
  have C : gC p s m args meth c D cls9 (tyl cI cZ cJ) A c_Tw_with 2 "BatchSavingsModel" (wz y_Tw_with c_Tw_with 2 (some FieldType.int)) base (zz base) := C
  refine g_lve (lv' := [(0, .ref (ad 0)), (1, .int (iI a))]) rfl ?_
  have hn := hok.n
  refine g_aload_n C (q := 0) d_Tw_with_0 rfl rfl ?_
  refine g_aload_n C (q := 0) d_Tw_with_1 rfl rfl ?_
  refine g_iload_n C (q := 1) d_Tw_with_2 rfl rfl ?_
  refine gV C (st := [.ref (ad 0)]) (m_Tw_isOrder x a (by omega) (show 0 ≤ (x 1 0) ∧ (x 1 0) ≤ 10 by omega)) k_721 k_718 k_720 kp_45 k_7 rfl ho_Tw_isOrder rfl rfl ⟨by decide, by decide⟩ 0 (mwo_0 _) rfl rfl rfl (Nat.le_of_ble_eq_true rfl) d_Tw_with_3 ⟨by decide, by decide⟩ (fun r w hq => ?_)
  obtain ⟨rfl, rfl⟩ := hq
  refine g_eq (ws' := mw ad cI cZ x) (lv' := [(0, .ref (ad 0)), (1, .int (iI a))]) (pc' := 6) (st' := [.int (iI (b01 (0 ≤ a ∧ a < (x 1 0)))), .ref (ad 0)]) rfl rfl rfl rfl ?_
  by_cases hb3_1 : (0 ≤ a ∧ a < (x 1 0))
  · refine g_st (st' := [.int (iI 1), .ref (ad 0)]) (by rw [b01_t hb3_1]) ?_
    refine g_if_eq C (tgt := 13) d_Tw_with_6 rfl (by omega) (fun h6_2 => ?_) (fun h6_2 => ?_)
    · exfalso
      omega
    · refine g_iconst C d_Tw_with_9 ?_
      refine g_goto C (tgt := 14) d_Tw_with_10 rfl ?_
      refine gP C 0 0 t_Tw to_Tw n_Tw u_Tw k_648 (mwo_0 _) rfl (by decide) rfl rfl rfl rfl rfl (Nat.le_of_ble_eq_true rfl) d_Tw_with_14 (mwf_0_0 _ _) ?_
      refine g_ws (ws' := mw ad cI cZ (bu x 0 (updI (x 0) 0 0))) rfl ?_
      refine g_aload_n C (q := 0) d_Tw_with_17 rfl rfl ?_
      refine gG C (v := .int (iI 0)) 0 0 u_Tw k_648 (mwo_0 _) rfl (by decide) rfl rfl d_Tw_with_18 ?_
      refine g_if_le C (tgt := 28) d_Tw_with_21 rfl (by omega) (fun h21_3 => ?_) (fun h21_3 => ?_)
      · refine g_aload_n C (q := 0) d_Tw_with_28 rfl rfl ?_
        refine gG C (v := .ref (ad 8)) 0 11 u_Tw k_659 (mwo_0 _) rfl (by decide) rfl rfl d_Tw_with_29 ?_
        refine g_iload_n C (q := 1) d_Tw_with_32 rfl rfl ?_
        refine g_iald C 8 0 (mwa_8 _) rfl (by decide) (by omega) d_Tw_with_33 ?_
        refine g_st (st' := [.int (iI (x 16 a))]) rfl ?_
        exact g_iret C hA hr d_Tw_with_34 (by decide) (by decide) ⟨_, rfl, Or.inr (⟨rfl, (by omega), (by first | rfl | exact congrArg some (by omega)), (e0.sc (e0.rf x) _)⟩)⟩
      · exfalso
        omega
  · refine g_st (st' := [.int (iI 0), .ref (ad 0)]) (by rw [b01_f hb3_1]) ?_
    refine g_if_eq C (tgt := 13) d_Tw_with_6 rfl (by omega) (fun h6_4 => ?_) (fun h6_4 => ?_)
    · refine g_iconst C d_Tw_with_13 ?_
      refine gP C 0 0 t_Tw to_Tw n_Tw u_Tw k_648 (mwo_0 _) rfl (by decide) rfl rfl rfl rfl rfl (Nat.le_of_ble_eq_true rfl) d_Tw_with_14 (mwf_0_0 _ _) ?_
      refine g_ws (ws' := mw ad cI cZ (bu x 0 (updI (x 0) 0 1))) rfl ?_
      refine g_aload_n C (q := 0) d_Tw_with_17 rfl rfl ?_
      refine gG C (v := .int (iI 1)) 0 0 u_Tw k_648 (mwo_0 _) rfl (by decide) rfl rfl d_Tw_with_18 ?_
      refine g_if_le C (tgt := 28) d_Tw_with_21 rfl (by omega) (fun h21_5 => ?_) (fun h21_5 => ?_)
      · exfalso
        omega
      · refine g_iconst C d_Tw_with_24 ?_
        refine g_goto C (tgt := 34) d_Tw_with_25 rfl ?_
        exact g_iret C hA hr d_Tw_with_34 (by decide) (by decide) ⟨_, rfl, Or.inl (⟨rfl, (by omega), (by first | rfl | exact congrArg some (by omega)), (e0.sc (e0.rf x) _)⟩)⟩
    · exfalso
      omega
set_option maxRecDepth 100000 in
set_option maxHeartbeats 4000000 in
theorem m_Tw_batch {l : Launch} {D : va_G} {cI cZ cJ : ClassId} {base : Nat} {ad : Nat → Nat} (x : Bk) (a : Int) (ha : InR a) (hok : Ok x) : Cn l D cls9 (tyl cI cZ cJ) base (zz base) y_Tw_batch (wz y_Tw_batch c_Tw_batch 2 (some FieldType.int)) ({ frames := 2, cells := 0, slots := 0, locals := 43 } : Room) [.ref (ad 0), .int (iI a)] (mw ad cI cZ x) (fun r w => ∃ z : Bk, w = mw ad cI cZ z ∧ ((z 0 0 = 1 ∧ (¬ (0 ≤ a ∧ a < x 1 0)) ∧ r = some (0) ∧ e0 z x) ∨ (z 0 0 = 0 ∧ ((0 ≤ a ∧ a < x 1 0)) ∧ r = some (x 15 a) ∧ e0 z x))) 0 0 := by
  refine Cn_of (zzG base) (by decide) rfl (Nat.le_of_ble_eq_true rfl) ?_
  intro p e s m args below meth c A C hr hA hnm
  have C : gC p s m args meth c D cls9 (tyl cI cZ cJ) A c_Tw_batch 2 "BatchSavingsModel" (wz y_Tw_batch c_Tw_batch 2 (some FieldType.int)) base (zz base) := C
  refine g_lve (lv' := [(0, .ref (ad 0)), (1, .int (iI a))]) rfl ?_
  have hn := hok.n
  refine g_aload_n C (q := 0) d_Tw_batch_0 rfl rfl ?_
  refine g_aload_n C (q := 0) d_Tw_batch_1 rfl rfl ?_
  refine g_iload_n C (q := 1) d_Tw_batch_2 rfl rfl ?_
  refine gV C (st := [.ref (ad 0)]) (m_Tw_isOrder x a (by omega) (show 0 ≤ (x 1 0) ∧ (x 1 0) ≤ 10 by omega)) k_721 k_718 k_720 kp_45 k_7 rfl ho_Tw_isOrder rfl rfl ⟨by decide, by decide⟩ 0 (mwo_0 _) rfl rfl rfl (Nat.le_of_ble_eq_true rfl) d_Tw_batch_3 ⟨by decide, by decide⟩ (fun r w hq => ?_)
  obtain ⟨rfl, rfl⟩ := hq
  refine g_eq (ws' := mw ad cI cZ x) (lv' := [(0, .ref (ad 0)), (1, .int (iI a))]) (pc' := 6) (st' := [.int (iI (b01 (0 ≤ a ∧ a < (x 1 0)))), .ref (ad 0)]) rfl rfl rfl rfl ?_
  by_cases hb3_1 : (0 ≤ a ∧ a < (x 1 0))
  · refine g_st (st' := [.int (iI 1), .ref (ad 0)]) (by rw [b01_t hb3_1]) ?_
    refine g_if_eq C (tgt := 13) d_Tw_batch_6 rfl (by omega) (fun h6_2 => ?_) (fun h6_2 => ?_)
    · exfalso
      omega
    · refine g_iconst C d_Tw_batch_9 ?_
      refine g_goto C (tgt := 14) d_Tw_batch_10 rfl ?_
      refine gP C 0 0 t_Tw to_Tw n_Tw u_Tw k_648 (mwo_0 _) rfl (by decide) rfl rfl rfl rfl rfl (Nat.le_of_ble_eq_true rfl) d_Tw_batch_14 (mwf_0_0 _ _) ?_
      refine g_ws (ws' := mw ad cI cZ (bu x 0 (updI (x 0) 0 0))) rfl ?_
      refine g_aload_n C (q := 0) d_Tw_batch_17 rfl rfl ?_
      refine gG C (v := .int (iI 0)) 0 0 u_Tw k_648 (mwo_0 _) rfl (by decide) rfl rfl d_Tw_batch_18 ?_
      refine g_if_le C (tgt := 28) d_Tw_batch_21 rfl (by omega) (fun h21_3 => ?_) (fun h21_3 => ?_)
      · refine g_aload_n C (q := 0) d_Tw_batch_28 rfl rfl ?_
        refine gG C (v := .ref (ad 11)) 0 16 u_Tw k_664 (mwo_0 _) rfl (by decide) rfl rfl d_Tw_batch_29 ?_
        refine g_iload_n C (q := 1) d_Tw_batch_32 rfl rfl ?_
        refine g_iald C 11 0 (mwa_11 _) rfl (by decide) (by omega) d_Tw_batch_33 ?_
        refine g_st (st' := [.int (iI (x 15 a))]) rfl ?_
        exact g_iret C hA hr d_Tw_batch_34 (by decide) (by decide) ⟨_, rfl, Or.inr (⟨rfl, (by omega), (by first | rfl | exact congrArg some (by omega)), (e0.sc (e0.rf x) _)⟩)⟩
      · exfalso
        omega
  · refine g_st (st' := [.int (iI 0), .ref (ad 0)]) (by rw [b01_f hb3_1]) ?_
    refine g_if_eq C (tgt := 13) d_Tw_batch_6 rfl (by omega) (fun h6_4 => ?_) (fun h6_4 => ?_)
    · refine g_iconst C d_Tw_batch_13 ?_
      refine gP C 0 0 t_Tw to_Tw n_Tw u_Tw k_648 (mwo_0 _) rfl (by decide) rfl rfl rfl rfl rfl (Nat.le_of_ble_eq_true rfl) d_Tw_batch_14 (mwf_0_0 _ _) ?_
      refine g_ws (ws' := mw ad cI cZ (bu x 0 (updI (x 0) 0 1))) rfl ?_
      refine g_aload_n C (q := 0) d_Tw_batch_17 rfl rfl ?_
      refine gG C (v := .int (iI 1)) 0 0 u_Tw k_648 (mwo_0 _) rfl (by decide) rfl rfl d_Tw_batch_18 ?_
      refine g_if_le C (tgt := 28) d_Tw_batch_21 rfl (by omega) (fun h21_5 => ?_) (fun h21_5 => ?_)
      · exfalso
        omega
      · refine g_iconst C d_Tw_batch_24 ?_
        refine g_goto C (tgt := 34) d_Tw_batch_25 rfl ?_
        exact g_iret C hA hr d_Tw_batch_34 (by decide) (by decide) ⟨_, rfl, Or.inl (⟨rfl, (by omega), (by first | rfl | exact congrArg some (by omega)), (e0.sc (e0.rf x) _)⟩)⟩
    · exfalso
      omega
set_option maxRecDepth 100000 in
set_option maxHeartbeats 4000000 in
theorem m_Tw_share {l : Launch} {D : va_G} {cI cZ cJ : ClassId} {base : Nat} {ad : Nat → Nat} (x : Bk) (a b : Int) (ha : InR a) (hb : InR b) (hok : Ok x) : Cn l D cls9 (tyl cI cZ cJ) base (zz base) y_Tw_share (wz y_Tw_share c_Tw_share 3 (some FieldType.int)) ({ frames := 1, cells := 0, slots := 0, locals := 22 } : Room) [.ref (ad 0), .int (iI a), .int (iI b)] (mw ad cI cZ x) (fun r w => ∃ z : Bk, w = mw ad cI cZ z ∧ ((z 0 0 = 1 ∧ (¬ ((0 ≤ a ∧ a ≤ 1000000) ∧ 0 ≤ b)) ∧ r = some (0) ∧ e0 z x) ∨ (z 0 0 = 2 ∧ (((0 ≤ a ∧ a ≤ 1000000) ∧ 0 ≤ b) ∧ b = 0) ∧ r = some (0) ∧ e0 z x) ∨ (z 0 0 = 0 ∧ (((0 ≤ a ∧ a ≤ 1000000) ∧ 0 ≤ b) ∧ ¬ b = 0) ∧ r = some ((100 * a).tdiv b) ∧ e0 z x))) 0 0 := by
  refine Cn_of (zzG base) (by decide) rfl (Nat.le_of_ble_eq_true rfl) ?_
  intro p e s m args below meth c A C hr hA hnm
  have C : gC p s m args meth c D cls9 (tyl cI cZ cJ) A c_Tw_share 3 "BatchSavingsModel" (wz y_Tw_share c_Tw_share 3 (some FieldType.int)) base (zz base) := C
  refine g_lve (lv' := [(0, .ref (ad 0)), (1, .int (iI a)), (2, .int (iI b))]) rfl ?_
  refine g_aload_n C (q := 0) d_Tw_share_0 rfl rfl ?_
  refine g_iload_n C (q := 1) d_Tw_share_1 rfl rfl ?_
  refine g_iconst C d_Tw_share_2 ?_
  refine g_ldc C (n := 1000000) d_Tw_share_3 (C.1.2.2.2.2 _ (gws_in k_857)) ?_
  refine gS0 C (st := [.ref (ad 0)]) (m_Tw_in a 0 1000000 (by omega) (by omega) (by omega)) k_713 k_711 k_712 k_7 rfl ho_Tw_in rfl rfl ⟨by decide, by decide⟩ rfl rfl (Nat.le_of_ble_eq_true rfl) d_Tw_share_5 ⟨by decide, by decide⟩ (fun r w hq => ?_)
  obtain ⟨rfl, rfl⟩ := hq
  refine g_eq (ws' := mw ad cI cZ x) (lv' := [(0, .ref (ad 0)), (1, .int (iI a)), (2, .int (iI b))]) (pc' := 8) (st' := [.int (iI (b01 (0 ≤ a ∧ a ≤ 1000000))), .ref (ad 0)]) rfl rfl rfl rfl ?_
  by_cases hb5_1 : (0 ≤ a ∧ a ≤ 1000000)
  · refine g_st (st' := [.int (iI 1), .ref (ad 0)]) (by rw [b01_t hb5_1]) ?_
    refine g_if_eq C (tgt := 15) d_Tw_share_8 rfl (by omega) (fun h8_2 => ?_) (fun h8_2 => ?_)
    · exfalso
      omega
    · refine g_iload_n C (q := 2) d_Tw_share_11 rfl rfl ?_
      refine g_if_ge C (tgt := 19) d_Tw_share_12 rfl (by omega) (fun h12_3 => ?_) (fun h12_3 => ?_)
      · refine g_iload_n C (q := 2) d_Tw_share_19 rfl rfl ?_
        refine g_if_ne C (tgt := 27) d_Tw_share_20 rfl (by omega) (fun h20_4 => ?_) (fun h20_4 => ?_)
        · refine g_iconst C d_Tw_share_27 ?_
          refine gP C 0 0 t_Tw to_Tw n_Tw u_Tw k_648 (mwo_0 _) rfl (by decide) rfl rfl rfl rfl rfl (Nat.le_of_ble_eq_true rfl) d_Tw_share_28 (mwf_0_0 _ _) ?_
          refine g_ws (ws' := mw ad cI cZ (bu x 0 (updI (x 0) 0 0))) rfl ?_
          refine g_aload_n C (q := 0) d_Tw_share_31 rfl rfl ?_
          refine gG C (v := .int (iI 0)) 0 0 u_Tw k_648 (mwo_0 _) rfl (by decide) rfl rfl d_Tw_share_32 ?_
          refine g_if_le C (tgt := 42) d_Tw_share_35 rfl (by omega) (fun h35_5 => ?_) (fun h35_5 => ?_)
          · refine g_bipush C d_Tw_share_42 rfl ?_
            refine g_iload_n C (q := 1) d_Tw_share_44 rfl rfl ?_
            refine g_imul C d_Tw_share_45 ?_
            refine g_iload_n C (q := 2) d_Tw_share_46 rfl rfl ?_
            refine g_idiv C d_Tw_share_47 (by omega) (by omega) (by omega) ?_
            exact g_iret C hA hr d_Tw_share_48 (by decide) (by decide) ⟨_, rfl, Or.inr (Or.inr (⟨rfl, (by omega), (by first | rfl | exact congrArg some (by omega)), (e0.sc (e0.rf x) _)⟩))⟩
          · exfalso
            omega
        · refine g_iconst C d_Tw_share_23 ?_
          refine g_goto C (tgt := 28) d_Tw_share_24 rfl ?_
          refine gP C 0 0 t_Tw to_Tw n_Tw u_Tw k_648 (mwo_0 _) rfl (by decide) rfl rfl rfl rfl rfl (Nat.le_of_ble_eq_true rfl) d_Tw_share_28 (mwf_0_0 _ _) ?_
          refine g_ws (ws' := mw ad cI cZ (bu x 0 (updI (x 0) 0 2))) rfl ?_
          refine g_aload_n C (q := 0) d_Tw_share_31 rfl rfl ?_
          refine gG C (v := .int (iI 2)) 0 0 u_Tw k_648 (mwo_0 _) rfl (by decide) rfl rfl d_Tw_share_32 ?_
          refine g_if_le C (tgt := 42) d_Tw_share_35 rfl (by omega) (fun h35_6 => ?_) (fun h35_6 => ?_)
          · exfalso
            omega
          · refine g_iconst C d_Tw_share_38 ?_
            refine g_goto C (tgt := 48) d_Tw_share_39 rfl ?_
            exact g_iret C hA hr d_Tw_share_48 (by decide) (by decide) ⟨_, rfl, Or.inr (Or.inl (⟨rfl, (by omega), (by first | rfl | exact congrArg some (by omega)), (e0.sc (e0.rf x) _)⟩))⟩
      · refine g_iconst C d_Tw_share_15 ?_
        refine g_goto C (tgt := 28) d_Tw_share_16 rfl ?_
        refine gP C 0 0 t_Tw to_Tw n_Tw u_Tw k_648 (mwo_0 _) rfl (by decide) rfl rfl rfl rfl rfl (Nat.le_of_ble_eq_true rfl) d_Tw_share_28 (mwf_0_0 _ _) ?_
        refine g_ws (ws' := mw ad cI cZ (bu x 0 (updI (x 0) 0 1))) rfl ?_
        refine g_aload_n C (q := 0) d_Tw_share_31 rfl rfl ?_
        refine gG C (v := .int (iI 1)) 0 0 u_Tw k_648 (mwo_0 _) rfl (by decide) rfl rfl d_Tw_share_32 ?_
        refine g_if_le C (tgt := 42) d_Tw_share_35 rfl (by omega) (fun h35_7 => ?_) (fun h35_7 => ?_)
        · exfalso
          omega
        · refine g_iconst C d_Tw_share_38 ?_
          refine g_goto C (tgt := 48) d_Tw_share_39 rfl ?_
          exact g_iret C hA hr d_Tw_share_48 (by decide) (by decide) ⟨_, rfl, Or.inl (⟨rfl, (by omega), (by first | rfl | exact congrArg some (by omega)), (e0.sc (e0.rf x) _)⟩)⟩
  · refine g_st (st' := [.int (iI 0), .ref (ad 0)]) (by rw [b01_f hb5_1]) ?_
    refine g_if_eq C (tgt := 15) d_Tw_share_8 rfl (by omega) (fun h8_8 => ?_) (fun h8_8 => ?_)
    · refine g_iconst C d_Tw_share_15 ?_
      refine g_goto C (tgt := 28) d_Tw_share_16 rfl ?_
      refine gP C 0 0 t_Tw to_Tw n_Tw u_Tw k_648 (mwo_0 _) rfl (by decide) rfl rfl rfl rfl rfl (Nat.le_of_ble_eq_true rfl) d_Tw_share_28 (mwf_0_0 _ _) ?_
      refine g_ws (ws' := mw ad cI cZ (bu x 0 (updI (x 0) 0 1))) rfl ?_
      refine g_aload_n C (q := 0) d_Tw_share_31 rfl rfl ?_
      refine gG C (v := .int (iI 1)) 0 0 u_Tw k_648 (mwo_0 _) rfl (by decide) rfl rfl d_Tw_share_32 ?_
      refine g_if_le C (tgt := 42) d_Tw_share_35 rfl (by omega) (fun h35_9 => ?_) (fun h35_9 => ?_)
      · exfalso
        omega
      · refine g_iconst C d_Tw_share_38 ?_
        refine g_goto C (tgt := 48) d_Tw_share_39 rfl ?_
        exact g_iret C hA hr d_Tw_share_48 (by decide) (by decide) ⟨_, rfl, Or.inl (⟨rfl, (by omega), (by first | rfl | exact congrArg some (by omega)), (e0.sc (e0.rf x) _)⟩)⟩
    · exfalso
      omega
set_option maxRecDepth 100000 in
set_option maxHeartbeats 4000000 in
theorem m_Tw_count {l : Launch} {D : va_G} {cI cZ cJ : ClassId} {base : Nat} {ad : Nat → Nat} (x : Bk) (v : Int) (hv : InR v) (hok : Ok x) : Cn l D cls9 (tyl cI cZ cJ) base (zz base) y_Tw_count (wz y_Tw_count c_Tw_count 2 (some FieldType.int)) ({ frames := 2, cells := 0, slots := 0, locals := 45 } : Room) [.ref (ad 0), .int (iI v)] (mw ad cI cZ x) (fun r w => ∃ z : Bk, w = mw ad cI cZ z ∧ ((z 0 0 = 0 ∧ (True) ∧ r = some (cnt x v) ∧ e0 z x))) 0 0 := by
  refine Cn_of (zzG base) (by decide) rfl (Nat.le_of_ble_eq_true rfl) ?_
  intro p e s m args below meth c A C hr hA hnm
  have C : gC p s m args meth c D cls9 (tyl cI cZ cJ) A c_Tw_count 2 "BatchSavingsModel" (wz y_Tw_count c_Tw_count 2 (some FieldType.int)) base (zz base) := C
  refine g_lve (lv' := [(0, .ref (ad 0)), (1, .int (iI v))]) rfl ?_
  refine g_aload_n C (q := 0) d_Tw_count_0 rfl rfl ?_
  refine g_iconst C d_Tw_count_1 ?_
  refine gP C 0 0 t_Tw to_Tw n_Tw u_Tw k_648 (mwo_0 _) rfl (by decide) rfl rfl rfl rfl rfl (Nat.le_of_ble_eq_true rfl) d_Tw_count_2 (mwf_0_0 _ _) ?_
  refine g_ws (ws' := mw ad cI cZ (bu x 0 (updI (x 0) 0 0))) rfl ?_
  refine g_iload_n C (q := 1) d_Tw_count_5 rfl rfl ?_
  refine g_if_ne C (tgt := 14) d_Tw_count_6 rfl (by omega) (fun h6_1 => ?_) (fun h6_1 => ?_)
  · refine g_iload_n C (q := 1) d_Tw_count_14 rfl rfl ?_
    refine g_iconst C d_Tw_count_15 ?_
    refine g_icmp_ne C (tgt := 24) d_Tw_count_16 rfl (by omega) (by omega) (fun h16_2 => ?_) (fun h16_2 => ?_)
    · refine g_iload_n C (q := 1) d_Tw_count_24 rfl rfl ?_
      refine g_iconst C d_Tw_count_25 ?_
      refine g_icmp_ne C (tgt := 34) d_Tw_count_26 rfl (by omega) (by omega) (fun h26_3 => ?_) (fun h26_3 => ?_)
      · refine g_iload_n C (q := 1) d_Tw_count_34 rfl rfl ?_
        refine g_iconst C d_Tw_count_35 ?_
        refine g_icmp_ne C (tgt := 46) d_Tw_count_36 rfl (by omega) (by omega) (fun h36_4 => ?_) (fun h36_4 => ?_)
        · refine g_iload_n C (q := 1) d_Tw_count_46 rfl rfl ?_
          refine g_iconst C d_Tw_count_47 ?_
          refine g_icmp_ne C (tgt := 58) d_Tw_count_48 rfl (by omega) (by omega) (fun h48_5 => ?_) (fun h48_5 => ?_)
          · refine g_iconst C d_Tw_count_58 ?_
            exact g_iret C hA hr d_Tw_count_59 (by decide) (by decide) ⟨_, rfl, ⟨rfl, (trivial), (by unfold cnt; first | (rw [if_pos (by omega)]; done) | (rw [if_neg (by omega), if_pos (by omega)]; done) | (rw [if_neg (by omega), if_neg (by omega), if_pos (by omega)]; done) | (rw [if_neg (by omega), if_neg (by omega), if_neg (by omega), if_pos (by omega)]; done) | (rw [if_neg (by omega), if_neg (by omega), if_neg (by omega), if_neg (by omega), if_pos (by omega)]; done) | (rw [if_neg (by omega), if_neg (by omega), if_neg (by omega), if_neg (by omega), if_neg (by omega)]; done)), (e0.sc (e0.rf x) _)⟩⟩
          · refine g_aload_n C (q := 0) d_Tw_count_51 rfl rfl ?_
            refine gV C (st := []) (m_Tw_pairSavings (bu x 0 (updI (x 0) 0 0)) (hok.e0 (e0.sc (e0.rf x) _))) k_788 k_785 k_787 kp_55 k_7 rfl ho_Tw_pairSavings rfl rfl ⟨by decide, by decide⟩ 0 (mwo_0 _) rfl rfl rfl (Nat.le_of_ble_eq_true rfl) d_Tw_count_52 ⟨by decide, by decide⟩ (fun r w hq => ?_)
            obtain ⟨rfl, rfl⟩ := hq
            refine g_eq (ws' := mw ad cI cZ (bu x 0 (updI (x 0) 0 0))) (lv' := [(0, .ref (ad 0)), (1, .int (iI v))]) (pc' := 55) (st' := [.int (iI (svd x))]) rfl rfl rfl rfl ?_
            refine g_goto C (tgt := 59) d_Tw_count_55 rfl ?_
            exact g_iret C hA hr d_Tw_count_59 (by decide) (by decide) ⟨_, rfl, ⟨rfl, (trivial), (by unfold cnt; first | (rw [if_pos (by omega)]; done) | (rw [if_neg (by omega), if_pos (by omega)]; done) | (rw [if_neg (by omega), if_neg (by omega), if_pos (by omega)]; done) | (rw [if_neg (by omega), if_neg (by omega), if_neg (by omega), if_pos (by omega)]; done) | (rw [if_neg (by omega), if_neg (by omega), if_neg (by omega), if_neg (by omega), if_pos (by omega)]; done) | (rw [if_neg (by omega), if_neg (by omega), if_neg (by omega), if_neg (by omega), if_neg (by omega)]; done)), (e0.sc (e0.rf x) _)⟩⟩
        · refine g_aload_n C (q := 0) d_Tw_count_39 rfl rfl ?_
          refine gV C (st := []) (m_Tw_pairs (bu x 0 (updI (x 0) 0 0)) (hok.e0 (e0.sc (e0.rf x) _))) k_869 k_866 k_868 kp_64 k_7 rfl ho_Tw_pairs rfl rfl ⟨by decide, by decide⟩ 0 (mwo_0 _) rfl rfl rfl (Nat.le_of_ble_eq_true rfl) d_Tw_count_40 ⟨by decide, by decide⟩ (fun r w hq => ?_)
          obtain ⟨rfl, rfl⟩ := hq
          refine g_eq (ws' := mw ad cI cZ (bu x 0 (updI (x 0) 0 0))) (lv' := [(0, .ref (ad 0)), (1, .int (iI v))]) (pc' := 43) (st' := [.int (iI (prs x))]) rfl rfl rfl rfl ?_
          refine g_goto C (tgt := 59) d_Tw_count_43 rfl ?_
          exact g_iret C hA hr d_Tw_count_59 (by decide) (by decide) ⟨_, rfl, ⟨rfl, (trivial), (by unfold cnt; first | (rw [if_pos (by omega)]; done) | (rw [if_neg (by omega), if_pos (by omega)]; done) | (rw [if_neg (by omega), if_neg (by omega), if_pos (by omega)]; done) | (rw [if_neg (by omega), if_neg (by omega), if_neg (by omega), if_pos (by omega)]; done) | (rw [if_neg (by omega), if_neg (by omega), if_neg (by omega), if_neg (by omega), if_pos (by omega)]; done) | (rw [if_neg (by omega), if_neg (by omega), if_neg (by omega), if_neg (by omega), if_neg (by omega)]; done)), (e0.sc (e0.rf x) _)⟩⟩
      · refine g_aload_n C (q := 0) d_Tw_count_29 rfl rfl ?_
        refine gV C (st := []) (m_Tw_freeOnes (bu x 0 (updI (x 0) 0 0)) (hok.e0 (e0.sc (e0.rf x) _))) k_765 k_762 k_764 kp_50 k_7 rfl ho_Tw_freeOnes rfl rfl ⟨by decide, by decide⟩ 0 (mwo_0 _) rfl rfl rfl (Nat.le_of_ble_eq_true rfl) d_Tw_count_30 ⟨by decide, by decide⟩ (fun r w hq => ?_)
        obtain ⟨rfl, rfl⟩ := hq
        refine g_eq (ws' := mw ad cI cZ (bu x 0 (updI (x 0) 0 0))) (lv' := [(0, .ref (ad 0)), (1, .int (iI v))]) (pc' := 33) (st' := [.int (iI (frees x))]) rfl rfl rfl rfl ?_
        exact g_iret C hA hr d_Tw_count_33 (by decide) (by decide) ⟨_, rfl, ⟨rfl, (trivial), (by unfold cnt; first | (rw [if_pos (by omega)]; done) | (rw [if_neg (by omega), if_pos (by omega)]; done) | (rw [if_neg (by omega), if_neg (by omega), if_pos (by omega)]; done) | (rw [if_neg (by omega), if_neg (by omega), if_neg (by omega), if_pos (by omega)]; done) | (rw [if_neg (by omega), if_neg (by omega), if_neg (by omega), if_neg (by omega), if_pos (by omega)]; done) | (rw [if_neg (by omega), if_neg (by omega), if_neg (by omega), if_neg (by omega), if_neg (by omega)]; done)), (e0.sc (e0.rf x) _)⟩⟩
    · refine g_aload_n C (q := 0) d_Tw_count_19 rfl rfl ?_
      refine gG C (v := .int (iI (x 3 0))) 0 13 u_Tw k_661 (mwo_0 _) rfl (by decide) rfl rfl d_Tw_count_20 ?_
      exact g_iret C hA hr d_Tw_count_23 (by decide) (by decide) ⟨_, rfl, ⟨rfl, (trivial), (by unfold cnt; first | (rw [if_pos (by omega)]; done) | (rw [if_neg (by omega), if_pos (by omega)]; done) | (rw [if_neg (by omega), if_neg (by omega), if_pos (by omega)]; done) | (rw [if_neg (by omega), if_neg (by omega), if_neg (by omega), if_pos (by omega)]; done) | (rw [if_neg (by omega), if_neg (by omega), if_neg (by omega), if_neg (by omega), if_pos (by omega)]; done) | (rw [if_neg (by omega), if_neg (by omega), if_neg (by omega), if_neg (by omega), if_neg (by omega)]; done)), (e0.sc (e0.rf x) _)⟩⟩
  · refine g_aload_n C (q := 0) d_Tw_count_9 rfl rfl ?_
    refine gG C (v := .int (iI (x 1 0))) 0 1 u_Tw k_649 (mwo_0 _) rfl (by decide) rfl rfl d_Tw_count_10 ?_
    exact g_iret C hA hr d_Tw_count_13 (by decide) (by decide) ⟨_, rfl, ⟨rfl, (trivial), (by unfold cnt; first | (rw [if_pos (by omega)]; done) | (rw [if_neg (by omega), if_pos (by omega)]; done) | (rw [if_neg (by omega), if_neg (by omega), if_pos (by omega)]; done) | (rw [if_neg (by omega), if_neg (by omega), if_neg (by omega), if_pos (by omega)]; done) | (rw [if_neg (by omega), if_neg (by omega), if_neg (by omega), if_neg (by omega), if_pos (by omega)]; done) | (rw [if_neg (by omega), if_neg (by omega), if_neg (by omega), if_neg (by omega), if_neg (by omega)]; done)), (e0.sc (e0.rf x) _)⟩⟩
set_option maxRecDepth 100000 in
set_option maxHeartbeats 4000000 in
theorem lp_Tw_limit {p : Program} {l : Launch} {e : Env} {s : State} {m : MethodId} {args : Array Value} {below : List Frame} {meth : Method} {c : Code} {D : va_G} {cI cZ cJ : ClassId} {base : Nat} {ad : Nat → Nat} {A : Nat → Prop} {Q : State → Prop} (C : gC p s m args meth c D cls9 (tyl cI cZ cJ) A c_Tw_limit 5 "BatchSavingsModel" (wz y_Tw_limit c_Tw_limit 5 (some FieldType.int)) base (zz base)) (x : Bk) (a b : Int) (ha : InR a) (hb : InR b) (hok : Ok x)
    (K : gW p l e ({ frames := 1, cells := 0, slots := 0, locals := 22 } : Room) s m args below meth c D cls9 A 5 0 0 Q (mw ad cI cZ x) [(0, .ref (ad 0)), (1, .int (iI a)), (2, .int (iI b)), (3, .int (iI (sg (fun i => b01 (a < x 8 i ∨ b < x 6 i)) ((x 1 0).toNat)))), (4, .int (iI ((x 1 0).toNat : Int)))] 100 []) : ∀ (d k : Nat), (k : Int) + (d : Int) = x 1 0 → gW p l e ({ frames := 1, cells := 0, slots := 0, locals := 22 } : Room) s m args below meth c D cls9 A 5 0 0 Q (mw ad cI cZ x) [(0, .ref (ad 0)), (1, .int (iI a)), (2, .int (iI b)), (3, .int (iI (sg (fun i => b01 (a < x 8 i ∨ b < x 6 i)) k))), (4, .int (iI (k : Int)))] 55 [] := by
  intro d
  induction d with
  | zero =>
    intro k hk
    have hn := hok.n
    refine g_iload C (q := 4) d_Tw_limit_55 rfl ?_
    refine g_aload_n C (q := 0) d_Tw_limit_57 rfl rfl ?_
    refine gG C (v := .int (iI (x 1 0))) 0 1 u_Tw k_649 (mwo_0 _) rfl (by decide) rfl rfl d_Tw_limit_58 ?_
    refine g_icmp_ge C (tgt := 100) d_Tw_limit_61 rfl (by omega) (by omega) (fun h61_1 => ?_) (fun h61_1 => ?_)
    · obtain rfl : k = (x 1 0).toNat := by omega
      exact K
    · exfalso
      omega
  | succ d ih =>
    intro k hk
    have hn := hok.n
    have h8 := hok.r8 (k : Int) (by omega) (by omega)
    have h6 := hok.r6 (k : Int) (by omega) (by omega)
    refine g_iload C (q := 4) d_Tw_limit_55 rfl ?_
    refine g_aload_n C (q := 0) d_Tw_limit_57 rfl rfl ?_
    refine gG C (v := .int (iI (x 1 0))) 0 1 u_Tw k_649 (mwo_0 _) rfl (by decide) rfl rfl d_Tw_limit_58 ?_
    refine g_icmp_ge C (tgt := 100) d_Tw_limit_61 rfl (by omega) (by omega) (fun h61_1 => ?_) (fun h61_1 => ?_)
    · exfalso
      omega
    · refine g_iload_n C (q := 3) d_Tw_limit_64 rfl rfl ?_
      refine g_aload_n C (q := 0) d_Tw_limit_65 rfl rfl ?_
      refine gG C (v := .ref (ad 4)) 0 5 u_Tw k_653 (mwo_0 _) rfl (by decide) rfl rfl d_Tw_limit_66 ?_
      refine g_iload C (q := 4) d_Tw_limit_69 rfl ?_
      refine g_iald C 4 0 (mwa_4 _) rfl (by decide) (by omega) d_Tw_limit_71 ?_
      refine g_st (st' := [.int (iI (x 8 (k : Int))), .int (iI (sg (fun i => b01 (a < x 8 i ∨ b < x 6 i)) k))]) rfl ?_
      refine g_iload_n C (q := 1) d_Tw_limit_72 rfl rfl ?_
      refine g_icmp_gt C (tgt := 87) d_Tw_limit_73 rfl (by omega) (by omega) (fun h73_2 => ?_) (fun h73_2 => ?_)
      · refine g_iconst C d_Tw_limit_87 ?_
        refine g_goto C (tgt := 92) d_Tw_limit_88 rfl ?_
        refine g_iadd C d_Tw_limit_92 ?_
        refine g_st (st' := [.int (iI (sg (fun i => b01 (a < x 8 i ∨ b < x 6 i)) (k + 1)))]) (by rw [sg_s]; first | rw [b01_t (by omega)] | rw [b01_f (by omega)]) ?_
        refine g_istore_n C (lv' := [(0, .ref (ad 0)), (1, .int (iI a)), (2, .int (iI b)), (3, .int (iI (sg (fun i => b01 (a < x 8 i ∨ b < x 6 i)) (k + 1)))), (4, .int (iI (k : Int)))]) d_Tw_limit_93 rfl (by decide) rfl rfl ?_
        refine g_iinc C (q := 4) (lv' := [(0, .ref (ad 0)), (1, .int (iI a)), (2, .int (iI b)), (3, .int (iI (sg (fun i => b01 (a < x 8 i ∨ b < x 6 i)) (k + 1)))), (4, .int (iI ((k : Int) + 1)))]) d_Tw_limit_94 rfl (by decide) rfl rfl ?_
        refine g_goto C (tgt := 55) d_Tw_limit_97 rfl ?_
        exact ih (k + 1) (by omega)
      · refine g_aload_n C (q := 0) d_Tw_limit_76 rfl rfl ?_
        refine gG C (v := .ref (ad 2)) 0 3 u_Tw k_651 (mwo_0 _) rfl (by decide) rfl rfl d_Tw_limit_77 ?_
        refine g_iload C (q := 4) d_Tw_limit_80 rfl ?_
        refine g_iald C 2 0 (mwa_2 _) rfl (by decide) (by omega) d_Tw_limit_82 ?_
        refine g_st (st' := [.int (iI (x 6 (k : Int))), .int (iI (sg (fun i => b01 (a < x 8 i ∨ b < x 6 i)) k))]) rfl ?_
        refine g_iload_n C (q := 2) d_Tw_limit_83 rfl rfl ?_
        refine g_icmp_le C (tgt := 91) d_Tw_limit_84 rfl (by omega) (by omega) (fun h84_3 => ?_) (fun h84_3 => ?_)
        · refine g_iconst C d_Tw_limit_91 ?_
          refine g_iadd C d_Tw_limit_92 ?_
          refine g_st (st' := [.int (iI (sg (fun i => b01 (a < x 8 i ∨ b < x 6 i)) (k + 1)))]) (by rw [sg_s]; first | rw [b01_t (by omega)] | rw [b01_f (by omega)]) ?_
          refine g_istore_n C (lv' := [(0, .ref (ad 0)), (1, .int (iI a)), (2, .int (iI b)), (3, .int (iI (sg (fun i => b01 (a < x 8 i ∨ b < x 6 i)) (k + 1)))), (4, .int (iI (k : Int)))]) d_Tw_limit_93 rfl (by decide) rfl rfl ?_
          refine g_iinc C (q := 4) (lv' := [(0, .ref (ad 0)), (1, .int (iI a)), (2, .int (iI b)), (3, .int (iI (sg (fun i => b01 (a < x 8 i ∨ b < x 6 i)) (k + 1)))), (4, .int (iI ((k : Int) + 1)))]) d_Tw_limit_94 rfl (by decide) rfl rfl ?_
          refine g_goto C (tgt := 55) d_Tw_limit_97 rfl ?_
          exact ih (k + 1) (by omega)
        · refine g_iconst C d_Tw_limit_87 ?_
          refine g_goto C (tgt := 92) d_Tw_limit_88 rfl ?_
          refine g_iadd C d_Tw_limit_92 ?_
          refine g_st (st' := [.int (iI (sg (fun i => b01 (a < x 8 i ∨ b < x 6 i)) (k + 1)))]) (by rw [sg_s]; first | rw [b01_t (by omega)] | rw [b01_f (by omega)]) ?_
          refine g_istore_n C (lv' := [(0, .ref (ad 0)), (1, .int (iI a)), (2, .int (iI b)), (3, .int (iI (sg (fun i => b01 (a < x 8 i ∨ b < x 6 i)) (k + 1)))), (4, .int (iI (k : Int)))]) d_Tw_limit_93 rfl (by decide) rfl rfl ?_
          refine g_iinc C (q := 4) (lv' := [(0, .ref (ad 0)), (1, .int (iI a)), (2, .int (iI b)), (3, .int (iI (sg (fun i => b01 (a < x 8 i ∨ b < x 6 i)) (k + 1)))), (4, .int (iI ((k : Int) + 1)))]) d_Tw_limit_94 rfl (by decide) rfl rfl ?_
          refine g_goto C (tgt := 55) d_Tw_limit_97 rfl ?_
          exact ih (k + 1) (by omega)
theorem Ok.limX {x : Bk} (h : Ok x) {a b : Int} (ha : 0 ≤ a ∧ a ≤ 4000) (hb : 1 ≤ b ∧ b ≤ 400) : Ok (limX x a b) :=
  ⟨h.n, h.b, ha, hb, h.e, h.r5, h.r6, h.r7, h.r8, h.r9, h.r10, h.r11, h.r13, h.r14, h.r15, h.r16⟩
set_option maxRecDepth 100000 in
set_option maxHeartbeats 4000000 in
theorem m_Tw_limit {l : Launch} {D : va_G} {cI cZ cJ : ClassId} {base : Nat} {ad : Nat → Nat} (x : Bk) (a b : Int) (ha : InR a) (hb : InR b) (hok : Ok x) : Cn l D cls9 (tyl cI cZ cJ) base (zz base) y_Tw_limit (wz y_Tw_limit c_Tw_limit 5 (some FieldType.int)) ({ frames := 1, cells := 0, slots := 0, locals := 22 } : Room) [.ref (ad 0), .int (iI a), .int (iI b)] (mw ad cI cZ x) (fun r w => ∃ z : Bk, w = mw ad cI cZ z ∧ ((z 0 0 = 1 ∧ (¬ ((0 ≤ a ∧ a ≤ 4000) ∧ (1 ≤ b ∧ b ≤ 400))) ∧ r = some (0) ∧ e0 z x) ∨ (z 0 0 = 0 ∧ (((0 ≤ a ∧ a ≤ 4000) ∧ (1 ≤ b ∧ b ≤ 400))) ∧ r = some (above (limX x a b)) ∧ e0 z (limX x a b)))) 0 0 := by
  refine Cn_of (zzG base) (by decide) rfl (Nat.le_of_ble_eq_true rfl) ?_
  intro p e s m args below meth c A C hr hA hnm
  have C : gC p s m args meth c D cls9 (tyl cI cZ cJ) A c_Tw_limit 5 "BatchSavingsModel" (wz y_Tw_limit c_Tw_limit 5 (some FieldType.int)) base (zz base) := C
  refine g_lve (lv' := [(0, .ref (ad 0)), (1, .int (iI a)), (2, .int (iI b))]) rfl ?_
  have hn := hok.n
  refine g_aload_n C (q := 0) d_Tw_limit_0 rfl rfl ?_
  refine g_iload_n C (q := 1) d_Tw_limit_1 rfl rfl ?_
  refine g_iconst C d_Tw_limit_2 ?_
  refine g_sipush C d_Tw_limit_3 rfl ?_
  refine gS0 C (st := [.ref (ad 0)]) (m_Tw_in a 0 4000 (by omega) (by omega) (by omega)) k_713 k_711 k_712 k_7 rfl ho_Tw_in rfl rfl ⟨by decide, by decide⟩ rfl rfl (Nat.le_of_ble_eq_true rfl) d_Tw_limit_6 ⟨by decide, by decide⟩ (fun r w hq => ?_)
  obtain ⟨rfl, rfl⟩ := hq
  refine g_eq (ws' := mw ad cI cZ x) (lv' := [(0, .ref (ad 0)), (1, .int (iI a)), (2, .int (iI b))]) (pc' := 9) (st' := [.int (iI (b01 (0 ≤ a ∧ a ≤ 4000))), .ref (ad 0)]) rfl rfl rfl rfl ?_
  by_cases hb6_1 : (0 ≤ a ∧ a ≤ 4000)
  · refine g_st (st' := [.int (iI 1), .ref (ad 0)]) (by rw [b01_t hb6_1]) ?_
    refine g_if_eq C (tgt := 23) d_Tw_limit_9 rfl (by omega) (fun h9_2 => ?_) (fun h9_2 => ?_)
    · exfalso
      omega
    · refine g_iload_n C (q := 2) d_Tw_limit_12 rfl rfl ?_
      refine g_iconst C d_Tw_limit_13 ?_
      refine g_sipush C d_Tw_limit_14 rfl ?_
      refine gS0 C (st := [.ref (ad 0)]) (m_Tw_in b 1 400 (by omega) (by omega) (by omega)) k_713 k_711 k_712 k_7 rfl ho_Tw_in rfl rfl ⟨by decide, by decide⟩ rfl rfl (Nat.le_of_ble_eq_true rfl) d_Tw_limit_17 ⟨by decide, by decide⟩ (fun r w hq => ?_)
      obtain ⟨rfl, rfl⟩ := hq
      refine g_eq (ws' := mw ad cI cZ x) (lv' := [(0, .ref (ad 0)), (1, .int (iI a)), (2, .int (iI b))]) (pc' := 20) (st' := [.int (iI (b01 (1 ≤ b ∧ b ≤ 400))), .ref (ad 0)]) rfl rfl rfl rfl ?_
      by_cases hb17_3 : (1 ≤ b ∧ b ≤ 400)
      · refine g_st (st' := [.int (iI 1), .ref (ad 0)]) (by rw [b01_t hb17_3]) ?_
        refine g_if_ne C (tgt := 27) d_Tw_limit_20 rfl (by omega) (fun h20_4 => ?_) (fun h20_4 => ?_)
        · refine g_iconst C d_Tw_limit_27 ?_
          refine gP C 0 0 t_Tw to_Tw n_Tw u_Tw k_648 (mwo_0 _) rfl (by decide) rfl rfl rfl rfl rfl (Nat.le_of_ble_eq_true rfl) d_Tw_limit_28 (mwf_0_0 _ _) ?_
          refine g_ws (ws' := mw ad cI cZ (bu x 0 (updI (x 0) 0 0))) rfl ?_
          refine g_aload_n C (q := 0) d_Tw_limit_31 rfl rfl ?_
          refine gG C (v := .int (iI 0)) 0 0 u_Tw k_648 (mwo_0 _) rfl (by decide) rfl rfl d_Tw_limit_32 ?_
          refine g_if_le C (tgt := 40) d_Tw_limit_35 rfl (by omega) (fun h35_5 => ?_) (fun h35_5 => ?_)
          · refine g_aload_n C (q := 0) d_Tw_limit_40 rfl rfl ?_
            refine g_iload_n C (q := 1) d_Tw_limit_41 rfl rfl ?_
            refine gP C 0 9 t_Tw to_Tw n_Tw u_Tw k_657 (mwo_0 _) rfl (by decide) rfl rfl rfl rfl rfl (Nat.le_of_ble_eq_true rfl) d_Tw_limit_42 (mwf_0_9 _ _) ?_
            refine g_ws (ws' := mw ad cI cZ (bu (bu x 0 (updI (x 0) 0 0)) 2 (updI (x 2) 1 a))) rfl ?_
            refine g_aload_n C (q := 0) d_Tw_limit_45 rfl rfl ?_
            refine g_iload_n C (q := 2) d_Tw_limit_46 rfl rfl ?_
            refine gP C 0 10 t_Tw to_Tw n_Tw u_Tw k_658 (mwo_0 _) rfl (by decide) rfl rfl rfl rfl rfl (Nat.le_of_ble_eq_true rfl) d_Tw_limit_47 (mwf_0_10 _ _) ?_
            refine g_ws (ws' := mw ad cI cZ (bu (bu (bu x 0 (updI (x 0) 0 0)) 2 (updI (x 2) 1 a)) 2 (updI (updI (x 2) 1 a) 2 b))) rfl ?_
            refine g_iconst C d_Tw_limit_50 ?_
            refine g_istore_n C (lv' := [(0, .ref (ad 0)), (1, .int (iI a)), (2, .int (iI b)), (3, .int (iI 0))]) d_Tw_limit_51 rfl (by decide) rfl rfl ?_
            refine g_iconst C d_Tw_limit_52 ?_
            refine g_istore C (lv' := [(0, .ref (ad 0)), (1, .int (iI a)), (2, .int (iI b)), (3, .int (iI 0)), (4, .int (iI 0))]) d_Tw_limit_53 (by decide) rfl rfl ?_
            have hy : e0 (bu (bu (bu x 0 (updI (x 0) 0 0)) 2 (updI (x 2) 1 a)) 2 (updI (updI (x 2) 1 a) 2 b)) (limX x a b) := e0.bu (e0.bu (e0.sc (e0.rf x) _) _ _) _ _
            have hoky : Ok (bu (bu (bu x 0 (updI (x 0) 0 0)) 2 (updI (x 2) 1 a)) 2 (updI (updI (x 2) 1 a) 2 b)) := (hok.limX (by omega) (by omega)).e0 hy
            refine lp_Tw_limit C (bu (bu (bu x 0 (updI (x 0) 0 0)) 2 (updI (x 2) 1 a)) 2 (updI (updI (x 2) 1 a) 2 b)) a b ha hb hoky ?_ (x 1 0).toNat 0 (show ((0 : Nat) : Int) + (((x 1 0).toNat : Nat) : Int) = x 1 0 by omega)
            refine g_iload_n C (q := 3) d_Tw_limit_100 rfl rfl ?_
            exact g_iret C hA hr d_Tw_limit_101 (by decide) (by decide) ⟨_, rfl, Or.inr ⟨rfl, by omega, rfl, hy⟩⟩
          · exfalso
            omega
        · exfalso
          omega
      · refine g_st (st' := [.int (iI 0), .ref (ad 0)]) (by rw [b01_f hb17_3]) ?_
        refine g_if_ne C (tgt := 27) d_Tw_limit_20 rfl (by omega) (fun h20_6 => ?_) (fun h20_6 => ?_)
        · exfalso
          omega
        · refine g_iconst C d_Tw_limit_23 ?_
          refine g_goto C (tgt := 28) d_Tw_limit_24 rfl ?_
          refine gP C 0 0 t_Tw to_Tw n_Tw u_Tw k_648 (mwo_0 _) rfl (by decide) rfl rfl rfl rfl rfl (Nat.le_of_ble_eq_true rfl) d_Tw_limit_28 (mwf_0_0 _ _) ?_
          refine g_ws (ws' := mw ad cI cZ (bu x 0 (updI (x 0) 0 1))) rfl ?_
          refine g_aload_n C (q := 0) d_Tw_limit_31 rfl rfl ?_
          refine gG C (v := .int (iI 1)) 0 0 u_Tw k_648 (mwo_0 _) rfl (by decide) rfl rfl d_Tw_limit_32 ?_
          refine g_if_le C (tgt := 40) d_Tw_limit_35 rfl (by omega) (fun h35_7 => ?_) (fun h35_7 => ?_)
          · exfalso
            omega
          · refine g_iconst C d_Tw_limit_38 ?_
            exact g_iret C hA hr d_Tw_limit_39 (by decide) (by decide) ⟨_, rfl, Or.inl (⟨rfl, (by omega), (by first | rfl | exact congrArg some (by omega)), (e0.sc (e0.rf x) _)⟩)⟩
  · refine g_st (st' := [.int (iI 0), .ref (ad 0)]) (by rw [b01_f hb6_1]) ?_
    refine g_if_eq C (tgt := 23) d_Tw_limit_9 rfl (by omega) (fun h9_8 => ?_) (fun h9_8 => ?_)
    · refine g_iconst C d_Tw_limit_23 ?_
      refine g_goto C (tgt := 28) d_Tw_limit_24 rfl ?_
      refine gP C 0 0 t_Tw to_Tw n_Tw u_Tw k_648 (mwo_0 _) rfl (by decide) rfl rfl rfl rfl rfl (Nat.le_of_ble_eq_true rfl) d_Tw_limit_28 (mwf_0_0 _ _) ?_
      refine g_ws (ws' := mw ad cI cZ (bu x 0 (updI (x 0) 0 1))) rfl ?_
      refine g_aload_n C (q := 0) d_Tw_limit_31 rfl rfl ?_
      refine gG C (v := .int (iI 1)) 0 0 u_Tw k_648 (mwo_0 _) rfl (by decide) rfl rfl d_Tw_limit_32 ?_
      refine g_if_le C (tgt := 40) d_Tw_limit_35 rfl (by omega) (fun h35_9 => ?_) (fun h35_9 => ?_)
      · exfalso
        omega
      · refine g_iconst C d_Tw_limit_38 ?_
        exact g_iret C hA hr d_Tw_limit_39 (by decide) (by decide) ⟨_, rfl, Or.inl (⟨rfl, (by omega), (by first | rfl | exact congrArg some (by omega)), (e0.sc (e0.rf x) _)⟩)⟩
    · exfalso
      omega
