set_option maxRecDepth 100000 in
set_option maxHeartbeats 4000000 in
theorem m_Tw_open {l : Launch} {D : va_G} {cI cZ cJ : ClassId} {base : Nat} {ad : Nat → Nat} (x : Bk) (a : Int) (ha : InR a) (hok : Ok x) (h14 : x 3 0 < 10 → x 14 (x 3 0) = 0) : Cn l D cls9 (tyl cI cZ cJ) base (zz base) y_Tw_open (wz y_Tw_open c_Tw_open 3 (some FieldType.int)) ({ frames := 2, cells := 0, slots := 0, locals := 43 } : Room) [.ref (ad 0), .int (iI a)] (mw ad cI cZ x) (fun r w => ∃ z : Bk, w = mw ad cI cZ z ∧ ((z 0 0 = 1 ∧ (¬ (0 ≤ a ∧ a < x 1 0)) ∧ r = some (0) ∧ e0 z x) ∨ (z 0 0 = 2 ∧ ((0 ≤ a ∧ a < x 1 0) ∧ ¬ x 15 a = -1) ∧ r = some (0) ∧ e0 z x) ∨ (z 0 0 = 3 ∧ (((0 ≤ a ∧ a < x 1 0) ∧ x 15 a = -1) ∧ ¬ x 3 0 < 10) ∧ r = some (0) ∧ e0 z x) ∨ (z 0 0 = 0 ∧ ((0 ≤ a ∧ a < x 1 0) ∧ x 15 a = -1 ∧ x 3 0 < 10) ∧ r = some (x 3 0) ∧ e0 z (opX x a)))) 0 0 := by
  refine Cn_of (zzG base) (by decide) rfl (Nat.le_of_ble_eq_true rfl) ?_
  intro p e s m args below meth c A C hr hA hnm
  have C : gC p s m args meth c D cls9 (tyl cI cZ cJ) A c_Tw_open 3 "BatchSavingsModel" (wz y_Tw_open c_Tw_open 3 (some FieldType.int)) base (zz base) := C
  refine g_lve (lv' := [(0, .ref (ad 0)), (1, .int (iI a))]) rfl ?_
  have hn := hok.n
  have hb := hok.b
  refine g_aload_n C (q := 0) d_Tw_open_0 rfl rfl ?_
  refine g_aload_n C (q := 0) d_Tw_open_1 rfl rfl ?_
  refine g_iload_n C (q := 1) d_Tw_open_2 rfl rfl ?_
  refine gV C (st := [.ref (ad 0)]) (m_Tw_isOrder x a (by omega) (show 0 ≤ (x 1 0) ∧ (x 1 0) ≤ 10 by omega)) k_721 k_718 k_720 kp_45 k_7 rfl ho_Tw_isOrder rfl rfl ⟨by decide, by decide⟩ 0 (mwo_0 _) rfl rfl rfl (Nat.le_of_ble_eq_true rfl) d_Tw_open_3 ⟨by decide, by decide⟩ (fun r w hq => ?_)
  obtain ⟨rfl, rfl⟩ := hq
  refine g_eq (ws' := mw ad cI cZ x) (lv' := [(0, .ref (ad 0)), (1, .int (iI a))]) (pc' := 6) (st' := [.int (iI (b01 (0 ≤ a ∧ a < (x 1 0)))), .ref (ad 0)]) rfl rfl rfl rfl ?_
  by_cases hb3_1 : (0 ≤ a ∧ a < (x 1 0))
  · refine g_st (st' := [.int (iI 1), .ref (ad 0)]) (by rw [b01_t hb3_1]) ?_
    refine g_if_ne C (tgt := 13) d_Tw_open_6 rfl (by omega) (fun h6_2 => ?_) (fun h6_2 => ?_)
    · refine g_iconst C d_Tw_open_13 ?_
      refine gP C 0 0 t_Tw to_Tw n_Tw u_Tw k_648 (mwo_0 _) rfl (by decide) rfl rfl rfl rfl rfl (Nat.le_of_ble_eq_true rfl) d_Tw_open_14 (mwf_0_0 _ _) ?_
      refine g_ws (ws' := mw ad cI cZ (bu x 0 (updI (x 0) 0 0))) rfl ?_
      refine g_aload_n C (q := 0) d_Tw_open_17 rfl rfl ?_
      refine gG C (v := .int (iI 0)) 0 0 u_Tw k_648 (mwo_0 _) rfl (by decide) rfl rfl d_Tw_open_18 ?_
      refine g_if_ne C (tgt := 54) d_Tw_open_21 rfl (by omega) (fun h21_3 => ?_) (fun h21_3 => ?_)
      · exfalso
        omega
      · refine g_aload_n C (q := 0) d_Tw_open_24 rfl rfl ?_
        refine g_aload_n C (q := 0) d_Tw_open_25 rfl rfl ?_
        refine g_iload_n C (q := 1) d_Tw_open_26 rfl rfl ?_
        have h15 := hok.r15 a (by omega) (by omega)
        have h16 := hok.r16 a (by omega) (by omega)
        refine gV C (st := [.ref (ad 0)]) (m_Tw_isFree (bu x 0 (updI (x 0) 0 0)) a (by omega) (show InR (x 15 a) by omega)) k_749 k_746 k_748 kp_49 k_7 rfl ho_Tw_isFree rfl rfl ⟨by decide, by decide⟩ 0 (mwo_0 _) rfl rfl rfl (Nat.le_of_ble_eq_true rfl) d_Tw_open_27 ⟨by decide, by decide⟩ (fun r w hq => ?_)
        obtain ⟨rfl, rfl⟩ := hq
        refine g_eq (ws' := mw ad cI cZ (bu x 0 (updI (x 0) 0 0))) (lv' := [(0, .ref (ad 0)), (1, .int (iI a))]) (pc' := 30) (st' := [.int (iI (b01 ((x 15 a) = -1))), .ref (ad 0)]) rfl rfl rfl rfl ?_
        by_cases hb27_4 : ((x 15 a) = -1)
        · refine g_st (st' := [.int (iI 1), .ref (ad 0)]) (by rw [b01_t hb27_4]) ?_
          refine g_if_ne C (tgt := 37) d_Tw_open_30 rfl (by omega) (fun h30_5 => ?_) (fun h30_5 => ?_)
          · refine g_aload_n C (q := 0) d_Tw_open_37 rfl rfl ?_
            refine gG C (v := .int (iI (x 3 0))) 0 13 u_Tw k_661 (mwo_0 _) rfl (by decide) rfl rfl d_Tw_open_38 ?_
            refine g_bipush C d_Tw_open_41 rfl ?_
            refine g_icmp_ne C (tgt := 50) d_Tw_open_43 rfl (by omega) (by omega) (fun h43_6 => ?_) (fun h43_6 => ?_)
            · refine g_iconst C d_Tw_open_50 ?_
              refine gP C 0 0 t_Tw to_Tw n_Tw u_Tw k_648 (mwo_0 _) rfl (by decide) rfl rfl rfl rfl rfl (Nat.le_of_ble_eq_true rfl) d_Tw_open_51 (mwf_0_0 _ _) ?_
              refine g_ws (ws' := mw ad cI cZ (bu (bu x 0 (updI (x 0) 0 0)) 0 (updI (updI (x 0) 0 0) 0 0))) rfl ?_
              refine g_aload_n C (q := 0) d_Tw_open_54 rfl rfl ?_
              refine gG C (v := .int (iI 0)) 0 0 u_Tw k_648 (mwo_0 _) rfl (by decide) rfl rfl d_Tw_open_55 ?_
              refine g_if_le C (tgt := 63) d_Tw_open_58 rfl (by omega) (fun h58_7 => ?_) (fun h58_7 => ?_)
              · refine g_aload_n C (q := 0) d_Tw_open_63 rfl rfl ?_
                refine gG C (v := .ref (ad 8)) 0 11 u_Tw k_659 (mwo_0 _) rfl (by decide) rfl rfl d_Tw_open_64 ?_
                refine g_iload_n C (q := 1) d_Tw_open_67 rfl rfl ?_
                refine g_iald C 8 0 (mwa_8 _) rfl (by decide) (by omega) d_Tw_open_68 ?_
                refine g_st (st' := [.int (iI (x 16 a))]) rfl ?_
                refine g_istore_n C (lv' := [(0, .ref (ad 0)), (1, .int (iI a)), (2, .int (iI (x 16 a)))]) d_Tw_open_69 rfl (by decide) rfl rfl ?_
                refine g_aload_n C (q := 0) d_Tw_open_70 rfl rfl ?_
                refine g_dup C d_Tw_open_71 rfl ?_
                refine gG C (v := .int (iI (x 3 0))) 0 13 u_Tw k_661 (mwo_0 _) rfl (by decide) rfl rfl d_Tw_open_72 ?_
                refine g_iconst C d_Tw_open_75 ?_
                refine g_iadd C d_Tw_open_76 ?_
                refine gP C 0 13 t_Tw to_Tw n_Tw u_Tw k_661 (mwo_0 _) rfl (by decide) rfl rfl rfl rfl rfl (Nat.le_of_ble_eq_true rfl) d_Tw_open_77 (mwf_0_13 _ _) ?_
                refine g_ws (ws' := mw ad cI cZ (bu (bu (bu x 0 (updI (x 0) 0 0)) 0 (updI (updI (x 0) 0 0) 0 0)) 3 (updI (x 3) 0 ((x 3 0) + 1)))) rfl ?_
                refine g_aload_n C (q := 0) d_Tw_open_80 rfl rfl ?_
                refine g_iload_n C (q := 1) d_Tw_open_81 rfl rfl ?_
                refine g_aload_n C (q := 0) d_Tw_open_82 rfl rfl ?_
                refine gG C (v := .int (iI ((x 3 0) + 1))) 0 13 u_Tw k_661 (mwo_0 _) rfl (by decide) rfl rfl d_Tw_open_83 ?_
                refine g_iconst C d_Tw_open_86 ?_
                refine g_isub C d_Tw_open_87 ?_
                refine g_st (st' := [.int (iI (x 3 0)), .int (iI a), .ref (ad 0)]) (by rw [Int.add_sub_cancel]) ?_
                refine gV C (st := []) (m_Tw_put (bu (bu (bu x 0 (updI (x 0) 0 0)) 0 (updI (updI (x 0) 0 0) 0 0)) 3 (updI (x 3) 0 ((x 3 0) + 1))) a (x 3 0) (by omega) (by omega) (show 0 ≤ x 14 (x 3 0) ∧ x 14 (x 3 0) < 4 by omega) (show -1 ≤ x 16 a ∧ x 16 a < 10 by omega)) k_804 k_801 k_803 kp_56 k_7 rfl ho_Tw_put rfl rfl ⟨by decide, by decide⟩ 0 (mwo_0 _) rfl rfl rfl (Nat.le_of_ble_eq_true rfl) d_Tw_open_88 ⟨by decide, by decide⟩ (fun r w hq => ?_)
                obtain ⟨rfl, rfl⟩ := hq
                refine g_eq (ws' := mw ad cI cZ (ptB (unX (bu (bu (bu x 0 (updI (x 0) 0 0)) 0 (updI (updI (x 0) 0 0) 0 0)) 3 (updI (x 3) 0 ((x 3 0) + 1))) a) a (x 3 0))) (lv' := [(0, .ref (ad 0)), (1, .int (iI a)), (2, .int (iI (x 16 a)))]) (pc' := 91) (st' := []) rfl rfl rfl rfl ?_
                obtain ⟨z1, hz1⟩ : ∃ z1 : Bk, z1 = (ptB (unX (bu (bu (bu x 0 (updI (x 0) 0 0)) 0 (updI (updI (x 0) 0 0) 0 0)) 3 (updI (x 3) 0 ((x 3 0) + 1))) a) a (x 3 0)) := ⟨_, rfl⟩
                refine g_ws (ws' := mw ad cI cZ z1) (by rw [hz1]) ?_
                have z30 : z1 3 0 = x 3 0 + 1 := by rw [hz1]; rfl
                have z00 : z1 0 0 = 0 := by rw [hz1]; rfl
                have z14 : z1 14 (x 3 0) = 1 := by rw [hz1]; show updI (x 14) (x 3 0) (x 14 (x 3 0) + 1) (x 3 0) = 1; rw [updI_s]; omega
                refine g_iload_n C (q := 2) d_Tw_open_91 rfl rfl ?_
                refine g_iconst C d_Tw_open_92 ?_
                refine g_icmp_eq C (tgt := 107) d_Tw_open_93 rfl (by omega) (by omega) (fun h93_1 => ?_) (fun h93_1 => ?_)
                · refine g_aload_n C (q := 0) d_Tw_open_107 rfl rfl ?_
                  refine gG C (v := .int (iI (z1 3 0))) 0 13 u_Tw k_661 (mwo_0 _) rfl (by decide) rfl rfl d_Tw_open_108 ?_
                  refine g_iconst C d_Tw_open_111 ?_
                  refine g_isub C d_Tw_open_112 ?_
                  refine g_st (st' := [.int (iI (x 3 0))]) (by rw [z30, Int.add_sub_cancel]) ?_
                  exact g_iret C hA hr d_Tw_open_113 (by decide) (by decide) ⟨_, rfl, Or.inr (Or.inr (Or.inr ⟨z00, by omega, rfl, by rw [hz1]; exact op_none (show e0 (bu (bu (bu x 0 _) 0 _) 3 _) (adB x) from e0.bu (e0.sc (e0.sc (e0.rf x) _) _) _ _) (by omega)⟩))⟩
                · refine g_aload_n C (q := 0) d_Tw_open_96 rfl rfl ?_
                  refine g_iload_n C (q := 2) d_Tw_open_97 rfl rfl ?_
                  refine g_aload_n C (q := 0) d_Tw_open_98 rfl rfl ?_
                  refine gG C (v := .int (iI (z1 3 0))) 0 13 u_Tw k_661 (mwo_0 _) rfl (by decide) rfl rfl d_Tw_open_99 ?_
                  refine g_iconst C d_Tw_open_102 ?_
                  refine g_isub C d_Tw_open_103 ?_
                  refine g_st (st' := [.int (iI (x 3 0)), .int (iI (x 16 a)), .ref (ad 0)]) (by rw [z30, Int.add_sub_cancel]) ?_
                  have z16 : z1 16 (x 16 a) = -1 := by rw [hz1]; exact op_16 (show e0 (bu (bu (bu x 0 _) 0 _) 3 _) (adB x) from e0.bu (e0.sc (e0.sc (e0.rf x) _) _) _ _) (by assumption)
                  refine gV C (st := []) (m_Tw_put z1 (x 16 a) (x 3 0) (by omega) (by omega) (by omega) (by omega)) k_804 k_801 k_803 kp_56 k_7 rfl ho_Tw_put rfl rfl ⟨by decide, by decide⟩ 0 (mwo_0 _) rfl rfl rfl (Nat.le_of_ble_eq_true rfl) d_Tw_open_104 ⟨by decide, by decide⟩ (fun r w hq => ?_)
                  obtain ⟨rfl, rfl⟩ := hq
                  refine g_eq (ws' := mw ad cI cZ (ptB (unX z1 (x 16 a)) (x 16 a) (x 3 0))) (lv' := [(0, .ref (ad 0)), (1, .int (iI a)), (2, .int (iI (x 16 a)))]) (pc' := 107) (st' := []) rfl rfl rfl rfl ?_
                  refine g_aload_n C (q := 0) d_Tw_open_107 rfl rfl ?_
                  refine gG C (v := .int (iI (((ptB (unX z1 (x 16 a)) (x 16 a) (x 3 0)) 3) 0))) 0 13 u_Tw k_661 (mwo_0 _) rfl (by decide) rfl rfl d_Tw_open_108 ?_
                  refine g_iconst C d_Tw_open_111 ?_
                  refine g_isub C d_Tw_open_112 ?_
                  refine g_st (st' := [.int (iI (x 3 0))]) (by rw [show (((ptB (unX z1 (x 16 a)) (x 16 a) (x 3 0)) 3) 0) = x 3 0 + 1 from z30, Int.add_sub_cancel]) ?_
                  exact g_iret C hA hr d_Tw_open_113 (by decide) (by decide) ⟨_, rfl, Or.inr (Or.inr (Or.inr ⟨(show z1 0 0 = 0 from z00), by omega, rfl, by rw [hz1]; exact op_two (show e0 (bu (bu (bu x 0 _) 0 _) 3 _) (adB x) from e0.bu (e0.sc (e0.sc (e0.rf x) _) _) _ _) (by assumption)⟩))⟩
              · exfalso
                omega
            · refine g_iconst C d_Tw_open_46 ?_
              refine g_goto C (tgt := 51) d_Tw_open_47 rfl ?_
              refine gP C 0 0 t_Tw to_Tw n_Tw u_Tw k_648 (mwo_0 _) rfl (by decide) rfl rfl rfl rfl rfl (Nat.le_of_ble_eq_true rfl) d_Tw_open_51 (mwf_0_0 _ _) ?_
              refine g_ws (ws' := mw ad cI cZ (bu (bu x 0 (updI (x 0) 0 0)) 0 (updI (updI (x 0) 0 0) 0 3))) rfl ?_
              refine g_aload_n C (q := 0) d_Tw_open_54 rfl rfl ?_
              refine gG C (v := .int (iI 3)) 0 0 u_Tw k_648 (mwo_0 _) rfl (by decide) rfl rfl d_Tw_open_55 ?_
              refine g_if_le C (tgt := 63) d_Tw_open_58 rfl (by omega) (fun h58_8 => ?_) (fun h58_8 => ?_)
              · exfalso
                omega
              · refine g_iconst C d_Tw_open_61 ?_
                exact g_iret C hA hr d_Tw_open_62 (by decide) (by decide) ⟨_, rfl, Or.inr (Or.inr (Or.inl (⟨rfl, (by omega), (by first | rfl | exact congrArg some (by omega)), (e0.sc (e0.sc (e0.rf x) _) _)⟩)))⟩
          · exfalso
            omega
        · refine g_st (st' := [.int (iI 0), .ref (ad 0)]) (by rw [b01_f hb27_4]) ?_
          refine g_if_ne C (tgt := 37) d_Tw_open_30 rfl (by omega) (fun h30_9 => ?_) (fun h30_9 => ?_)
          · exfalso
            omega
          · refine g_iconst C d_Tw_open_33 ?_
            refine g_goto C (tgt := 51) d_Tw_open_34 rfl ?_
            refine gP C 0 0 t_Tw to_Tw n_Tw u_Tw k_648 (mwo_0 _) rfl (by decide) rfl rfl rfl rfl rfl (Nat.le_of_ble_eq_true rfl) d_Tw_open_51 (mwf_0_0 _ _) ?_
            refine g_ws (ws' := mw ad cI cZ (bu (bu x 0 (updI (x 0) 0 0)) 0 (updI (updI (x 0) 0 0) 0 2))) rfl ?_
            refine g_aload_n C (q := 0) d_Tw_open_54 rfl rfl ?_
            refine gG C (v := .int (iI 2)) 0 0 u_Tw k_648 (mwo_0 _) rfl (by decide) rfl rfl d_Tw_open_55 ?_
            refine g_if_le C (tgt := 63) d_Tw_open_58 rfl (by omega) (fun h58_10 => ?_) (fun h58_10 => ?_)
            · exfalso
              omega
            · refine g_iconst C d_Tw_open_61 ?_
              exact g_iret C hA hr d_Tw_open_62 (by decide) (by decide) ⟨_, rfl, Or.inr (Or.inl (⟨rfl, (by omega), (by first | rfl | exact congrArg some (by omega)), (e0.sc (e0.sc (e0.rf x) _) _)⟩))⟩
    · exfalso
      omega
  · refine g_st (st' := [.int (iI 0), .ref (ad 0)]) (by rw [b01_f hb3_1]) ?_
    refine g_if_ne C (tgt := 13) d_Tw_open_6 rfl (by omega) (fun h6_11 => ?_) (fun h6_11 => ?_)
    · exfalso
      omega
    · refine g_iconst C d_Tw_open_9 ?_
      refine g_goto C (tgt := 14) d_Tw_open_10 rfl ?_
      refine gP C 0 0 t_Tw to_Tw n_Tw u_Tw k_648 (mwo_0 _) rfl (by decide) rfl rfl rfl rfl rfl (Nat.le_of_ble_eq_true rfl) d_Tw_open_14 (mwf_0_0 _ _) ?_
      refine g_ws (ws' := mw ad cI cZ (bu x 0 (updI (x 0) 0 1))) rfl ?_
      refine g_aload_n C (q := 0) d_Tw_open_17 rfl rfl ?_
      refine gG C (v := .int (iI 1)) 0 0 u_Tw k_648 (mwo_0 _) rfl (by decide) rfl rfl d_Tw_open_18 ?_
      refine g_if_ne C (tgt := 54) d_Tw_open_21 rfl (by omega) (fun h21_12 => ?_) (fun h21_12 => ?_)
      · refine g_aload_n C (q := 0) d_Tw_open_54 rfl rfl ?_
        refine gG C (v := .int (iI 1)) 0 0 u_Tw k_648 (mwo_0 _) rfl (by decide) rfl rfl d_Tw_open_55 ?_
        refine g_if_le C (tgt := 63) d_Tw_open_58 rfl (by omega) (fun h58_13 => ?_) (fun h58_13 => ?_)
        · exfalso
          omega
        · refine g_iconst C d_Tw_open_61 ?_
          exact g_iret C hA hr d_Tw_open_62 (by decide) (by decide) ⟨_, rfl, Or.inl (⟨rfl, (by omega), (by first | rfl | exact congrArg some (by omega)), (e0.sc (e0.rf x) _)⟩)⟩
      · exfalso
        omega
theorem unp_in {p : Int → Int} {a : Int} (h : ∀ i, 0 ≤ i → i < 10 → -1 ≤ p i ∧ p i ≤ 9) : ∀ i, 0 ≤ i → i < 10 → -1 ≤ unp p a i ∧ unp p a i ≤ 9 := fun i h0 h1 => by
  have := h i h0 h1
  unfold unp updI
  split
  · dsimp only
    split <;> omega
  · dsimp only
    split
    · omega
    · split <;> omega
theorem Ok.pt {x : Bk} (h : Ok x) {a b : Int} (ha : 0 ≤ a ∧ a < 10) (hb : 0 ≤ b ∧ b < 10) (hl : 0 ≤ x 14 b ∧ x 14 b < 4) : Ok (ptB (unX x a) a b) := by
  refine ⟨h.n, h.b, h.w, h.s, h.e, h.r5, h.r6, h.r7, h.r8, h.r9, h.r10, h.r11, fun i h0 h1 => ?_, fun i h0 h1 => ?_, fun i h0 h1 => ?_, unp_in h.r16⟩
  · have := h.r13 i h0 h1
    show 0 ≤ updI (x 13) _ _ i ∧ updI (x 13) _ _ i ≤ 9
    unfold updI
    split <;> omega
  · have := h.r14 i h0 h1
    show 0 ≤ updI (x 14) b (x 14 b + 1) i ∧ updI (x 14) b (x 14 b + 1) i ≤ 4
    unfold updI
    split <;> omega
  · have := h.r15 i h0 h1
    show -1 ≤ updI (x 15) _ _ i ∧ updI (x 15) _ _ i ≤ 9
    unfold updI
    split <;> omega
set_option maxRecDepth 100000 in
set_option maxHeartbeats 4000000 in
theorem m_Tw_join {l : Launch} {D : va_G} {cI cZ cJ : ClassId} {base : Nat} {ad : Nat → Nat} (x : Bk) (a b : Int) (ha : InR a) (hb : InR b) (hok : Ok x) (hs : sym x) (hrw : rows x) : Cn l D cls9 (tyl cI cZ cJ) base (zz base) y_Tw_join (wz y_Tw_join c_Tw_join 3 (some FieldType.int)) ({ frames := 3, cells := 0, slots := 0, locals := 67 } : Room) [.ref (ad 0), .int (iI a), .int (iI b)] (mw ad cI cZ x) (fun r w => ∃ z : Bk, w = mw ad cI cZ z ∧ ((z 0 0 = 1 ∧ (¬ ((0 ≤ a ∧ a < x 1 0) ∧ (0 ≤ b ∧ b < x 3 0))) ∧ r = some (0) ∧ e0 z x) ∨ (z 0 0 = 2 ∧ (((0 ≤ a ∧ a < x 1 0) ∧ (0 ≤ b ∧ b < x 3 0)) ∧ (¬ x 15 a = -1 ∨ ¬ mayC x a b)) ∧ r = some (0) ∧ e0 z x) ∨ (z 0 0 = 3 ∧ ((((0 ≤ a ∧ a < x 1 0) ∧ (0 ≤ b ∧ b < x 3 0)) ∧ x 15 a = -1 ∧ mayC x a b) ∧ 4 ≤ x 14 b) ∧ r = some (0) ∧ e0 z x) ∨ (z 0 0 = 0 ∧ (((0 ≤ a ∧ a < x 1 0) ∧ (0 ≤ b ∧ b < x 3 0)) ∧ x 15 a = -1 ∧ mayC x a b ∧ ¬ 4 ≤ x 14 b) ∧ r = some (wayB (ptB (unX x a) a b) b) ∧ e0 z (ptB (unX x a) a b)))) 0 0 := by
  refine Cn_of (zzG base) (by decide) rfl (Nat.le_of_ble_eq_true rfl) ?_
  intro p e s m args below meth c A C hr hA hnm
  have C : gC p s m args meth c D cls9 (tyl cI cZ cJ) A c_Tw_join 3 "BatchSavingsModel" (wz y_Tw_join c_Tw_join 3 (some FieldType.int)) base (zz base) := C
  refine g_lve (lv' := [(0, .ref (ad 0)), (1, .int (iI a)), (2, .int (iI b))]) rfl ?_
  have hn := hok.n
  have hb3 := hok.b
  refine g_aload_n C (q := 0) d_Tw_join_0 rfl rfl ?_
  refine g_aload_n C (q := 0) d_Tw_join_1 rfl rfl ?_
  refine g_iload_n C (q := 1) d_Tw_join_2 rfl rfl ?_
  refine gV C (st := [.ref (ad 0)]) (m_Tw_isOrder x a (by omega) (show 0 ≤ (x 1 0) ∧ (x 1 0) ≤ 10 by omega)) k_721 k_718 k_720 kp_45 k_7 rfl ho_Tw_isOrder rfl rfl ⟨by decide, by decide⟩ 0 (mwo_0 _) rfl rfl rfl (Nat.le_of_ble_eq_true rfl) d_Tw_join_3 ⟨by decide, by decide⟩ (fun r w hq => ?_)
  obtain ⟨rfl, rfl⟩ := hq
  refine g_eq (ws' := mw ad cI cZ x) (lv' := [(0, .ref (ad 0)), (1, .int (iI a)), (2, .int (iI b))]) (pc' := 6) (st' := [.int (iI (b01 (0 ≤ a ∧ a < (x 1 0)))), .ref (ad 0)]) rfl rfl rfl rfl ?_
  by_cases hb3_1 : (0 ≤ a ∧ a < (x 1 0))
  · refine g_st (st' := [.int (iI 1), .ref (ad 0)]) (by rw [b01_t hb3_1]) ?_
    refine g_if_eq C (tgt := 17) d_Tw_join_6 rfl (by omega) (fun h6_2 => ?_) (fun h6_2 => ?_)
    · exfalso
      omega
    · refine g_aload_n C (q := 0) d_Tw_join_9 rfl rfl ?_
      refine g_iload_n C (q := 2) d_Tw_join_10 rfl rfl ?_
      refine gV C (st := [.ref (ad 0)]) (m_Tw_isBatch x b (by omega) (show 0 ≤ (x 3 0) ∧ (x 3 0) ≤ 10 by omega)) k_816 k_813 k_815 kp_58 k_7 rfl ho_Tw_isBatch rfl rfl ⟨by decide, by decide⟩ 0 (mwo_0 _) rfl rfl rfl (Nat.le_of_ble_eq_true rfl) d_Tw_join_11 ⟨by decide, by decide⟩ (fun r w hq => ?_)
      obtain ⟨rfl, rfl⟩ := hq
      refine g_eq (ws' := mw ad cI cZ x) (lv' := [(0, .ref (ad 0)), (1, .int (iI a)), (2, .int (iI b))]) (pc' := 14) (st' := [.int (iI (b01 (0 ≤ b ∧ b < (x 3 0)))), .ref (ad 0)]) rfl rfl rfl rfl ?_
      by_cases hb11_3 : (0 ≤ b ∧ b < (x 3 0))
      · refine g_st (st' := [.int (iI 1), .ref (ad 0)]) (by rw [b01_t hb11_3]) ?_
        refine g_if_ne C (tgt := 21) d_Tw_join_14 rfl (by omega) (fun h14_4 => ?_) (fun h14_4 => ?_)
        · refine g_iconst C d_Tw_join_21 ?_
          refine gP C 0 0 t_Tw to_Tw n_Tw u_Tw k_648 (mwo_0 _) rfl (by decide) rfl rfl rfl rfl rfl (Nat.le_of_ble_eq_true rfl) d_Tw_join_22 (mwf_0_0 _ _) ?_
          refine g_ws (ws' := mw ad cI cZ (bu x 0 (updI (x 0) 0 0))) rfl ?_
          refine g_aload_n C (q := 0) d_Tw_join_25 rfl rfl ?_
          refine gG C (v := .int (iI 0)) 0 0 u_Tw k_648 (mwo_0 _) rfl (by decide) rfl rfl d_Tw_join_26 ?_
          refine g_if_ne C (tgt := 72) d_Tw_join_29 rfl (by omega) (fun h29_5 => ?_) (fun h29_5 => ?_)
          · exfalso
            omega
          · refine g_aload_n C (q := 0) d_Tw_join_32 rfl rfl ?_
            refine g_aload_n C (q := 0) d_Tw_join_33 rfl rfl ?_
            refine g_iload_n C (q := 1) d_Tw_join_34 rfl rfl ?_
            have h15 := hok.r15 a (by omega) (by omega)
            have h16 := hok.r16 a (by omega) (by omega)
            have h14 := hok.r14 b (by omega) (by omega)
            refine gV C (st := [.ref (ad 0)]) (m_Tw_isFree (bu x 0 (updI (x 0) 0 0)) a (by omega) (show InR (x 15 a) by omega)) k_749 k_746 k_748 kp_49 k_7 rfl ho_Tw_isFree rfl rfl ⟨by decide, by decide⟩ 0 (mwo_0 _) rfl rfl rfl (Nat.le_of_ble_eq_true rfl) d_Tw_join_35 ⟨by decide, by decide⟩ (fun r w hq => ?_)
            obtain ⟨rfl, rfl⟩ := hq
            refine g_eq (ws' := mw ad cI cZ (bu x 0 (updI (x 0) 0 0))) (lv' := [(0, .ref (ad 0)), (1, .int (iI a)), (2, .int (iI b))]) (pc' := 38) (st' := [.int (iI (b01 ((x 15 a) = -1))), .ref (ad 0)]) rfl rfl rfl rfl ?_
            by_cases hb35_6 : ((x 15 a) = -1)
            · refine g_st (st' := [.int (iI 1), .ref (ad 0)]) (by rw [b01_t hb35_6]) ?_
              refine g_if_eq C (tgt := 50) d_Tw_join_38 rfl (by omega) (fun h38_7 => ?_) (fun h38_7 => ?_)
              · exfalso
                omega
              · refine g_aload_n C (q := 0) d_Tw_join_41 rfl rfl ?_
                refine g_iload_n C (q := 1) d_Tw_join_42 rfl rfl ?_
                refine g_iload_n C (q := 2) d_Tw_join_43 rfl rfl ?_
                refine gV C (st := [.ref (ad 0)]) (m_Tw_mayCome (bu x 0 (updI (x 0) 0 0)) a b (show 0 ≤ a ∧ a < x 1 0 by omega) (by omega) (hs.e0 (e0.sc (e0.rf x) _)) (hok.e0 (e0.sc (e0.rf x) _)) (hrw.at (by omega) (by omega)) (hrw b (by omega) (by omega)).2) k_820 k_817 k_819 kp_59 k_7 rfl ho_Tw_mayCome rfl rfl ⟨by decide, by decide⟩ 0 (mwo_0 _) rfl rfl rfl (Nat.le_of_ble_eq_true rfl) d_Tw_join_44 ⟨by decide, by decide⟩ (fun r w hq => ?_)
                obtain ⟨rfl, rfl⟩ := hq
                refine g_eq (ws' := mw ad cI cZ (bu x 0 (updI (x 0) 0 0))) (lv' := [(0, .ref (ad 0)), (1, .int (iI a)), (2, .int (iI b))]) (pc' := 47) (st' := [.int (iI (c01 (mayC x a b))), .ref (ad 0)]) rfl rfl rfl rfl ?_
                by_cases hb44_8 : (mayC x a b)
                · refine g_st (st' := [.int (iI 1), .ref (ad 0)]) (by rw [c01_t hb44_8]) ?_
                  refine g_if_ne C (tgt := 54) d_Tw_join_47 rfl (by omega) (fun h47_9 => ?_) (fun h47_9 => ?_)
                  · refine g_aload_n C (q := 0) d_Tw_join_54 rfl rfl ?_
                    refine gG C (v := .ref (ad 9)) 0 14 u_Tw k_662 (mwo_0 _) rfl (by decide) rfl rfl d_Tw_join_55 ?_
                    refine g_iload_n C (q := 2) d_Tw_join_58 rfl rfl ?_
                    refine g_iald C 9 0 (mwa_9 _) rfl (by decide) (by omega) d_Tw_join_59 ?_
                    refine g_st (st' := [.int (iI (x 14 b)), .ref (ad 0)]) rfl ?_
                    refine g_iconst C d_Tw_join_60 ?_
                    refine g_icmp_ne C (tgt := 68) d_Tw_join_61 rfl (by omega) (by omega) (fun h61_10 => ?_) (fun h61_10 => ?_)
                    · refine g_iconst C d_Tw_join_68 ?_
                      refine gP C 0 0 t_Tw to_Tw n_Tw u_Tw k_648 (mwo_0 _) rfl (by decide) rfl rfl rfl rfl rfl (Nat.le_of_ble_eq_true rfl) d_Tw_join_69 (mwf_0_0 _ _) ?_
                      refine g_ws (ws' := mw ad cI cZ (bu (bu x 0 (updI (x 0) 0 0)) 0 (updI (updI (x 0) 0 0) 0 0))) rfl ?_
                      refine g_aload_n C (q := 0) d_Tw_join_72 rfl rfl ?_
                      refine gG C (v := .int (iI 0)) 0 0 u_Tw k_648 (mwo_0 _) rfl (by decide) rfl rfl d_Tw_join_73 ?_
                      refine g_if_le C (tgt := 81) d_Tw_join_76 rfl (by omega) (fun h76_11 => ?_) (fun h76_11 => ?_)
                      · refine g_aload_n C (q := 0) d_Tw_join_81 rfl rfl ?_
                        refine g_iload_n C (q := 1) d_Tw_join_82 rfl rfl ?_
                        refine g_iload_n C (q := 2) d_Tw_join_83 rfl rfl ?_
                        refine gV C (st := []) (m_Tw_put (bu (bu x 0 (updI (x 0) 0 0)) 0 (updI (updI (x 0) 0 0) 0 0)) a b (by omega) (by omega) (show 0 ≤ x 14 b ∧ x 14 b < 4 by omega) (show -1 ≤ x 16 a ∧ x 16 a < 10 by omega)) k_804 k_801 k_803 kp_56 k_7 rfl ho_Tw_put rfl rfl ⟨by decide, by decide⟩ 0 (mwo_0 _) rfl rfl rfl (Nat.le_of_ble_eq_true rfl) d_Tw_join_84 ⟨by decide, by decide⟩ (fun r w hq => ?_)
                        obtain ⟨rfl, rfl⟩ := hq
                        refine g_eq (ws' := mw ad cI cZ (ptB (unX (bu (bu x 0 (updI (x 0) 0 0)) 0 (updI (updI (x 0) 0 0) 0 0)) a) a b)) (lv' := [(0, .ref (ad 0)), (1, .int (iI a)), (2, .int (iI b))]) (pc' := 87) (st' := []) rfl rfl rfl rfl ?_
                        refine g_aload_n C (q := 0) d_Tw_join_87 rfl rfl ?_
                        refine g_iload_n C (q := 2) d_Tw_join_88 rfl rfl ?_
                        refine gV C (st := []) (m_Tw_way (ptB (unX (bu (bu x 0 (updI (x 0) 0 0)) 0 (updI (updI (x 0) 0 0) 0 0)) a) a b) b (by omega) ((hok.pt (by omega) (by omega) (by omega)).e0 (e0_ptB (e0_unX (e0.sc (e0.sc (e0.rf x) _) _) _) _ _))) k_832 k_829 k_831 kp_62 k_7 rfl ho_Tw_way rfl rfl ⟨by decide, by decide⟩ 0 (mwo_0 _) rfl rfl rfl (Nat.le_of_ble_eq_true rfl) d_Tw_join_89 ⟨by decide, by decide⟩ (fun r w hq => ?_)
                        obtain ⟨rfl, rfl⟩ := hq
                        rw [way_eq]
                        refine g_eq (ws' := mw ad cI cZ (ptB (unX (bu (bu x 0 (updI (x 0) 0 0)) 0 (updI (updI (x 0) 0 0) 0 0)) a) a b)) (lv' := [(0, .ref (ad 0)), (1, .int (iI a)), (2, .int (iI b))]) (pc' := 92) (st' := [.int (iI (wayB (ptB (unX (bu (bu x 0 (updI (x 0) 0 0)) 0 (updI (updI (x 0) 0 0) 0 0)) a) a b) b))]) rfl rfl rfl rfl ?_
                        exact g_iret C hA hr d_Tw_join_92 (by decide) (by decide) ⟨_, rfl, Or.inr (Or.inr (Or.inr ⟨rfl, ⟨by omega, by omega, by assumption, by omega⟩, rfl, e0_ptB (e0_unX (e0.sc (e0.sc (e0.rf x) _) _) _) _ _⟩))⟩
                      · exfalso
                        omega
                    · refine g_iconst C d_Tw_join_64 ?_
                      refine g_goto C (tgt := 69) d_Tw_join_65 rfl ?_
                      refine gP C 0 0 t_Tw to_Tw n_Tw u_Tw k_648 (mwo_0 _) rfl (by decide) rfl rfl rfl rfl rfl (Nat.le_of_ble_eq_true rfl) d_Tw_join_69 (mwf_0_0 _ _) ?_
                      refine g_ws (ws' := mw ad cI cZ (bu (bu x 0 (updI (x 0) 0 0)) 0 (updI (updI (x 0) 0 0) 0 3))) rfl ?_
                      refine g_aload_n C (q := 0) d_Tw_join_72 rfl rfl ?_
                      refine gG C (v := .int (iI 3)) 0 0 u_Tw k_648 (mwo_0 _) rfl (by decide) rfl rfl d_Tw_join_73 ?_
                      refine g_if_le C (tgt := 81) d_Tw_join_76 rfl (by omega) (fun h76_12 => ?_) (fun h76_12 => ?_)
                      · exfalso
                        omega
                      · refine g_iconst C d_Tw_join_79 ?_
                        exact g_iret C hA hr d_Tw_join_80 (by decide) (by decide) ⟨_, rfl, Or.inr (Or.inr (Or.inl (⟨rfl, (by first | omega | exact ⟨by omega, Or.inl (by omega)⟩ | exact ⟨by omega, Or.inr (by assumption)⟩ | exact ⟨⟨by omega, by omega, by assumption⟩, by omega⟩ | exact ⟨by omega, by omega, by assumption, by omega⟩), (by first | rfl | exact congrArg some (by omega)), (e0.sc (e0.sc (e0.rf x) _) _)⟩)))⟩
                  · exfalso
                    omega
                · refine g_st (st' := [.int (iI 0), .ref (ad 0)]) (by rw [c01_f hb44_8]) ?_
                  refine g_if_ne C (tgt := 54) d_Tw_join_47 rfl (by omega) (fun h47_13 => ?_) (fun h47_13 => ?_)
                  · exfalso
                    omega
                  · refine g_iconst C d_Tw_join_50 ?_
                    refine g_goto C (tgt := 69) d_Tw_join_51 rfl ?_
                    refine gP C 0 0 t_Tw to_Tw n_Tw u_Tw k_648 (mwo_0 _) rfl (by decide) rfl rfl rfl rfl rfl (Nat.le_of_ble_eq_true rfl) d_Tw_join_69 (mwf_0_0 _ _) ?_
                    refine g_ws (ws' := mw ad cI cZ (bu (bu x 0 (updI (x 0) 0 0)) 0 (updI (updI (x 0) 0 0) 0 2))) rfl ?_
                    refine g_aload_n C (q := 0) d_Tw_join_72 rfl rfl ?_
                    refine gG C (v := .int (iI 2)) 0 0 u_Tw k_648 (mwo_0 _) rfl (by decide) rfl rfl d_Tw_join_73 ?_
                    refine g_if_le C (tgt := 81) d_Tw_join_76 rfl (by omega) (fun h76_14 => ?_) (fun h76_14 => ?_)
                    · exfalso
                      omega
                    · refine g_iconst C d_Tw_join_79 ?_
                      exact g_iret C hA hr d_Tw_join_80 (by decide) (by decide) ⟨_, rfl, Or.inr (Or.inl (⟨rfl, (by first | omega | exact ⟨by omega, Or.inl (by omega)⟩ | exact ⟨by omega, Or.inr (by assumption)⟩ | exact ⟨⟨by omega, by omega, by assumption⟩, by omega⟩ | exact ⟨by omega, by omega, by assumption, by omega⟩), (by first | rfl | exact congrArg some (by omega)), (e0.sc (e0.sc (e0.rf x) _) _)⟩))⟩
            · refine g_st (st' := [.int (iI 0), .ref (ad 0)]) (by rw [b01_f hb35_6]) ?_
              refine g_if_eq C (tgt := 50) d_Tw_join_38 rfl (by omega) (fun h38_15 => ?_) (fun h38_15 => ?_)
              · refine g_iconst C d_Tw_join_50 ?_
                refine g_goto C (tgt := 69) d_Tw_join_51 rfl ?_
                refine gP C 0 0 t_Tw to_Tw n_Tw u_Tw k_648 (mwo_0 _) rfl (by decide) rfl rfl rfl rfl rfl (Nat.le_of_ble_eq_true rfl) d_Tw_join_69 (mwf_0_0 _ _) ?_
                refine g_ws (ws' := mw ad cI cZ (bu (bu x 0 (updI (x 0) 0 0)) 0 (updI (updI (x 0) 0 0) 0 2))) rfl ?_
                refine g_aload_n C (q := 0) d_Tw_join_72 rfl rfl ?_
                refine gG C (v := .int (iI 2)) 0 0 u_Tw k_648 (mwo_0 _) rfl (by decide) rfl rfl d_Tw_join_73 ?_
                refine g_if_le C (tgt := 81) d_Tw_join_76 rfl (by omega) (fun h76_16 => ?_) (fun h76_16 => ?_)
                · exfalso
                  omega
                · refine g_iconst C d_Tw_join_79 ?_
                  exact g_iret C hA hr d_Tw_join_80 (by decide) (by decide) ⟨_, rfl, Or.inr (Or.inl (⟨rfl, (by first | omega | exact ⟨by omega, Or.inl (by omega)⟩ | exact ⟨by omega, Or.inr (by assumption)⟩ | exact ⟨⟨by omega, by omega, by assumption⟩, by omega⟩ | exact ⟨by omega, by omega, by assumption, by omega⟩), (by first | rfl | exact congrArg some (by omega)), (e0.sc (e0.sc (e0.rf x) _) _)⟩))⟩
              · exfalso
                omega
        · exfalso
          omega
      · refine g_st (st' := [.int (iI 0), .ref (ad 0)]) (by rw [b01_f hb11_3]) ?_
        refine g_if_ne C (tgt := 21) d_Tw_join_14 rfl (by omega) (fun h14_17 => ?_) (fun h14_17 => ?_)
        · exfalso
          omega
        · refine g_iconst C d_Tw_join_17 ?_
          refine g_goto C (tgt := 22) d_Tw_join_18 rfl ?_
          refine gP C 0 0 t_Tw to_Tw n_Tw u_Tw k_648 (mwo_0 _) rfl (by decide) rfl rfl rfl rfl rfl (Nat.le_of_ble_eq_true rfl) d_Tw_join_22 (mwf_0_0 _ _) ?_
          refine g_ws (ws' := mw ad cI cZ (bu x 0 (updI (x 0) 0 1))) rfl ?_
          refine g_aload_n C (q := 0) d_Tw_join_25 rfl rfl ?_
          refine gG C (v := .int (iI 1)) 0 0 u_Tw k_648 (mwo_0 _) rfl (by decide) rfl rfl d_Tw_join_26 ?_
          refine g_if_ne C (tgt := 72) d_Tw_join_29 rfl (by omega) (fun h29_18 => ?_) (fun h29_18 => ?_)
          · refine g_aload_n C (q := 0) d_Tw_join_72 rfl rfl ?_
            refine gG C (v := .int (iI 1)) 0 0 u_Tw k_648 (mwo_0 _) rfl (by decide) rfl rfl d_Tw_join_73 ?_
            refine g_if_le C (tgt := 81) d_Tw_join_76 rfl (by omega) (fun h76_19 => ?_) (fun h76_19 => ?_)
            · exfalso
              omega
            · refine g_iconst C d_Tw_join_79 ?_
              exact g_iret C hA hr d_Tw_join_80 (by decide) (by decide) ⟨_, rfl, Or.inl (⟨rfl, (by first | omega | exact ⟨by omega, Or.inl (by omega)⟩ | exact ⟨by omega, Or.inr (by assumption)⟩ | exact ⟨⟨by omega, by omega, by assumption⟩, by omega⟩ | exact ⟨by omega, by omega, by assumption, by omega⟩), (by first | rfl | exact congrArg some (by omega)), (e0.sc (e0.rf x) _)⟩)⟩
          · exfalso
            omega
  · refine g_st (st' := [.int (iI 0), .ref (ad 0)]) (by rw [b01_f hb3_1]) ?_
    refine g_if_eq C (tgt := 17) d_Tw_join_6 rfl (by omega) (fun h6_20 => ?_) (fun h6_20 => ?_)
    · refine g_iconst C d_Tw_join_17 ?_
      refine g_goto C (tgt := 22) d_Tw_join_18 rfl ?_
      refine gP C 0 0 t_Tw to_Tw n_Tw u_Tw k_648 (mwo_0 _) rfl (by decide) rfl rfl rfl rfl rfl (Nat.le_of_ble_eq_true rfl) d_Tw_join_22 (mwf_0_0 _ _) ?_
      refine g_ws (ws' := mw ad cI cZ (bu x 0 (updI (x 0) 0 1))) rfl ?_
      refine g_aload_n C (q := 0) d_Tw_join_25 rfl rfl ?_
      refine gG C (v := .int (iI 1)) 0 0 u_Tw k_648 (mwo_0 _) rfl (by decide) rfl rfl d_Tw_join_26 ?_
      refine g_if_ne C (tgt := 72) d_Tw_join_29 rfl (by omega) (fun h29_21 => ?_) (fun h29_21 => ?_)
      · refine g_aload_n C (q := 0) d_Tw_join_72 rfl rfl ?_
        refine gG C (v := .int (iI 1)) 0 0 u_Tw k_648 (mwo_0 _) rfl (by decide) rfl rfl d_Tw_join_73 ?_
        refine g_if_le C (tgt := 81) d_Tw_join_76 rfl (by omega) (fun h76_22 => ?_) (fun h76_22 => ?_)
        · exfalso
          omega
        · refine g_iconst C d_Tw_join_79 ?_
          exact g_iret C hA hr d_Tw_join_80 (by decide) (by decide) ⟨_, rfl, Or.inl (⟨rfl, (by first | omega | exact ⟨by omega, Or.inl (by omega)⟩ | exact ⟨by omega, Or.inr (by assumption)⟩ | exact ⟨⟨by omega, by omega, by assumption⟩, by omega⟩ | exact ⟨by omega, by omega, by assumption, by omega⟩), (by first | rfl | exact congrArg some (by omega)), (e0.sc (e0.rf x) _)⟩)⟩
      · exfalso
        omega
    · exfalso
      omega
set_option maxRecDepth 100000 in
set_option maxHeartbeats 4000000 in
theorem lp_Tw_leave {p : Program} {l : Launch} {e : Env} {s : State} {m : MethodId} {args : Array Value} {below : List Frame} {meth : Method} {c : Code} {D : va_G} {cI cZ cJ : ClassId} {base : Nat} {ad : Nat → Nat} {A : Nat → Prop} {Q : State → Prop} (C : gC p s m args meth c D cls9 (tyl cI cZ cJ) A c_Tw_leave 6 "BatchSavingsModel" (wz y_Tw_leave c_Tw_leave 6 (some FieldType.int)) base (zz base)) (x : Bk) (a b : Int) (ha : 0 ≤ a ∧ a < 10) (hb : 0 ≤ b ∧ b < 10) (hok : Ok x)
    (K : gW p l e ({ frames := 2, cells := 0, slots := 0, locals := 43 } : Room) s m args below meth c D cls9 A 6 0 0 Q (mw ad cI cZ (bu x 13 ((tk b a (x 13) ((x 14 b).toNat)).1))) [(0, .ref (ad 0)), (1, .int (iI a)), (2, .int (iI b)), (3, .int (iI ((tk b a (x 13) ((x 14 b).toNat)).2))), (4, .int (iI ((x 14 b).toNat : Int)))] 116 []) : ∀ (d k : Nat), (k : Int) + (d : Int) = x 14 b → gW p l e ({ frames := 2, cells := 0, slots := 0, locals := 43 } : Room) s m args below meth c D cls9 A 6 0 0 Q (mw ad cI cZ (bu x 13 ((tk b a (x 13) k).1))) [(0, .ref (ad 0)), (1, .int (iI a)), (2, .int (iI b)), (3, .int (iI ((tk b a (x 13) k).2))), (4, .int (iI (k : Int)))] 62 [] := by
  intro d
  induction d with
  | zero =>
    intro k hk
    have h14 := hok.r14 b hb.1 hb.2
    refine g_iload C (q := 4) d_Tw_leave_62 rfl ?_
    refine g_aload_n C (q := 0) d_Tw_leave_64 rfl rfl ?_
    refine gG C (v := .ref (ad 9)) 0 14 u_Tw k_662 (mwo_0 _) rfl (by decide) rfl rfl d_Tw_leave_65 ?_
    refine g_iload_n C (q := 2) d_Tw_leave_68 rfl rfl ?_
    refine g_iald C 9 0 (mwa_9 _) rfl (by decide) (by omega) d_Tw_leave_69 ?_
    refine g_st (st' := [.int (iI (x 14 b)), .int (iI (k : Int))]) rfl ?_
    refine g_icmp_ge C (tgt := 116) d_Tw_leave_70 rfl (by omega) (by omega) (fun h70_1 => ?_) (fun h70_1 => ?_)
    · obtain rfl : k = (x 14 b).toNat := by omega
      exact K
    · exfalso
      omega
  | succ d ih =>
    intro k hk
    have h14 := hok.r14 b hb.1 hb.2
    have htn := tk_n b a (x 13) k
    have hti := tk_in (a := a) hok.l13 k hb (by omega) (b * 4 + (k : Int)) (by omega) (by omega)
    refine g_iload C (q := 4) d_Tw_leave_62 rfl ?_
    refine g_aload_n C (q := 0) d_Tw_leave_64 rfl rfl ?_
    refine gG C (v := .ref (ad 9)) 0 14 u_Tw k_662 (mwo_0 _) rfl (by decide) rfl rfl d_Tw_leave_65 ?_
    refine g_iload_n C (q := 2) d_Tw_leave_68 rfl rfl ?_
    refine g_iald C 9 0 (mwa_9 _) rfl (by decide) (by omega) d_Tw_leave_69 ?_
    refine g_st (st' := [.int (iI (x 14 b)), .int (iI (k : Int))]) rfl ?_
    refine g_icmp_ge C (tgt := 116) d_Tw_leave_70 rfl (by omega) (by omega) (fun h70_1 => ?_) (fun h70_1 => ?_)
    · exfalso
      omega
    · refine g_aload_n C (q := 0) d_Tw_leave_73 rfl rfl ?_
      refine gG C (v := .ref (ad 10)) 0 15 u_Tw k_663 (mwo_0 _) rfl (by decide) rfl rfl d_Tw_leave_74 ?_
      refine g_iconst C d_Tw_leave_77 ?_
      refine g_iload_n C (q := 2) d_Tw_leave_78 rfl rfl ?_
      refine g_imul C d_Tw_leave_79 ?_
      refine g_iload C (q := 4) d_Tw_leave_80 rfl ?_
      refine g_iadd C d_Tw_leave_82 ?_
      refine g_iald C 10 0 (mwa_10 _) rfl (by decide) (by omega) d_Tw_leave_83 ?_
      refine g_st (st' := [.int (iI (((tk b a (x 13) k).1) ((4 * b) + (k : Int))))]) rfl ?_
      refine g_st (st' := [.int (iI (((tk b a (x 13) k).1) ((b * 4) + (k : Int))))]) (by rw [Int.mul_comm 4 b]) ?_
      refine g_istore C (lv' := [(0, .ref (ad 0)), (1, .int (iI a)), (2, .int (iI b)), (3, .int (iI ((tk b a (x 13) k).2))), (4, .int (iI (k : Int))), (5, .int (iI (((tk b a (x 13) k).1) ((b * 4) + (k : Int)))))]) d_Tw_leave_84 (by decide) rfl rfl ?_
      refine g_iload C (q := 5) d_Tw_leave_86 rfl ?_
      refine g_iload_n C (q := 1) d_Tw_leave_88 rfl rfl ?_
      refine g_icmp_ne C (tgt := 95) d_Tw_leave_89 rfl (by omega) (by omega) (fun h89_2 => ?_) (fun h89_2 => ?_)
      · refine g_aload_n C (q := 0) d_Tw_leave_95 rfl rfl ?_
        refine gG C (v := .ref (ad 10)) 0 15 u_Tw k_663 (mwo_0 _) rfl (by decide) rfl rfl d_Tw_leave_96 ?_
        refine g_iconst C d_Tw_leave_99 ?_
        refine g_iload_n C (q := 2) d_Tw_leave_100 rfl rfl ?_
        refine g_imul C d_Tw_leave_101 ?_
        refine g_iload_n C (q := 3) d_Tw_leave_102 rfl rfl ?_
        refine g_iadd C d_Tw_leave_103 ?_
        refine g_st (st' := [.int (iI ((b * 4) + (tk b a (x 13) k).2)), .ref (ad 10)]) (by rw [Int.mul_comm 4 b]) ?_
        refine g_iload C (q := 5) d_Tw_leave_104 rfl ?_
        refine g_iast C 10 0 (mwa_10 _) rfl (by decide) (by omega) d_Tw_leave_106 (mws_10 _ _) ?_
        refine g_ws (ws' := mw ad cI cZ (bu (bu x 13 ((tk b a (x 13) k).1)) 13 (updI ((tk b a (x 13) k).1) ((b * 4) + (tk b a (x 13) k).2) (((tk b a (x 13) k).1) ((b * 4) + (k : Int)))))) rfl ?_
        refine g_iinc C (q := 3) (lv' := [(0, .ref (ad 0)), (1, .int (iI a)), (2, .int (iI b)), (3, .int (iI ((tk b a (x 13) k).2 + 1))), (4, .int (iI (k : Int))), (5, .int (iI (((tk b a (x 13) k).1) ((b * 4) + (k : Int)))))]) d_Tw_leave_107 rfl (by decide) rfl rfl ?_
        refine g_lv (lv' := [(0, .ref (ad 0)), (1, .int (iI a)), (2, .int (iI b)), (3, .int (iI ((tk b a (x 13) k).2 + 1))), (4, .int (iI (k : Int)))]) [0, 1, 2, 3, 4] rfl ?_
        refine g_eq (ws' := mw ad cI cZ (bu x 13 ((tk b a (x 13) (k + 1)).1))) (lv' := [(0, .ref (ad 0)), (1, .int (iI a)), (2, .int (iI b)), (3, .int (iI ((tk b a (x 13) (k + 1)).2))), (4, .int (iI (k : Int)))]) (pc' := 110) (st' := []) (by first | (rw [tk_t _ _ _ _ (by assumption)]; done) | (rw [tk_f _ _ _ _ (by assumption)]; rfl)) (by first | (rw [tk_t _ _ _ _ (by assumption)]; done) | (rw [tk_f _ _ _ _ (by assumption)]; done)) rfl rfl ?_
        refine g_iinc C (q := 4) (lv' := [(0, .ref (ad 0)), (1, .int (iI a)), (2, .int (iI b)), (3, .int (iI ((tk b a (x 13) (k + 1)).2))), (4, .int (iI ((k : Int) + 1)))]) d_Tw_leave_110 rfl (by decide) rfl rfl ?_
        refine g_goto C (tgt := 62) d_Tw_leave_113 rfl ?_
        exact ih (k + 1) (by omega)
      · refine g_goto C (tgt := 110) d_Tw_leave_92 rfl ?_
        refine g_lv (lv' := [(0, .ref (ad 0)), (1, .int (iI a)), (2, .int (iI b)), (3, .int (iI ((tk b a (x 13) k).2))), (4, .int (iI (k : Int)))]) [0, 1, 2, 3, 4] rfl ?_
        refine g_eq (ws' := mw ad cI cZ (bu x 13 ((tk b a (x 13) (k + 1)).1))) (lv' := [(0, .ref (ad 0)), (1, .int (iI a)), (2, .int (iI b)), (3, .int (iI ((tk b a (x 13) (k + 1)).2))), (4, .int (iI (k : Int)))]) (pc' := 110) (st' := []) (by first | (rw [tk_t _ _ _ _ (by assumption)]; done) | (rw [tk_f _ _ _ _ (by assumption)]; rfl)) (by first | (rw [tk_t _ _ _ _ (by assumption)]; done) | (rw [tk_f _ _ _ _ (by assumption)]; done)) rfl rfl ?_
        refine g_iinc C (q := 4) (lv' := [(0, .ref (ad 0)), (1, .int (iI a)), (2, .int (iI b)), (3, .int (iI ((tk b a (x 13) (k + 1)).2))), (4, .int (iI ((k : Int) + 1)))]) d_Tw_leave_110 rfl (by decide) rfl rfl ?_
        refine g_goto C (tgt := 62) d_Tw_leave_113 rfl ?_
        exact ih (k + 1) (by omega)
set_option maxRecDepth 100000 in
set_option maxHeartbeats 4000000 in
theorem m_Tw_leave {l : Launch} {D : va_G} {cI cZ cJ : ClassId} {base : Nat} {ad : Nat → Nat} (x : Bk) (a : Int) (ha : InR a) (hok : Ok x) : Cn l D cls9 (tyl cI cZ cJ) base (zz base) y_Tw_leave (wz y_Tw_leave c_Tw_leave 6 (some FieldType.int)) ({ frames := 2, cells := 0, slots := 0, locals := 43 } : Room) [.ref (ad 0), .int (iI a)] (mw ad cI cZ x) (fun r w => ∃ z : Bk, w = mw ad cI cZ z ∧ ((z 0 0 = 1 ∧ (¬ (0 ≤ a ∧ a < x 1 0)) ∧ r = some (0) ∧ e0 z x) ∨ (z 0 0 = 2 ∧ ((0 ≤ a ∧ a < x 1 0) ∧ x 15 a = -1) ∧ r = some (0) ∧ e0 z x) ∨ (z 0 0 = 0 ∧ ((0 ≤ a ∧ a < x 1 0) ∧ ¬ x 15 a = -1) ∧ r = some ((tk (x 15 a) a (x 13) (x 14 (x 15 a)).toNat).2) ∧ e0 z (leX x a)))) 0 0 := by
  refine Cn_of (zzG base) (by decide) rfl (Nat.le_of_ble_eq_true rfl) ?_
  intro p e s m args below meth c A C hr hA hnm
  have C : gC p s m args meth c D cls9 (tyl cI cZ cJ) A c_Tw_leave 6 "BatchSavingsModel" (wz y_Tw_leave c_Tw_leave 6 (some FieldType.int)) base (zz base) := C
  refine g_lve (lv' := [(0, .ref (ad 0)), (1, .int (iI a))]) rfl ?_
  have hn := hok.n
  refine g_aload_n C (q := 0) d_Tw_leave_0 rfl rfl ?_
  refine g_aload_n C (q := 0) d_Tw_leave_1 rfl rfl ?_
  refine g_iload_n C (q := 1) d_Tw_leave_2 rfl rfl ?_
  refine gV C (st := [.ref (ad 0)]) (m_Tw_isOrder x a (by omega) (show 0 ≤ (x 1 0) ∧ (x 1 0) ≤ 10 by omega)) k_721 k_718 k_720 kp_45 k_7 rfl ho_Tw_isOrder rfl rfl ⟨by decide, by decide⟩ 0 (mwo_0 _) rfl rfl rfl (Nat.le_of_ble_eq_true rfl) d_Tw_leave_3 ⟨by decide, by decide⟩ (fun r w hq => ?_)
  obtain ⟨rfl, rfl⟩ := hq
  refine g_eq (ws' := mw ad cI cZ x) (lv' := [(0, .ref (ad 0)), (1, .int (iI a))]) (pc' := 6) (st' := [.int (iI (b01 (0 ≤ a ∧ a < (x 1 0)))), .ref (ad 0)]) rfl rfl rfl rfl ?_
  by_cases hb3_1 : (0 ≤ a ∧ a < (x 1 0))
  · refine g_st (st' := [.int (iI 1), .ref (ad 0)]) (by rw [b01_t hb3_1]) ?_
    refine g_if_ne C (tgt := 13) d_Tw_leave_6 rfl (by omega) (fun h6_2 => ?_) (fun h6_2 => ?_)
    · refine g_iconst C d_Tw_leave_13 ?_
      refine gP C 0 0 t_Tw to_Tw n_Tw u_Tw k_648 (mwo_0 _) rfl (by decide) rfl rfl rfl rfl rfl (Nat.le_of_ble_eq_true rfl) d_Tw_leave_14 (mwf_0_0 _ _) ?_
      refine g_ws (ws' := mw ad cI cZ (bu x 0 (updI (x 0) 0 0))) rfl ?_
      refine g_aload_n C (q := 0) d_Tw_leave_17 rfl rfl ?_
      refine gG C (v := .int (iI 0)) 0 0 u_Tw k_648 (mwo_0 _) rfl (by decide) rfl rfl d_Tw_leave_18 ?_
      refine g_if_ne C (tgt := 41) d_Tw_leave_21 rfl (by omega) (fun h21_3 => ?_) (fun h21_3 => ?_)
      · exfalso
        omega
      · refine g_aload_n C (q := 0) d_Tw_leave_24 rfl rfl ?_
        refine g_aload_n C (q := 0) d_Tw_leave_25 rfl rfl ?_
        refine g_iload_n C (q := 1) d_Tw_leave_26 rfl rfl ?_
        have h15 := hok.r15 a (by omega) (by omega)
        refine gV C (st := [.ref (ad 0)]) (m_Tw_isFree (bu x 0 (updI (x 0) 0 0)) a (by omega) (show InR (x 15 a) by omega)) k_749 k_746 k_748 kp_49 k_7 rfl ho_Tw_isFree rfl rfl ⟨by decide, by decide⟩ 0 (mwo_0 _) rfl rfl rfl (Nat.le_of_ble_eq_true rfl) d_Tw_leave_27 ⟨by decide, by decide⟩ (fun r w hq => ?_)
        obtain ⟨rfl, rfl⟩ := hq
        refine g_eq (ws' := mw ad cI cZ (bu x 0 (updI (x 0) 0 0))) (lv' := [(0, .ref (ad 0)), (1, .int (iI a))]) (pc' := 30) (st' := [.int (iI (b01 ((x 15 a) = -1))), .ref (ad 0)]) rfl rfl rfl rfl ?_
        by_cases hb27_4 : ((x 15 a) = -1)
        · refine g_st (st' := [.int (iI 1), .ref (ad 0)]) (by rw [b01_t hb27_4]) ?_
          refine g_if_eq C (tgt := 37) d_Tw_leave_30 rfl (by omega) (fun h30_5 => ?_) (fun h30_5 => ?_)
          · exfalso
            omega
          · refine g_iconst C d_Tw_leave_33 ?_
            refine g_goto C (tgt := 38) d_Tw_leave_34 rfl ?_
            refine gP C 0 0 t_Tw to_Tw n_Tw u_Tw k_648 (mwo_0 _) rfl (by decide) rfl rfl rfl rfl rfl (Nat.le_of_ble_eq_true rfl) d_Tw_leave_38 (mwf_0_0 _ _) ?_
            refine g_ws (ws' := mw ad cI cZ (bu (bu x 0 (updI (x 0) 0 0)) 0 (updI (updI (x 0) 0 0) 0 2))) rfl ?_
            refine g_aload_n C (q := 0) d_Tw_leave_41 rfl rfl ?_
            refine gG C (v := .int (iI 2)) 0 0 u_Tw k_648 (mwo_0 _) rfl (by decide) rfl rfl d_Tw_leave_42 ?_
            refine g_if_le C (tgt := 50) d_Tw_leave_45 rfl (by omega) (fun h45_6 => ?_) (fun h45_6 => ?_)
            · exfalso
              omega
            · refine g_iconst C d_Tw_leave_48 ?_
              exact g_iret C hA hr d_Tw_leave_49 (by decide) (by decide) ⟨_, rfl, Or.inr (Or.inl (⟨rfl, (by omega), (by first | rfl | exact congrArg some (by omega)), (e0.sc (e0.sc (e0.rf x) _) _)⟩))⟩
        · refine g_st (st' := [.int (iI 0), .ref (ad 0)]) (by rw [b01_f hb27_4]) ?_
          refine g_if_eq C (tgt := 37) d_Tw_leave_30 rfl (by omega) (fun h30_7 => ?_) (fun h30_7 => ?_)
          · refine g_iconst C d_Tw_leave_37 ?_
            refine gP C 0 0 t_Tw to_Tw n_Tw u_Tw k_648 (mwo_0 _) rfl (by decide) rfl rfl rfl rfl rfl (Nat.le_of_ble_eq_true rfl) d_Tw_leave_38 (mwf_0_0 _ _) ?_
            refine g_ws (ws' := mw ad cI cZ (bu (bu x 0 (updI (x 0) 0 0)) 0 (updI (updI (x 0) 0 0) 0 0))) rfl ?_
            refine g_aload_n C (q := 0) d_Tw_leave_41 rfl rfl ?_
            refine gG C (v := .int (iI 0)) 0 0 u_Tw k_648 (mwo_0 _) rfl (by decide) rfl rfl d_Tw_leave_42 ?_
            refine g_if_le C (tgt := 50) d_Tw_leave_45 rfl (by omega) (fun h45_8 => ?_) (fun h45_8 => ?_)
            · refine g_aload_n C (q := 0) d_Tw_leave_50 rfl rfl ?_
              refine gG C (v := .ref (ad 11)) 0 16 u_Tw k_664 (mwo_0 _) rfl (by decide) rfl rfl d_Tw_leave_51 ?_
              refine g_iload_n C (q := 1) d_Tw_leave_54 rfl rfl ?_
              refine g_iald C 11 0 (mwa_11 _) rfl (by decide) (by omega) d_Tw_leave_55 ?_
              refine g_st (st' := [.int (iI (x 15 a))]) rfl ?_
              refine g_istore_n C (lv' := [(0, .ref (ad 0)), (1, .int (iI a)), (2, .int (iI (x 15 a)))]) d_Tw_leave_56 rfl (by decide) rfl rfl ?_
              refine g_iconst C d_Tw_leave_57 ?_
              refine g_istore_n C (lv' := [(0, .ref (ad 0)), (1, .int (iI a)), (2, .int (iI (x 15 a))), (3, .int (iI 0))]) d_Tw_leave_58 rfl (by decide) rfl rfl ?_
              refine g_iconst C d_Tw_leave_59 ?_
              refine g_istore C (lv' := [(0, .ref (ad 0)), (1, .int (iI a)), (2, .int (iI (x 15 a))), (3, .int (iI 0)), (4, .int (iI 0))]) d_Tw_leave_60 (by decide) rfl rfl ?_
              have hbb : 0 ≤ x 15 a ∧ x 15 a < 10 := by have := hok.r15 a (by omega) (by omega); omega
              have h14 := hok.r14 (x 15 a) (by omega) (by omega)
              refine g_ws (ws' := mw ad cI cZ (bu (bu (bu x 0 (updI (x 0) 0 0)) 0 (updI (updI (x 0) 0 0) 0 0)) 13 (tk (x 15 a) a ((bu (bu x 0 (updI (x 0) 0 0)) 0 (updI (updI (x 0) 0 0) 0 0)) 13) 0).1)) rfl ?_
              refine lp_Tw_leave C (bu (bu x 0 (updI (x 0) 0 0)) 0 (updI (updI (x 0) 0 0) 0 0)) a (x 15 a) (by omega) hbb (hok.e0 (e0.sc (e0.sc (e0.rf x) _) _)) ?_ (x 14 (x 15 a)).toNat 0 (show ((0 : Nat) : Int) + (((x 14 (x 15 a)).toNat : Nat) : Int) = x 14 (x 15 a) by omega)
              refine g_eq (ws' := mw ad cI cZ (bu (bu (bu x 0 (updI (x 0) 0 0)) 0 (updI (updI (x 0) 0 0) 0 0)) 13 ((tk (x 15 a) a (x 13) (x 14 (x 15 a)).toNat).1))) (lv' := [(0, .ref (ad 0)), (1, .int (iI a)), (2, .int (iI (x 15 a))), (3, .int (iI ((tk (x 15 a) a (x 13) (x 14 (x 15 a)).toNat).2))), (4, .int (iI ((x 14 (x 15 a)).toNat : Int)))]) (pc' := 116) (st' := []) rfl rfl rfl rfl ?_
              refine g_aload_n C (q := 0) d_Tw_leave_116 rfl rfl ?_
              refine gG C (v := .ref (ad 9)) 0 14 u_Tw k_662 (mwo_0 _) rfl (by decide) rfl rfl d_Tw_leave_117 ?_
              refine g_iload_n C (q := 2) d_Tw_leave_120 rfl rfl ?_
              refine g_iload_n C (q := 3) d_Tw_leave_121 rfl rfl ?_
              refine g_iast C 9 0 (mwa_9 _) rfl (by decide) (by omega) d_Tw_leave_122 (mws_9 _ _) ?_
              refine g_ws (ws' := mw ad cI cZ (bu (bu (bu (bu x 0 (updI (x 0) 0 0)) 0 (updI (updI (x 0) 0 0) 0 0)) 13 ((tk (x 15 a) a (x 13) (x 14 (x 15 a)).toNat).1)) 14 (updI (x 14) (x 15 a) ((tk (x 15 a) a (x 13) (x 14 (x 15 a)).toNat).2)))) rfl ?_
              refine g_aload_n C (q := 0) d_Tw_leave_123 rfl rfl ?_
              refine gG C (v := .ref (ad 11)) 0 16 u_Tw k_664 (mwo_0 _) rfl (by decide) rfl rfl d_Tw_leave_124 ?_
              refine g_iload_n C (q := 1) d_Tw_leave_127 rfl rfl ?_
              refine g_iconst C d_Tw_leave_128 ?_
              refine g_iast C 11 0 (mwa_11 _) rfl (by decide) (by omega) d_Tw_leave_129 (mws_11 _ _) ?_
              refine g_ws (ws' := mw ad cI cZ (bu (bu (bu (bu (bu x 0 (updI (x 0) 0 0)) 0 (updI (updI (x 0) 0 0) 0 0)) 13 ((tk (x 15 a) a (x 13) (x 14 (x 15 a)).toNat).1)) 14 (updI (x 14) (x 15 a) ((tk (x 15 a) a (x 13) (x 14 (x 15 a)).toNat).2))) 15 (updI (x 15) a (-1)))) rfl ?_
              refine g_iload_n C (q := 3) d_Tw_leave_130 rfl rfl ?_
              exact g_iret C hA hr d_Tw_leave_131 (by decide) (by decide) ⟨_, rfl, Or.inr (Or.inr (⟨rfl, (by omega), (by first | rfl | exact congrArg some (by omega)), (e0.bu (e0.bu (e0.bu (e0.sc (e0.sc (e0.rf x) _) _) _ _) _ _) _ _)⟩))⟩
            · exfalso
              omega
          · exfalso
            omega
    · exfalso
      omega
  · refine g_st (st' := [.int (iI 0), .ref (ad 0)]) (by rw [b01_f hb3_1]) ?_
    refine g_if_ne C (tgt := 13) d_Tw_leave_6 rfl (by omega) (fun h6_9 => ?_) (fun h6_9 => ?_)
    · exfalso
      omega
    · refine g_iconst C d_Tw_leave_9 ?_
      refine g_goto C (tgt := 14) d_Tw_leave_10 rfl ?_
      refine gP C 0 0 t_Tw to_Tw n_Tw u_Tw k_648 (mwo_0 _) rfl (by decide) rfl rfl rfl rfl rfl (Nat.le_of_ble_eq_true rfl) d_Tw_leave_14 (mwf_0_0 _ _) ?_
      refine g_ws (ws' := mw ad cI cZ (bu x 0 (updI (x 0) 0 1))) rfl ?_
      refine g_aload_n C (q := 0) d_Tw_leave_17 rfl rfl ?_
      refine gG C (v := .int (iI 1)) 0 0 u_Tw k_648 (mwo_0 _) rfl (by decide) rfl rfl d_Tw_leave_18 ?_
      refine g_if_ne C (tgt := 41) d_Tw_leave_21 rfl (by omega) (fun h21_10 => ?_) (fun h21_10 => ?_)
      · refine g_aload_n C (q := 0) d_Tw_leave_41 rfl rfl ?_
        refine gG C (v := .int (iI 1)) 0 0 u_Tw k_648 (mwo_0 _) rfl (by decide) rfl rfl d_Tw_leave_42 ?_
        refine g_if_le C (tgt := 50) d_Tw_leave_45 rfl (by omega) (fun h45_11 => ?_) (fun h45_11 => ?_)
        · exfalso
          omega
        · refine g_iconst C d_Tw_leave_48 ?_
          exact g_iret C hA hr d_Tw_leave_49 (by decide) (by decide) ⟨_, rfl, Or.inl (⟨rfl, (by omega), (by first | rfl | exact congrArg some (by omega)), (e0.sc (e0.rf x) _)⟩)⟩
      · exfalso
        omega
