set_option maxRecDepth 100000 in
set_option maxHeartbeats 4000000 in
theorem m_S_match {l : Launch} {D : va_G} {cI cZ cJ : ClassId} {base : Nat} {ad : Nat → Nat} (hl : l.stackTraces = false) (x : Bk) (v : Int) (hv : InR v) (hok : Ok x) (hg : rng x 17 100 0 20000) (htb : tb (x 18)) : Cx l D cls9 (tyl cI cZ cJ) base (zz base) y_S_match (wz y_S_match c_S_match 2 (some FieldType.int)) ({ frames := 7, cells := 1, slots := 6, locals := 113 } : Room) [.ref (ad 0), .int (iI v)] (cw ad cI cZ x) (fun r w => (0 ≤ v ∧ v ≤ 10) ∧ ∃ (y : Bk) (u : Int), gok y x (x 1 0) (x 1 0 + 1) ∧ u = cif (frees x ≤ v) 1 0 ∧ r = some (svd (pan y u)) ∧ w = cw ad cI cZ (pan y u)) (fun E w => ∃ y : Bk, w = cw ad cI cZ y ∧ scr y x ∧ ((E = "java/lang/IllegalArgumentException" ∧ ¬ (0 ≤ v ∧ v ≤ 10)))) 1 6 := by
  refine Cx_of (zzG base) (by decide) rfl (Nat.le_of_ble_eq_true rfl) ?_
  intro p e s m args below meth c A C hr hA hno
  have C : gC p s m args meth c D cls9 (tyl cI cZ cJ) A c_S_match 2 "BatchSavings" (wz y_S_match c_S_match 2 (some FieldType.int)) base (zz base) := C
  refine g_lve (lv' := [(0, .ref (ad 0)), (1, .int (iI v))]) rfl ?_
  have hn := hok.n
  have hnb := hok.b
  have hww := hok.w
  have hss := hok.s
  refine g_iload_n C (q := 1) d_S_match_0 rfl rfl ?_
  refine g_iconst C d_S_match_1 ?_
  refine g_bipush C d_S_match_2 rfl ?_
  by_cases hc4 : 0 ≤ v ∧ v ≤ 10
  · refine gS0 C (st := []) (m_S_needRange v 0 10 (by omega) (by omega) (by omega) hc4) k_202 k_200 k_201 k_1 rfl ho_S_needRange rfl rfl ⟨by decide, by decide⟩ rfl rfl (Nat.le_of_ble_eq_true rfl) d_S_match_4 ⟨by decide, by decide⟩ (fun r w hq => ?_)
    obtain ⟨rfl, rfl⟩ := hq
    refine g_eq (ws' := cw ad cI cZ x) (lv' := [(0, .ref (ad 0)), (1, .int (iI v))]) (pc' := 7) (st' := []) rfl rfl rfl rfl ?_
    refine g_aload_n C (q := 0) d_S_match_7 rfl rfl ?_
    refine gV C (st := []) (m_S_takeGains x hok hg) k_438 k_435 k_437 kp_20 k_1 rfl ho_S_takeGains rfl rfl ⟨by decide, by decide⟩ 0 (cwo_0 _) rfl rfl rfl (Nat.le_of_ble_eq_true rfl) d_S_match_8 ⟨by decide, by decide⟩ (fun r w hq => ?_)
    obtain ⟨y8, rfl, hy8, rfl⟩ := hq
    refine g_eq (ws' := cw ad cI cZ y8) (lv' := [(0, .ref (ad 0)), (1, .int (iI v))]) (pc' := 11) (st' := []) rfl rfl rfl rfl ?_
    have hoy := hok.cor hy8.cor
    have hny := hoy.n
    refine g_aload_n C (q := 0) d_S_match_11 rfl rfl ?_
    refine gG C (v := .ref (ad 4)) 0 3 u_S k_150 (cwo_0 _) rfl (by decide) rfl rfl d_S_match_12 ?_
    refine g_aload_n C (q := 0) d_S_match_15 rfl rfl ?_
    refine gG C (v := .ref (ad 3)) 0 2 u_S k_149 (cwo_0 _) rfl (by decide) rfl rfl d_S_match_16 ?_
    refine gVN C (st := [.ref (ad 4)]) (m_B_freeOrders y8 (show 0 ≤ (y8 1 0) ∧ (y8 1 0) ≤ 10 by omega) hoy.i15) k_171 kn_168 k_170 kp_0 k_5 ho_B_freeOrders rfl rfl ⟨by decide, by decide⟩ 3 (cwo_3 _) rfl rfl rfl (Nat.le_of_ble_eq_true rfl) d_S_match_19 ⟨by decide, by decide⟩ (fun r w hq => ?_)
    obtain ⟨rfl, rfl⟩ := hq
    refine g_eq (ws' := cw ad cI cZ y8) (lv' := [(0, .ref (ad 0)), (1, .int (iI v))]) (pc' := 22) (st' := [.int (iI (frees y8)), .ref (ad 4)]) rfl rfl rfl rfl ?_
    have hfb := sg_bd (f := fun i => b01 (y8 15 i = -1)) (n := (y8 1 0).toNat) (lo := 0) (hi := 1) (fun k hk => by have := b01_or (p := y8 15 (k : Int) = -1); omega)
    have hfr : 0 ≤ frees y8 ∧ frees y8 ≤ 10 := by unfold frees; omega
    refine g_iload_n C (q := 1) d_S_match_22 rfl rfl ?_
    refine g_icmp_gt C (tgt := 30) d_S_match_23 rfl (by omega) (by omega) (fun h23_1 => ?_) (fun h23_1 => ?_)
    · refine g_iconst C d_S_match_30 ?_
      refine gVN C (st := []) (m_M_pairAnew y8 0 (by omega) (show 0 ≤ (y8 1 0) ∧ (y8 1 0) ≤ 10 by omega) hy8.2.2.2 (by rw [hy8.1 18 (by decide) (by decide) (by decide)]; exact htb)) k_450 kn_447 k_449 kp_22 k_6 ho_M_pairAnew rfl rfl ⟨by decide, by decide⟩ 4 (cwo_4 _) rfl rfl rfl (Nat.le_of_ble_eq_true rfl) d_S_match_31 ⟨by decide, by decide⟩ (fun r w hq => ?_)
      obtain ⟨rfl, rfl⟩ := hq
      refine g_eq (ws' := cw ad cI cZ (pan y8 0)) (lv' := [(0, .ref (ad 0)), (1, .int (iI v))]) (pc' := 34) (st' := []) rfl rfl rfl rfl ?_
      have hop := hoy.pan (v := 0) hy8.2.2.2 (by omega)
      have h16 := hop.r16
      have h9 := hop.r9
      have hnp := hop.n
      refine g_aload_n C (q := 0) d_S_match_34 rfl rfl ?_
      refine gG C (v := .ref (ad 4)) 0 3 u_S k_150 (cwo_0 _) rfl (by decide) rfl rfl d_S_match_35 ?_
      refine gVN C (st := []) (m_M_saved (pan y8 0) hnp h16 h9) k_183 kn_180 k_182 kp_3 k_6 ho_M_saved rfl rfl ⟨by decide, by decide⟩ 4 (cwo_4 _) rfl rfl rfl (Nat.le_of_ble_eq_true rfl) d_S_match_38 ⟨by decide, by decide⟩ (fun r w hq => ?_)
      obtain ⟨rfl, rfl⟩ := hq
      refine g_eq (ws' := cw ad cI cZ (pan y8 0)) (lv' := [(0, .ref (ad 0)), (1, .int (iI v))]) (pc' := 41) (st' := [.int (iI (svd (pan y8 0)))]) rfl rfl rfl rfl ?_
      exact g_x (g_iret C hA hr d_S_match_41 (by decide) (by decide) ⟨by omega, y8, 0, hy8, by first | (rw [cif_t (by rw [← frees_cor hy8.cor]; omega)]; done) | (rw [cif_f (by rw [← frees_cor hy8.cor]; omega)]; done), rfl, rfl⟩)
    · refine g_iconst C d_S_match_26 ?_
      refine g_goto C (tgt := 31) d_S_match_27 rfl ?_
      refine gVN C (st := []) (m_M_pairAnew y8 1 (by omega) (show 0 ≤ (y8 1 0) ∧ (y8 1 0) ≤ 10 by omega) hy8.2.2.2 (by rw [hy8.1 18 (by decide) (by decide) (by decide)]; exact htb)) k_450 kn_447 k_449 kp_22 k_6 ho_M_pairAnew rfl rfl ⟨by decide, by decide⟩ 4 (cwo_4 _) rfl rfl rfl (Nat.le_of_ble_eq_true rfl) d_S_match_31 ⟨by decide, by decide⟩ (fun r w hq => ?_)
      obtain ⟨rfl, rfl⟩ := hq
      refine g_eq (ws' := cw ad cI cZ (pan y8 1)) (lv' := [(0, .ref (ad 0)), (1, .int (iI v))]) (pc' := 34) (st' := []) rfl rfl rfl rfl ?_
      have hop := hoy.pan (v := 1) hy8.2.2.2 (by omega)
      have h16 := hop.r16
      have h9 := hop.r9
      have hnp := hop.n
      refine g_aload_n C (q := 0) d_S_match_34 rfl rfl ?_
      refine gG C (v := .ref (ad 4)) 0 3 u_S k_150 (cwo_0 _) rfl (by decide) rfl rfl d_S_match_35 ?_
      refine gVN C (st := []) (m_M_saved (pan y8 1) hnp h16 h9) k_183 kn_180 k_182 kp_3 k_6 ho_M_saved rfl rfl ⟨by decide, by decide⟩ 4 (cwo_4 _) rfl rfl rfl (Nat.le_of_ble_eq_true rfl) d_S_match_38 ⟨by decide, by decide⟩ (fun r w hq => ?_)
      obtain ⟨rfl, rfl⟩ := hq
      refine g_eq (ws' := cw ad cI cZ (pan y8 1)) (lv' := [(0, .ref (ad 0)), (1, .int (iI v))]) (pc' := 41) (st' := [.int (iI (svd (pan y8 1)))]) rfl rfl rfl rfl ?_
      exact g_x (g_iret C hA hr d_S_match_41 (by decide) (by decide) ⟨by omega, y8, 1, hy8, by first | (rw [cif_t (by rw [← frees_cor hy8.cor]; omega)]; done) | (rw [cif_f (by rw [← frees_cor hy8.cor]; omega)]; done), rfl, rfl⟩)
  · refine gSx C (st := []) (t_S_needRange hl v 0 10 (by omega) (by omega) (by omega) hc4) k_202 k_200 k_201 k_1 rfl ho_S_needRange rfl rfl ⟨by decide, by decide⟩ rfl rfl (Nat.le_of_ble_eq_true rfl) d_S_match_4 ⟨by decide, by decide⟩ (fun E w hq => ?_) (fun r w hq => hq.elim)
    obtain ⟨rfl, rfl⟩ := hq
    exact g_out C hno hA (by decide) (by decide) ⟨_, rfl, scr.rf x, rfl, by omega⟩
set_option maxRecDepth 100000 in
set_option maxHeartbeats 4000000 in
theorem m_S_exact {l : Launch} {D : va_G} {cI cZ cJ : ClassId} {base : Nat} {ad : Nat → Nat} (x : Bk) (hok : Ok x) : Cn l D cls9 (tyl cI cZ cJ) base (zz base) y_S_exact (wz y_S_exact c_S_exact 1 (some FieldType.boolean)) ({ frames := 0, cells := 0, slots := 0, locals := 0 } : Room) [.ref (ad 0)] (cw ad cI cZ x) (fun r w => r = some (x 4 0) ∧ w = cw ad cI cZ x) 0 0 := by
  refine Cn_of (zzG base) (by decide) rfl (Nat.le_of_ble_eq_true rfl) ?_
  intro p e s m args below meth c A C hr hA hnm
  have C : gC p s m args meth c D cls9 (tyl cI cZ cJ) A c_S_exact 1 "BatchSavings" (wz y_S_exact c_S_exact 1 (some FieldType.boolean)) base (zz base) := C
  refine g_lve (lv' := [(0, .ref (ad 0))]) rfl ?_
  have he := hok.e
  refine g_aload_n C (q := 0) d_S_exact_0 rfl rfl ?_
  refine gG C (v := .ref (ad 4)) 0 3 u_S k_150 (cwo_0 _) rfl (by decide) rfl rfl d_S_exact_1 ?_
  refine gGN C (v := .int (iI (x 4 0))) 4 4 u_M kn_135 (cwo_4 _) rfl (by decide) rfl rfl d_S_exact_4 ?_
  exact g_zret C hA hr d_S_exact_7 (by decide) (by decide) (by omega) ⟨rfl, rfl⟩
set_option maxRecDepth 100000 in
set_option maxHeartbeats 4000000 in
theorem m_S_open {l : Launch} {D : va_G} {cI cZ cJ : ClassId} {base : Nat} {ad : Nat → Nat} (hl : l.stackTraces = false) (x : Bk) (a : Int) (ha : InR a) (hok : Ok x) (h14 : x 3 0 < 10 → x 14 (x 3 0) = 0) : Cx l D cls9 (tyl cI cZ cJ) base (zz base) y_S_open (wz y_S_open c_S_open 4 (some FieldType.int)) ({ frames := 7, cells := 1, slots := 6, locals := 103 } : Room) [.ref (ad 0), .int (iI a)] (cw ad cI cZ x) (fun r w => ((0 ≤ a ∧ a < x 1 0) ∧ x 15 a = -1 ∧ x 3 0 < 10) ∧ r = some (x 3 0) ∧ w = cw ad cI cZ (opX x a)) (fun E w => ∃ y : Bk, w = cw ad cI cZ y ∧ scr y x ∧ ((E = "java/util/NoSuchElementException" ∧ ¬ (0 ≤ a ∧ a < x 1 0)) ∨ (E = "java/lang/IllegalStateException" ∧ (0 ≤ a ∧ a < x 1 0) ∧ ¬ x 15 a = -1) ∨ (E = "java/lang/UnsupportedOperationException" ∧ ((0 ≤ a ∧ a < x 1 0) ∧ x 15 a = -1) ∧ ¬ x 3 0 < 10))) 1 6 := by
  refine Cx_of (zzG base) (by decide) rfl (Nat.le_of_ble_eq_true rfl) ?_
  intro p e s m args below meth c A C hr hA hno
  have C : gC p s m args meth c D cls9 (tyl cI cZ cJ) A c_S_open 4 "BatchSavings" (wz y_S_open c_S_open 4 (some FieldType.int)) base (zz base) := C
  refine g_lve (lv' := [(0, .ref (ad 0)), (1, .int (iI a))]) rfl ?_
  have hn := hok.n
  have hnb := hok.b
  have hww := hok.w
  have hss := hok.s
  refine g_aload_n C (q := 0) d_S_open_0 rfl rfl ?_
  refine g_iload_n C (q := 1) d_S_open_1 rfl rfl ?_
  by_cases hc2 : 0 ≤ a ∧ a < (x 1 0)
  · refine gV C (st := []) (m_S_needOrder x a (by omega) (show InR (x 1 0) by omega) hc2) k_308 k_305 k_307 kp_8 k_1 rfl ho_S_needOrder rfl rfl ⟨by decide, by decide⟩ 0 (cwo_0 _) rfl rfl rfl (Nat.le_of_ble_eq_true rfl) d_S_open_2 ⟨by decide, by decide⟩ (fun r w hq => ?_)
    obtain ⟨rfl, rfl⟩ := hq
    refine g_eq (ws' := cw ad cI cZ x) (lv' := [(0, .ref (ad 0)), (1, .int (iI a))]) (pc' := 5) (st' := []) rfl rfl rfl rfl ?_
    refine g_aload_n C (q := 0) d_S_open_5 rfl rfl ?_
    refine g_iload_n C (q := 1) d_S_open_6 rfl rfl ?_
    by_cases hc7 : (x 15 a) = -1
    · refine gV C (st := []) (m_S_needFree x a (by omega) (hok.i15 a (by omega) (by omega)) hc7) k_388 k_385 k_387 kp_17 k_1 rfl ho_S_needFree rfl rfl ⟨by decide, by decide⟩ 0 (cwo_0 _) rfl rfl rfl (Nat.le_of_ble_eq_true rfl) d_S_open_7 ⟨by decide, by decide⟩ (fun r w hq => ?_)
      obtain ⟨rfl, rfl⟩ := hq
      refine g_eq (ws' := cw ad cI cZ x) (lv' := [(0, .ref (ad 0)), (1, .int (iI a))]) (pc' := 10) (st' := []) rfl rfl rfl rfl ?_
      refine g_aload_n C (q := 0) d_S_open_10 rfl rfl ?_
      refine gG C (v := .ref (ad 3)) 0 2 u_S k_149 (cwo_0 _) rfl (by decide) rfl rfl d_S_open_11 ?_
      refine gGN C (v := .int (iI (x 3 0))) 3 4 u_B kn_110 (cwo_3 _) rfl (by decide) rfl rfl d_S_open_14 ?_
      refine g_bipush C d_S_open_17 rfl ?_
      refine g_icmp_lt C (tgt := 32) d_S_open_19 rfl (by omega) (by omega) (fun h19_1 => ?_) (fun h19_1 => ?_)
      · have hpa := hok.r16 a (by omega) (by omega)
        refine g_aload_n C (q := 0) d_S_open_32 rfl rfl ?_
        refine gG C (v := .ref (ad 4)) 0 3 u_S k_150 (cwo_0 _) rfl (by decide) rfl rfl d_S_open_33 ?_
        refine gGN C (v := .ref (ad 16)) 4 1 u_M kn_131 (cwo_4 _) rfl (by decide) rfl rfl d_S_open_36 ?_
        refine g_iload_n C (q := 1) d_S_open_39 rfl rfl ?_
        refine g_iald C 16 0 (cwa_16 _) rfl (by decide) (by omega) d_S_open_40 ?_
        refine g_st (st' := [.int (iI (x 16 a))]) rfl ?_
        refine g_istore_n C (lv' := [(0, .ref (ad 0)), (1, .int (iI a)), (2, .int (iI (x 16 a)))]) d_S_open_41 rfl (by decide) rfl rfl ?_
        refine g_aload_n C (q := 0) d_S_open_42 rfl rfl ?_
        refine gG C (v := .ref (ad 4)) 0 3 u_S k_150 (cwo_0 _) rfl (by decide) rfl rfl d_S_open_43 ?_
        refine g_iload_n C (q := 1) d_S_open_46 rfl rfl ?_
        refine gVN C (st := []) (m_M_part x a (by omega) (by omega)) k_508 kn_505 k_507 kp_31 k_6 ho_M_part rfl rfl ⟨by decide, by decide⟩ 4 (cwo_4 _) rfl rfl rfl (Nat.le_of_ble_eq_true rfl) d_S_open_47 ⟨by decide, by decide⟩ (fun r w hq => ?_)
        obtain ⟨rfl, rfl⟩ := hq
        refine g_eq (ws' := cw ad cI cZ (bu x 16 (unp (x 16) a))) (lv' := [(0, .ref (ad 0)), (1, .int (iI a)), (2, .int (iI (x 16 a)))]) (pc' := 50) (st' := []) rfl rfl rfl rfl ?_
        refine g_aload_n C (q := 0) d_S_open_50 rfl rfl ?_
        refine gG C (v := .ref (ad 3)) 0 2 u_S k_149 (cwo_0 _) rfl (by decide) rfl rfl d_S_open_51 ?_
        refine gVN C (st := []) (m_B_addEmpty (bu x 16 (unp (x 16) a))) k_512 kn_509 k_511 kp_32 k_5 ho_B_addEmpty rfl rfl ⟨by decide, by decide⟩ 3 (cwo_3 _) rfl rfl rfl (Nat.le_of_ble_eq_true rfl) d_S_open_54 ⟨by decide, by decide⟩ (fun r w hq => ?_)
        obtain ⟨rfl, rfl⟩ := hq
        refine g_eq (ws' := cw ad cI cZ (bu (bu x 16 (unp (x 16) a)) 3 (updI (x 3) 0 ((x 3 0) + 1)))) (lv' := [(0, .ref (ad 0)), (1, .int (iI a)), (2, .int (iI (x 16 a)))]) (pc' := 57) (st' := [.int (iI (x 3 0))]) rfl rfl rfl rfl ?_
        refine g_istore_n C (lv' := [(0, .ref (ad 0)), (1, .int (iI a)), (2, .int (iI (x 16 a))), (3, .int (iI (x 3 0)))]) d_S_open_57 rfl (by decide) rfl rfl ?_
        refine g_aload_n C (q := 0) d_S_open_58 rfl rfl ?_
        refine gG C (v := .ref (ad 3)) 0 2 u_S k_149 (cwo_0 _) rfl (by decide) rfl rfl d_S_open_59 ?_
        refine g_iload_n C (q := 1) d_S_open_62 rfl rfl ?_
        refine g_iload_n C (q := 3) d_S_open_63 rfl rfl ?_
        refine gVN C (st := []) (m_B_put (bu (bu x 16 (unp (x 16) a)) 3 (updI (x 3) 0 ((x 3 0) + 1))) a (x 3 0) (by omega) (by omega) (show 0 ≤ x 14 (x 3 0) ∧ x 14 (x 3 0) < 4 by omega)) k_516 kn_513 k_515 kp_33 k_5 ho_B_put rfl rfl ⟨by decide, by decide⟩ 3 (cwo_3 _) rfl rfl rfl (Nat.le_of_ble_eq_true rfl) d_S_open_64 ⟨by decide, by decide⟩ (fun r w hq => ?_)
        obtain ⟨rfl, rfl⟩ := hq
        refine g_eq (ws' := cw ad cI cZ (bu (bu (bu (bu (bu x 16 (unp (x 16) a)) 3 (updI (x 3) 0 ((x 3 0) + 1))) 13 (updI (x 13) ((x 3 0) * 4 + (x 14 (x 3 0))) a)) 14 (updI (x 14) (x 3 0) ((x 14 (x 3 0)) + 1))) 15 (updI (x 15) a (x 3 0)))) (lv' := [(0, .ref (ad 0)), (1, .int (iI a)), (2, .int (iI (x 16 a))), (3, .int (iI (x 3 0)))]) (pc' := 67) (st' := []) rfl rfl rfl rfl ?_
        refine g_iload_n C (q := 2) d_S_open_67 rfl rfl ?_
        refine g_iconst C d_S_open_68 ?_
        refine g_icmp_eq C (tgt := 81) d_S_open_69 rfl (by omega) (by omega) (fun h69_2 => ?_) (fun h69_2 => ?_)
        · refine g_iload_n C (q := 3) d_S_open_81 rfl rfl ?_
          exact g_x (g_iret C hA hr d_S_open_82 (by decide) (by decide) ⟨by omega, rfl, by unfold opX; first | (rw [if_pos (by assumption)]; rfl) | (rw [if_neg (by assumption)]; rfl)⟩)
        · refine g_aload_n C (q := 0) d_S_open_72 rfl rfl ?_
          refine gG C (v := .ref (ad 3)) 0 2 u_S k_149 (cwo_0 _) rfl (by decide) rfl rfl d_S_open_73 ?_
          refine g_iload_n C (q := 2) d_S_open_76 rfl rfl ?_
          refine g_iload_n C (q := 3) d_S_open_77 rfl rfl ?_
          refine gVN C (st := []) (m_B_put (bu (bu (bu (bu (bu x 16 (unp (x 16) a)) 3 (updI (x 3) 0 ((x 3 0) + 1))) 13 (updI (x 13) ((x 3 0) * 4 + (x 14 (x 3 0))) a)) 14 (updI (x 14) (x 3 0) ((x 14 (x 3 0)) + 1))) 15 (updI (x 15) a (x 3 0))) (x 16 a) (x 3 0) (by omega) (by omega) (show 0 ≤ updI (x 14) (x 3 0) (x 14 (x 3 0) + 1) (x 3 0) ∧ updI (x 14) (x 3 0) (x 14 (x 3 0) + 1) (x 3 0) < 4 by rw [updI_s]; omega)) k_516 kn_513 k_515 kp_33 k_5 ho_B_put rfl rfl ⟨by decide, by decide⟩ 3 (cwo_3 _) rfl rfl rfl (Nat.le_of_ble_eq_true rfl) d_S_open_78 ⟨by decide, by decide⟩ (fun r w hq => ?_)
          obtain ⟨rfl, rfl⟩ := hq
          refine g_eq (ws' := cw ad cI cZ (bu (bu (bu (bu (bu (bu (bu (bu x 16 (unp (x 16) a)) 3 (updI (x 3) 0 ((x 3 0) + 1))) 13 (updI (x 13) ((x 3 0) * 4 + (x 14 (x 3 0))) a)) 14 (updI (x 14) (x 3 0) ((x 14 (x 3 0)) + 1))) 15 (updI (x 15) a (x 3 0))) 13 (updI (updI (x 13) ((x 3 0) * 4 + (x 14 (x 3 0))) a) ((x 3 0) * 4 + ((updI (x 14) (x 3 0) ((x 14 (x 3 0)) + 1)) (x 3 0))) (x 16 a))) 14 (updI (updI (x 14) (x 3 0) ((x 14 (x 3 0)) + 1)) (x 3 0) (((updI (x 14) (x 3 0) ((x 14 (x 3 0)) + 1)) (x 3 0)) + 1))) 15 (updI (updI (x 15) a (x 3 0)) (x 16 a) (x 3 0)))) (lv' := [(0, .ref (ad 0)), (1, .int (iI a)), (2, .int (iI (x 16 a))), (3, .int (iI (x 3 0)))]) (pc' := 81) (st' := []) rfl rfl rfl rfl ?_
          refine g_iload_n C (q := 3) d_S_open_81 rfl rfl ?_
          exact g_x (g_iret C hA hr d_S_open_82 (by decide) (by decide) ⟨by omega, rfl, by unfold opX; first | (rw [if_pos (by assumption)]; rfl) | (rw [if_neg (by assumption)]; rfl)⟩)
      · exact gT C hl hno hA (by decide +kernel) thk_UOE thi_UOE (is := 125) (text := "no room for another batch") (by decide +kernel) thr_UOE thg_UOE d_S_open_22 d_S_open_25 d_S_open_26 d_S_open_28 d_S_open_31 (by decide) (Nat.le_of_ble_eq_true rfl) (by decide) (by decide) (by decide) (by decide) ⟨_, rfl, (scr.rf x), by first | exact Or.inl ⟨rfl, by omega⟩ | exact Or.inr (Or.inl ⟨rfl, by omega⟩) | exact Or.inr (Or.inr (⟨rfl, by omega⟩))⟩
    · refine gVx C (st := []) (t_S_needFree hl x a (by omega) (hok.i15 a (by omega) (by omega)) hc7) k_388 k_385 k_387 kp_17 k_1 rfl ho_S_needFree rfl rfl ⟨by decide, by decide⟩ 0 (cwo_0 _) rfl rfl rfl (Nat.le_of_ble_eq_true rfl) d_S_open_7 ⟨by decide, by decide⟩ (fun E w hq => ?_) (fun r w hq => hq.elim)
      obtain ⟨rfl, rfl⟩ := hq
      exact g_out C hno hA (by decide) (by decide) ⟨_, rfl, (scr.rf x), by first | exact Or.inl ⟨rfl, by omega⟩ | exact Or.inr (Or.inl ⟨rfl, by omega⟩) | exact Or.inr (Or.inr (⟨rfl, by omega⟩))⟩
  · refine gVx C (st := []) (t_S_needOrder hl x a (by omega) (show InR (x 1 0) by omega) hc2) k_308 k_305 k_307 kp_8 k_1 rfl ho_S_needOrder rfl rfl ⟨by decide, by decide⟩ 0 (cwo_0 _) rfl rfl rfl (Nat.le_of_ble_eq_true rfl) d_S_open_2 ⟨by decide, by decide⟩ (fun E w hq => ?_) (fun r w hq => hq.elim)
    obtain ⟨rfl, rfl⟩ := hq
    exact g_out C hno hA (by decide) (by decide) ⟨_, rfl, (scr.rf x), by first | exact Or.inl ⟨rfl, by omega⟩ | exact Or.inr (Or.inl ⟨rfl, by omega⟩) | exact Or.inr (Or.inr (⟨rfl, by omega⟩))⟩
set_option maxRecDepth 100000 in
set_option maxHeartbeats 4000000 in
theorem m_S_join {l : Launch} {D : va_G} {cI cZ cJ : ClassId} {base : Nat} {ad : Nat → Nat} (hl : l.stackTraces = false) (x : Bk) (a b : Int) (ha : InR a) (hb : InR b) (hok : Ok x) : Cx l D cls9 (tyl cI cZ cJ) base (zz base) y_S_join (wz y_S_join c_S_join 3 (some FieldType.int)) ({ frames := 7, cells := 1, slots := 6, locals := 103 } : Room) [.ref (ad 0), .int (iI a), .int (iI b)] (cw ad cI cZ x) (fun r w => (((0 ≤ a ∧ a < x 1 0) ∧ (0 ≤ b ∧ b < x 3 0)) ∧ x 15 a = -1 ∧ mayC x a b ∧ ¬ 4 ≤ x 14 b) ∧ ∃ y : Bk, scr y x ∧ r = some (wayB (ptB (unX y a) a b) b) ∧ w = cw ad cI cZ (ptB (unX y a) a b)) (fun E w => ∃ y : Bk, w = cw ad cI cZ y ∧ scr y x ∧ ((E = "java/util/NoSuchElementException" ∧ ¬ ((0 ≤ a ∧ a < x 1 0) ∧ (0 ≤ b ∧ b < x 3 0))) ∨ (E = "java/lang/IllegalStateException" ∧ ((0 ≤ a ∧ a < x 1 0) ∧ (0 ≤ b ∧ b < x 3 0)) ∧ (¬ x 15 a = -1 ∨ ¬ mayC x a b)) ∨ (E = "java/lang/UnsupportedOperationException" ∧ (((0 ≤ a ∧ a < x 1 0) ∧ (0 ≤ b ∧ b < x 3 0)) ∧ x 15 a = -1 ∧ mayC x a b) ∧ 4 ≤ x 14 b))) 1 6 := by
  refine Cx_of (zzG base) (by decide) rfl (Nat.le_of_ble_eq_true rfl) ?_
  intro p e s m args below meth c A C hr hA hno
  have C : gC p s m args meth c D cls9 (tyl cI cZ cJ) A c_S_join 3 "BatchSavings" (wz y_S_join c_S_join 3 (some FieldType.int)) base (zz base) := C
  refine g_lve (lv' := [(0, .ref (ad 0)), (1, .int (iI a)), (2, .int (iI b))]) rfl ?_
  have hn := hok.n
  have hnb := hok.b
  have hww := hok.w
  have hss := hok.s
  refine g_aload_n C (q := 0) d_S_join_0 rfl rfl ?_
  refine g_iload_n C (q := 1) d_S_join_1 rfl rfl ?_
  by_cases hc2 : 0 ≤ a ∧ a < (x 1 0)
  · refine gV C (st := []) (m_S_needOrder x a (by omega) (show InR (x 1 0) by omega) hc2) k_308 k_305 k_307 kp_8 k_1 rfl ho_S_needOrder rfl rfl ⟨by decide, by decide⟩ 0 (cwo_0 _) rfl rfl rfl (Nat.le_of_ble_eq_true rfl) d_S_join_2 ⟨by decide, by decide⟩ (fun r w hq => ?_)
    obtain ⟨rfl, rfl⟩ := hq
    refine g_eq (ws' := cw ad cI cZ x) (lv' := [(0, .ref (ad 0)), (1, .int (iI a)), (2, .int (iI b))]) (pc' := 5) (st' := []) rfl rfl rfl rfl ?_
    refine g_aload_n C (q := 0) d_S_join_5 rfl rfl ?_
    refine g_iload_n C (q := 2) d_S_join_6 rfl rfl ?_
    by_cases hc7 : 0 ≤ b ∧ b < (x 3 0)
    · refine gV C (st := []) (m_S_needBatch x b (by omega) (show InR (x 3 0) by omega) hc7) k_527 k_524 k_526 kp_34 k_1 rfl ho_S_needBatch rfl rfl ⟨by decide, by decide⟩ 0 (cwo_0 _) rfl rfl rfl (Nat.le_of_ble_eq_true rfl) d_S_join_7 ⟨by decide, by decide⟩ (fun r w hq => ?_)
      obtain ⟨rfl, rfl⟩ := hq
      refine g_eq (ws' := cw ad cI cZ x) (lv' := [(0, .ref (ad 0)), (1, .int (iI a)), (2, .int (iI b))]) (pc' := 10) (st' := []) rfl rfl rfl rfl ?_
      refine g_aload_n C (q := 0) d_S_join_10 rfl rfl ?_
      refine g_iload_n C (q := 1) d_S_join_11 rfl rfl ?_
      by_cases hc12 : (x 15 a) = -1
      · refine gV C (st := []) (m_S_needFree x a (by omega) (hok.i15 a (by omega) (by omega)) hc12) k_388 k_385 k_387 kp_17 k_1 rfl ho_S_needFree rfl rfl ⟨by decide, by decide⟩ 0 (cwo_0 _) rfl rfl rfl (Nat.le_of_ble_eq_true rfl) d_S_join_12 ⟨by decide, by decide⟩ (fun r w hq => ?_)
        obtain ⟨rfl, rfl⟩ := hq
        refine g_eq (ws' := cw ad cI cZ x) (lv' := [(0, .ref (ad 0)), (1, .int (iI a)), (2, .int (iI b))]) (pc' := 15) (st' := []) rfl rfl rfl rfl ?_
        refine g_aload_n C (q := 0) d_S_join_15 rfl rfl ?_
        refine g_iload_n C (q := 1) d_S_join_16 rfl rfl ?_
        refine g_iload_n C (q := 2) d_S_join_17 rfl rfl ?_
        refine gV C (st := []) (m_S_suits x a b (by omega) (by omega) hok) k_536 k_533 k_535 kp_36 k_1 rfl ho_S_suits rfl rfl ⟨by decide, by decide⟩ 0 (cwo_0 _) rfl rfl rfl (Nat.le_of_ble_eq_true rfl) d_S_join_18 ⟨by decide, by decide⟩ (fun r w hq => ?_)
        obtain ⟨u18, y18, rfl, hu18, hiff18, hsc18, rfl⟩ := hq
        refine g_eq (ws' := cw ad cI cZ y18) (lv' := [(0, .ref (ad 0)), (1, .int (iI a)), (2, .int (iI b))]) (pc' := 21) (st' := [.int (iI u18)]) rfl rfl rfl rfl ?_
        have hoy := hok.cor hsc18.cor
        have e14 : y18 14 = x 14 := hsc18.1 14 (by decide) (by decide)
        have l14 := hoy.r14 b (by omega) (by omega)
        have hfb := b01_or (p := 4 ≤ y18 14 b)
        refine g_if_ne C (tgt := 34) d_S_join_21 rfl (by omega) (fun h21_1 => ?_) (fun h21_1 => ?_)
        · refine g_aload_n C (q := 0) d_S_join_34 rfl rfl ?_
          refine gG C (v := .ref (ad 3)) 0 2 u_S k_149 (cwo_0 _) rfl (by decide) rfl rfl d_S_join_35 ?_
          refine g_iload_n C (q := 2) d_S_join_38 rfl rfl ?_
          refine gVN C (st := []) (m_B_isFull y18 b (by omega) (show InR (y18 14 b) by omega)) k_554 kn_551 k_553 kp_39 k_5 ho_B_isFull rfl rfl ⟨by decide, by decide⟩ 3 (cwo_3 _) rfl rfl rfl (Nat.le_of_ble_eq_true rfl) d_S_join_39 ⟨by decide, by decide⟩ (fun r w hq => ?_)
          obtain ⟨rfl, rfl⟩ := hq
          refine g_eq (ws' := cw ad cI cZ y18) (lv' := [(0, .ref (ad 0)), (1, .int (iI a)), (2, .int (iI b))]) (pc' := 42) (st' := [.int (iI (b01 (4 ≤ (y18 14 b))))]) rfl rfl rfl rfl ?_
          refine g_if_eq C (tgt := 55) d_S_join_42 rfl (by omega) (fun h42_2 => ?_) (fun h42_2 => ?_)
          · have hlt : ¬ 4 ≤ y18 14 b := fun q => absurd (b01_t q) (by omega)
            refine g_aload_n C (q := 0) d_S_join_55 rfl rfl ?_
            refine gG C (v := .ref (ad 4)) 0 3 u_S k_150 (cwo_0 _) rfl (by decide) rfl rfl d_S_join_56 ?_
            refine g_iload_n C (q := 1) d_S_join_59 rfl rfl ?_
            refine gVN C (st := []) (m_M_part y18 a (by omega) (by have := hoy.r16 a (by omega) (by omega); omega)) k_508 kn_505 k_507 kp_31 k_6 ho_M_part rfl rfl ⟨by decide, by decide⟩ 4 (cwo_4 _) rfl rfl rfl (Nat.le_of_ble_eq_true rfl) d_S_join_60 ⟨by decide, by decide⟩ (fun r w hq => ?_)
            obtain ⟨rfl, rfl⟩ := hq
            refine g_eq (ws' := cw ad cI cZ (bu y18 16 (unp (y18 16) a))) (lv' := [(0, .ref (ad 0)), (1, .int (iI a)), (2, .int (iI b))]) (pc' := 63) (st' := []) rfl rfl rfl rfl ?_
            refine g_aload_n C (q := 0) d_S_join_63 rfl rfl ?_
            refine gG C (v := .ref (ad 3)) 0 2 u_S k_149 (cwo_0 _) rfl (by decide) rfl rfl d_S_join_64 ?_
            refine g_iload_n C (q := 1) d_S_join_67 rfl rfl ?_
            refine g_iload_n C (q := 2) d_S_join_68 rfl rfl ?_
            refine gVN C (st := []) (m_B_put (bu y18 16 (unp (y18 16) a)) a b (by omega) (by omega) (show 0 ≤ y18 14 b ∧ y18 14 b < 4 by omega)) k_516 kn_513 k_515 kp_33 k_5 ho_B_put rfl rfl ⟨by decide, by decide⟩ 3 (cwo_3 _) rfl rfl rfl (Nat.le_of_ble_eq_true rfl) d_S_join_69 ⟨by decide, by decide⟩ (fun r w hq => ?_)
            obtain ⟨rfl, rfl⟩ := hq
            refine g_eq (ws' := cw ad cI cZ (bu (bu (bu (bu y18 16 (unp (y18 16) a)) 13 (updI (y18 13) (b * 4 + (y18 14 b)) a)) 14 (updI (y18 14) b ((y18 14 b) + 1))) 15 (updI (y18 15) a b))) (lv' := [(0, .ref (ad 0)), (1, .int (iI a)), (2, .int (iI b))]) (pc' := 72) (st' := []) rfl rfl rfl rfl ?_
            have hl77 : 0 ≤ updI (y18 14) b (y18 14 b + 1) b ∧ updI (y18 14) b (y18 14 b + 1) b ≤ 4 := by rw [updI_s]; omega
            have h1377 : ∀ i, 0 ≤ i → i < 40 → 0 ≤ updI (y18 13) (b * 4 + y18 14 b) a i ∧ updI (y18 13) (b * 4 + y18 14 b) a i < 10 := by
              intro i h0 h1
              have := hoy.l13 i h0 h1
              unfold updI
              split <;> omega
            refine g_aload_n C (q := 0) d_S_join_72 rfl rfl ?_
            refine gG C (v := .ref (ad 3)) 0 2 u_S k_149 (cwo_0 _) rfl (by decide) rfl rfl d_S_join_73 ?_
            refine g_iload_n C (q := 2) d_S_join_76 rfl rfl ?_
            refine gVN C (st := []) (m_B_wayOf (bu (bu (bu (bu y18 16 (unp (y18 16) a)) 13 (updI (y18 13) (b * 4 + (y18 14 b)) a)) 14 (updI (y18 14) b ((y18 14 b) + 1))) 15 (updI (y18 15) a b)) b (by omega) hl77 h1377 hoy.r9) k_559 kn_556 k_558 kp_40 k_5 ho_B_wayOf rfl rfl ⟨by decide, by decide⟩ 3 (cwo_3 _) rfl rfl rfl (Nat.le_of_ble_eq_true rfl) d_S_join_77 ⟨by decide, by decide⟩ (fun r w hq => ?_)
            obtain ⟨rfl, rfl⟩ := hq
            refine g_eq (ws' := cw ad cI cZ (bu (bu (bu (bu y18 16 (unp (y18 16) a)) 13 (updI (y18 13) (b * 4 + (y18 14 b)) a)) 14 (updI (y18 14) b ((y18 14 b) + 1))) 15 (updI (y18 15) a b))) (lv' := [(0, .ref (ad 0)), (1, .int (iI a)), (2, .int (iI b))]) (pc' := 80) (st' := [.int (iI (wayB (bu (bu (bu (bu y18 16 (unp (y18 16) a)) 13 (updI (y18 13) (b * 4 + (y18 14 b)) a)) 14 (updI (y18 14) b ((y18 14 b) + 1))) 15 (updI (y18 15) a b)) b))]) rfl rfl rfl rfl ?_
            exact g_x (g_iret C hA hr d_S_join_80 (by decide) (by decide) ⟨⟨by omega, by omega, hiff18.mp (by omega), by rw [← e14]; exact hlt⟩, y18, hsc18, rfl, rfl⟩)
          · exact gT C hl hno hA (by decide +kernel) thk_UOE thi_UOE (is := 151) (text := "no room in the batch") (by decide +kernel) thr_UOE thg_UOE d_S_join_45 d_S_join_48 d_S_join_49 d_S_join_51 d_S_join_54 (by decide) (Nat.le_of_ble_eq_true rfl) (by decide) (by decide) (by decide) (by decide) ⟨_, rfl, hsc18, Or.inr (Or.inr ⟨rfl, ⟨by omega, by omega, hiff18.mp (by omega)⟩, by rw [← e14]; exact Classical.byContradiction fun q => absurd (b01_f q) (by omega)⟩)⟩
        · exact gT C hl hno hA (by decide +kernel) thk_ISE thi_ISE (is := 144) (text := "the order does not suit the batch") (by decide +kernel) thr_ISE thg_ISE d_S_join_24 d_S_join_27 d_S_join_28 d_S_join_30 d_S_join_33 (by decide) (Nat.le_of_ble_eq_true rfl) (by decide) (by decide) (by decide) (by decide) ⟨_, rfl, hsc18, Or.inr (Or.inl ⟨rfl, by omega, Or.inr (fun q => absurd (hiff18.mpr q) (by omega))⟩)⟩
      · refine gVx C (st := []) (t_S_needFree hl x a (by omega) (hok.i15 a (by omega) (by omega)) hc12) k_388 k_385 k_387 kp_17 k_1 rfl ho_S_needFree rfl rfl ⟨by decide, by decide⟩ 0 (cwo_0 _) rfl rfl rfl (Nat.le_of_ble_eq_true rfl) d_S_join_12 ⟨by decide, by decide⟩ (fun E w hq => ?_) (fun r w hq => hq.elim)
        obtain ⟨rfl, rfl⟩ := hq
        exact g_out C hno hA (by decide) (by decide) ⟨_, rfl, scr.rf x, Or.inr (Or.inl ⟨rfl, by omega, Or.inl (by omega)⟩)⟩
    · refine gVx C (st := []) (t_S_needBatch hl x b (by omega) (show InR (x 3 0) by omega) hc7) k_527 k_524 k_526 kp_34 k_1 rfl ho_S_needBatch rfl rfl ⟨by decide, by decide⟩ 0 (cwo_0 _) rfl rfl rfl (Nat.le_of_ble_eq_true rfl) d_S_join_7 ⟨by decide, by decide⟩ (fun E w hq => ?_) (fun r w hq => hq.elim)
      obtain ⟨rfl, rfl⟩ := hq
      exact g_out C hno hA (by decide) (by decide) ⟨_, rfl, scr.rf x, Or.inl ⟨rfl, by omega⟩⟩
  · refine gVx C (st := []) (t_S_needOrder hl x a (by omega) (show InR (x 1 0) by omega) hc2) k_308 k_305 k_307 kp_8 k_1 rfl ho_S_needOrder rfl rfl ⟨by decide, by decide⟩ 0 (cwo_0 _) rfl rfl rfl (Nat.le_of_ble_eq_true rfl) d_S_join_2 ⟨by decide, by decide⟩ (fun E w hq => ?_) (fun r w hq => hq.elim)
    obtain ⟨rfl, rfl⟩ := hq
    exact g_out C hno hA (by decide) (by decide) ⟨_, rfl, scr.rf x, Or.inl ⟨rfl, by omega⟩⟩
set_option maxRecDepth 100000 in
set_option maxHeartbeats 4000000 in
theorem m_S_leave {l : Launch} {D : va_G} {cI cZ cJ : ClassId} {base : Nat} {ad : Nat → Nat} (hl : l.stackTraces = false) (x : Bk) (a : Int) (ha : InR a) (hok : Ok x) : Cx l D cls9 (tyl cI cZ cJ) base (zz base) y_S_leave (wz y_S_leave c_S_leave 3 (some FieldType.int)) ({ frames := 7, cells := 1, slots := 6, locals := 103 } : Room) [.ref (ad 0), .int (iI a)] (cw ad cI cZ x) (fun r w => ((0 ≤ a ∧ a < x 1 0) ∧ ¬ x 15 a = -1) ∧ r = some (tk (x 15 a) a (x 13) (x 14 (x 15 a)).toNat).2 ∧ w = cw ad cI cZ (leX x a)) (fun E w => ∃ y : Bk, w = cw ad cI cZ y ∧ scr y x ∧ ((E = "java/util/NoSuchElementException" ∧ ¬ (0 ≤ a ∧ a < x 1 0)) ∨ (E = "java/lang/IllegalStateException" ∧ (0 ≤ a ∧ a < x 1 0) ∧ x 15 a = -1))) 1 6 := by
  refine Cx_of (zzG base) (by decide) rfl (Nat.le_of_ble_eq_true rfl) ?_
  intro p e s m args below meth c A C hr hA hno
  have C : gC p s m args meth c D cls9 (tyl cI cZ cJ) A c_S_leave 3 "BatchSavings" (wz y_S_leave c_S_leave 3 (some FieldType.int)) base (zz base) := C
  refine g_lve (lv' := [(0, .ref (ad 0)), (1, .int (iI a))]) rfl ?_
  have hn := hok.n
  have hnb := hok.b
  have hww := hok.w
  have hss := hok.s
  refine g_aload_n C (q := 0) d_S_leave_0 rfl rfl ?_
  refine g_iload_n C (q := 1) d_S_leave_1 rfl rfl ?_
  by_cases hc2 : 0 ≤ a ∧ a < (x 1 0)
  · refine gV C (st := []) (m_S_needOrder x a (by omega) (show InR (x 1 0) by omega) hc2) k_308 k_305 k_307 kp_8 k_1 rfl ho_S_needOrder rfl rfl ⟨by decide, by decide⟩ 0 (cwo_0 _) rfl rfl rfl (Nat.le_of_ble_eq_true rfl) d_S_leave_2 ⟨by decide, by decide⟩ (fun r w hq => ?_)
    obtain ⟨rfl, rfl⟩ := hq
    refine g_eq (ws' := cw ad cI cZ x) (lv' := [(0, .ref (ad 0)), (1, .int (iI a))]) (pc' := 5) (st' := []) rfl rfl rfl rfl ?_
    refine g_aload_n C (q := 0) d_S_leave_5 rfl rfl ?_
    refine gG C (v := .ref (ad 3)) 0 2 u_S k_149 (cwo_0 _) rfl (by decide) rfl rfl d_S_leave_6 ?_
    refine gGN C (v := .ref (ad 15)) 3 3 u_B kn_108 (cwo_3 _) rfl (by decide) rfl rfl d_S_leave_9 ?_
    refine g_iload_n C (q := 1) d_S_leave_12 rfl rfl ?_
    refine g_iald C 15 0 (cwa_15 _) rfl (by decide) (by omega) d_S_leave_13 ?_
    refine g_st (st' := [.int (iI (x 15 a))]) rfl ?_
    refine g_istore_n C (lv' := [(0, .ref (ad 0)), (1, .int (iI a)), (2, .int (iI (x 15 a)))]) d_S_leave_14 rfl (by decide) rfl rfl ?_
    have h15 := hok.r15 a (by omega) (by omega)
    refine g_iload_n C (q := 2) d_S_leave_15 rfl rfl ?_
    refine g_iconst C d_S_leave_16 ?_
    refine g_icmp_ne C (tgt := 30) d_S_leave_17 rfl (by omega) (by omega) (fun h17_1 => ?_) (fun h17_1 => ?_)
    · have hl14 := hok.r14 (x 15 a) (by omega) (by omega)
      have hr13 := hok.l13
      refine g_aload_n C (q := 0) d_S_leave_30 rfl rfl ?_
      refine gG C (v := .ref (ad 3)) 0 2 u_S k_149 (cwo_0 _) rfl (by decide) rfl rfl d_S_leave_31 ?_
      refine g_iload_n C (q := 1) d_S_leave_34 rfl rfl ?_
      refine g_iload_n C (q := 2) d_S_leave_35 rfl rfl ?_
      refine gVN C (st := []) (m_B_take x a (x 15 a) (by omega) (by omega) hl14 hr13) k_579 kn_576 k_578 kp_43 k_5 ho_B_take rfl rfl ⟨by decide, by decide⟩ 3 (cwo_3 _) rfl rfl rfl (Nat.le_of_ble_eq_true rfl) d_S_leave_36 ⟨by decide, by decide⟩ (fun r w hq => ?_)
      obtain ⟨rfl, rfl⟩ := hq
      refine g_eq (ws' := cw ad cI cZ (bu (bu (bu x 13 ((tk (x 15 a) a (x 13) ((x 14 (x 15 a))).toNat).1)) 14 (updI (x 14) (x 15 a) ((tk (x 15 a) a (x 13) ((x 14 (x 15 a))).toNat).2))) 15 (updI (x 15) a (-1)))) (lv' := [(0, .ref (ad 0)), (1, .int (iI a)), (2, .int (iI (x 15 a)))]) (pc' := 39) (st' := []) rfl rfl rfl rfl ?_
      refine g_aload_n C (q := 0) d_S_leave_39 rfl rfl ?_
      refine gG C (v := .ref (ad 3)) 0 2 u_S k_149 (cwo_0 _) rfl (by decide) rfl rfl d_S_leave_40 ?_
      refine gGN C (v := .ref (ad 14)) 3 2 u_B kn_106 (cwo_3 _) rfl (by decide) rfl rfl d_S_leave_43 ?_
      refine g_iload_n C (q := 2) d_S_leave_46 rfl rfl ?_
      refine g_iald C 14 0 (cwa_14 _) rfl (by decide) (by omega) d_S_leave_47 ?_
      refine g_st (st' := [.int (iI ((updI (x 14) (x 15 a) ((tk (x 15 a) a (x 13) ((x 14 (x 15 a))).toNat).2)) (x 15 a)))]) rfl ?_
      refine g_st (st' := [.int (iI (tk (x 15 a) a (x 13) (x 14 (x 15 a)).toNat).2)]) (by rw [updI_s]) ?_
      exact g_x (g_iret C hA hr d_S_leave_48 (by decide) (by decide) ⟨by omega, rfl, rfl⟩)
    · exact gT C hl hno hA (by decide +kernel) thk_ISE thi_ISE (is := 160) (text := "the order is free") (by decide +kernel) thr_ISE thg_ISE d_S_leave_20 d_S_leave_23 d_S_leave_24 d_S_leave_26 d_S_leave_29 (by decide) (Nat.le_of_ble_eq_true rfl) (by decide) (by decide) (by decide) (by decide) ⟨_, rfl, (scr.rf x), by first | exact Or.inl ⟨rfl, by omega⟩ | exact Or.inr (⟨rfl, by omega⟩)⟩
  · refine gVx C (st := []) (t_S_needOrder hl x a (by omega) (show InR (x 1 0) by omega) hc2) k_308 k_305 k_307 kp_8 k_1 rfl ho_S_needOrder rfl rfl ⟨by decide, by decide⟩ 0 (cwo_0 _) rfl rfl rfl (Nat.le_of_ble_eq_true rfl) d_S_leave_2 ⟨by decide, by decide⟩ (fun E w hq => ?_) (fun r w hq => hq.elim)
    obtain ⟨rfl, rfl⟩ := hq
    exact g_out C hno hA (by decide) (by decide) ⟨_, rfl, (scr.rf x), by first | exact Or.inl ⟨rfl, by omega⟩ | exact Or.inr (⟨rfl, by omega⟩)⟩
set_option maxRecDepth 100000 in
set_option maxHeartbeats 4000000 in
theorem m_S_told {l : Launch} {D : va_G} {cI cZ cJ : ClassId} {base : Nat} {ad : Nat → Nat} (hl : l.stackTraces = false) (x : Bk) (b i z : Int) (hb : InR b) (hi : InR i) (hz : InR z) (hok : Ok x) : Cx l D cls9 (tyl cI cZ cJ) base (zz base) y_S_told (wz y_S_told c_S_told 4 (some FieldType.int)) ({ frames := 7, cells := 1, slots := 6, locals := 104 } : Room) [.ref (ad 0), .int (iI b), .int (iI i), .int (iI z)] (cw ad cI cZ x) (fun r w => ((0 ≤ b ∧ b < x 3 0) ∧ ((0 ≤ z ∧ z ≤ 4) ∧ (z = 0 → 0 ≤ i ∧ i ≤ x 14 b - 1))) ∧ ((z = 0 ∧ r = some (x 13 (b * 4 + i))) ∨ (z = 1 ∧ r = some (wayB x b)) ∨ (z = 2 ∧ r = some (sby x b)) ∨ (z = 3 ∧ r = some (sumB x (x 6) b)) ∨ (z = 4 ∧ r = some (sumB x (x 8) b))) ∧ w = cw ad cI cZ x) (fun E w => ∃ y : Bk, w = cw ad cI cZ y ∧ scr y x ∧ ((E = "java/util/NoSuchElementException" ∧ ¬ (0 ≤ b ∧ b < x 3 0)) ∨ (E = "java/lang/IllegalArgumentException" ∧ (0 ≤ b ∧ b < x 3 0) ∧ ¬ ((0 ≤ z ∧ z ≤ 4) ∧ (z = 0 → 0 ≤ i ∧ i ≤ x 14 b - 1))))) 1 6 := by
  refine Cx_of (zzG base) (by decide) rfl (Nat.le_of_ble_eq_true rfl) ?_
  intro p e s m args below meth c A C hr hA hno
  have C : gC p s m args meth c D cls9 (tyl cI cZ cJ) A c_S_told 4 "BatchSavings" (wz y_S_told c_S_told 4 (some FieldType.int)) base (zz base) := C
  refine g_lve (lv' := [(0, .ref (ad 0)), (1, .int (iI b)), (2, .int (iI i)), (3, .int (iI z))]) rfl ?_
  have hn := hok.n
  have hnb := hok.b
  have hww := hok.w
  have hss := hok.s
  refine g_aload_n C (q := 0) d_S_told_0 rfl rfl ?_
  refine g_iload_n C (q := 1) d_S_told_1 rfl rfl ?_
  by_cases hc2 : 0 ≤ b ∧ b < (x 3 0)
  · refine gV C (st := []) (m_S_needBatch x b (by omega) (show InR (x 3 0) by omega) hc2) k_527 k_524 k_526 kp_34 k_1 rfl ho_S_needBatch rfl rfl ⟨by decide, by decide⟩ 0 (cwo_0 _) rfl rfl rfl (Nat.le_of_ble_eq_true rfl) d_S_told_2 ⟨by decide, by decide⟩ (fun r w hq => ?_)
    obtain ⟨rfl, rfl⟩ := hq
    refine g_eq (ws' := cw ad cI cZ x) (lv' := [(0, .ref (ad 0)), (1, .int (iI b)), (2, .int (iI i)), (3, .int (iI z))]) (pc' := 5) (st' := []) rfl rfl rfl rfl ?_
    have hl14 := hok.r14 b (by omega) (by omega)
    have hr13 := hok.l13
    have h9 := hok.r9
    refine g_iload_n C (q := 3) d_S_told_5 rfl rfl ?_
    by_cases hs6_0 : z = 0
    · refine g_tin C (tgt := 40) (off := 34) d_S_told_6 (by omega) (by omega) (by rw [hs6_0]; rfl) rfl ?_
      refine g_iload_n C (q := 2) d_S_told_40 rfl rfl ?_
      refine g_iconst C d_S_told_41 ?_
      refine g_aload_n C (q := 0) d_S_told_42 rfl rfl ?_
      refine gG C (v := .ref (ad 3)) 0 2 u_S k_149 (cwo_0 _) rfl (by decide) rfl rfl d_S_told_43 ?_
      refine gGN C (v := .ref (ad 14)) 3 2 u_B kn_106 (cwo_3 _) rfl (by decide) rfl rfl d_S_told_46 ?_
      refine g_iload_n C (q := 1) d_S_told_49 rfl rfl ?_
      refine g_iald C 14 0 (cwa_14 _) rfl (by decide) (by omega) d_S_told_50 ?_
      refine g_st (st' := [.int (iI (x 14 b)), .int (iI 0), .int (iI i)]) rfl ?_
      refine g_iconst C d_S_told_51 ?_
      refine g_isub C d_S_told_52 ?_
      by_cases hc53 : 0 ≤ i ∧ i ≤ ((x 14 b) - 1)
      · refine gS0 C (st := []) (m_S_needRange i 0 ((x 14 b) - 1) (by omega) (by omega) (by omega) hc53) k_202 k_200 k_201 k_1 rfl ho_S_needRange rfl rfl ⟨by decide, by decide⟩ rfl rfl (Nat.le_of_ble_eq_true rfl) d_S_told_53 ⟨by decide, by decide⟩ (fun r w hq => ?_)
        obtain ⟨rfl, rfl⟩ := hq
        refine g_eq (ws' := cw ad cI cZ x) (lv' := [(0, .ref (ad 0)), (1, .int (iI b)), (2, .int (iI i)), (3, .int (iI z))]) (pc' := 56) (st' := []) rfl rfl rfl rfl ?_
        refine g_aload_n C (q := 0) d_S_told_56 rfl rfl ?_
        refine gG C (v := .ref (ad 3)) 0 2 u_S k_149 (cwo_0 _) rfl (by decide) rfl rfl d_S_told_57 ?_
        refine g_iload_n C (q := 1) d_S_told_60 rfl rfl ?_
        refine g_iload_n C (q := 2) d_S_told_61 rfl rfl ?_
        refine gVN C (st := []) (m_B_orderAt x b i (by omega)) k_541 kn_538 k_540 kp_37 k_5 ho_B_orderAt rfl rfl ⟨by decide, by decide⟩ 3 (cwo_3 _) rfl rfl rfl (Nat.le_of_ble_eq_true rfl) d_S_told_62 ⟨by decide, by decide⟩ (fun r w hq => ?_)
        obtain ⟨rfl, rfl⟩ := hq
        refine g_eq (ws' := cw ad cI cZ x) (lv' := [(0, .ref (ad 0)), (1, .int (iI b)), (2, .int (iI i)), (3, .int (iI z))]) (pc' := 65) (st' := [.int (iI (x 13 (b * 4 + i)))]) rfl rfl rfl rfl ?_
        exact g_x (g_iret C hA hr d_S_told_65 (by decide) (by decide) ⟨by omega, Or.inl ⟨by omega, rfl⟩, rfl⟩)
      · refine gSx C (st := []) (t_S_needRange hl i 0 ((x 14 b) - 1) (by omega) (by omega) (by omega) hc53) k_202 k_200 k_201 k_1 rfl ho_S_needRange rfl rfl ⟨by decide, by decide⟩ rfl rfl (Nat.le_of_ble_eq_true rfl) d_S_told_53 ⟨by decide, by decide⟩ (fun E w hq => ?_) (fun r w hq => hq.elim)
        obtain ⟨rfl, rfl⟩ := hq
        exact g_out C hno hA (by decide) (by decide) ⟨_, rfl, (scr.rf x), by first | exact Or.inl ⟨rfl, by omega⟩ | exact Or.inr (⟨rfl, by omega⟩)⟩
    · skip
      by_cases hs6_1 : z = 1
      · refine g_tin C (tgt := 66) (off := 60) d_S_told_6 (by omega) (by omega) (by rw [hs6_1]; rfl) rfl ?_
        refine g_aload_n C (q := 0) d_S_told_66 rfl rfl ?_
        refine gG C (v := .ref (ad 3)) 0 2 u_S k_149 (cwo_0 _) rfl (by decide) rfl rfl d_S_told_67 ?_
        refine g_iload_n C (q := 1) d_S_told_70 rfl rfl ?_
        refine gVN C (st := []) (m_B_wayOf x b (by omega) hl14 hr13 h9) k_559 kn_556 k_558 kp_40 k_5 ho_B_wayOf rfl rfl ⟨by decide, by decide⟩ 3 (cwo_3 _) rfl rfl rfl (Nat.le_of_ble_eq_true rfl) d_S_told_71 ⟨by decide, by decide⟩ (fun r w hq => ?_)
        obtain ⟨rfl, rfl⟩ := hq
        refine g_eq (ws' := cw ad cI cZ x) (lv' := [(0, .ref (ad 0)), (1, .int (iI b)), (2, .int (iI i)), (3, .int (iI z))]) (pc' := 74) (st' := [.int (iI (wayB x b))]) rfl rfl rfl rfl ?_
        exact g_x (g_iret C hA hr d_S_told_74 (by decide) (by decide) ⟨by omega, Or.inr (Or.inl ⟨by omega, rfl⟩), rfl⟩)
      · skip
        by_cases hs6_2 : z = 2
        · refine g_tin C (tgt := 75) (off := 69) d_S_told_6 (by omega) (by omega) (by rw [hs6_2]; rfl) rfl ?_
          refine g_aload_n C (q := 0) d_S_told_75 rfl rfl ?_
          refine gG C (v := .ref (ad 3)) 0 2 u_S k_149 (cwo_0 _) rfl (by decide) rfl rfl d_S_told_76 ?_
          refine g_iload_n C (q := 1) d_S_told_79 rfl rfl ?_
          refine gVN C (st := []) (m_B_savedBy x b (by omega) hl14 hr13 h9) k_567 kn_594 k_566 kp_42 k_5 ho_B_savedBy rfl rfl ⟨by decide, by decide⟩ 3 (cwo_3 _) rfl rfl rfl (Nat.le_of_ble_eq_true rfl) d_S_told_80 ⟨by decide, by decide⟩ (fun r w hq => ?_)
          obtain ⟨rfl, rfl⟩ := hq
          refine g_eq (ws' := cw ad cI cZ x) (lv' := [(0, .ref (ad 0)), (1, .int (iI b)), (2, .int (iI i)), (3, .int (iI z))]) (pc' := 83) (st' := [.int (iI (sby x b))]) rfl rfl rfl rfl ?_
          exact g_x (g_iret C hA hr d_S_told_83 (by decide) (by decide) ⟨by omega, Or.inr (Or.inr (Or.inl ⟨by omega, rfl⟩)), rfl⟩)
        · skip
          by_cases hs6_3 : z = 3
          · refine g_tin C (tgt := 84) (off := 78) d_S_told_6 (by omega) (by omega) (by rw [hs6_3]; rfl) rfl ?_
            refine g_aload_n C (q := 0) d_S_told_84 rfl rfl ?_
            refine gG C (v := .ref (ad 3)) 0 2 u_S k_149 (cwo_0 _) rfl (by decide) rfl rfl d_S_told_85 ?_
            refine g_iload_n C (q := 1) d_S_told_88 rfl rfl ?_
            refine g_aload_n C (q := 0) d_S_told_89 rfl rfl ?_
            refine gG C (v := .ref (ad 1)) 0 0 u_S k_147 (cwo_0 _) rfl (by decide) rfl rfl d_S_told_90 ?_
            refine gGN C (v := .ref (ad 6)) 1 1 u_O kn_39 (cwo_1 _) rfl (by decide) rfl rfl d_S_told_93 ?_
            refine gVN C (st := []) (m_B_sumOf x (x 6) (ad 6) 6 (cwa_6 _) b (by omega) hl14 hr13) k_563 kn_595 k_562 kp_41 k_5 ho_B_sumOf rfl rfl ⟨by decide, by decide⟩ 3 (cwo_3 _) rfl rfl rfl (Nat.le_of_ble_eq_true rfl) d_S_told_96 ⟨by decide, by decide⟩ (fun r w hq => ?_)
            obtain ⟨rfl, rfl⟩ := hq
            refine g_eq (ws' := cw ad cI cZ x) (lv' := [(0, .ref (ad 0)), (1, .int (iI b)), (2, .int (iI i)), (3, .int (iI z))]) (pc' := 99) (st' := [.int (iI (sumB x (x 6) b))]) rfl rfl rfl rfl ?_
            exact g_x (g_iret C hA hr d_S_told_99 (by decide) (by decide) ⟨by omega, Or.inr (Or.inr (Or.inr (Or.inl ⟨by omega, rfl⟩))), rfl⟩)
          · skip
            by_cases hs6_4 : z = 4
            · refine g_tin C (tgt := 100) (off := 94) d_S_told_6 (by omega) (by omega) (by rw [hs6_4]; rfl) rfl ?_
              refine g_aload_n C (q := 0) d_S_told_100 rfl rfl ?_
              refine gG C (v := .ref (ad 3)) 0 2 u_S k_149 (cwo_0 _) rfl (by decide) rfl rfl d_S_told_101 ?_
              refine g_iload_n C (q := 1) d_S_told_104 rfl rfl ?_
              refine g_aload_n C (q := 0) d_S_told_105 rfl rfl ?_
              refine gG C (v := .ref (ad 1)) 0 0 u_S k_147 (cwo_0 _) rfl (by decide) rfl rfl d_S_told_106 ?_
              refine gGN C (v := .ref (ad 8)) 1 3 u_O kn_44 (cwo_1 _) rfl (by decide) rfl rfl d_S_told_109 ?_
              refine gVN C (st := []) (m_B_sumOf x (x 8) (ad 8) 8 (cwa_8 _) b (by omega) hl14 hr13) k_563 kn_595 k_562 kp_41 k_5 ho_B_sumOf rfl rfl ⟨by decide, by decide⟩ 3 (cwo_3 _) rfl rfl rfl (Nat.le_of_ble_eq_true rfl) d_S_told_112 ⟨by decide, by decide⟩ (fun r w hq => ?_)
              obtain ⟨rfl, rfl⟩ := hq
              refine g_eq (ws' := cw ad cI cZ x) (lv' := [(0, .ref (ad 0)), (1, .int (iI b)), (2, .int (iI i)), (3, .int (iI z))]) (pc' := 115) (st' := [.int (iI (sumB x (x 8) b))]) rfl rfl rfl rfl ?_
              exact g_x (g_iret C hA hr d_S_told_115 (by decide) (by decide) ⟨by omega, Or.inr (Or.inr (Or.inr (Or.inr ⟨by omega, rfl⟩))), rfl⟩)
            · skip
              refine g_tout C (tgt := 116) d_S_told_6 (by omega) (by omega) rfl ?_
              exact gT C hl hno hA (by decide +kernel) thk_IAE thi_IAE (is := 183) (text := "no such what") (by decide +kernel) thr_IAE thg_IAE d_S_told_116 d_S_told_119 d_S_told_120 d_S_told_122 d_S_told_125 (by decide) (Nat.le_of_ble_eq_true rfl) (by decide) (by decide) (by decide) (by decide) ⟨_, rfl, (scr.rf x), by first | exact Or.inl ⟨rfl, by omega⟩ | exact Or.inr (⟨rfl, by omega⟩)⟩
  · refine gVx C (st := []) (t_S_needBatch hl x b (by omega) (show InR (x 3 0) by omega) hc2) k_527 k_524 k_526 kp_34 k_1 rfl ho_S_needBatch rfl rfl ⟨by decide, by decide⟩ 0 (cwo_0 _) rfl rfl rfl (Nat.le_of_ble_eq_true rfl) d_S_told_2 ⟨by decide, by decide⟩ (fun E w hq => ?_) (fun r w hq => hq.elim)
    obtain ⟨rfl, rfl⟩ := hq
    exact g_out C hno hA (by decide) (by decide) ⟨_, rfl, (scr.rf x), by first | exact Or.inl ⟨rfl, by omega⟩ | exact Or.inr (⟨rfl, by omega⟩)⟩
