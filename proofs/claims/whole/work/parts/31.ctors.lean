theorem ob_code : Cond.code Lib.objectInit ⟨#[0xb1]⟩ 1 none ∈ gws := tw 25 (by decide +kernel) rfl
theorem ob_inst : Cond.instanceMethod Lib.objectInit ∈ gws := tw 24 (by decide +kernel) rfl
theorem ob_link_S : Cond.methodLink "BatchSavings" 1 Lib.objectInit ∈ gws := tw 23 (by decide +kernel) rfl
theorem ob_link_O : Cond.methodLink "BatchSavings$Orders" 3 Lib.objectInit ∈ gws := tw 31 (by decide +kernel) rfl
theorem ob_link_R : Cond.methodLink "BatchSavings$Rules" 3 Lib.objectInit ∈ gws := tw 70 (by decide +kernel) rfl
theorem ob_link_B : Cond.methodLink "BatchSavings$Batches" 3 Lib.objectInit ∈ gws := tw 101 (by decide +kernel) rfl
theorem ob_link_M : Cond.methodLink "BatchSavings$Matching" 3 Lib.objectInit ∈ gws := tw 127 (by decide +kernel) rfl
theorem ob_link_Tw : Cond.methodLink "BatchSavingsModel" 1 Lib.objectInit ∈ gws := tw 647 (by decide +kernel) rfl
set_option maxRecDepth 100000 in
set_option maxHeartbeats 4000000 in
theorem m_O_init {l : Launch} {D : va_G} {cI cZ cJ : ClassId} {base : Nat} (h : Nat) : Cn l D cls9 (tyl cI cZ cJ) base (zz base) y_O_init (wz y_O_init c_O_init 1 none) ({ frames := 1, cells := 5, slots := 140, locals := 23 } : Room) [.ref h] [(h, .inr (1, [.null, .null, .null, .null, .null, .int (iI 0)]))] (fun r w => r = none ∧ ∃ q1 q2 q3 q4 q5 : Nat, w = [(h, .inr (1, [.ref q1, .ref q2, .ref q3, .ref q4, .ref q5, .int (iI 0)])), (q1, .inl (cI, 10, .inl (aI (fun _ => 0)))), (q2, .inl (cI, 10, .inl (aI (fun _ => 0)))), (q3, .inl (cI, 10, .inl (aI (fun _ => 0)))), (q4, .inl (cI, 10, .inl (aI (fun _ => 0)))), (q5, .inl (cI, 100, .inl (aI (fl (fun _ => 0) (-1) 100))))]) 5 140 := by
  refine Cn_of (zzG base) (by decide) rfl (Nat.le_of_ble_eq_true rfl) ?_
  intro p e s m args below meth c A C hr hA hnm
  have C : gC p s m args meth c D cls9 (tyl cI cZ cJ) A c_O_init 1 "BatchSavings$Orders" (wz y_O_init c_O_init 1 none) base (zz base) := C
  refine g_lve (lv' := [(0, .ref h)]) rfl ?_
  refine g_aload_n C (q := 0) d_O_init_0 rfl rfl ?_
  refine g_obj C ob_link_O ob_inst ob_code (by decide) (Nat.le_of_ble_eq_true rfl) d_O_init_1 ?_
  refine g_aload_n C (q := 0) d_O_init_4 rfl rfl ?_
  refine g_bipush C d_O_init_5 rfl ?_
  refine g_newa C (N := 10) (t0 := 0) (ty := .int) (gws_in k_64) rfl (fun C => by intro q; cases q) rfl rfl rfl (by decide) (by decide) (by decide) (by decide) d_O_init_7 (fun q1 => ?_)
  refine g_ws (ws' := [(h, .inr (1, [.null, .null, .null, .null, .null, .int (iI 0)])), (q1, .inl (cI, 10, .inl (aI (fun _ => 0))))]) rfl ?_
  refine gPF C hnm 0 0 t_O to_O n_O u_O k_35 rfl rfl (by decide) rfl rfl rfl rfl rfl rfl (Nat.le_of_ble_eq_true rfl) d_O_init_9 (ws' := [(h, .inr (1, [.ref q1, .null, .null, .null, .null, .int (iI 0)])), (q1, .inl (cI, 10, .inl (aI (fun _ => 0))))]) rfl ?_
  refine g_aload_n C (q := 0) d_O_init_12 rfl rfl ?_
  refine g_bipush C d_O_init_13 rfl ?_
  refine g_newa C (N := 10) (t0 := 0) (ty := .int) (gws_in k_64) rfl (fun C => by intro q; cases q) rfl rfl rfl (by decide) (by decide) (by decide) (by decide) d_O_init_15 (fun q2 => ?_)
  refine g_ws (ws' := [(h, .inr (1, [.ref q1, .null, .null, .null, .null, .int (iI 0)])), (q1, .inl (cI, 10, .inl (aI (fun _ => 0)))), (q2, .inl (cI, 10, .inl (aI (fun _ => 0))))]) rfl ?_
  refine gPF C hnm 0 1 t_O to_O n_O u_O k_37 rfl rfl (by decide) rfl rfl rfl rfl rfl rfl (Nat.le_of_ble_eq_true rfl) d_O_init_17 (ws' := [(h, .inr (1, [.ref q1, .ref q2, .null, .null, .null, .int (iI 0)])), (q1, .inl (cI, 10, .inl (aI (fun _ => 0)))), (q2, .inl (cI, 10, .inl (aI (fun _ => 0))))]) rfl ?_
  refine g_aload_n C (q := 0) d_O_init_20 rfl rfl ?_
  refine g_bipush C d_O_init_21 rfl ?_
  refine g_newa C (N := 10) (t0 := 0) (ty := .int) (gws_in k_64) rfl (fun C => by intro q; cases q) rfl rfl rfl (by decide) (by decide) (by decide) (by decide) d_O_init_23 (fun q3 => ?_)
  refine g_ws (ws' := [(h, .inr (1, [.ref q1, .ref q2, .null, .null, .null, .int (iI 0)])), (q1, .inl (cI, 10, .inl (aI (fun _ => 0)))), (q2, .inl (cI, 10, .inl (aI (fun _ => 0)))), (q3, .inl (cI, 10, .inl (aI (fun _ => 0))))]) rfl ?_
  refine gPF C hnm 0 2 t_O to_O n_O u_O k_40 rfl rfl (by decide) rfl rfl rfl rfl rfl rfl (Nat.le_of_ble_eq_true rfl) d_O_init_25 (ws' := [(h, .inr (1, [.ref q1, .ref q2, .ref q3, .null, .null, .int (iI 0)])), (q1, .inl (cI, 10, .inl (aI (fun _ => 0)))), (q2, .inl (cI, 10, .inl (aI (fun _ => 0)))), (q3, .inl (cI, 10, .inl (aI (fun _ => 0))))]) rfl ?_
  refine g_aload_n C (q := 0) d_O_init_28 rfl rfl ?_
  refine g_bipush C d_O_init_29 rfl ?_
  refine g_newa C (N := 10) (t0 := 0) (ty := .int) (gws_in k_64) rfl (fun C => by intro q; cases q) rfl rfl rfl (by decide) (by decide) (by decide) (by decide) d_O_init_31 (fun q4 => ?_)
  refine g_ws (ws' := [(h, .inr (1, [.ref q1, .ref q2, .ref q3, .null, .null, .int (iI 0)])), (q1, .inl (cI, 10, .inl (aI (fun _ => 0)))), (q2, .inl (cI, 10, .inl (aI (fun _ => 0)))), (q3, .inl (cI, 10, .inl (aI (fun _ => 0)))), (q4, .inl (cI, 10, .inl (aI (fun _ => 0))))]) rfl ?_
  refine gPF C hnm 0 3 t_O to_O n_O u_O k_42 rfl rfl (by decide) rfl rfl rfl rfl rfl rfl (Nat.le_of_ble_eq_true rfl) d_O_init_33 (ws' := [(h, .inr (1, [.ref q1, .ref q2, .ref q3, .ref q4, .null, .int (iI 0)])), (q1, .inl (cI, 10, .inl (aI (fun _ => 0)))), (q2, .inl (cI, 10, .inl (aI (fun _ => 0)))), (q3, .inl (cI, 10, .inl (aI (fun _ => 0)))), (q4, .inl (cI, 10, .inl (aI (fun _ => 0))))]) rfl ?_
  refine g_aload_n C (q := 0) d_O_init_36 rfl rfl ?_
  refine g_bipush C d_O_init_37 rfl ?_
  refine g_newa C (N := 100) (t0 := 0) (ty := .int) (gws_in k_64) rfl (fun C => by intro q; cases q) rfl rfl rfl (by decide) (by decide) (by decide) (by decide) d_O_init_39 (fun q5 => ?_)
  refine g_ws (ws' := [(h, .inr (1, [.ref q1, .ref q2, .ref q3, .ref q4, .null, .int (iI 0)])), (q1, .inl (cI, 10, .inl (aI (fun _ => 0)))), (q2, .inl (cI, 10, .inl (aI (fun _ => 0)))), (q3, .inl (cI, 10, .inl (aI (fun _ => 0)))), (q4, .inl (cI, 10, .inl (aI (fun _ => 0)))), (q5, .inl (cI, 100, .inl (aI (fun _ => 0))))]) rfl ?_
  refine gPF C hnm 0 4 t_O to_O n_O u_O k_45 rfl rfl (by decide) rfl rfl rfl rfl rfl rfl (Nat.le_of_ble_eq_true rfl) d_O_init_41 (ws' := [(h, .inr (1, [.ref q1, .ref q2, .ref q3, .ref q4, .ref q5, .int (iI 0)])), (q1, .inl (cI, 10, .inl (aI (fun _ => 0)))), (q2, .inl (cI, 10, .inl (aI (fun _ => 0)))), (q3, .inl (cI, 10, .inl (aI (fun _ => 0)))), (q4, .inl (cI, 10, .inl (aI (fun _ => 0)))), (q5, .inl (cI, 100, .inl (aI (fun _ => 0))))]) rfl ?_
  refine g_aload_n C (q := 0) d_O_init_44 rfl rfl ?_
  refine gG C (v := .ref q5) 0 4 u_O k_45 rfl rfl (by decide) rfl rfl d_O_init_45 ?_
  refine g_iconst C d_O_init_48 ?_
  refine gSoW C (st := []) (m_A_fill [(h, .inr (1, [.ref q1, .ref q2, .ref q3, .ref q4, .ref q5, .int (iI 0)])), (q1, .inl (cI, 10, .inl (aI (fun _ => 0)))), (q2, .inl (cI, 10, .inl (aI (fun _ => 0)))), (q3, .inl (cI, 10, .inl (aI (fun _ => 0)))), (q4, .inl (cI, 10, .inl (aI (fun _ => 0)))), (q5, .inl (cI, 100, .inl (aI (fun _ => 0))))] (fun _ => 0) (-1) q5 5 100 (by decide) rfl) k_34 k_32 k_33 k_3 ho_A_fill rfl rfl ⟨by decide, by decide⟩ rfl rfl (Nat.le_of_ble_eq_true rfl) d_O_init_49 ⟨by decide, by decide⟩ (fun r w hq => ?_)
  obtain ⟨rfl, rfl⟩ := hq
  refine g_eq (ws' := [(h, .inr (1, [.ref q1, .ref q2, .ref q3, .ref q4, .ref q5, .int (iI 0)])), (q1, .inl (cI, 10, .inl (aI (fun _ => 0)))), (q2, .inl (cI, 10, .inl (aI (fun _ => 0)))), (q3, .inl (cI, 10, .inl (aI (fun _ => 0)))), (q4, .inl (cI, 10, .inl (aI (fun _ => 0)))), (q5, .inl (cI, 100, .inl (aI (fl (fun _ => 0) (-1) 100))))]) (lv' := [(0, .ref h)]) (pc' := 52) (st' := []) rfl rfl rfl rfl ?_
  exact g_vret C hA hr d_O_init_52 (by decide) (by decide) ⟨rfl, q1, q2, q3, q4, q5, rfl⟩
set_option maxRecDepth 100000 in
set_option maxHeartbeats 4000000 in
theorem m_B_init {l : Launch} {D : va_G} {cI cZ cJ : ClassId} {base : Nat} (h ho : Nat) : Cn l D cls9 (tyl cI cZ cJ) base (zz base) y_B_init (wz y_B_init c_B_init 2 none) ({ frames := 1, cells := 3, slots := 60, locals := 23 } : Room) [.ref h, .ref ho] [(h, .inr (3, [.null, .null, .null, .null, .int (iI 0)]))] (fun r w => r = none ∧ ∃ q1 q2 q3 : Nat, w = [(h, .inr (3, [.ref ho, .ref q1, .ref q2, .ref q3, .int (iI 0)])), (q1, .inl (cI, 40, .inl (aI (fun _ => 0)))), (q2, .inl (cI, 10, .inl (aI (fun _ => 0)))), (q3, .inl (cI, 10, .inl (aI (fl (fun _ => 0) (-1) 10))))]) 3 60 := by
  refine Cn_of (zzG base) (by decide) rfl (Nat.le_of_ble_eq_true rfl) ?_
  intro p e s m args below meth c A C hr hA hnm
  have C : gC p s m args meth c D cls9 (tyl cI cZ cJ) A c_B_init 2 "BatchSavings$Batches" (wz y_B_init c_B_init 2 none) base (zz base) := C
  refine g_lve (lv' := [(0, .ref h), (1, .ref ho)]) rfl ?_
  refine g_aload_n C (q := 0) d_B_init_0 rfl rfl ?_
  refine g_obj C ob_link_B ob_inst ob_code (by decide) (Nat.le_of_ble_eq_true rfl) d_B_init_1 ?_
  refine g_aload_n C (q := 0) d_B_init_4 rfl rfl ?_
  refine g_bipush C d_B_init_5 rfl ?_
  refine g_newa C (N := 40) (t0 := 0) (ty := .int) (gws_in k_64) rfl (fun C => by intro q; cases q) rfl rfl rfl (by decide) (by decide) (by decide) (by decide) d_B_init_7 (fun q1 => ?_)
  refine g_ws (ws' := [(h, .inr (3, [.null, .null, .null, .null, .int (iI 0)])), (q1, .inl (cI, 40, .inl (aI (fun _ => 0))))]) rfl ?_
  refine gPF C hnm 0 1 t_B to_B n_B u_B k_104 rfl rfl (by decide) rfl rfl rfl rfl rfl rfl (Nat.le_of_ble_eq_true rfl) d_B_init_9 (ws' := [(h, .inr (3, [.null, .ref q1, .null, .null, .int (iI 0)])), (q1, .inl (cI, 40, .inl (aI (fun _ => 0))))]) rfl ?_
  refine g_aload_n C (q := 0) d_B_init_12 rfl rfl ?_
  refine g_bipush C d_B_init_13 rfl ?_
  refine g_newa C (N := 10) (t0 := 0) (ty := .int) (gws_in k_64) rfl (fun C => by intro q; cases q) rfl rfl rfl (by decide) (by decide) (by decide) (by decide) d_B_init_15 (fun q2 => ?_)
  refine g_ws (ws' := [(h, .inr (3, [.null, .ref q1, .null, .null, .int (iI 0)])), (q1, .inl (cI, 40, .inl (aI (fun _ => 0)))), (q2, .inl (cI, 10, .inl (aI (fun _ => 0))))]) rfl ?_
  refine gPF C hnm 0 2 t_B to_B n_B u_B k_105 rfl rfl (by decide) rfl rfl rfl rfl rfl rfl (Nat.le_of_ble_eq_true rfl) d_B_init_17 (ws' := [(h, .inr (3, [.null, .ref q1, .ref q2, .null, .int (iI 0)])), (q1, .inl (cI, 40, .inl (aI (fun _ => 0)))), (q2, .inl (cI, 10, .inl (aI (fun _ => 0))))]) rfl ?_
  refine g_aload_n C (q := 0) d_B_init_20 rfl rfl ?_
  refine g_bipush C d_B_init_21 rfl ?_
  refine g_newa C (N := 10) (t0 := 0) (ty := .int) (gws_in k_64) rfl (fun C => by intro q; cases q) rfl rfl rfl (by decide) (by decide) (by decide) (by decide) d_B_init_23 (fun q3 => ?_)
  refine g_ws (ws' := [(h, .inr (3, [.null, .ref q1, .ref q2, .null, .int (iI 0)])), (q1, .inl (cI, 40, .inl (aI (fun _ => 0)))), (q2, .inl (cI, 10, .inl (aI (fun _ => 0)))), (q3, .inl (cI, 10, .inl (aI (fun _ => 0))))]) rfl ?_
  refine gPF C hnm 0 3 t_B to_B n_B u_B k_107 rfl rfl (by decide) rfl rfl rfl rfl rfl rfl (Nat.le_of_ble_eq_true rfl) d_B_init_25 (ws' := [(h, .inr (3, [.null, .ref q1, .ref q2, .ref q3, .int (iI 0)])), (q1, .inl (cI, 40, .inl (aI (fun _ => 0)))), (q2, .inl (cI, 10, .inl (aI (fun _ => 0)))), (q3, .inl (cI, 10, .inl (aI (fun _ => 0))))]) rfl ?_
  refine g_aload_n C (q := 0) d_B_init_28 rfl rfl ?_
  refine g_aload_n C (q := 1) d_B_init_29 rfl rfl ?_
  refine gPF C hnm 0 0 t_B to_B n_B u_B k_103 rfl rfl (by decide) rfl rfl rfl rfl rfl rfl (Nat.le_of_ble_eq_true rfl) d_B_init_30 (ws' := [(h, .inr (3, [.ref ho, .ref q1, .ref q2, .ref q3, .int (iI 0)])), (q1, .inl (cI, 40, .inl (aI (fun _ => 0)))), (q2, .inl (cI, 10, .inl (aI (fun _ => 0)))), (q3, .inl (cI, 10, .inl (aI (fun _ => 0))))]) rfl ?_
  refine g_aload_n C (q := 0) d_B_init_33 rfl rfl ?_
  refine gG C (v := .ref q3) 0 3 u_B k_107 rfl rfl (by decide) rfl rfl d_B_init_34 ?_
  refine g_iconst C d_B_init_37 ?_
  refine gSoW C (st := []) (m_A_fill [(h, .inr (3, [.ref ho, .ref q1, .ref q2, .ref q3, .int (iI 0)])), (q1, .inl (cI, 40, .inl (aI (fun _ => 0)))), (q2, .inl (cI, 10, .inl (aI (fun _ => 0)))), (q3, .inl (cI, 10, .inl (aI (fun _ => 0))))] (fun _ => 0) (-1) q3 3 10 (by decide) rfl) k_34 k_102 k_33 k_3 ho_A_fill rfl rfl ⟨by decide, by decide⟩ rfl rfl (Nat.le_of_ble_eq_true rfl) d_B_init_38 ⟨by decide, by decide⟩ (fun r w hq => ?_)
  obtain ⟨rfl, rfl⟩ := hq
  refine g_eq (ws' := [(h, .inr (3, [.ref ho, .ref q1, .ref q2, .ref q3, .int (iI 0)])), (q1, .inl (cI, 40, .inl (aI (fun _ => 0)))), (q2, .inl (cI, 10, .inl (aI (fun _ => 0)))), (q3, .inl (cI, 10, .inl (aI (fl (fun _ => 0) (-1) 10))))]) (lv' := [(0, .ref h), (1, .ref ho)]) (pc' := 41) (st' := []) rfl rfl rfl rfl ?_
  exact g_vret C hA hr d_B_init_41 (by decide) (by decide) ⟨rfl, q1, q2, q3, rfl⟩
set_option maxRecDepth 100000 in
set_option maxHeartbeats 4000000 in
theorem m_M_init {l : Launch} {D : va_G} {cI cZ cJ : ClassId} {base : Nat} (h ho : Nat) : Cn l D cls9 (tyl cI cZ cJ) base (zz base) y_M_init (wz y_M_init c_M_init 2 none) ({ frames := 1, cells := 3, slots := 1134, locals := 23 } : Room) [.ref h, .ref ho] [(h, .inr (4, [.null, .null, .null, .null, .int (iI 0)]))] (fun r w => r = none ∧ ∃ q1 q2 q3 : Nat, w = [(h, .inr (4, [.ref ho, .ref q1, .ref q2, .ref q3, .int (iI 0)])), (q1, .inl (cI, 10, .inl (aI (fl (fun _ => 0) (-1) 10)))), (q2, .inl (cI, 100, .inl (aI (fun _ => 0)))), (q3, .inl (cI, 1024, .inl (aI (fun _ => 0))))]) 3 1134 := by
  refine Cn_of (zzG base) (by decide) rfl (Nat.le_of_ble_eq_true rfl) ?_
  intro p e s m args below meth c A C hr hA hnm
  have C : gC p s m args meth c D cls9 (tyl cI cZ cJ) A c_M_init 2 "BatchSavings$Matching" (wz y_M_init c_M_init 2 none) base (zz base) := C
  refine g_lve (lv' := [(0, .ref h), (1, .ref ho)]) rfl ?_
  refine g_aload_n C (q := 0) d_M_init_0 rfl rfl ?_
  refine g_obj C ob_link_M ob_inst ob_code (by decide) (Nat.le_of_ble_eq_true rfl) d_M_init_1 ?_
  refine g_aload_n C (q := 0) d_M_init_4 rfl rfl ?_
  refine g_bipush C d_M_init_5 rfl ?_
  refine g_newa C (N := 10) (t0 := 0) (ty := .int) (gws_in k_64) rfl (fun C => by intro q; cases q) rfl rfl rfl (by decide) (by decide) (by decide) (by decide) d_M_init_7 (fun q1 => ?_)
  refine g_ws (ws' := [(h, .inr (4, [.null, .null, .null, .null, .int (iI 0)])), (q1, .inl (cI, 10, .inl (aI (fun _ => 0))))]) rfl ?_
  refine gPF C hnm 0 1 t_M to_M n_M u_M k_130 rfl rfl (by decide) rfl rfl rfl rfl rfl rfl (Nat.le_of_ble_eq_true rfl) d_M_init_9 (ws' := [(h, .inr (4, [.null, .ref q1, .null, .null, .int (iI 0)])), (q1, .inl (cI, 10, .inl (aI (fun _ => 0))))]) rfl ?_
  refine g_aload_n C (q := 0) d_M_init_12 rfl rfl ?_
  refine g_bipush C d_M_init_13 rfl ?_
  refine g_newa C (N := 100) (t0 := 0) (ty := .int) (gws_in k_64) rfl (fun C => by intro q; cases q) rfl rfl rfl (by decide) (by decide) (by decide) (by decide) d_M_init_15 (fun q2 => ?_)
  refine g_ws (ws' := [(h, .inr (4, [.null, .ref q1, .null, .null, .int (iI 0)])), (q1, .inl (cI, 10, .inl (aI (fun _ => 0)))), (q2, .inl (cI, 100, .inl (aI (fun _ => 0))))]) rfl ?_
  refine gPF C hnm 0 2 t_M to_M n_M u_M k_132 rfl rfl (by decide) rfl rfl rfl rfl rfl rfl (Nat.le_of_ble_eq_true rfl) d_M_init_17 (ws' := [(h, .inr (4, [.null, .ref q1, .ref q2, .null, .int (iI 0)])), (q1, .inl (cI, 10, .inl (aI (fun _ => 0)))), (q2, .inl (cI, 100, .inl (aI (fun _ => 0))))]) rfl ?_
  refine g_aload_n C (q := 0) d_M_init_20 rfl rfl ?_
  refine g_sipush C d_M_init_21 rfl ?_
  refine g_newa C (N := 1024) (t0 := 0) (ty := .int) (gws_in k_64) rfl (fun C => by intro q; cases q) rfl rfl rfl (by decide) (by decide) (by decide) (by decide) d_M_init_24 (fun q3 => ?_)
  refine g_ws (ws' := [(h, .inr (4, [.null, .ref q1, .ref q2, .null, .int (iI 0)])), (q1, .inl (cI, 10, .inl (aI (fun _ => 0)))), (q2, .inl (cI, 100, .inl (aI (fun _ => 0)))), (q3, .inl (cI, 1024, .inl (aI (fun _ => 0))))]) rfl ?_
  refine gPF C hnm 0 3 t_M to_M n_M u_M k_133 rfl rfl (by decide) rfl rfl rfl rfl rfl rfl (Nat.le_of_ble_eq_true rfl) d_M_init_26 (ws' := [(h, .inr (4, [.null, .ref q1, .ref q2, .ref q3, .int (iI 0)])), (q1, .inl (cI, 10, .inl (aI (fun _ => 0)))), (q2, .inl (cI, 100, .inl (aI (fun _ => 0)))), (q3, .inl (cI, 1024, .inl (aI (fun _ => 0))))]) rfl ?_
  refine g_aload_n C (q := 0) d_M_init_29 rfl rfl ?_
  refine g_aload_n C (q := 1) d_M_init_30 rfl rfl ?_
  refine gPF C hnm 0 0 t_M to_M n_M u_M k_129 rfl rfl (by decide) rfl rfl rfl rfl rfl rfl (Nat.le_of_ble_eq_true rfl) d_M_init_31 (ws' := [(h, .inr (4, [.ref ho, .ref q1, .ref q2, .ref q3, .int (iI 0)])), (q1, .inl (cI, 10, .inl (aI (fun _ => 0)))), (q2, .inl (cI, 100, .inl (aI (fun _ => 0)))), (q3, .inl (cI, 1024, .inl (aI (fun _ => 0))))]) rfl ?_
  refine g_aload_n C (q := 0) d_M_init_34 rfl rfl ?_
  refine gG C (v := .ref q1) 0 1 u_M k_130 rfl rfl (by decide) rfl rfl d_M_init_35 ?_
  refine g_iconst C d_M_init_38 ?_
  refine gSoW C (st := []) (m_A_fill [(h, .inr (4, [.ref ho, .ref q1, .ref q2, .ref q3, .int (iI 0)])), (q1, .inl (cI, 10, .inl (aI (fun _ => 0)))), (q2, .inl (cI, 100, .inl (aI (fun _ => 0)))), (q3, .inl (cI, 1024, .inl (aI (fun _ => 0))))] (fun _ => 0) (-1) q1 1 10 (by decide) rfl) k_34 k_128 k_33 k_3 ho_A_fill rfl rfl ⟨by decide, by decide⟩ rfl rfl (Nat.le_of_ble_eq_true rfl) d_M_init_39 ⟨by decide, by decide⟩ (fun r w hq => ?_)
  obtain ⟨rfl, rfl⟩ := hq
  refine g_eq (ws' := [(h, .inr (4, [.ref ho, .ref q1, .ref q2, .ref q3, .int (iI 0)])), (q1, .inl (cI, 10, .inl (aI (fl (fun _ => 0) (-1) 10)))), (q2, .inl (cI, 100, .inl (aI (fun _ => 0)))), (q3, .inl (cI, 1024, .inl (aI (fun _ => 0))))]) (lv' := [(0, .ref h), (1, .ref ho)]) (pc' := 42) (st' := []) rfl rfl rfl rfl ?_
  exact g_vret C hA hr d_M_init_42 (by decide) (by decide) ⟨rfl, q1, q2, q3, rfl⟩
/-- zones are near to themselves -/
def dg (f : Int → Int) : Nat → Int → Int
  | 0 => f
  | k + 1 => updI (dg f k) ((k : Int) * 4 + (k : Int)) 1
theorem dg_s (f : Int → Int) (k : Nat) : updI (dg f k) ((k : Int) * 4 + (k : Int)) 1 = dg f (k + 1) := rfl
set_option maxRecDepth 100000 in
set_option maxHeartbeats 4000000 in
theorem lp_R_init {p : Program} {l : Launch} {e : Env} {s : State} {m : MethodId} {args : Array Value} {below : List Frame} {meth : Method} {c : Code} {D : va_G} {cI cZ cJ : ClassId} {base : Nat} {A : Nat → Prop} {Q : State → Prop} (C : gC p s m args meth c D cls9 (tyl cI cZ cJ) A c_R_init 3 "BatchSavings$Rules" (wz y_R_init c_R_init 3 none) base (zz base)) (h ho q1 q2 q3 : Nat)
    (K : gW p l e ({ frames := 1, cells := 3, slots := 121, locals := 20 } : Room) s m args below meth c D cls9 A 3 3 121 Q [(h, .inr (2, [.ref ho, .ref q1, .ref q2, .ref q3, .int (iI 0), .int (iI 1000), .int (iI 100)])), (q1, .inl (cZ, 100, .inl (aI (fun _ => 0)))), (q2, .inl (cZ, 16, .inl (aI (dg (fun _ => 0) 4)))), (q3, .inl (cI, 5, .inl (aI (fun _ => 0))))] [(0, .ref h), (1, .ref ho), (2, .int (iI ((4 : Nat) : Int)))] 69 []) : ∀ (d k : Nat), k + d = 4 → gW p l e ({ frames := 1, cells := 3, slots := 121, locals := 20 } : Room) s m args below meth c D cls9 A 3 3 121 Q [(h, .inr (2, [.ref ho, .ref q1, .ref q2, .ref q3, .int (iI 0), .int (iI 1000), .int (iI 100)])), (q1, .inl (cZ, 100, .inl (aI (fun _ => 0)))), (q2, .inl (cZ, 16, .inl (aI (dg (fun _ => 0) k)))), (q3, .inl (cI, 5, .inl (aI (fun _ => 0))))] [(0, .ref h), (1, .ref ho), (2, .int (iI (k : Int)))] 47 [] := by
  intro d
  induction d with
  | zero =>
    intro k hk
    refine g_iload_n C (q := 2) d_R_init_47 rfl rfl ?_
    refine g_iconst C d_R_init_48 ?_
    refine g_icmp_ge C (tgt := 69) d_R_init_49 rfl (by omega) (by omega) (fun h49_1 => ?_) (fun h49_1 => ?_)
    · obtain rfl : k = 4 := by omega
      exact K
    · exfalso
      omega
  | succ d ih =>
    intro k hk
    refine g_iload_n C (q := 2) d_R_init_47 rfl rfl ?_
    refine g_iconst C d_R_init_48 ?_
    refine g_icmp_ge C (tgt := 69) d_R_init_49 rfl (by omega) (by omega) (fun h49_1 => ?_) (fun h49_1 => ?_)
    · exfalso
      omega
    · refine g_aload_n C (q := 0) d_R_init_52 rfl rfl ?_
      refine gG C (v := .ref q2) 0 2 u_R k_73 rfl rfl (by decide) rfl rfl d_R_init_53 ?_
      refine g_iload_n C (q := 2) d_R_init_56 rfl rfl ?_
      refine g_iconst C d_R_init_57 ?_
      refine g_imul C d_R_init_58 ?_
      refine g_iload_n C (q := 2) d_R_init_59 rfl rfl ?_
      refine g_iadd C d_R_init_60 ?_
      refine g_iconst C d_R_init_61 ?_
      refine g_zast C 2 1 rfl rfl (by decide) (by omega) (by omega) d_R_init_62 (ws' := [(h, .inr (2, [.ref ho, .ref q1, .ref q2, .ref q3, .int (iI 0), .int (iI 1000), .int (iI 100)])), (q1, .inl (cZ, 100, .inl (aI (fun _ => 0)))), (q2, .inl (cZ, 16, .inl (aI (updI (dg (fun _ => 0) k) (((k : Int) * 4) + (k : Int)) 1)))), (q3, .inl (cI, 5, .inl (aI (fun _ => 0))))]) rfl ?_
      refine g_iinc C (q := 2) (lv' := [(0, .ref h), (1, .ref ho), (2, .int (iI ((k : Int) + 1)))]) d_R_init_63 rfl (by decide) rfl rfl ?_
      refine g_goto C (tgt := 47) d_R_init_66 rfl ?_
      refine g_ws (ws' := [(h, .inr (2, [.ref ho, .ref q1, .ref q2, .ref q3, .int (iI 0), .int (iI 1000), .int (iI 100)])), (q1, .inl (cZ, 100, .inl (aI (fun _ => 0)))), (q2, .inl (cZ, 16, .inl (aI (dg (fun _ => 0) (k + 1))))), (q3, .inl (cI, 5, .inl (aI (fun _ => 0))))]) (by rw [dg_s]) ?_
      exact ih (k + 1) (by omega)
set_option maxRecDepth 100000 in
set_option maxHeartbeats 4000000 in
theorem m_R_init {l : Launch} {D : va_G} {cI cZ cJ : ClassId} {base : Nat} (h ho : Nat) : Cn l D cls9 (tyl cI cZ cJ) base (zz base) y_R_init (wz y_R_init c_R_init 3 none) ({ frames := 1, cells := 3, slots := 121, locals := 20 } : Room) [.ref h, .ref ho] [(h, .inr (2, [.null, .null, .null, .null, .int (iI 0), .int (iI 0), .int (iI 0)]))] (fun r w => r = none ∧ ∃ q1 q2 q3 : Nat, w = [(h, .inr (2, [.ref ho, .ref q1, .ref q2, .ref q3, .int (iI 0), .int (iI 1000), .int (iI 100)])), (q1, .inl (cZ, 100, .inl (aI (fun _ => 0)))), (q2, .inl (cZ, 16, .inl (aI (dg (fun _ => 0) 4)))), (q3, .inl (cI, 5, .inl (aI (fun _ => 0))))]) 3 121 := by
  refine Cn_of (zzG base) (by decide) rfl (Nat.le_of_ble_eq_true rfl) ?_
  intro p e s m args below meth c A C hr hA hnm
  have C : gC p s m args meth c D cls9 (tyl cI cZ cJ) A c_R_init 3 "BatchSavings$Rules" (wz y_R_init c_R_init 3 none) base (zz base) := C
  refine g_lve (lv' := [(0, .ref h), (1, .ref ho)]) rfl ?_
  refine g_aload_n C (q := 0) d_R_init_0 rfl rfl ?_
  refine g_obj C ob_link_R ob_inst ob_code (by decide) (Nat.le_of_ble_eq_true rfl) d_R_init_1 ?_
  refine g_aload_n C (q := 0) d_R_init_4 rfl rfl ?_
  refine g_bipush C d_R_init_5 rfl ?_
  refine g_newa C (N := 100) (t0 := 1) (ty := .boolean) (gws_in k_95) rfl (fun C => by intro q; cases q) rfl rfl rfl (by decide) (by decide) (by decide) (by decide) d_R_init_7 (fun q1 => ?_)
  refine g_ws (ws' := [(h, .inr (2, [.null, .null, .null, .null, .int (iI 0), .int (iI 0), .int (iI 0)])), (q1, .inl (cZ, 100, .inl (aI (fun _ => 0))))]) rfl ?_
  refine gPF C hnm 0 1 t_R to_R n_R u_R k_72 rfl rfl (by decide) rfl rfl rfl rfl rfl rfl (Nat.le_of_ble_eq_true rfl) d_R_init_9 (ws' := [(h, .inr (2, [.null, .ref q1, .null, .null, .int (iI 0), .int (iI 0), .int (iI 0)])), (q1, .inl (cZ, 100, .inl (aI (fun _ => 0))))]) rfl ?_
  refine g_aload_n C (q := 0) d_R_init_12 rfl rfl ?_
  refine g_bipush C d_R_init_13 rfl ?_
  refine g_newa C (N := 16) (t0 := 1) (ty := .boolean) (gws_in k_95) rfl (fun C => by intro q; cases q) rfl rfl rfl (by decide) (by decide) (by decide) (by decide) d_R_init_15 (fun q2 => ?_)
  refine g_ws (ws' := [(h, .inr (2, [.null, .ref q1, .null, .null, .int (iI 0), .int (iI 0), .int (iI 0)])), (q1, .inl (cZ, 100, .inl (aI (fun _ => 0)))), (q2, .inl (cZ, 16, .inl (aI (fun _ => 0))))]) rfl ?_
  refine gPF C hnm 0 2 t_R to_R n_R u_R k_73 rfl rfl (by decide) rfl rfl rfl rfl rfl rfl (Nat.le_of_ble_eq_true rfl) d_R_init_17 (ws' := [(h, .inr (2, [.null, .ref q1, .ref q2, .null, .int (iI 0), .int (iI 0), .int (iI 0)])), (q1, .inl (cZ, 100, .inl (aI (fun _ => 0)))), (q2, .inl (cZ, 16, .inl (aI (fun _ => 0))))]) rfl ?_
  refine g_aload_n C (q := 0) d_R_init_20 rfl rfl ?_
  refine g_iconst C d_R_init_21 ?_
  refine g_newa C (N := 5) (t0 := 0) (ty := .int) (gws_in k_64) rfl (fun C => by intro q; cases q) rfl rfl rfl (by decide) (by decide) (by decide) (by decide) d_R_init_22 (fun q3 => ?_)
  refine g_ws (ws' := [(h, .inr (2, [.null, .ref q1, .ref q2, .null, .int (iI 0), .int (iI 0), .int (iI 0)])), (q1, .inl (cZ, 100, .inl (aI (fun _ => 0)))), (q2, .inl (cZ, 16, .inl (aI (fun _ => 0)))), (q3, .inl (cI, 5, .inl (aI (fun _ => 0))))]) rfl ?_
  refine gPF C hnm 0 3 t_R to_R n_R u_R k_74 rfl rfl (by decide) rfl rfl rfl rfl rfl rfl (Nat.le_of_ble_eq_true rfl) d_R_init_24 (ws' := [(h, .inr (2, [.null, .ref q1, .ref q2, .ref q3, .int (iI 0), .int (iI 0), .int (iI 0)])), (q1, .inl (cZ, 100, .inl (aI (fun _ => 0)))), (q2, .inl (cZ, 16, .inl (aI (fun _ => 0)))), (q3, .inl (cI, 5, .inl (aI (fun _ => 0))))]) rfl ?_
  refine g_aload_n C (q := 0) d_R_init_27 rfl rfl ?_
  refine g_sipush C d_R_init_28 rfl ?_
  refine gP C 0 5 t_R to_R n_R u_R k_76 rfl rfl (by decide) rfl rfl rfl rfl rfl (Nat.le_of_ble_eq_true rfl) d_R_init_31 (ws' := [(h, .inr (2, [.null, .ref q1, .ref q2, .ref q3, .int (iI 0), .int (iI 1000), .int (iI 0)])), (q1, .inl (cZ, 100, .inl (aI (fun _ => 0)))), (q2, .inl (cZ, 16, .inl (aI (fun _ => 0)))), (q3, .inl (cI, 5, .inl (aI (fun _ => 0))))]) rfl ?_
  refine g_aload_n C (q := 0) d_R_init_34 rfl rfl ?_
  refine g_bipush C d_R_init_35 rfl ?_
  refine gP C 0 6 t_R to_R n_R u_R k_78 rfl rfl (by decide) rfl rfl rfl rfl rfl (Nat.le_of_ble_eq_true rfl) d_R_init_37 (ws' := [(h, .inr (2, [.null, .ref q1, .ref q2, .ref q3, .int (iI 0), .int (iI 1000), .int (iI 100)])), (q1, .inl (cZ, 100, .inl (aI (fun _ => 0)))), (q2, .inl (cZ, 16, .inl (aI (fun _ => 0)))), (q3, .inl (cI, 5, .inl (aI (fun _ => 0))))]) rfl ?_
  refine g_aload_n C (q := 0) d_R_init_40 rfl rfl ?_
  refine g_aload_n C (q := 1) d_R_init_41 rfl rfl ?_
  refine gPF C hnm 0 0 t_R to_R n_R u_R k_71 rfl rfl (by decide) rfl rfl rfl rfl rfl rfl (Nat.le_of_ble_eq_true rfl) d_R_init_42 (ws' := [(h, .inr (2, [.ref ho, .ref q1, .ref q2, .ref q3, .int (iI 0), .int (iI 1000), .int (iI 100)])), (q1, .inl (cZ, 100, .inl (aI (fun _ => 0)))), (q2, .inl (cZ, 16, .inl (aI (fun _ => 0)))), (q3, .inl (cI, 5, .inl (aI (fun _ => 0))))]) rfl ?_
  refine g_iconst C d_R_init_45 ?_
  refine g_istore_n C (lv' := [(0, .ref h), (1, .ref ho), (2, .int (iI 0))]) d_R_init_46 rfl (by decide) rfl rfl ?_
  refine g_eq (ws' := [(h, .inr (2, [.ref ho, .ref q1, .ref q2, .ref q3, .int (iI 0), .int (iI 1000), .int (iI 100)])), (q1, .inl (cZ, 100, .inl (aI (fun _ => 0)))), (q2, .inl (cZ, 16, .inl (aI (dg (fun _ => 0) 0)))), (q3, .inl (cI, 5, .inl (aI (fun _ => 0))))]) (lv' := [(0, .ref h), (1, .ref ho), (2, .int (iI ((0 : Nat) : Int)))]) (pc' := 47) (st' := []) rfl rfl rfl rfl ?_
  refine lp_R_init C h ho q1 q2 q3 ?_ 4 0 (by decide)
  exact g_vret C hA hr d_R_init_69 (by decide) (by decide) ⟨rfl, q1, q2, q3, rfl⟩
/-- a new object's numbers -/
def x00 : Bk := fun k => match k with
  | 2 => fun j => if j = 1 then 1000 else if j = 2 then 100 else 0
  | 9 => fl (fun _ => 0) (-1) 100
  | 11 => dg (fun _ => 0) 4
  | 15 => fl (fun _ => 0) (-1) 10
  | 16 => fl (fun _ => 0) (-1) 10
  | _ => fun _ => 0
set_option maxRecDepth 100000 in
set_option maxHeartbeats 4000000 in
theorem m_S_init {l : Launch} {D : va_G} {cI cZ cJ : ClassId} {base : Nat} (h : Nat) : Cn l D cls9 (tyl cI cZ cJ) base (zz base) y_S_init (wz y_S_init c_S_init 1 none) ({ frames := 2, cells := 18, slots := 1478, locals := 44 } : Room) [.ref h] [(h, .inr (0, [.null, .null, .null, .null]))] (fun r w => r = none ∧ ∃ ad : Nat → Nat, ad 0 = h ∧ w = cw ad cI cZ x00) 18 1478 := by
  refine Cn_of (zzG base) (by decide) rfl (Nat.le_of_ble_eq_true rfl) ?_
  intro p e s m args below meth c A C hr hA hnm
  have C : gC p s m args meth c D cls9 (tyl cI cZ cJ) A c_S_init 1 "BatchSavings" (wz y_S_init c_S_init 1 none) base (zz base) := C
  refine g_lve (lv' := [(0, .ref h)]) rfl ?_
  refine g_aload_n C (q := 0) d_S_init_0 rfl rfl ?_
  refine g_obj C ob_link_S ob_inst ob_code (by decide) (Nat.le_of_ble_eq_true rfl) d_S_init_1 ?_
  refine g_aload_n C (q := 0) d_S_init_4 rfl rfl ?_
  refine g_new C (ci := 1) (fs := [.null, .null, .null, .null, .null, .int (iI 0)]) t_O to_O u_O k_26 k_27 k_2 rfl (fun j hj => by rcases (show j = 0 ∨ j = 1 ∨ j = 2 ∨ j = 3 ∨ j = 4 ∨ j = 5 by omega) with rfl | rfl | rfl | rfl | rfl | rfl <;> rfl) (by decide) (by decide) d_S_init_5 (fun q1 => ?_)
  refine g_ws (ws' := [(h, .inr (0, [.null, .null, .null, .null])), (q1, .inr (1, [.null, .null, .null, .null, .null, .int (iI 0)]))]) rfl ?_
  refine g_dup C d_S_init_8 rfl ?_
  refine gIN C (st := [.ref q1, .ref h]) (wr := [(h, .inr (0, [.null, .null, .null, .null]))]) (m_O_init q1) [1] [0] rfl rfl rfl rfl rfl (by decide) k_30 kn_28 k_29 k_2 rfl ho_O_init rfl rfl ⟨by decide, by decide⟩ rfl rfl (Nat.le_of_ble_eq_true rfl) d_S_init_9 ⟨by decide, by decide⟩ (fun r w hq => ?_)
  obtain ⟨rfl, q2, q3, q4, q5, q6, rfl⟩ := hq
  refine g_eq (ws' := [(h, .inr (0, [.null, .null, .null, .null])), (q1, .inr (1, [.ref q2, .ref q3, .ref q4, .ref q5, .ref q6, .int (iI 0)])), (q2, .inl (cI, 10, .inl (aI (fun _ => 0)))), (q3, .inl (cI, 10, .inl (aI (fun _ => 0)))), (q4, .inl (cI, 10, .inl (aI (fun _ => 0)))), (q5, .inl (cI, 10, .inl (aI (fun _ => 0)))), (q6, .inl (cI, 100, .inl (aI (fl (fun _ => 0) (-1) 100))))]) (lv' := [(0, .ref h)]) (pc' := 12) (st' := [.ref q1, .ref h]) rfl rfl rfl rfl ?_
  refine gPF C hnm 0 0 t_S to_S n_S u_S k_147 rfl rfl (by decide) rfl rfl rfl rfl rfl rfl (Nat.le_of_ble_eq_true rfl) d_S_init_12 (ws' := [(h, .inr (0, [.ref q1, .null, .null, .null])), (q1, .inr (1, [.ref q2, .ref q3, .ref q4, .ref q5, .ref q6, .int (iI 0)])), (q2, .inl (cI, 10, .inl (aI (fun _ => 0)))), (q3, .inl (cI, 10, .inl (aI (fun _ => 0)))), (q4, .inl (cI, 10, .inl (aI (fun _ => 0)))), (q5, .inl (cI, 10, .inl (aI (fun _ => 0)))), (q6, .inl (cI, 100, .inl (aI (fl (fun _ => 0) (-1) 100))))]) rfl ?_
  refine g_aload_n C (q := 0) d_S_init_15 rfl rfl ?_
  refine g_new C (ci := 2) (fs := [.null, .null, .null, .null, .int (iI 0), .int (iI 0), .int (iI 0)]) t_R to_R u_R k_65 k_66 k_4 rfl (fun j hj => by rcases (show j = 0 ∨ j = 1 ∨ j = 2 ∨ j = 3 ∨ j = 4 ∨ j = 5 ∨ j = 6 by omega) with rfl | rfl | rfl | rfl | rfl | rfl | rfl <;> rfl) (by decide) (by decide) d_S_init_16 (fun q7 => ?_)
  refine g_ws (ws' := [(h, .inr (0, [.ref q1, .null, .null, .null])), (q1, .inr (1, [.ref q2, .ref q3, .ref q4, .ref q5, .ref q6, .int (iI 0)])), (q2, .inl (cI, 10, .inl (aI (fun _ => 0)))), (q3, .inl (cI, 10, .inl (aI (fun _ => 0)))), (q4, .inl (cI, 10, .inl (aI (fun _ => 0)))), (q5, .inl (cI, 10, .inl (aI (fun _ => 0)))), (q6, .inl (cI, 100, .inl (aI (fl (fun _ => 0) (-1) 100)))), (q7, .inr (2, [.null, .null, .null, .null, .int (iI 0), .int (iI 0), .int (iI 0)]))]) rfl ?_
  refine g_dup C d_S_init_19 rfl ?_
  refine g_aload_n C (q := 0) d_S_init_20 rfl rfl ?_
  refine gG C (v := .ref q1) 0 0 u_S k_147 rfl rfl (by decide) rfl rfl d_S_init_21 ?_
  refine gIN C (st := [.ref q7, .ref h]) (wr := [(h, .inr (0, [.ref q1, .null, .null, .null])), (q1, .inr (1, [.ref q2, .ref q3, .ref q4, .ref q5, .ref q6, .int (iI 0)])), (q2, .inl (cI, 10, .inl (aI (fun _ => 0)))), (q3, .inl (cI, 10, .inl (aI (fun _ => 0)))), (q4, .inl (cI, 10, .inl (aI (fun _ => 0)))), (q5, .inl (cI, 10, .inl (aI (fun _ => 0)))), (q6, .inl (cI, 100, .inl (aI (fl (fun _ => 0) (-1) 100))))]) (m_R_init q7 q1) [7] [0, 1, 2, 3, 4, 5, 6] rfl rfl rfl rfl rfl (by decide) k_69 kn_67 k_68 k_4 rfl ho_R_init rfl rfl ⟨by decide, by decide⟩ rfl rfl (Nat.le_of_ble_eq_true rfl) d_S_init_24 ⟨by decide, by decide⟩ (fun r w hq => ?_)
  obtain ⟨rfl, q8, q9, q10, rfl⟩ := hq
  refine g_eq (ws' := [(h, .inr (0, [.ref q1, .null, .null, .null])), (q1, .inr (1, [.ref q2, .ref q3, .ref q4, .ref q5, .ref q6, .int (iI 0)])), (q2, .inl (cI, 10, .inl (aI (fun _ => 0)))), (q3, .inl (cI, 10, .inl (aI (fun _ => 0)))), (q4, .inl (cI, 10, .inl (aI (fun _ => 0)))), (q5, .inl (cI, 10, .inl (aI (fun _ => 0)))), (q6, .inl (cI, 100, .inl (aI (fl (fun _ => 0) (-1) 100)))), (q7, .inr (2, [.ref q1, .ref q8, .ref q9, .ref q10, .int (iI 0), .int (iI 1000), .int (iI 100)])), (q8, .inl (cZ, 100, .inl (aI (fun _ => 0)))), (q9, .inl (cZ, 16, .inl (aI (dg (fun _ => 0) 4)))), (q10, .inl (cI, 5, .inl (aI (fun _ => 0))))]) (lv' := [(0, .ref h)]) (pc' := 27) (st' := [.ref q7, .ref h]) rfl rfl rfl rfl ?_
  refine gPF C hnm 0 1 t_S to_S n_S u_S k_148 rfl rfl (by decide) rfl rfl rfl rfl rfl rfl (Nat.le_of_ble_eq_true rfl) d_S_init_27 (ws' := [(h, .inr (0, [.ref q1, .ref q7, .null, .null])), (q1, .inr (1, [.ref q2, .ref q3, .ref q4, .ref q5, .ref q6, .int (iI 0)])), (q2, .inl (cI, 10, .inl (aI (fun _ => 0)))), (q3, .inl (cI, 10, .inl (aI (fun _ => 0)))), (q4, .inl (cI, 10, .inl (aI (fun _ => 0)))), (q5, .inl (cI, 10, .inl (aI (fun _ => 0)))), (q6, .inl (cI, 100, .inl (aI (fl (fun _ => 0) (-1) 100)))), (q7, .inr (2, [.ref q1, .ref q8, .ref q9, .ref q10, .int (iI 0), .int (iI 1000), .int (iI 100)])), (q8, .inl (cZ, 100, .inl (aI (fun _ => 0)))), (q9, .inl (cZ, 16, .inl (aI (dg (fun _ => 0) 4)))), (q10, .inl (cI, 5, .inl (aI (fun _ => 0))))]) rfl ?_
  refine g_aload_n C (q := 0) d_S_init_30 rfl rfl ?_
  refine g_new C (ci := 3) (fs := [.null, .null, .null, .null, .int (iI 0)]) t_B to_B u_B k_96 k_97 k_5 rfl (fun j hj => by rcases (show j = 0 ∨ j = 1 ∨ j = 2 ∨ j = 3 ∨ j = 4 by omega) with rfl | rfl | rfl | rfl | rfl <;> rfl) (by decide) (by decide) d_S_init_31 (fun q11 => ?_)
  refine g_ws (ws' := [(h, .inr (0, [.ref q1, .ref q7, .null, .null])), (q1, .inr (1, [.ref q2, .ref q3, .ref q4, .ref q5, .ref q6, .int (iI 0)])), (q2, .inl (cI, 10, .inl (aI (fun _ => 0)))), (q3, .inl (cI, 10, .inl (aI (fun _ => 0)))), (q4, .inl (cI, 10, .inl (aI (fun _ => 0)))), (q5, .inl (cI, 10, .inl (aI (fun _ => 0)))), (q6, .inl (cI, 100, .inl (aI (fl (fun _ => 0) (-1) 100)))), (q7, .inr (2, [.ref q1, .ref q8, .ref q9, .ref q10, .int (iI 0), .int (iI 1000), .int (iI 100)])), (q8, .inl (cZ, 100, .inl (aI (fun _ => 0)))), (q9, .inl (cZ, 16, .inl (aI (dg (fun _ => 0) 4)))), (q10, .inl (cI, 5, .inl (aI (fun _ => 0)))), (q11, .inr (3, [.null, .null, .null, .null, .int (iI 0)]))]) rfl ?_
  refine g_dup C d_S_init_34 rfl ?_
  refine g_aload_n C (q := 0) d_S_init_35 rfl rfl ?_
  refine gG C (v := .ref q1) 0 0 u_S k_147 rfl rfl (by decide) rfl rfl d_S_init_36 ?_
  refine gIN C (st := [.ref q11, .ref h]) (wr := [(h, .inr (0, [.ref q1, .ref q7, .null, .null])), (q1, .inr (1, [.ref q2, .ref q3, .ref q4, .ref q5, .ref q6, .int (iI 0)])), (q2, .inl (cI, 10, .inl (aI (fun _ => 0)))), (q3, .inl (cI, 10, .inl (aI (fun _ => 0)))), (q4, .inl (cI, 10, .inl (aI (fun _ => 0)))), (q5, .inl (cI, 10, .inl (aI (fun _ => 0)))), (q6, .inl (cI, 100, .inl (aI (fl (fun _ => 0) (-1) 100)))), (q7, .inr (2, [.ref q1, .ref q8, .ref q9, .ref q10, .int (iI 0), .int (iI 1000), .int (iI 100)])), (q8, .inl (cZ, 100, .inl (aI (fun _ => 0)))), (q9, .inl (cZ, 16, .inl (aI (dg (fun _ => 0) 4)))), (q10, .inl (cI, 5, .inl (aI (fun _ => 0))))]) (m_B_init q11 q1) [11] [0, 1, 2, 3, 4, 5, 6, 7, 8, 9, 10] rfl rfl rfl rfl rfl (by decide) k_100 kn_98 k_99 k_5 rfl ho_B_init rfl rfl ⟨by decide, by decide⟩ rfl rfl (Nat.le_of_ble_eq_true rfl) d_S_init_39 ⟨by decide, by decide⟩ (fun r w hq => ?_)
  obtain ⟨rfl, q12, q13, q14, rfl⟩ := hq
  refine g_eq (ws' := [(h, .inr (0, [.ref q1, .ref q7, .null, .null])), (q1, .inr (1, [.ref q2, .ref q3, .ref q4, .ref q5, .ref q6, .int (iI 0)])), (q2, .inl (cI, 10, .inl (aI (fun _ => 0)))), (q3, .inl (cI, 10, .inl (aI (fun _ => 0)))), (q4, .inl (cI, 10, .inl (aI (fun _ => 0)))), (q5, .inl (cI, 10, .inl (aI (fun _ => 0)))), (q6, .inl (cI, 100, .inl (aI (fl (fun _ => 0) (-1) 100)))), (q7, .inr (2, [.ref q1, .ref q8, .ref q9, .ref q10, .int (iI 0), .int (iI 1000), .int (iI 100)])), (q8, .inl (cZ, 100, .inl (aI (fun _ => 0)))), (q9, .inl (cZ, 16, .inl (aI (dg (fun _ => 0) 4)))), (q10, .inl (cI, 5, .inl (aI (fun _ => 0)))), (q11, .inr (3, [.ref q1, .ref q12, .ref q13, .ref q14, .int (iI 0)])), (q12, .inl (cI, 40, .inl (aI (fun _ => 0)))), (q13, .inl (cI, 10, .inl (aI (fun _ => 0)))), (q14, .inl (cI, 10, .inl (aI (fl (fun _ => 0) (-1) 10))))]) (lv' := [(0, .ref h)]) (pc' := 42) (st' := [.ref q11, .ref h]) rfl rfl rfl rfl ?_
  refine gPF C hnm 0 2 t_S to_S n_S u_S k_149 rfl rfl (by decide) rfl rfl rfl rfl rfl rfl (Nat.le_of_ble_eq_true rfl) d_S_init_42 (ws' := [(h, .inr (0, [.ref q1, .ref q7, .ref q11, .null])), (q1, .inr (1, [.ref q2, .ref q3, .ref q4, .ref q5, .ref q6, .int (iI 0)])), (q2, .inl (cI, 10, .inl (aI (fun _ => 0)))), (q3, .inl (cI, 10, .inl (aI (fun _ => 0)))), (q4, .inl (cI, 10, .inl (aI (fun _ => 0)))), (q5, .inl (cI, 10, .inl (aI (fun _ => 0)))), (q6, .inl (cI, 100, .inl (aI (fl (fun _ => 0) (-1) 100)))), (q7, .inr (2, [.ref q1, .ref q8, .ref q9, .ref q10, .int (iI 0), .int (iI 1000), .int (iI 100)])), (q8, .inl (cZ, 100, .inl (aI (fun _ => 0)))), (q9, .inl (cZ, 16, .inl (aI (dg (fun _ => 0) 4)))), (q10, .inl (cI, 5, .inl (aI (fun _ => 0)))), (q11, .inr (3, [.ref q1, .ref q12, .ref q13, .ref q14, .int (iI 0)])), (q12, .inl (cI, 40, .inl (aI (fun _ => 0)))), (q13, .inl (cI, 10, .inl (aI (fun _ => 0)))), (q14, .inl (cI, 10, .inl (aI (fl (fun _ => 0) (-1) 10))))]) rfl ?_
  refine g_aload_n C (q := 0) d_S_init_45 rfl rfl ?_
  refine g_new C (ci := 4) (fs := [.null, .null, .null, .null, .int (iI 0)]) t_M to_M u_M k_122 k_123 k_6 rfl (fun j hj => by rcases (show j = 0 ∨ j = 1 ∨ j = 2 ∨ j = 3 ∨ j = 4 by omega) with rfl | rfl | rfl | rfl | rfl <;> rfl) (by decide) (by decide) d_S_init_46 (fun q15 => ?_)
  refine g_ws (ws' := [(h, .inr (0, [.ref q1, .ref q7, .ref q11, .null])), (q1, .inr (1, [.ref q2, .ref q3, .ref q4, .ref q5, .ref q6, .int (iI 0)])), (q2, .inl (cI, 10, .inl (aI (fun _ => 0)))), (q3, .inl (cI, 10, .inl (aI (fun _ => 0)))), (q4, .inl (cI, 10, .inl (aI (fun _ => 0)))), (q5, .inl (cI, 10, .inl (aI (fun _ => 0)))), (q6, .inl (cI, 100, .inl (aI (fl (fun _ => 0) (-1) 100)))), (q7, .inr (2, [.ref q1, .ref q8, .ref q9, .ref q10, .int (iI 0), .int (iI 1000), .int (iI 100)])), (q8, .inl (cZ, 100, .inl (aI (fun _ => 0)))), (q9, .inl (cZ, 16, .inl (aI (dg (fun _ => 0) 4)))), (q10, .inl (cI, 5, .inl (aI (fun _ => 0)))), (q11, .inr (3, [.ref q1, .ref q12, .ref q13, .ref q14, .int (iI 0)])), (q12, .inl (cI, 40, .inl (aI (fun _ => 0)))), (q13, .inl (cI, 10, .inl (aI (fun _ => 0)))), (q14, .inl (cI, 10, .inl (aI (fl (fun _ => 0) (-1) 10)))), (q15, .inr (4, [.null, .null, .null, .null, .int (iI 0)]))]) rfl ?_
  refine g_dup C d_S_init_49 rfl ?_
  refine g_aload_n C (q := 0) d_S_init_50 rfl rfl ?_
  refine gG C (v := .ref q1) 0 0 u_S k_147 rfl rfl (by decide) rfl rfl d_S_init_51 ?_
  refine gIN C (st := [.ref q15, .ref h]) (wr := [(h, .inr (0, [.ref q1, .ref q7, .ref q11, .null])), (q1, .inr (1, [.ref q2, .ref q3, .ref q4, .ref q5, .ref q6, .int (iI 0)])), (q2, .inl (cI, 10, .inl (aI (fun _ => 0)))), (q3, .inl (cI, 10, .inl (aI (fun _ => 0)))), (q4, .inl (cI, 10, .inl (aI (fun _ => 0)))), (q5, .inl (cI, 10, .inl (aI (fun _ => 0)))), (q6, .inl (cI, 100, .inl (aI (fl (fun _ => 0) (-1) 100)))), (q7, .inr (2, [.ref q1, .ref q8, .ref q9, .ref q10, .int (iI 0), .int (iI 1000), .int (iI 100)])), (q8, .inl (cZ, 100, .inl (aI (fun _ => 0)))), (q9, .inl (cZ, 16, .inl (aI (dg (fun _ => 0) 4)))), (q10, .inl (cI, 5, .inl (aI (fun _ => 0)))), (q11, .inr (3, [.ref q1, .ref q12, .ref q13, .ref q14, .int (iI 0)])), (q12, .inl (cI, 40, .inl (aI (fun _ => 0)))), (q13, .inl (cI, 10, .inl (aI (fun _ => 0)))), (q14, .inl (cI, 10, .inl (aI (fl (fun _ => 0) (-1) 10))))]) (m_M_init q15 q1) [15] [0, 1, 2, 3, 4, 5, 6, 7, 8, 9, 10, 11, 12, 13, 14] rfl rfl rfl rfl rfl (by decide) k_126 kn_124 k_125 k_6 rfl ho_M_init rfl rfl ⟨by decide, by decide⟩ rfl rfl (Nat.le_of_ble_eq_true rfl) d_S_init_54 ⟨by decide, by decide⟩ (fun r w hq => ?_)
  obtain ⟨rfl, q16, q17, q18, rfl⟩ := hq
  refine g_eq (ws' := [(h, .inr (0, [.ref q1, .ref q7, .ref q11, .null])), (q1, .inr (1, [.ref q2, .ref q3, .ref q4, .ref q5, .ref q6, .int (iI 0)])), (q2, .inl (cI, 10, .inl (aI (fun _ => 0)))), (q3, .inl (cI, 10, .inl (aI (fun _ => 0)))), (q4, .inl (cI, 10, .inl (aI (fun _ => 0)))), (q5, .inl (cI, 10, .inl (aI (fun _ => 0)))), (q6, .inl (cI, 100, .inl (aI (fl (fun _ => 0) (-1) 100)))), (q7, .inr (2, [.ref q1, .ref q8, .ref q9, .ref q10, .int (iI 0), .int (iI 1000), .int (iI 100)])), (q8, .inl (cZ, 100, .inl (aI (fun _ => 0)))), (q9, .inl (cZ, 16, .inl (aI (dg (fun _ => 0) 4)))), (q10, .inl (cI, 5, .inl (aI (fun _ => 0)))), (q11, .inr (3, [.ref q1, .ref q12, .ref q13, .ref q14, .int (iI 0)])), (q12, .inl (cI, 40, .inl (aI (fun _ => 0)))), (q13, .inl (cI, 10, .inl (aI (fun _ => 0)))), (q14, .inl (cI, 10, .inl (aI (fl (fun _ => 0) (-1) 10)))), (q15, .inr (4, [.ref q1, .ref q16, .ref q17, .ref q18, .int (iI 0)])), (q16, .inl (cI, 10, .inl (aI (fl (fun _ => 0) (-1) 10)))), (q17, .inl (cI, 100, .inl (aI (fun _ => 0)))), (q18, .inl (cI, 1024, .inl (aI (fun _ => 0))))]) (lv' := [(0, .ref h)]) (pc' := 57) (st' := [.ref q15, .ref h]) rfl rfl rfl rfl ?_
  refine gPF C hnm 0 3 t_S to_S n_S u_S k_150 rfl rfl (by decide) rfl rfl rfl rfl rfl rfl (Nat.le_of_ble_eq_true rfl) d_S_init_57 (ws' := [(h, .inr (0, [.ref q1, .ref q7, .ref q11, .ref q15])), (q1, .inr (1, [.ref q2, .ref q3, .ref q4, .ref q5, .ref q6, .int (iI 0)])), (q2, .inl (cI, 10, .inl (aI (fun _ => 0)))), (q3, .inl (cI, 10, .inl (aI (fun _ => 0)))), (q4, .inl (cI, 10, .inl (aI (fun _ => 0)))), (q5, .inl (cI, 10, .inl (aI (fun _ => 0)))), (q6, .inl (cI, 100, .inl (aI (fl (fun _ => 0) (-1) 100)))), (q7, .inr (2, [.ref q1, .ref q8, .ref q9, .ref q10, .int (iI 0), .int (iI 1000), .int (iI 100)])), (q8, .inl (cZ, 100, .inl (aI (fun _ => 0)))), (q9, .inl (cZ, 16, .inl (aI (dg (fun _ => 0) 4)))), (q10, .inl (cI, 5, .inl (aI (fun _ => 0)))), (q11, .inr (3, [.ref q1, .ref q12, .ref q13, .ref q14, .int (iI 0)])), (q12, .inl (cI, 40, .inl (aI (fun _ => 0)))), (q13, .inl (cI, 10, .inl (aI (fun _ => 0)))), (q14, .inl (cI, 10, .inl (aI (fl (fun _ => 0) (-1) 10)))), (q15, .inr (4, [.ref q1, .ref q16, .ref q17, .ref q18, .int (iI 0)])), (q16, .inl (cI, 10, .inl (aI (fl (fun _ => 0) (-1) 10)))), (q17, .inl (cI, 100, .inl (aI (fun _ => 0)))), (q18, .inl (cI, 1024, .inl (aI (fun _ => 0))))]) rfl ?_
  refine g_perm (ws' := cw (fun k => ([h, q1, q7, q11, q15, q2, q3, q4, q5, q6, q8, q9, q10, q12, q13, q14, q16, q17, q18] : List Nat).getD k 0) cI cZ x00) [0, 1, 7, 11, 15, 2, 3, 4, 5, 6, 8, 9, 10, 12, 13, 14, 16, 17, 18] rfl rfl rfl ?_
  exact g_vret C hA hr d_S_init_60 (by decide) (by decide) ⟨rfl, (fun k => ([h, q1, q7, q11, q15, q2, q3, q4, q5, q6, q8, q9, q10, q12, q13, q14, q16, q17, q18] : List Nat).getD k 0), rfl, rfl⟩
