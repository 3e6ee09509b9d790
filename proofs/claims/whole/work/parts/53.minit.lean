/-- the model's numbers before its loops -/
def x0m : Bk := fun k => match k with
  | 2 => fun j => if j = 1 then 1000 else if j = 2 then 100 else 0
  | _ => fun _ => 0
theorem dg_s4 (f : Int → Int) (k : Nat) : updI (dg f k) (4 * (k : Int) + (k : Int)) 1 = dg f (k + 1) := by rw [Int.mul_comm 4 (k : Int)]; rfl
set_option maxRecDepth 100000 in
set_option maxHeartbeats 4000000 in
theorem lp_Tw_i1 {p : Program} {l : Launch} {e : Env} {s : State} {m : MethodId} {args : Array Value} {below : List Frame} {meth : Method} {c : Code} {D : va_G} {cI cZ cJ : ClassId} {base : Nat} {ad : Nat → Nat} {A : Nat → Prop} {Q : State → Prop} (C : gC p s m args meth c D cls9 (tyl cI cZ cJ) A c_Tw_init 2 "BatchSavingsModel" (wz y_Tw_init c_Tw_init 2 none) base (zz base)) (x : Bk) 
    (K : gW p l e ({ frames := 1, cells := 12, slots := 1350, locals := 20 } : Room) s m args below meth c D cls9 A 2 12 1350 Q (mw ad cI cZ (bu x 9 (fl (x 9) (-1) 100))) [(0, .ref (ad 0)), (1, .int (iI ((100 : Nat) : Int)))] 135 []) : ∀ (d k : Nat), k + d = 100 → gW p l e ({ frames := 1, cells := 12, slots := 1350, locals := 20 } : Room) s m args below meth c D cls9 A 2 12 1350 Q (mw ad cI cZ (bu x 9 (fl (x 9) (-1) k))) [(0, .ref (ad 0)), (1, .int (iI (k : Int)))] 116 [] := by
  intro d
  induction d with
  | zero =>
    intro k hk
    refine g_iload_n C (q := 1) d_Tw_init_116 rfl rfl ?_
    refine g_bipush C d_Tw_init_117 rfl ?_
    refine g_icmp_ge C (tgt := 135) d_Tw_init_119 rfl (by omega) (by omega) (fun h119_1 => ?_) (fun h119_1 => ?_)
    · obtain rfl : k = 100 := by omega
      exact K
    · exfalso
      omega
  | succ d ih =>
    intro k hk
    refine g_iload_n C (q := 1) d_Tw_init_116 rfl rfl ?_
    refine g_bipush C d_Tw_init_117 rfl ?_
    refine g_icmp_ge C (tgt := 135) d_Tw_init_119 rfl (by omega) (by omega) (fun h119_1 => ?_) (fun h119_1 => ?_)
    · exfalso
      omega
    · refine g_aload_n C (q := 0) d_Tw_init_122 rfl rfl ?_
      refine gG C (v := .ref (ad 5)) 0 6 u_Tw k_654 (mwo_0 _) rfl (by decide) rfl rfl d_Tw_init_123 ?_
      refine g_iload_n C (q := 1) d_Tw_init_126 rfl rfl ?_
      refine g_iconst C d_Tw_init_127 ?_
      refine g_iast C 5 0 (mwa_5 _) rfl (by decide) (by omega) d_Tw_init_128 (mws_5 _ _) ?_
      refine g_ws (ws' := mw ad cI cZ (bu (bu x 9 (fl (x 9) (-1) k)) 9 (updI (fl (x 9) (-1) k) (k : Int) (-1)))) rfl ?_
      refine g_iinc C (q := 1) (lv' := [(0, .ref (ad 0)), (1, .int (iI ((k : Int) + 1)))]) d_Tw_init_129 rfl (by decide) rfl rfl ?_
      refine g_goto C (tgt := 116) d_Tw_init_132 rfl ?_
      refine g_ws (ws' := mw ad cI cZ (bu x 9 (fl (x 9) (-1) (k + 1)))) (by rw [← fl_s]; rfl) ?_
      exact ih (k + 1) (by omega)
set_option maxRecDepth 100000 in
set_option maxHeartbeats 4000000 in
theorem lp_Tw_i2 {p : Program} {l : Launch} {e : Env} {s : State} {m : MethodId} {args : Array Value} {below : List Frame} {meth : Method} {c : Code} {D : va_G} {cI cZ cJ : ClassId} {base : Nat} {ad : Nat → Nat} {A : Nat → Prop} {Q : State → Prop} (C : gC p s m args meth c D cls9 (tyl cI cZ cJ) A c_Tw_init 2 "BatchSavingsModel" (wz y_Tw_init c_Tw_init 2 none) base (zz base)) (x : Bk) 
    (K : gW p l e ({ frames := 1, cells := 12, slots := 1350, locals := 20 } : Room) s m args below meth c D cls9 A 2 12 1350 Q (mw ad cI cZ (bu x 11 (dg (x 11) 4))) [(0, .ref (ad 0)), (1, .int (iI ((4 : Nat) : Int)))] 159 []) : ∀ (d k : Nat), k + d = 4 → gW p l e ({ frames := 1, cells := 12, slots := 1350, locals := 20 } : Room) s m args below meth c D cls9 A 2 12 1350 Q (mw ad cI cZ (bu x 11 (dg (x 11) k))) [(0, .ref (ad 0)), (1, .int (iI (k : Int)))] 137 [] := by
  intro d
  induction d with
  | zero =>
    intro k hk
    refine g_iload_n C (q := 1) d_Tw_init_137 rfl rfl ?_
    refine g_iconst C d_Tw_init_138 ?_
    refine g_icmp_ge C (tgt := 159) d_Tw_init_139 rfl (by omega) (by omega) (fun h139_1 => ?_) (fun h139_1 => ?_)
    · obtain rfl : k = 4 := by omega
      exact K
    · exfalso
      omega
  | succ d ih =>
    intro k hk
    refine g_iload_n C (q := 1) d_Tw_init_137 rfl rfl ?_
    refine g_iconst C d_Tw_init_138 ?_
    refine g_icmp_ge C (tgt := 159) d_Tw_init_139 rfl (by omega) (by omega) (fun h139_1 => ?_) (fun h139_1 => ?_)
    · exfalso
      omega
    · refine g_aload_n C (q := 0) d_Tw_init_142 rfl rfl ?_
      refine gG C (v := .ref (ad 7)) 0 8 u_Tw k_656 (mwo_0 _) rfl (by decide) rfl rfl d_Tw_init_143 ?_
      refine g_iconst C d_Tw_init_146 ?_
      refine g_iload_n C (q := 1) d_Tw_init_147 rfl rfl ?_
      refine g_imul C d_Tw_init_148 ?_
      refine g_iload_n C (q := 1) d_Tw_init_149 rfl rfl ?_
      refine g_iadd C d_Tw_init_150 ?_
      refine g_iconst C d_Tw_init_151 ?_
      refine g_zast C 7 1 (mwa_7 _) rfl (by decide) (by omega) (by omega) d_Tw_init_152 (mws_7 _ _) ?_
      refine g_ws (ws' := mw ad cI cZ (bu (bu x 11 (dg (x 11) k)) 11 (updI (dg (x 11) k) ((4 * (k : Int)) + (k : Int)) 1))) rfl ?_
      refine g_iinc C (q := 1) (lv' := [(0, .ref (ad 0)), (1, .int (iI ((k : Int) + 1)))]) d_Tw_init_153 rfl (by decide) rfl rfl ?_
      refine g_goto C (tgt := 137) d_Tw_init_156 rfl ?_
      refine g_ws (ws' := mw ad cI cZ (bu x 11 (dg (x 11) (k + 1)))) (by rw [← dg_s4]; rfl) ?_
      exact ih (k + 1) (by omega)
set_option maxRecDepth 100000 in
set_option maxHeartbeats 4000000 in
theorem lp_Tw_i3 {p : Program} {l : Launch} {e : Env} {s : State} {m : MethodId} {args : Array Value} {below : List Frame} {meth : Method} {c : Code} {D : va_G} {cI cZ cJ : ClassId} {base : Nat} {ad : Nat → Nat} {A : Nat → Prop} {Q : State → Prop} (C : gC p s m args meth c D cls9 (tyl cI cZ cJ) A c_Tw_init 2 "BatchSavingsModel" (wz y_Tw_init c_Tw_init 2 none) base (zz base)) (x : Bk) 
    (K : gW p l e ({ frames := 1, cells := 12, slots := 1350, locals := 20 } : Room) s m args below meth c D cls9 A 2 12 1350 Q (mw ad cI cZ (bu (bu x 16 (fl (x 16) (-1) 10)) 15 (fl (x 15) (-1) 10))) [(0, .ref (ad 0)), (1, .int (iI ((10 : Nat) : Int)))] 187 []) : ∀ (d k : Nat), k + d = 10 → gW p l e ({ frames := 1, cells := 12, slots := 1350, locals := 20 } : Room) s m args below meth c D cls9 A 2 12 1350 Q (mw ad cI cZ (bu (bu x 16 (fl (x 16) (-1) k)) 15 (fl (x 15) (-1) k))) [(0, .ref (ad 0)), (1, .int (iI (k : Int)))] 161 [] := by
  intro d
  induction d with
  | zero =>
    intro k hk
    refine g_iload_n C (q := 1) d_Tw_init_161 rfl rfl ?_
    refine g_bipush C d_Tw_init_162 rfl ?_
    refine g_icmp_ge C (tgt := 187) d_Tw_init_164 rfl (by omega) (by omega) (fun h164_1 => ?_) (fun h164_1 => ?_)
    · obtain rfl : k = 10 := by omega
      exact K
    · exfalso
      omega
  | succ d ih =>
    intro k hk
    refine g_iload_n C (q := 1) d_Tw_init_161 rfl rfl ?_
    refine g_bipush C d_Tw_init_162 rfl ?_
    refine g_icmp_ge C (tgt := 187) d_Tw_init_164 rfl (by omega) (by omega) (fun h164_1 => ?_) (fun h164_1 => ?_)
    · exfalso
      omega
    · refine g_aload_n C (q := 0) d_Tw_init_167 rfl rfl ?_
      refine gG C (v := .ref (ad 8)) 0 11 u_Tw k_659 (mwo_0 _) rfl (by decide) rfl rfl d_Tw_init_168 ?_
      refine g_iload_n C (q := 1) d_Tw_init_171 rfl rfl ?_
      refine g_iconst C d_Tw_init_172 ?_
      refine g_iast C 8 0 (mwa_8 _) rfl (by decide) (by omega) d_Tw_init_173 (mws_8 _ _) ?_
      refine g_ws (ws' := mw ad cI cZ (bu (bu (bu x 16 (fl (x 16) (-1) k)) 15 (fl (x 15) (-1) k)) 16 (updI (fl (x 16) (-1) k) (k : Int) (-1)))) rfl ?_
      refine g_aload_n C (q := 0) d_Tw_init_174 rfl rfl ?_
      refine gG C (v := .ref (ad 11)) 0 16 u_Tw k_664 (mwo_0 _) rfl (by decide) rfl rfl d_Tw_init_175 ?_
      refine g_iload_n C (q := 1) d_Tw_init_178 rfl rfl ?_
      refine g_iconst C d_Tw_init_179 ?_
      refine g_iast C 11 0 (mwa_11 _) rfl (by decide) (by omega) d_Tw_init_180 (mws_11 _ _) ?_
      refine g_ws (ws' := mw ad cI cZ (bu (bu (bu (bu x 16 (fl (x 16) (-1) k)) 15 (fl (x 15) (-1) k)) 16 (updI (fl (x 16) (-1) k) (k : Int) (-1))) 15 (updI (fl (x 15) (-1) k) (k : Int) (-1)))) rfl ?_
      refine g_iinc C (q := 1) (lv' := [(0, .ref (ad 0)), (1, .int (iI ((k : Int) + 1)))]) d_Tw_init_181 rfl (by decide) rfl rfl ?_
      refine g_goto C (tgt := 161) d_Tw_init_184 rfl ?_
      refine g_ws (ws' := mw ad cI cZ (bu (bu x 16 (fl (x 16) (-1) (k + 1))) 15 (fl (x 15) (-1) (k + 1)))) (by rw [← fl_s (x 16), ← fl_s (x 15)]; rfl) ?_
      exact ih (k + 1) (by omega)
set_option maxRecDepth 100000 in
set_option maxHeartbeats 4000000 in
theorem m_Tw_init {l : Launch} {D : va_G} {cI cZ cJ : ClassId} {base : Nat} (h : Nat) : Cn l D cls9 (tyl cI cZ cJ) base (zz base) y_Tw_init (wz y_Tw_init c_Tw_init 2 none) ({ frames := 1, cells := 12, slots := 1350, locals := 20 } : Room) [.ref h] [(h, .inr (5, [.int (iI 0), .int (iI 0), .null, .null, .null, .null, .null, .null, .null, .int (iI 0), .int (iI 0), .null, .int (iI 0), .int (iI 0), .null, .null, .null, .null]))] (fun r w => r = none ∧ ∃ ad : Nat → Nat, ad 0 = h ∧ w = mw ad cI cZ x00) 12 1350 := by
  refine Cn_of (zzG base) (by decide) rfl (Nat.le_of_ble_eq_true rfl) ?_
  intro p e s m args below meth c A C hr hA hnm
  have C : gC p s m args meth c D cls9 (tyl cI cZ cJ) A c_Tw_init 2 "BatchSavingsModel" (wz y_Tw_init c_Tw_init 2 none) base (zz base) := C
  refine g_lve (lv' := [(0, .ref h)]) rfl ?_
  refine g_aload_n C (q := 0) d_Tw_init_0 rfl rfl ?_
  refine g_obj C ob_link_Tw ob_inst ob_code (by decide) (Nat.le_of_ble_eq_true rfl) d_Tw_init_1 ?_
  refine g_aload_n C (q := 0) d_Tw_init_4 rfl rfl ?_
  refine g_bipush C d_Tw_init_5 rfl ?_
  refine g_newa C (N := 10) (t0 := 0) (ty := .int) (gws_in k_64) rfl (fun C => by intro q; cases q) rfl rfl rfl (by decide) (by decide) (by decide) (by decide) d_Tw_init_7 (fun q1 => ?_)
  refine g_ws (ws' := [(h, .inr (5, [.int (iI 0), .int (iI 0), .null, .null, .null, .null, .null, .null, .null, .int (iI 0), .int (iI 0), .null, .int (iI 0), .int (iI 0), .null, .null, .null, .null])), (q1, .inl (cI, 10, .inl (aI (fun _ => 0))))]) rfl ?_
  refine gPF C hnm 0 2 t_Tw to_Tw n_Tw u_Tw k_650 rfl rfl (by decide) rfl rfl rfl rfl rfl rfl (Nat.le_of_ble_eq_true rfl) d_Tw_init_9 (ws' := [(h, .inr (5, [.int (iI 0), .int (iI 0), .ref q1, .null, .null, .null, .null, .null, .null, .int (iI 0), .int (iI 0), .null, .int (iI 0), .int (iI 0), .null, .null, .null, .null])), (q1, .inl (cI, 10, .inl (aI (fun _ => 0))))]) rfl ?_
  refine g_aload_n C (q := 0) d_Tw_init_12 rfl rfl ?_
  refine g_bipush C d_Tw_init_13 rfl ?_
  refine g_newa C (N := 10) (t0 := 0) (ty := .int) (gws_in k_64) rfl (fun C => by intro q; cases q) rfl rfl rfl (by decide) (by decide) (by decide) (by decide) d_Tw_init_15 (fun q2 => ?_)
  refine g_ws (ws' := [(h, .inr (5, [.int (iI 0), .int (iI 0), .ref q1, .null, .null, .null, .null, .null, .null, .int (iI 0), .int (iI 0), .null, .int (iI 0), .int (iI 0), .null, .null, .null, .null])), (q1, .inl (cI, 10, .inl (aI (fun _ => 0)))), (q2, .inl (cI, 10, .inl (aI (fun _ => 0))))]) rfl ?_
  refine gPF C hnm 0 3 t_Tw to_Tw n_Tw u_Tw k_651 rfl rfl (by decide) rfl rfl rfl rfl rfl rfl (Nat.le_of_ble_eq_true rfl) d_Tw_init_17 (ws' := [(h, .inr (5, [.int (iI 0), .int (iI 0), .ref q1, .ref q2, .null, .null, .null, .null, .null, .int (iI 0), .int (iI 0), .null, .int (iI 0), .int (iI 0), .null, .null, .null, .null])), (q1, .inl (cI, 10, .inl (aI (fun _ => 0)))), (q2, .inl (cI, 10, .inl (aI (fun _ => 0))))]) rfl ?_
  refine g_aload_n C (q := 0) d_Tw_init_20 rfl rfl ?_
  refine g_bipush C d_Tw_init_21 rfl ?_
  refine g_newa C (N := 10) (t0 := 0) (ty := .int) (gws_in k_64) rfl (fun C => by intro q; cases q) rfl rfl rfl (by decide) (by decide) (by decide) (by decide) d_Tw_init_23 (fun q3 => ?_)
  refine g_ws (ws' := [(h, .inr (5, [.int (iI 0), .int (iI 0), .ref q1, .ref q2, .null, .null, .null, .null, .null, .int (iI 0), .int (iI 0), .null, .int (iI 0), .int (iI 0), .null, .null, .null, .null])), (q1, .inl (cI, 10, .inl (aI (fun _ => 0)))), (q2, .inl (cI, 10, .inl (aI (fun _ => 0)))), (q3, .inl (cI, 10, .inl (aI (fun _ => 0))))]) rfl ?_
  refine gPF C hnm 0 4 t_Tw to_Tw n_Tw u_Tw k_652 rfl rfl (by decide) rfl rfl rfl rfl rfl rfl (Nat.le_of_ble_eq_true rfl) d_Tw_init_25 (ws' := [(h, .inr (5, [.int (iI 0), .int (iI 0), .ref q1, .ref q2, .ref q3, .null, .null, .null, .null, .int (iI 0), .int (iI 0), .null, .int (iI 0), .int (iI 0), .null, .null, .null, .null])), (q1, .inl (cI, 10, .inl (aI (fun _ => 0)))), (q2, .inl (cI, 10, .inl (aI (fun _ => 0)))), (q3, .inl (cI, 10, .inl (aI (fun _ => 0))))]) rfl ?_
  refine g_aload_n C (q := 0) d_Tw_init_28 rfl rfl ?_
  refine g_bipush C d_Tw_init_29 rfl ?_
  refine g_newa C (N := 10) (t0 := 0) (ty := .int) (gws_in k_64) rfl (fun C => by intro q; cases q) rfl rfl rfl (by decide) (by decide) (by decide) (by decide) d_Tw_init_31 (fun q4 => ?_)
  refine g_ws (ws' := [(h, .inr (5, [.int (iI 0), .int (iI 0), .ref q1, .ref q2, .ref q3, .null, .null, .null, .null, .int (iI 0), .int (iI 0), .null, .int (iI 0), .int (iI 0), .null, .null, .null, .null])), (q1, .inl (cI, 10, .inl (aI (fun _ => 0)))), (q2, .inl (cI, 10, .inl (aI (fun _ => 0)))), (q3, .inl (cI, 10, .inl (aI (fun _ => 0)))), (q4, .inl (cI, 10, .inl (aI (fun _ => 0))))]) rfl ?_
  refine gPF C hnm 0 5 t_Tw to_Tw n_Tw u_Tw k_653 rfl rfl (by decide) rfl rfl rfl rfl rfl rfl (Nat.le_of_ble_eq_true rfl) d_Tw_init_33 (ws' := [(h, .inr (5, [.int (iI 0), .int (iI 0), .ref q1, .ref q2, .ref q3, .ref q4, .null, .null, .null, .int (iI 0), .int (iI 0), .null, .int (iI 0), .int (iI 0), .null, .null, .null, .null])), (q1, .inl (cI, 10, .inl (aI (fun _ => 0)))), (q2, .inl (cI, 10, .inl (aI (fun _ => 0)))), (q3, .inl (cI, 10, .inl (aI (fun _ => 0)))), (q4, .inl (cI, 10, .inl (aI (fun _ => 0))))]) rfl ?_
  refine g_aload_n C (q := 0) d_Tw_init_36 rfl rfl ?_
  refine g_bipush C d_Tw_init_37 rfl ?_
  refine g_newa C (N := 100) (t0 := 0) (ty := .int) (gws_in k_64) rfl (fun C => by intro q; cases q) rfl rfl rfl (by decide) (by decide) (by decide) (by decide) d_Tw_init_39 (fun q5 => ?_)
  refine g_ws (ws' := [(h, .inr (5, [.int (iI 0), .int (iI 0), .ref q1, .ref q2, .ref q3, .ref q4, .null, .null, .null, .int (iI 0), .int (iI 0), .null, .int (iI 0), .int (iI 0), .null, .null, .null, .null])), (q1, .inl (cI, 10, .inl (aI (fun _ => 0)))), (q2, .inl (cI, 10, .inl (aI (fun _ => 0)))), (q3, .inl (cI, 10, .inl (aI (fun _ => 0)))), (q4, .inl (cI, 10, .inl (aI (fun _ => 0)))), (q5, .inl (cI, 100, .inl (aI (fun _ => 0))))]) rfl ?_
  refine gPF C hnm 0 6 t_Tw to_Tw n_Tw u_Tw k_654 rfl rfl (by decide) rfl rfl rfl rfl rfl rfl (Nat.le_of_ble_eq_true rfl) d_Tw_init_41 (ws' := [(h, .inr (5, [.int (iI 0), .int (iI 0), .ref q1, .ref q2, .ref q3, .ref q4, .ref q5, .null, .null, .int (iI 0), .int (iI 0), .null, .int (iI 0), .int (iI 0), .null, .null, .null, .null])), (q1, .inl (cI, 10, .inl (aI (fun _ => 0)))), (q2, .inl (cI, 10, .inl (aI (fun _ => 0)))), (q3, .inl (cI, 10, .inl (aI (fun _ => 0)))), (q4, .inl (cI, 10, .inl (aI (fun _ => 0)))), (q5, .inl (cI, 100, .inl (aI (fun _ => 0))))]) rfl ?_
  refine g_aload_n C (q := 0) d_Tw_init_44 rfl rfl ?_
  refine g_bipush C d_Tw_init_45 rfl ?_
  refine g_newa C (N := 100) (t0 := 1) (ty := .boolean) (gws_in k_95) rfl (fun C => by intro q; cases q) rfl rfl rfl (by decide) (by decide) (by decide) (by decide) d_Tw_init_47 (fun q6 => ?_)
  refine g_ws (ws' := [(h, .inr (5, [.int (iI 0), .int (iI 0), .ref q1, .ref q2, .ref q3, .ref q4, .ref q5, .null, .null, .int (iI 0), .int (iI 0), .null, .int (iI 0), .int (iI 0), .null, .null, .null, .null])), (q1, .inl (cI, 10, .inl (aI (fun _ => 0)))), (q2, .inl (cI, 10, .inl (aI (fun _ => 0)))), (q3, .inl (cI, 10, .inl (aI (fun _ => 0)))), (q4, .inl (cI, 10, .inl (aI (fun _ => 0)))), (q5, .inl (cI, 100, .inl (aI (fun _ => 0)))), (q6, .inl (cZ, 100, .inl (aI (fun _ => 0))))]) rfl ?_
  refine gPF C hnm 0 7 t_Tw to_Tw n_Tw u_Tw k_655 rfl rfl (by decide) rfl rfl rfl rfl rfl rfl (Nat.le_of_ble_eq_true rfl) d_Tw_init_49 (ws' := [(h, .inr (5, [.int (iI 0), .int (iI 0), .ref q1, .ref q2, .ref q3, .ref q4, .ref q5, .ref q6, .null, .int (iI 0), .int (iI 0), .null, .int (iI 0), .int (iI 0), .null, .null, .null, .null])), (q1, .inl (cI, 10, .inl (aI (fun _ => 0)))), (q2, .inl (cI, 10, .inl (aI (fun _ => 0)))), (q3, .inl (cI, 10, .inl (aI (fun _ => 0)))), (q4, .inl (cI, 10, .inl (aI (fun _ => 0)))), (q5, .inl (cI, 100, .inl (aI (fun _ => 0)))), (q6, .inl (cZ, 100, .inl (aI (fun _ => 0))))]) rfl ?_
  refine g_aload_n C (q := 0) d_Tw_init_52 rfl rfl ?_
  refine g_bipush C d_Tw_init_53 rfl ?_
  refine g_newa C (N := 16) (t0 := 1) (ty := .boolean) (gws_in k_95) rfl (fun C => by intro q; cases q) rfl rfl rfl (by decide) (by decide) (by decide) (by decide) d_Tw_init_55 (fun q7 => ?_)
  refine g_ws (ws' := [(h, .inr (5, [.int (iI 0), .int (iI 0), .ref q1, .ref q2, .ref q3, .ref q4, .ref q5, .ref q6, .null, .int (iI 0), .int (iI 0), .null, .int (iI 0), .int (iI 0), .null, .null, .null, .null])), (q1, .inl (cI, 10, .inl (aI (fun _ => 0)))), (q2, .inl (cI, 10, .inl (aI (fun _ => 0)))), (q3, .inl (cI, 10, .inl (aI (fun _ => 0)))), (q4, .inl (cI, 10, .inl (aI (fun _ => 0)))), (q5, .inl (cI, 100, .inl (aI (fun _ => 0)))), (q6, .inl (cZ, 100, .inl (aI (fun _ => 0)))), (q7, .inl (cZ, 16, .inl (aI (fun _ => 0))))]) rfl ?_
  refine gPF C hnm 0 8 t_Tw to_Tw n_Tw u_Tw k_656 rfl rfl (by decide) rfl rfl rfl rfl rfl rfl (Nat.le_of_ble_eq_true rfl) d_Tw_init_57 (ws' := [(h, .inr (5, [.int (iI 0), .int (iI 0), .ref q1, .ref q2, .ref q3, .ref q4, .ref q5, .ref q6, .ref q7, .int (iI 0), .int (iI 0), .null, .int (iI 0), .int (iI 0), .null, .null, .null, .null])), (q1, .inl (cI, 10, .inl (aI (fun _ => 0)))), (q2, .inl (cI, 10, .inl (aI (fun _ => 0)))), (q3, .inl (cI, 10, .inl (aI (fun _ => 0)))), (q4, .inl (cI, 10, .inl (aI (fun _ => 0)))), (q5, .inl (cI, 100, .inl (aI (fun _ => 0)))), (q6, .inl (cZ, 100, .inl (aI (fun _ => 0)))), (q7, .inl (cZ, 16, .inl (aI (fun _ => 0))))]) rfl ?_
  refine g_aload_n C (q := 0) d_Tw_init_60 rfl rfl ?_
  refine g_sipush C d_Tw_init_61 rfl ?_
  refine gP C 0 9 t_Tw to_Tw n_Tw u_Tw k_657 rfl rfl (by decide) rfl rfl rfl rfl rfl (Nat.le_of_ble_eq_true rfl) d_Tw_init_64 (ws' := [(h, .inr (5, [.int (iI 0), .int (iI 0), .ref q1, .ref q2, .ref q3, .ref q4, .ref q5, .ref q6, .ref q7, .int (iI 1000), .int (iI 0), .null, .int (iI 0), .int (iI 0), .null, .null, .null, .null])), (q1, .inl (cI, 10, .inl (aI (fun _ => 0)))), (q2, .inl (cI, 10, .inl (aI (fun _ => 0)))), (q3, .inl (cI, 10, .inl (aI (fun _ => 0)))), (q4, .inl (cI, 10, .inl (aI (fun _ => 0)))), (q5, .inl (cI, 100, .inl (aI (fun _ => 0)))), (q6, .inl (cZ, 100, .inl (aI (fun _ => 0)))), (q7, .inl (cZ, 16, .inl (aI (fun _ => 0))))]) rfl ?_
  refine g_aload_n C (q := 0) d_Tw_init_67 rfl rfl ?_
  refine g_bipush C d_Tw_init_68 rfl ?_
  refine gP C 0 10 t_Tw to_Tw n_Tw u_Tw k_658 rfl rfl (by decide) rfl rfl rfl rfl rfl (Nat.le_of_ble_eq_true rfl) d_Tw_init_70 (ws' := [(h, .inr (5, [.int (iI 0), .int (iI 0), .ref q1, .ref q2, .ref q3, .ref q4, .ref q5, .ref q6, .ref q7, .int (iI 1000), .int (iI 100), .null, .int (iI 0), .int (iI 0), .null, .null, .null, .null])), (q1, .inl (cI, 10, .inl (aI (fun _ => 0)))), (q2, .inl (cI, 10, .inl (aI (fun _ => 0)))), (q3, .inl (cI, 10, .inl (aI (fun _ => 0)))), (q4, .inl (cI, 10, .inl (aI (fun _ => 0)))), (q5, .inl (cI, 100, .inl (aI (fun _ => 0)))), (q6, .inl (cZ, 100, .inl (aI (fun _ => 0)))), (q7, .inl (cZ, 16, .inl (aI (fun _ => 0))))]) rfl ?_
  refine g_aload_n C (q := 0) d_Tw_init_73 rfl rfl ?_
  refine g_bipush C d_Tw_init_74 rfl ?_
  refine g_newa C (N := 10) (t0 := 0) (ty := .int) (gws_in k_64) rfl (fun C => by intro q; cases q) rfl rfl rfl (by decide) (by decide) (by decide) (by decide) d_Tw_init_76 (fun q8 => ?_)
  refine g_ws (ws' := [(h, .inr (5, [.int (iI 0), .int (iI 0), .ref q1, .ref q2, .ref q3, .ref q4, .ref q5, .ref q6, .ref q7, .int (iI 1000), .int (iI 100), .null, .int (iI 0), .int (iI 0), .null, .null, .null, .null])), (q1, .inl (cI, 10, .inl (aI (fun _ => 0)))), (q2, .inl (cI, 10, .inl (aI (fun _ => 0)))), (q3, .inl (cI, 10, .inl (aI (fun _ => 0)))), (q4, .inl (cI, 10, .inl (aI (fun _ => 0)))), (q5, .inl (cI, 100, .inl (aI (fun _ => 0)))), (q6, .inl (cZ, 100, .inl (aI (fun _ => 0)))), (q7, .inl (cZ, 16, .inl (aI (fun _ => 0)))), (q8, .inl (cI, 10, .inl (aI (fun _ => 0))))]) rfl ?_
  refine gPF C hnm 0 11 t_Tw to_Tw n_Tw u_Tw k_659 rfl rfl (by decide) rfl rfl rfl rfl rfl rfl (Nat.le_of_ble_eq_true rfl) d_Tw_init_78 (ws' := [(h, .inr (5, [.int (iI 0), .int (iI 0), .ref q1, .ref q2, .ref q3, .ref q4, .ref q5, .ref q6, .ref q7, .int (iI 1000), .int (iI 100), .ref q8, .int (iI 0), .int (iI 0), .null, .null, .null, .null])), (q1, .inl (cI, 10, .inl (aI (fun _ => 0)))), (q2, .inl (cI, 10, .inl (aI (fun _ => 0)))), (q3, .inl (cI, 10, .inl (aI (fun _ => 0)))), (q4, .inl (cI, 10, .inl (aI (fun _ => 0)))), (q5, .inl (cI, 100, .inl (aI (fun _ => 0)))), (q6, .inl (cZ, 100, .inl (aI (fun _ => 0)))), (q7, .inl (cZ, 16, .inl (aI (fun _ => 0)))), (q8, .inl (cI, 10, .inl (aI (fun _ => 0))))]) rfl ?_
  refine g_aload_n C (q := 0) d_Tw_init_81 rfl rfl ?_
  refine g_bipush C d_Tw_init_82 rfl ?_
  refine g_newa C (N := 10) (t0 := 0) (ty := .int) (gws_in k_64) rfl (fun C => by intro q; cases q) rfl rfl rfl (by decide) (by decide) (by decide) (by decide) d_Tw_init_84 (fun q9 => ?_)
  refine g_ws (ws' := [(h, .inr (5, [.int (iI 0), .int (iI 0), .ref q1, .ref q2, .ref q3, .ref q4, .ref q5, .ref q6, .ref q7, .int (iI 1000), .int (iI 100), .ref q8, .int (iI 0), .int (iI 0), .null, .null, .null, .null])), (q1, .inl (cI, 10, .inl (aI (fun _ => 0)))), (q2, .inl (cI, 10, .inl (aI (fun _ => 0)))), (q3, .inl (cI, 10, .inl (aI (fun _ => 0)))), (q4, .inl (cI, 10, .inl (aI (fun _ => 0)))), (q5, .inl (cI, 100, .inl (aI (fun _ => 0)))), (q6, .inl (cZ, 100, .inl (aI (fun _ => 0)))), (q7, .inl (cZ, 16, .inl (aI (fun _ => 0)))), (q8, .inl (cI, 10, .inl (aI (fun _ => 0)))), (q9, .inl (cI, 10, .inl (aI (fun _ => 0))))]) rfl ?_
  refine gPF C hnm 0 14 t_Tw to_Tw n_Tw u_Tw k_662 rfl rfl (by decide) rfl rfl rfl rfl rfl rfl (Nat.le_of_ble_eq_true rfl) d_Tw_init_86 (ws' := [(h, .inr (5, [.int (iI 0), .int (iI 0), .ref q1, .ref q2, .ref q3, .ref q4, .ref q5, .ref q6, .ref q7, .int (iI 1000), .int (iI 100), .ref q8, .int (iI 0), .int (iI 0), .ref q9, .null, .null, .null])), (q1, .inl (cI, 10, .inl (aI (fun _ => 0)))), (q2, .inl (cI, 10, .inl (aI (fun _ => 0)))), (q3, .inl (cI, 10, .inl (aI (fun _ => 0)))), (q4, .inl (cI, 10, .inl (aI (fun _ => 0)))), (q5, .inl (cI, 100, .inl (aI (fun _ => 0)))), (q6, .inl (cZ, 100, .inl (aI (fun _ => 0)))), (q7, .inl (cZ, 16, .inl (aI (fun _ => 0)))), (q8, .inl (cI, 10, .inl (aI (fun _ => 0)))), (q9, .inl (cI, 10, .inl (aI (fun _ => 0))))]) rfl ?_
  refine g_aload_n C (q := 0) d_Tw_init_89 rfl rfl ?_
  refine g_bipush C d_Tw_init_90 rfl ?_
  refine g_newa C (N := 40) (t0 := 0) (ty := .int) (gws_in k_64) rfl (fun C => by intro q; cases q) rfl rfl rfl (by decide) (by decide) (by decide) (by decide) d_Tw_init_92 (fun q10 => ?_)
  refine g_ws (ws' := [(h, .inr (5, [.int (iI 0), .int (iI 0), .ref q1, .ref q2, .ref q3, .ref q4, .ref q5, .ref q6, .ref q7, .int (iI 1000), .int (iI 100), .ref q8, .int (iI 0), .int (iI 0), .ref q9, .null, .null, .null])), (q1, .inl (cI, 10, .inl (aI (fun _ => 0)))), (q2, .inl (cI, 10, .inl (aI (fun _ => 0)))), (q3, .inl (cI, 10, .inl (aI (fun _ => 0)))), (q4, .inl (cI, 10, .inl (aI (fun _ => 0)))), (q5, .inl (cI, 100, .inl (aI (fun _ => 0)))), (q6, .inl (cZ, 100, .inl (aI (fun _ => 0)))), (q7, .inl (cZ, 16, .inl (aI (fun _ => 0)))), (q8, .inl (cI, 10, .inl (aI (fun _ => 0)))), (q9, .inl (cI, 10, .inl (aI (fun _ => 0)))), (q10, .inl (cI, 40, .inl (aI (fun _ => 0))))]) rfl ?_
  refine gPF C hnm 0 15 t_Tw to_Tw n_Tw u_Tw k_663 rfl rfl (by decide) rfl rfl rfl rfl rfl rfl (Nat.le_of_ble_eq_true rfl) d_Tw_init_94 (ws' := [(h, .inr (5, [.int (iI 0), .int (iI 0), .ref q1, .ref q2, .ref q3, .ref q4, .ref q5, .ref q6, .ref q7, .int (iI 1000), .int (iI 100), .ref q8, .int (iI 0), .int (iI 0), .ref q9, .ref q10, .null, .null])), (q1, .inl (cI, 10, .inl (aI (fun _ => 0)))), (q2, .inl (cI, 10, .inl (aI (fun _ => 0)))), (q3, .inl (cI, 10, .inl (aI (fun _ => 0)))), (q4, .inl (cI, 10, .inl (aI (fun _ => 0)))), (q5, .inl (cI, 100, .inl (aI (fun _ => 0)))), (q6, .inl (cZ, 100, .inl (aI (fun _ => 0)))), (q7, .inl (cZ, 16, .inl (aI (fun _ => 0)))), (q8, .inl (cI, 10, .inl (aI (fun _ => 0)))), (q9, .inl (cI, 10, .inl (aI (fun _ => 0)))), (q10, .inl (cI, 40, .inl (aI (fun _ => 0))))]) rfl ?_
  refine g_aload_n C (q := 0) d_Tw_init_97 rfl rfl ?_
  refine g_bipush C d_Tw_init_98 rfl ?_
  refine g_newa C (N := 10) (t0 := 0) (ty := .int) (gws_in k_64) rfl (fun C => by intro q; cases q) rfl rfl rfl (by decide) (by decide) (by decide) (by decide) d_Tw_init_100 (fun q11 => ?_)
  refine g_ws (ws' := [(h, .inr (5, [.int (iI 0), .int (iI 0), .ref q1, .ref q2, .ref q3, .ref q4, .ref q5, .ref q6, .ref q7, .int (iI 1000), .int (iI 100), .ref q8, .int (iI 0), .int (iI 0), .ref q9, .ref q10, .null, .null])), (q1, .inl (cI, 10, .inl (aI (fun _ => 0)))), (q2, .inl (cI, 10, .inl (aI (fun _ => 0)))), (q3, .inl (cI, 10, .inl (aI (fun _ => 0)))), (q4, .inl (cI, 10, .inl (aI (fun _ => 0)))), (q5, .inl (cI, 100, .inl (aI (fun _ => 0)))), (q6, .inl (cZ, 100, .inl (aI (fun _ => 0)))), (q7, .inl (cZ, 16, .inl (aI (fun _ => 0)))), (q8, .inl (cI, 10, .inl (aI (fun _ => 0)))), (q9, .inl (cI, 10, .inl (aI (fun _ => 0)))), (q10, .inl (cI, 40, .inl (aI (fun _ => 0)))), (q11, .inl (cI, 10, .inl (aI (fun _ => 0))))]) rfl ?_
  refine gPF C hnm 0 16 t_Tw to_Tw n_Tw u_Tw k_664 rfl rfl (by decide) rfl rfl rfl rfl rfl rfl (Nat.le_of_ble_eq_true rfl) d_Tw_init_102 (ws' := [(h, .inr (5, [.int (iI 0), .int (iI 0), .ref q1, .ref q2, .ref q3, .ref q4, .ref q5, .ref q6, .ref q7, .int (iI 1000), .int (iI 100), .ref q8, .int (iI 0), .int (iI 0), .ref q9, .ref q10, .ref q11, .null])), (q1, .inl (cI, 10, .inl (aI (fun _ => 0)))), (q2, .inl (cI, 10, .inl (aI (fun _ => 0)))), (q3, .inl (cI, 10, .inl (aI (fun _ => 0)))), (q4, .inl (cI, 10, .inl (aI (fun _ => 0)))), (q5, .inl (cI, 100, .inl (aI (fun _ => 0)))), (q6, .inl (cZ, 100, .inl (aI (fun _ => 0)))), (q7, .inl (cZ, 16, .inl (aI (fun _ => 0)))), (q8, .inl (cI, 10, .inl (aI (fun _ => 0)))), (q9, .inl (cI, 10, .inl (aI (fun _ => 0)))), (q10, .inl (cI, 40, .inl (aI (fun _ => 0)))), (q11, .inl (cI, 10, .inl (aI (fun _ => 0))))]) rfl ?_
  refine g_aload_n C (q := 0) d_Tw_init_105 rfl rfl ?_
  refine g_sipush C d_Tw_init_106 rfl ?_
  refine g_newa C (N := 1024) (t0 := 0) (ty := .int) (gws_in k_64) rfl (fun C => by intro q; cases q) rfl rfl rfl (by decide) (by decide) (by decide) (by decide) d_Tw_init_109 (fun q12 => ?_)
  refine g_ws (ws' := [(h, .inr (5, [.int (iI 0), .int (iI 0), .ref q1, .ref q2, .ref q3, .ref q4, .ref q5, .ref q6, .ref q7, .int (iI 1000), .int (iI 100), .ref q8, .int (iI 0), .int (iI 0), .ref q9, .ref q10, .ref q11, .null])), (q1, .inl (cI, 10, .inl (aI (fun _ => 0)))), (q2, .inl (cI, 10, .inl (aI (fun _ => 0)))), (q3, .inl (cI, 10, .inl (aI (fun _ => 0)))), (q4, .inl (cI, 10, .inl (aI (fun _ => 0)))), (q5, .inl (cI, 100, .inl (aI (fun _ => 0)))), (q6, .inl (cZ, 100, .inl (aI (fun _ => 0)))), (q7, .inl (cZ, 16, .inl (aI (fun _ => 0)))), (q8, .inl (cI, 10, .inl (aI (fun _ => 0)))), (q9, .inl (cI, 10, .inl (aI (fun _ => 0)))), (q10, .inl (cI, 40, .inl (aI (fun _ => 0)))), (q11, .inl (cI, 10, .inl (aI (fun _ => 0)))), (q12, .inl (cI, 1024, .inl (aI (fun _ => 0))))]) rfl ?_
  refine gPF C hnm 0 17 t_Tw to_Tw n_Tw u_Tw k_665 rfl rfl (by decide) rfl rfl rfl rfl rfl rfl (Nat.le_of_ble_eq_true rfl) d_Tw_init_111 (ws' := [(h, .inr (5, [.int (iI 0), .int (iI 0), .ref q1, .ref q2, .ref q3, .ref q4, .ref q5, .ref q6, .ref q7, .int (iI 1000), .int (iI 100), .ref q8, .int (iI 0), .int (iI 0), .ref q9, .ref q10, .ref q11, .ref q12])), (q1, .inl (cI, 10, .inl (aI (fun _ => 0)))), (q2, .inl (cI, 10, .inl (aI (fun _ => 0)))), (q3, .inl (cI, 10, .inl (aI (fun _ => 0)))), (q4, .inl (cI, 10, .inl (aI (fun _ => 0)))), (q5, .inl (cI, 100, .inl (aI (fun _ => 0)))), (q6, .inl (cZ, 100, .inl (aI (fun _ => 0)))), (q7, .inl (cZ, 16, .inl (aI (fun _ => 0)))), (q8, .inl (cI, 10, .inl (aI (fun _ => 0)))), (q9, .inl (cI, 10, .inl (aI (fun _ => 0)))), (q10, .inl (cI, 40, .inl (aI (fun _ => 0)))), (q11, .inl (cI, 10, .inl (aI (fun _ => 0)))), (q12, .inl (cI, 1024, .inl (aI (fun _ => 0))))]) rfl ?_
  refine g_iconst C d_Tw_init_114 ?_
  refine g_istore_n C (lv' := [(0, .ref h), (1, .int (iI 0))]) d_Tw_init_115 rfl (by decide) rfl rfl ?_
  refine g_eq (ws' := mw (fun k => ([h, q1, q2, q3, q4, q5, q6, q7, q8, q9, q10, q11, q12] : List Nat).getD k 0) cI cZ (bu x0m 9 (fl (x0m 9) (-1) 0))) (lv' := [(0, .ref ((fun k => ([h, q1, q2, q3, q4, q5, q6, q7, q8, q9, q10, q11, q12] : List Nat).getD k 0) 0)), (1, .int (iI ((0 : Nat) : Int)))]) (pc' := 116) (st' := []) (by rw [fl_0]; rfl) rfl rfl rfl ?_
  refine lp_Tw_i1 C x0m ?_ 100 0 (by omega)
  refine g_iconst C d_Tw_init_135 ?_
  refine g_istore_n C (lv' := [(0, .ref ((fun k => ([h, q1, q2, q3, q4, q5, q6, q7, q8, q9, q10, q11, q12] : List Nat).getD k 0) 0)), (1, .int (iI 0))]) d_Tw_init_136 rfl (by decide) rfl rfl ?_
  refine g_eq (ws' := mw (fun k => ([h, q1, q2, q3, q4, q5, q6, q7, q8, q9, q10, q11, q12] : List Nat).getD k 0) cI cZ (bu (bu x0m 9 (fl (x0m 9) (-1) 100)) 11 (dg ((bu x0m 9 (fl (x0m 9) (-1) 100)) 11) 0))) (lv' := [(0, .ref ((fun k => ([h, q1, q2, q3, q4, q5, q6, q7, q8, q9, q10, q11, q12] : List Nat).getD k 0) 0)), (1, .int (iI ((0 : Nat) : Int)))]) (pc' := 137) (st' := []) rfl rfl rfl rfl ?_
  refine lp_Tw_i2 C (bu x0m 9 (fl (x0m 9) (-1) 100)) ?_ 4 0 (by omega)
  refine g_iconst C d_Tw_init_159 ?_
  refine g_istore_n C (lv' := [(0, .ref ((fun k => ([h, q1, q2, q3, q4, q5, q6, q7, q8, q9, q10, q11, q12] : List Nat).getD k 0) 0)), (1, .int (iI 0))]) d_Tw_init_160 rfl (by decide) rfl rfl ?_
  refine g_eq (ws' := mw (fun k => ([h, q1, q2, q3, q4, q5, q6, q7, q8, q9, q10, q11, q12] : List Nat).getD k 0) cI cZ (bu (bu (bu (bu x0m 9 (fl (x0m 9) (-1) 100)) 11 (dg ((bu x0m 9 (fl (x0m 9) (-1) 100)) 11) 4)) 16 (fl ((bu (bu x0m 9 (fl (x0m 9) (-1) 100)) 11 (dg ((bu x0m 9 (fl (x0m 9) (-1) 100)) 11) 4)) 16) (-1) 0)) 15 (fl ((bu (bu x0m 9 (fl (x0m 9) (-1) 100)) 11 (dg ((bu x0m 9 (fl (x0m 9) (-1) 100)) 11) 4)) 15) (-1) 0))) (lv' := [(0, .ref ((fun k => ([h, q1, q2, q3, q4, q5, q6, q7, q8, q9, q10, q11, q12] : List Nat).getD k 0) 0)), (1, .int (iI ((0 : Nat) : Int)))]) (pc' := 161) (st' := []) (by rw [fl_0, fl_0]; rfl) rfl rfl rfl ?_
  refine lp_Tw_i3 C (bu (bu x0m 9 (fl (x0m 9) (-1) 100)) 11 (dg ((bu x0m 9 (fl (x0m 9) (-1) 100)) 11) 4)) ?_ 10 0 (by omega)
  refine g_ws (ws' := mw (fun k => ([h, q1, q2, q3, q4, q5, q6, q7, q8, q9, q10, q11, q12] : List Nat).getD k 0) cI cZ x00) rfl ?_
  exact g_vret C hA hr d_Tw_init_187 (by decide) (by decide) ⟨rfl, (fun k => ([h, q1, q2, q3, q4, q5, q6, q7, q8, q9, q10, q11, q12] : List Nat).getD k 0), rfl, rfl⟩
