set_option maxRecDepth 100000 in
set_option maxHeartbeats 4000000 in
theorem m_M_putGain {l : Launch} {D : va_G} {cI cZ cJ : ClassId} {base : Nat} {ad : Nat → Nat} (x : Bk) (a b v : Int) (ha : 0 ≤ a ∧ a < 10) (hb : 0 ≤ b ∧ b < 10) : Cn l D cls9 (tyl cI cZ cJ) base (zz base) y_M_putGain (wz y_M_putGain c_M_putGain 4 none) ({ frames := 1, cells := 0, slots := 0, locals := 21 } : Room) [.ref (ad 4), .int (iI a), .int (iI b), .int (iI v)] (cw ad cI cZ x) (fun r w => r = none ∧ w = cw ad cI cZ (bu x 17 (updI (x 17) (a * 10 + b) v))) 0 0 := by
  refine Cn_of (zzG base) (by decide) rfl (Nat.le_of_ble_eq_true rfl) ?_
  intro p e s m args below meth c A C hr hA hnm
  have C : gC p s m args meth c D cls9 (tyl cI cZ cJ) A c_M_putGain 4 "BatchSavings$Matching" (wz y_M_putGain c_M_putGain 4 none) base (zz base) := C
  refine g_lve (lv' := [(0, .ref (ad 4)), (1, .int (iI a)), (2, .int (iI b)), (3, .int (iI v))]) rfl ?_
  refine g_aload_n C (q := 0) d_M_putGain_0 rfl rfl ?_
  refine gG C (v := .ref (ad 17)) 4 2 u_M k_132 (cwo_4 _) rfl (by decide) rfl rfl d_M_putGain_1 ?_
  refine g_iload_n C (q := 1) d_M_putGain_4 rfl rfl ?_
  refine g_iload_n C (q := 2) d_M_putGain_5 rfl rfl ?_
  refine gSN0 C (st := [.ref (ad 17)]) (m_S_pairIndex a b) k_190 kn_446 k_189 k_1 ho_S_pairIndex rfl rfl ⟨by decide, by decide⟩ rfl rfl (Nat.le_of_ble_eq_true rfl) d_M_putGain_6 ⟨by decide, by decide⟩ (fun r w hq => ?_)
  obtain ⟨rfl, rfl⟩ := hq
  refine g_eq (ws' := cw ad cI cZ x) (lv' := [(0, .ref (ad 4)), (1, .int (iI a)), (2, .int (iI b)), (3, .int (iI v))]) (pc' := 9) (st' := [.int (iI (a * 10 + b)), .ref (ad 17)]) rfl rfl rfl rfl ?_
  refine g_iload_n C (q := 3) d_M_putGain_9 rfl rfl ?_
  refine g_iast C 17 0 (cwa_17 _) rfl (by decide) (by omega) d_M_putGain_10 (cws_17 _ _) ?_
  refine g_ws (ws' := cw ad cI cZ (bu x 17 (updI (x 17) (a * 10 + b) v))) rfl ?_
  exact g_vret C hA hr d_M_putGain_11 (by decide) (by decide) ⟨rfl, rfl⟩
set_option maxRecDepth 100000 in
set_option maxHeartbeats 4000000 in
theorem m_M_bind {l : Launch} {D : va_G} {cI cZ cJ : ClassId} {base : Nat} {ad : Nat → Nat} (x : Bk) (a b : Int) (ha : 0 ≤ a ∧ a < 10) (hb : 0 ≤ b ∧ b < 10) : Cn l D cls9 (tyl cI cZ cJ) base (zz base) y_M_bind (wz y_M_bind c_M_bind 3 none) ({ frames := 0, cells := 0, slots := 0, locals := 0 } : Room) [.ref (ad 4), .int (iI a), .int (iI b)] (cw ad cI cZ x) (fun r w => r = none ∧ w = cw ad cI cZ (bu x 16 (updI (updI (x 16) a b) b a))) 0 0 := by
  refine Cn_of (zzG base) (by decide) rfl (Nat.le_of_ble_eq_true rfl) ?_
  intro p e s m args below meth c A C hr hA hnm
  have C : gC p s m args meth c D cls9 (tyl cI cZ cJ) A c_M_bind 3 "BatchSavings$Matching" (wz y_M_bind c_M_bind 3 none) base (zz base) := C
  refine g_lve (lv' := [(0, .ref (ad 4)), (1, .int (iI a)), (2, .int (iI b))]) rfl ?_
  refine g_aload_n C (q := 0) d_M_bind_0 rfl rfl ?_
  refine gG C (v := .ref (ad 16)) 4 1 u_M k_130 (cwo_4 _) rfl (by decide) rfl rfl d_M_bind_1 ?_
  refine g_iload_n C (q := 1) d_M_bind_4 rfl rfl ?_
  refine g_iload_n C (q := 2) d_M_bind_5 rfl rfl ?_
  refine g_iast C 16 0 (cwa_16 _) rfl (by decide) (by omega) d_M_bind_6 (cws_16 _ _) ?_
  refine g_ws (ws' := cw ad cI cZ (bu x 16 (updI (x 16) a b))) rfl ?_
  refine g_aload_n C (q := 0) d_M_bind_7 rfl rfl ?_
  refine gG C (v := .ref (ad 16)) 4 1 u_M k_130 (cwo_4 _) rfl (by decide) rfl rfl d_M_bind_8 ?_
  refine g_iload_n C (q := 2) d_M_bind_11 rfl rfl ?_
  refine g_iload_n C (q := 1) d_M_bind_12 rfl rfl ?_
  refine g_iast C 16 0 (cwa_16 _) rfl (by decide) (by omega) d_M_bind_13 (cws_16 _ _) ?_
  refine g_ws (ws' := cw ad cI cZ (bu (bu x 16 (updI (x 16) a b)) 16 (updI (updI (x 16) a b) b a))) rfl ?_
  exact g_vret C hA hr d_M_bind_14 (by decide) (by decide) ⟨rfl, rfl⟩
def unp (p : Int → Int) (a : Int) : Int → Int := if p a = -1 then updI p a (-1) else updI (updI p (p a) (-1)) a (-1)
set_option maxRecDepth 100000 in
set_option maxHeartbeats 4000000 in
theorem m_M_part {l : Launch} {D : va_G} {cI cZ cJ : ClassId} {base : Nat} {ad : Nat → Nat} (x : Bk) (a : Int) (ha : 0 ≤ a ∧ a < 10) (hp : -1 ≤ x 16 a ∧ x 16 a < 10) : Cn l D cls9 (tyl cI cZ cJ) base (zz base) y_M_part (wz y_M_part c_M_part 3 none) ({ frames := 0, cells := 0, slots := 0, locals := 0 } : Room) [.ref (ad 4), .int (iI a)] (cw ad cI cZ x) (fun r w => r = none ∧ w = cw ad cI cZ (bu x 16 (unp (x 16) a))) 0 0 := by
  refine Cn_of (zzG base) (by decide) rfl (Nat.le_of_ble_eq_true rfl) ?_
  intro p e s m args below meth c A C hr hA hnm
  have C : gC p s m args meth c D cls9 (tyl cI cZ cJ) A c_M_part 3 "BatchSavings$Matching" (wz y_M_part c_M_part 3 none) base (zz base) := C
  refine g_lve (lv' := [(0, .ref (ad 4)), (1, .int (iI a))]) rfl ?_
  refine g_aload_n C (q := 0) d_M_part_0 rfl rfl ?_
  refine gG C (v := .ref (ad 16)) 4 1 u_M k_130 (cwo_4 _) rfl (by decide) rfl rfl d_M_part_1 ?_
  refine g_iload_n C (q := 1) d_M_part_4 rfl rfl ?_
  refine g_iald C 16 0 (cwa_16 _) rfl (by decide) (by omega) d_M_part_5 ?_
  refine g_st (st' := [.int (iI (x 16 a))]) rfl ?_
  refine g_istore_n C (lv' := [(0, .ref (ad 4)), (1, .int (iI a)), (2, .int (iI (x 16 a)))]) d_M_part_6 rfl (by decide) rfl rfl ?_
  refine g_iload_n C (q := 2) d_M_part_7 rfl rfl ?_
  refine g_iconst C d_M_part_8 ?_
  refine g_icmp_eq C (tgt := 19) d_M_part_9 rfl (by omega) (by omega) (fun h9_1 => ?_) (fun h9_1 => ?_)
  · refine g_aload_n C (q := 0) d_M_part_19 rfl rfl ?_
    refine gG C (v := .ref (ad 16)) 4 1 u_M k_130 (cwo_4 _) rfl (by decide) rfl rfl d_M_part_20 ?_
    refine g_iload_n C (q := 1) d_M_part_23 rfl rfl ?_
    refine g_iconst C d_M_part_24 ?_
    refine g_iast C 16 0 (cwa_16 _) rfl (by decide) (by omega) d_M_part_25 (cws_16 _ _) ?_
    refine g_ws (ws' := cw ad cI cZ (bu x 16 (updI (x 16) a (-1)))) rfl ?_
    exact g_vret C hA hr d_M_part_26 (by decide) (by decide) ⟨rfl, by unfold unp; first | rw [if_pos (by assumption)] | (rw [if_neg (by assumption)]; rfl)⟩
  · refine g_aload_n C (q := 0) d_M_part_12 rfl rfl ?_
    refine gG C (v := .ref (ad 16)) 4 1 u_M k_130 (cwo_4 _) rfl (by decide) rfl rfl d_M_part_13 ?_
    refine g_iload_n C (q := 2) d_M_part_16 rfl rfl ?_
    refine g_iconst C d_M_part_17 ?_
    refine g_iast C 16 0 (cwa_16 _) rfl (by decide) (by omega) d_M_part_18 (cws_16 _ _) ?_
    refine g_ws (ws' := cw ad cI cZ (bu x 16 (updI (x 16) (x 16 a) (-1)))) rfl ?_
    refine g_aload_n C (q := 0) d_M_part_19 rfl rfl ?_
    refine gG C (v := .ref (ad 16)) 4 1 u_M k_130 (cwo_4 _) rfl (by decide) rfl rfl d_M_part_20 ?_
    refine g_iload_n C (q := 1) d_M_part_23 rfl rfl ?_
    refine g_iconst C d_M_part_24 ?_
    refine g_iast C 16 0 (cwa_16 _) rfl (by decide) (by omega) d_M_part_25 (cws_16 _ _) ?_
    refine g_ws (ws' := cw ad cI cZ (bu (bu x 16 (updI (x 16) (x 16 a) (-1))) 16 (updI (updI (x 16) (x 16 a) (-1)) a (-1)))) rfl ?_
    exact g_vret C hA hr d_M_part_26 (by decide) (by decide) ⟨rfl, by unfold unp; first | rw [if_pos (by assumption)] | (rw [if_neg (by assumption)]; rfl)⟩
def prs (x : Bk) : Int := sg (fun i => b01 (i < x 16 i)) (x 1 0).toNat
set_option maxRecDepth 100000 in
set_option maxHeartbeats 4000000 in
theorem lp_M_pairs {p : Program} {l : Launch} {e : Env} {s : State} {m : MethodId} {args : Array Value} {below : List Frame} {meth : Method} {c : Code} {D : va_G} {cI cZ cJ : ClassId} {base : Nat} {ad : Nat → Nat} {A : Nat → Prop} {Q : State → Prop} (C : gC p s m args meth c D cls9 (tyl cI cZ cJ) A c_M_pairs 3 "BatchSavings$Matching" (wz y_M_pairs c_M_pairs 3 (some FieldType.int)) base (zz base)) (x : Bk) (hn : 0 ≤ x 1 0 ∧ x 1 0 ≤ 10) (h16 : ∀ i, 0 ≤ i → i < 10 → -1 ≤ x 16 i ∧ x 16 i ≤ 9)
    (K : gW p l e ({ frames := 0, cells := 0, slots := 0, locals := 0 } : Room) s m args below meth c D cls9 A 3 0 0 Q (cw ad cI cZ x) [(0, .ref (ad 4)), (1, .int (iI (sg (fun i => b01 (i < x 16 i)) ((x 1 0).toNat)))), (2, .int (iI ((x 1 0).toNat : Int)))] 34 []) : ∀ (d k : Nat), (k : Int) + (d : Int) = x 1 0 → gW p l e ({ frames := 0, cells := 0, slots := 0, locals := 0 } : Room) s m args below meth c D cls9 A 3 0 0 Q (cw ad cI cZ x) [(0, .ref (ad 4)), (1, .int (iI (sg (fun i => b01 (i < x 16 i)) k))), (2, .int (iI (k : Int)))] 4 [] := by
  intro d
  induction d with
  | zero =>
    intro k hk
    refine g_iload_n C (q := 2) d_M_pairs_4 rfl rfl ?_
    refine g_aload_n C (q := 0) d_M_pairs_5 rfl rfl ?_
    refine gG C (v := .ref (ad 1)) 4 0 u_M k_129 (cwo_4 _) rfl (by decide) rfl rfl d_M_pairs_6 ?_
    refine gGN C (v := .int (iI (x 1 0))) 1 5 u_O kn_50 (cwo_1 _) rfl (by decide) rfl rfl d_M_pairs_9 ?_
    refine g_icmp_ge C (tgt := 34) d_M_pairs_12 rfl (by omega) (by omega) (fun h12_1 => ?_) (fun h12_1 => ?_)
    · obtain rfl : k = (x 1 0).toNat := by omega
      exact K
    · exfalso
      omega
  | succ d ih =>
    intro k hk
    refine g_iload_n C (q := 2) d_M_pairs_4 rfl rfl ?_
    refine g_aload_n C (q := 0) d_M_pairs_5 rfl rfl ?_
    refine gG C (v := .ref (ad 1)) 4 0 u_M k_129 (cwo_4 _) rfl (by decide) rfl rfl d_M_pairs_6 ?_
    refine gGN C (v := .int (iI (x 1 0))) 1 5 u_O kn_50 (cwo_1 _) rfl (by decide) rfl rfl d_M_pairs_9 ?_
    refine g_icmp_ge C (tgt := 34) d_M_pairs_12 rfl (by omega) (by omega) (fun h12_1 => ?_) (fun h12_1 => ?_)
    · exfalso
      omega
    · have g6 := h16 (k : Int) (by omega) (by omega)
      refine g_aload_n C (q := 0) d_M_pairs_15 rfl rfl ?_
      refine gG C (v := .ref (ad 16)) 4 1 u_M k_130 (cwo_4 _) rfl (by decide) rfl rfl d_M_pairs_16 ?_
      refine g_iload_n C (q := 2) d_M_pairs_19 rfl rfl ?_
      refine g_iald C 16 0 (cwa_16 _) rfl (by decide) (by omega) d_M_pairs_20 ?_
      refine g_st (st' := [.int (iI (x 16 (k : Int)))]) rfl ?_
      refine g_iload_n C (q := 2) d_M_pairs_21 rfl rfl ?_
      refine g_icmp_le C (tgt := 28) d_M_pairs_22 rfl (by omega) (by omega) (fun h22_2 => ?_) (fun h22_2 => ?_)
      · refine g_lve (lv' := [(0, .ref (ad 4)), (1, .int (iI (sg (fun i => b01 (i < x 16 i)) (k + 1)))), (2, .int (iI (k : Int)))]) (by rw [sg_s]; first | rw [b01_t (by omega)] | (rw [b01_f (by omega)]; simp)) ?_
        refine g_iinc C (q := 2) (lv' := [(0, .ref (ad 4)), (1, .int (iI (sg (fun i => b01 (i < x 16 i)) (k + 1)))), (2, .int (iI ((k : Int) + 1)))]) d_M_pairs_28 rfl (by decide) rfl rfl ?_
        refine g_goto C (tgt := 4) d_M_pairs_31 rfl ?_
        exact ih (k + 1) (by omega)
      · refine g_iinc C (q := 1) (lv' := [(0, .ref (ad 4)), (1, .int (iI ((sg (fun i => b01 (i < x 16 i)) k) + 1))), (2, .int (iI (k : Int)))]) d_M_pairs_25 rfl (by decide) rfl rfl ?_
        refine g_lve (lv' := [(0, .ref (ad 4)), (1, .int (iI (sg (fun i => b01 (i < x 16 i)) (k + 1)))), (2, .int (iI (k : Int)))]) (by rw [sg_s]; first | rw [b01_t (by omega)] | (rw [b01_f (by omega)]; simp)) ?_
        refine g_iinc C (q := 2) (lv' := [(0, .ref (ad 4)), (1, .int (iI (sg (fun i => b01 (i < x 16 i)) (k + 1)))), (2, .int (iI ((k : Int) + 1)))]) d_M_pairs_28 rfl (by decide) rfl rfl ?_
        refine g_goto C (tgt := 4) d_M_pairs_31 rfl ?_
        exact ih (k + 1) (by omega)
set_option maxRecDepth 100000 in
set_option maxHeartbeats 4000000 in
theorem m_M_pairs {l : Launch} {D : va_G} {cI cZ cJ : ClassId} {base : Nat} {ad : Nat → Nat} (x : Bk) (hn : 0 ≤ x 1 0 ∧ x 1 0 ≤ 10) (h16 : ∀ i, 0 ≤ i → i < 10 → -1 ≤ x 16 i ∧ x 16 i ≤ 9) : Cn l D cls9 (tyl cI cZ cJ) base (zz base) y_M_pairs (wz y_M_pairs c_M_pairs 3 (some FieldType.int)) ({ frames := 0, cells := 0, slots := 0, locals := 0 } : Room) [.ref (ad 4)] (cw ad cI cZ x) (fun r w => r = some (prs x) ∧ w = cw ad cI cZ x) 0 0 := by
  refine Cn_of (zzG base) (by decide) rfl (Nat.le_of_ble_eq_true rfl) ?_
  intro p e s m args below meth c A C hr hA hnm
  have C : gC p s m args meth c D cls9 (tyl cI cZ cJ) A c_M_pairs 3 "BatchSavings$Matching" (wz y_M_pairs c_M_pairs 3 (some FieldType.int)) base (zz base) := C
  refine g_lve (lv' := [(0, .ref (ad 4))]) rfl ?_
  refine g_iconst C d_M_pairs_0 ?_
  refine g_istore_n C (lv' := [(0, .ref (ad 4)), (1, .int (iI 0))]) d_M_pairs_1 rfl (by decide) rfl rfl ?_
  refine g_iconst C d_M_pairs_2 ?_
  refine g_istore_n C (lv' := [(0, .ref (ad 4)), (1, .int (iI 0)), (2, .int (iI 0))]) d_M_pairs_3 rfl (by decide) rfl rfl ?_
  refine lp_M_pairs C x hn h16 ?_ (x 1 0).toNat 0 (by omega)
  refine g_iload_n C (q := 1) d_M_pairs_34 rfl rfl ?_
  exact g_iret C hA hr d_M_pairs_35 (by decide) (by decide) ⟨rfl, rfl⟩
def svd (x : Bk) : Int := sg (fun i => if i < x 16 i then sv x i (x 16 i) else 0) (x 1 0).toNat
set_option maxRecDepth 100000 in
set_option maxHeartbeats 4000000 in
theorem lp_M_saved {p : Program} {l : Launch} {e : Env} {s : State} {m : MethodId} {args : Array Value} {below : List Frame} {meth : Method} {c : Code} {D : va_G} {cI cZ cJ : ClassId} {base : Nat} {ad : Nat → Nat} {A : Nat → Prop} {Q : State → Prop} (C : gC p s m args meth c D cls9 (tyl cI cZ cJ) A c_M_saved 3 "BatchSavings$Matching" (wz y_M_saved c_M_saved 3 (some FieldType.int)) base (zz base)) (x : Bk) (hn : 0 ≤ x 1 0 ∧ x 1 0 ≤ 10) (h16 : ∀ i, 0 ≤ i → i < 10 → -1 ≤ x 16 i ∧ x 16 i ≤ 9) (h9 : ∀ i, 0 ≤ i → i < 100 → -1 ≤ x 9 i ∧ x 9 i ≤ 20000)
    (K : gW p l e ({ frames := 2, cells := 0, slots := 0, locals := 44 } : Room) s m args below meth c D cls9 A 3 0 0 Q (cw ad cI cZ x) [(0, .ref (ad 4)), (1, .int (iI (sg (fun i => if i < x 16 i then sv x i (x 16 i) else 0) ((x 1 0).toNat)))), (2, .int (iI ((x 1 0).toNat : Int)))] 48 []) : ∀ (d k : Nat), (k : Int) + (d : Int) = x 1 0 → gW p l e ({ frames := 2, cells := 0, slots := 0, locals := 44 } : Room) s m args below meth c D cls9 A 3 0 0 Q (cw ad cI cZ x) [(0, .ref (ad 4)), (1, .int (iI (sg (fun i => if i < x 16 i then sv x i (x 16 i) else 0) k))), (2, .int (iI (k : Int)))] 4 [] := by
  intro d
  induction d with
  | zero =>
    intro k hk
    refine g_iload_n C (q := 2) d_M_saved_4 rfl rfl ?_
    refine g_aload_n C (q := 0) d_M_saved_5 rfl rfl ?_
    refine gG C (v := .ref (ad 1)) 4 0 u_M k_129 (cwo_4 _) rfl (by decide) rfl rfl d_M_saved_6 ?_
    refine gGN C (v := .int (iI (x 1 0))) 1 5 u_O kn_50 (cwo_1 _) rfl (by decide) rfl rfl d_M_saved_9 ?_
    refine g_icmp_ge C (tgt := 48) d_M_saved_12 rfl (by omega) (by omega) (fun h12_1 => ?_) (fun h12_1 => ?_)
    · obtain rfl : k = (x 1 0).toNat := by omega
      exact K
    · exfalso
      omega
  | succ d ih =>
    intro k hk
    refine g_iload_n C (q := 2) d_M_saved_4 rfl rfl ?_
    refine g_aload_n C (q := 0) d_M_saved_5 rfl rfl ?_
    refine gG C (v := .ref (ad 1)) 4 0 u_M k_129 (cwo_4 _) rfl (by decide) rfl rfl d_M_saved_6 ?_
    refine gGN C (v := .int (iI (x 1 0))) 1 5 u_O kn_50 (cwo_1 _) rfl (by decide) rfl rfl d_M_saved_9 ?_
    refine g_icmp_ge C (tgt := 48) d_M_saved_12 rfl (by omega) (by omega) (fun h12_1 => ?_) (fun h12_1 => ?_)
    · exfalso
      omega
    · have g6 := h16 (k : Int) (by omega) (by omega)
      refine g_aload_n C (q := 0) d_M_saved_15 rfl rfl ?_
      refine gG C (v := .ref (ad 16)) 4 1 u_M k_130 (cwo_4 _) rfl (by decide) rfl rfl d_M_saved_16 ?_
      refine g_iload_n C (q := 2) d_M_saved_19 rfl rfl ?_
      refine g_iald C 16 0 (cwa_16 _) rfl (by decide) (by omega) d_M_saved_20 ?_
      refine g_st (st' := [.int (iI (x 16 (k : Int)))]) rfl ?_
      refine g_iload_n C (q := 2) d_M_saved_21 rfl rfl ?_
      refine g_icmp_le C (tgt := 42) d_M_saved_22 rfl (by omega) (by omega) (fun h22_2 => ?_) (fun h22_2 => ?_)
      · refine g_lve (lv' := [(0, .ref (ad 4)), (1, .int (iI (sg (fun i => if i < x 16 i then sv x i (x 16 i) else 0) (k + 1)))), (2, .int (iI (k : Int)))]) (by rw [sg_s]; first | rw [if_pos (by omega)] | (rw [if_neg (by omega)]; simp)) ?_
        refine g_iinc C (q := 2) (lv' := [(0, .ref (ad 4)), (1, .int (iI (sg (fun i => if i < x 16 i then sv x i (x 16 i) else 0) (k + 1)))), (2, .int (iI ((k : Int) + 1)))]) d_M_saved_42 rfl (by decide) rfl rfl ?_
        refine g_goto C (tgt := 4) d_M_saved_45 rfl ?_
        exact ih (k + 1) (by omega)
      · have g9 := h9 ((k : Int) * 10 + x 16 (k : Int)) (by omega) (by omega)
        refine g_iload_n C (q := 1) d_M_saved_25 rfl rfl ?_
        refine g_aload_n C (q := 0) d_M_saved_26 rfl rfl ?_
        refine gG C (v := .ref (ad 1)) 4 0 u_M k_129 (cwo_4 _) rfl (by decide) rfl rfl d_M_saved_27 ?_
        refine g_iload_n C (q := 2) d_M_saved_30 rfl rfl ?_
        refine g_aload_n C (q := 0) d_M_saved_31 rfl rfl ?_
        refine gG C (v := .ref (ad 16)) 4 1 u_M k_130 (cwo_4 _) rfl (by decide) rfl rfl d_M_saved_32 ?_
        refine g_iload_n C (q := 2) d_M_saved_35 rfl rfl ?_
        refine g_iald C 16 0 (cwa_16 _) rfl (by decide) (by omega) d_M_saved_36 ?_
        refine g_st (st' := [.int (iI (x 16 (k : Int))), .int (iI (k : Int)), .ref (ad 1), .int (iI (sg (fun i => if i < x 16 i then sv x i (x 16 i) else 0) k))]) rfl ?_
        refine gVN C (st := [.int (iI (sg (fun i => if i < x 16 i then sv x i (x 16 i) else 0) k))]) (m_O_savingOf x (k : Int) (x 16 (k : Int)) (by omega) (by omega) (by omega)) k_187 kn_184 k_186 kp_4 k_2 ho_O_savingOf rfl rfl ⟨by decide, by decide⟩ 1 (cwo_1 _) rfl rfl rfl (Nat.le_of_ble_eq_true rfl) d_M_saved_37 ⟨by decide, by decide⟩ (fun r w hq => ?_)
        obtain ⟨rfl, rfl⟩ := hq
        refine g_eq (ws' := cw ad cI cZ x) (lv' := [(0, .ref (ad 4)), (1, .int (iI (sg (fun i => if i < x 16 i then sv x i (x 16 i) else 0) k))), (2, .int (iI (k : Int)))]) (pc' := 40) (st' := [.int (iI (sv x (k : Int) (x 16 (k : Int)))), .int (iI (sg (fun i => if i < x 16 i then sv x i (x 16 i) else 0) k))]) rfl rfl rfl rfl ?_
        refine g_iadd C d_M_saved_40 ?_
        refine g_istore_n C (lv' := [(0, .ref (ad 4)), (1, .int (iI ((sg (fun i => if i < x 16 i then sv x i (x 16 i) else 0) k) + (sv x (k : Int) (x 16 (k : Int)))))), (2, .int (iI (k : Int)))]) d_M_saved_41 rfl (by decide) rfl rfl ?_
        refine g_lve (lv' := [(0, .ref (ad 4)), (1, .int (iI (sg (fun i => if i < x 16 i then sv x i (x 16 i) else 0) (k + 1)))), (2, .int (iI (k : Int)))]) (by rw [sg_s]; first | rw [if_pos (by omega)] | (rw [if_neg (by omega)]; simp)) ?_
        refine g_iinc C (q := 2) (lv' := [(0, .ref (ad 4)), (1, .int (iI (sg (fun i => if i < x 16 i then sv x i (x 16 i) else 0) (k + 1)))), (2, .int (iI ((k : Int) + 1)))]) d_M_saved_42 rfl (by decide) rfl rfl ?_
        refine g_goto C (tgt := 4) d_M_saved_45 rfl ?_
        exact ih (k + 1) (by omega)
set_option maxRecDepth 100000 in
set_option maxHeartbeats 4000000 in
theorem m_M_saved {l : Launch} {D : va_G} {cI cZ cJ : ClassId} {base : Nat} {ad : Nat → Nat} (x : Bk) (hn : 0 ≤ x 1 0 ∧ x 1 0 ≤ 10) (h16 : ∀ i, 0 ≤ i → i < 10 → -1 ≤ x 16 i ∧ x 16 i ≤ 9) (h9 : ∀ i, 0 ≤ i → i < 100 → -1 ≤ x 9 i ∧ x 9 i ≤ 20000) : Cn l D cls9 (tyl cI cZ cJ) base (zz base) y_M_saved (wz y_M_saved c_M_saved 3 (some FieldType.int)) ({ frames := 2, cells := 0, slots := 0, locals := 44 } : Room) [.ref (ad 4)] (cw ad cI cZ x) (fun r w => r = some (svd x) ∧ w = cw ad cI cZ x) 0 0 := by
  refine Cn_of (zzG base) (by decide) rfl (Nat.le_of_ble_eq_true rfl) ?_
  intro p e s m args below meth c A C hr hA hnm
  have C : gC p s m args meth c D cls9 (tyl cI cZ cJ) A c_M_saved 3 "BatchSavings$Matching" (wz y_M_saved c_M_saved 3 (some FieldType.int)) base (zz base) := C
  refine g_lve (lv' := [(0, .ref (ad 4))]) rfl ?_
  refine g_iconst C d_M_saved_0 ?_
  refine g_istore_n C (lv' := [(0, .ref (ad 4)), (1, .int (iI 0))]) d_M_saved_1 rfl (by decide) rfl rfl ?_
  refine g_iconst C d_M_saved_2 ?_
  refine g_istore_n C (lv' := [(0, .ref (ad 4)), (1, .int (iI 0)), (2, .int (iI 0))]) d_M_saved_3 rfl (by decide) rfl rfl ?_
  refine lp_M_saved C x hn h16 h9 ?_ (x 1 0).toNat 0 (by omega)
  refine g_iload_n C (q := 1) d_M_saved_48 rfl rfl ?_
  exact g_iret C hA hr d_M_saved_49 (by decide) (by decide) ⟨rfl, rfl⟩
abbrev mtk (x : Bk) (lo oo q : Int) : Prop := bt q oo ∧ 0 < x 17 (lo * 10 + oo)
set_option maxRecDepth 100000 in
set_option maxHeartbeats 4000000 in
theorem m_M_mayTake {l : Launch} {D : va_G} {cI cZ cJ : ClassId} {base : Nat} {ad : Nat → Nat} (x : Bk) (lo oo q : Int) (hlo : 0 ≤ lo ∧ lo < 10) (ho : 0 ≤ oo ∧ oo < 10) (hq : 0 ≤ q ∧ q < 1024) (hg : InR (x 17 (lo * 10 + oo))) : Cn l D cls9 (tyl cI cZ cJ) base (zz base) y_M_mayTake (wz y_M_mayTake c_M_mayTake 4 (some FieldType.boolean)) ({ frames := 1, cells := 0, slots := 0, locals := 21 } : Room) [.ref (ad 4), .int (iI lo), .int (iI oo), .int (iI q)] (cw ad cI cZ x) (fun r w => r = some (b01 (mtk x lo oo q)) ∧ w = cw ad cI cZ x) 0 0 := by
  refine Cn_of (zzG base) (by decide) rfl (Nat.le_of_ble_eq_true rfl) ?_
  intro p e s m args below meth c A C hr hA hnm
  have C : gC p s m args meth c D cls9 (tyl cI cZ cJ) A c_M_mayTake 4 "BatchSavings$Matching" (wz y_M_mayTake c_M_mayTake 4 (some FieldType.boolean)) base (zz base) := C
  refine g_lve (lv' := [(0, .ref (ad 4)), (1, .int (iI lo)), (2, .int (iI oo)), (3, .int (iI q))]) rfl ?_
  refine g_iload_n C (q := 3) d_M_mayTake_0 rfl rfl ?_
  refine g_iconst C d_M_mayTake_1 ?_
  refine g_iload_n C (q := 2) d_M_mayTake_2 rfl rfl ?_
  refine g_ishl C d_M_mayTake_3 (by omega) (by omega) (by have := pw_le (o := oo) (by omega); omega) ?_
  refine g_iandv C d_M_mayTake_4 (i_and (by omega) (by omega)) ?_
  refine g_if_eq C (tgt := 25) d_M_mayTake_5 rfl (bit_in hq ho) (fun h5_1 => ?_) (fun h5_1 => ?_)
  · refine g_iconst C d_M_mayTake_25 ?_
    exact g_zret C hA hr d_M_mayTake_26 (by decide) (by decide) (by omega) ⟨congrArg some (by unfold b01; first | rw [if_pos ⟨bit_eq (by assumption), by omega⟩] | rw [if_neg (fun z => bit_ne (by assumption) z.1)] | rw [if_neg (fun z => by have := z.2; omega)]), rfl⟩
  · refine g_aload_n C (q := 0) d_M_mayTake_8 rfl rfl ?_
    refine gG C (v := .ref (ad 17)) 4 2 u_M k_132 (cwo_4 _) rfl (by decide) rfl rfl d_M_mayTake_9 ?_
    refine g_iload_n C (q := 1) d_M_mayTake_12 rfl rfl ?_
    refine g_iload_n C (q := 2) d_M_mayTake_13 rfl rfl ?_
    refine gSN0 C (st := [.ref (ad 17)]) (m_S_pairIndex lo oo) k_190 kn_446 k_189 k_1 ho_S_pairIndex rfl rfl ⟨by decide, by decide⟩ rfl rfl (Nat.le_of_ble_eq_true rfl) d_M_mayTake_14 ⟨by decide, by decide⟩ (fun r w hq => ?_)
    obtain ⟨rfl, rfl⟩ := hq
    refine g_eq (ws' := cw ad cI cZ x) (lv' := [(0, .ref (ad 4)), (1, .int (iI lo)), (2, .int (iI oo)), (3, .int (iI q))]) (pc' := 17) (st' := [.int (iI (lo * 10 + oo)), .ref (ad 17)]) rfl rfl rfl rfl ?_
    refine g_iald C 17 0 (cwa_17 _) rfl (by decide) (by omega) d_M_mayTake_17 ?_
    refine g_st (st' := [.int (iI (x 17 (lo * 10 + oo)))]) rfl ?_
    refine g_if_le C (tgt := 25) d_M_mayTake_18 rfl (by omega) (fun h18_2 => ?_) (fun h18_2 => ?_)
    · refine g_iconst C d_M_mayTake_25 ?_
      exact g_zret C hA hr d_M_mayTake_26 (by decide) (by decide) (by omega) ⟨congrArg some (by unfold b01; first | rw [if_pos ⟨bit_eq (by assumption), by omega⟩] | rw [if_neg (fun z => bit_ne (by assumption) z.1)] | rw [if_neg (fun z => by have := z.2; omega)]), rfl⟩
    · refine g_iconst C d_M_mayTake_21 ?_
      refine g_goto C (tgt := 26) d_M_mayTake_22 rfl ?_
      exact g_zret C hA hr d_M_mayTake_26 (by decide) (by decide) (by omega) ⟨congrArg some (by unfold b01; first | rw [if_pos ⟨bit_eq (by assumption), by omega⟩] | rw [if_neg (fun z => bit_ne (by assumption) z.1)] | rw [if_neg (fun z => by have := z.2; omega)]), rfl⟩
set_option maxRecDepth 100000 in
set_option maxHeartbeats 4000000 in
theorem m_M_sumWith {l : Launch} {D : va_G} {cI cZ cJ : ClassId} {base : Nat} {ad : Nat → Nat} (x : Bk) (lo oo q : Int) (hlo : 0 ≤ lo ∧ lo < 10) (ho : 0 ≤ oo ∧ oo < 10) (hq : 0 ≤ q ∧ q < 1024) : Cn l D cls9 (tyl cI cZ cJ) base (zz base) y_M_sumWith (wz y_M_sumWith c_M_sumWith 4 (some FieldType.int)) ({ frames := 1, cells := 0, slots := 0, locals := 21 } : Room) [.ref (ad 4), .int (iI lo), .int (iI oo), .int (iI q)] (cw ad cI cZ x) (fun r w => r = some (x 17 (lo * 10 + oo) + x 18 (clr q oo)) ∧ w = cw ad cI cZ x) 0 0 := by
  refine Cn_of (zzG base) (by decide) rfl (Nat.le_of_ble_eq_true rfl) ?_
  intro p e s m args below meth c A C hr hA hnm
  have C : gC p s m args meth c D cls9 (tyl cI cZ cJ) A c_M_sumWith 4 "BatchSavings$Matching" (wz y_M_sumWith c_M_sumWith 4 (some FieldType.int)) base (zz base) := C
  refine g_lve (lv' := [(0, .ref (ad 4)), (1, .int (iI lo)), (2, .int (iI oo)), (3, .int (iI q))]) rfl ?_
  refine g_aload_n C (q := 0) d_M_sumWith_0 rfl rfl ?_
  refine gG C (v := .ref (ad 17)) 4 2 u_M k_132 (cwo_4 _) rfl (by decide) rfl rfl d_M_sumWith_1 ?_
  refine g_iload_n C (q := 1) d_M_sumWith_4 rfl rfl ?_
  refine g_iload_n C (q := 2) d_M_sumWith_5 rfl rfl ?_
  refine gSN0 C (st := [.ref (ad 17)]) (m_S_pairIndex lo oo) k_190 kn_446 k_189 k_1 ho_S_pairIndex rfl rfl ⟨by decide, by decide⟩ rfl rfl (Nat.le_of_ble_eq_true rfl) d_M_sumWith_6 ⟨by decide, by decide⟩ (fun r w hq => ?_)
  obtain ⟨rfl, rfl⟩ := hq
  refine g_eq (ws' := cw ad cI cZ x) (lv' := [(0, .ref (ad 4)), (1, .int (iI lo)), (2, .int (iI oo)), (3, .int (iI q))]) (pc' := 9) (st' := [.int (iI (lo * 10 + oo)), .ref (ad 17)]) rfl rfl rfl rfl ?_
  refine g_iald C 17 0 (cwa_17 _) rfl (by decide) (by omega) d_M_sumWith_9 ?_
  refine g_st (st' := [.int (iI (x 17 (lo * 10 + oo)))]) rfl ?_
  refine g_aload_n C (q := 0) d_M_sumWith_10 rfl rfl ?_
  refine gG C (v := .ref (ad 18)) 4 3 u_M k_133 (cwo_4 _) rfl (by decide) rfl rfl d_M_sumWith_11 ?_
  refine g_iload_n C (q := 3) d_M_sumWith_14 rfl rfl ?_
  refine g_iconst C d_M_sumWith_15 ?_
  refine g_iload_n C (q := 2) d_M_sumWith_16 rfl rfl ?_
  refine g_ishl C d_M_sumWith_17 (by omega) (by omega) (by have := pw_le (o := oo) (by omega); omega) ?_
  refine g_iconst C d_M_sumWith_18 ?_
  refine g_ixorv C d_M_sumWith_19 (i_xor (by omega)) ?_
  refine g_iandv C d_M_sumWith_20 (i_clr (by omega) (by omega)) ?_
  have hc := clr_in hq ho
  refine g_iald C 18 0 (cwa_18 _) rfl (by decide) (by omega) d_M_sumWith_21 ?_
  refine g_st (st' := [.int (iI (x 18 (clr q oo))), .int (iI (x 17 (lo * 10 + oo)))]) rfl ?_
  refine g_iadd C d_M_sumWith_22 ?_
  exact g_iret C hA hr d_M_sumWith_23 (by decide) (by decide) ⟨rfl, rfl⟩
