set_option maxRecDepth 100000 in
set_option maxHeartbeats 4000000 in
theorem lp_Tw_told {p : Program} {l : Launch} {e : Env} {s : State} {m : MethodId} {args : Array Value} {below : List Frame} {meth : Method} {c : Code} {D : va_G} {cI cZ cJ : ClassId} {base : Nat} {ad : Nat → Nat} {A : Nat → Prop} {Q : State → Prop} (C : gC p s m args meth c D cls9 (tyl cI cZ cJ) A c_Tw_told 6 "BatchSavingsModel" (wz y_Tw_told c_Tw_told 6 (some FieldType.int)) base (zz base)) (x : Bk) (b i v : Int) (hb : 0 ≤ b ∧ b < 10) (hv : InR v) (hok : Ok x)
    (K : gW p l e ({ frames := 2, cells := 0, slots := 0, locals := 47 } : Room) s m args below meth c D cls9 A 6 0 0 Q (mw ad cI cZ x) [(0, .ref (ad 0)), (1, .int (iI b)), (2, .int (iI i)), (3, .int (iI v)), (4, .int (iI (sg (fun i => if v = 3 then x 6 (x 13 (b * 4 + i)) else x 8 (x 13 (b * 4 + i))) ((x 14 b).toNat)))), (5, .int (iI ((x 14 b).toNat : Int)))] 182 []) : ∀ (d k : Nat), (k : Int) + (d : Int) = x 14 b → gW p l e ({ frames := 2, cells := 0, slots := 0, locals := 47 } : Room) s m args below meth c D cls9 A 6 0 0 Q (mw ad cI cZ x) [(0, .ref (ad 0)), (1, .int (iI b)), (2, .int (iI i)), (3, .int (iI v)), (4, .int (iI (sg (fun i => if v = 3 then x 6 (x 13 (b * 4 + i)) else x 8 (x 13 (b * 4 + i))) k))), (5, .int (iI (k : Int)))] 120 [] := by
  intro d
  induction d with
  | zero =>
    intro k hk
    have h14 := hok.r14 b hb.1 hb.2
    refine g_iload C (q := 5) d_Tw_told_120 rfl ?_
    refine g_aload_n C (q := 0) d_Tw_told_122 rfl rfl ?_
    refine gG C (v := .ref (ad 9)) 0 14 u_Tw k_662 (mwo_0 _) rfl (by decide) rfl rfl d_Tw_told_123 ?_
    refine g_iload_n C (q := 1) d_Tw_told_126 rfl rfl ?_
    refine g_iald C 9 0 (mwa_9 _) rfl (by decide) (by omega) d_Tw_told_127 ?_
    refine g_st (st' := [.int (iI (x 14 b)), .int (iI (k : Int))]) rfl ?_
    refine g_icmp_ge C (tgt := 182) d_Tw_told_128 rfl (by omega) (by omega) (fun h128_1 => ?_) (fun h128_1 => ?_)
    · obtain rfl : k = (x 14 b).toNat := by omega
      exact K
    · exfalso
      omega
  | succ d ih =>
    intro k hk
    have h14 := hok.r14 b hb.1 hb.2
    have h13 := hok.l13 (b * 4 + (k : Int)) (by omega) (by omega)
    refine g_iload C (q := 5) d_Tw_told_120 rfl ?_
    refine g_aload_n C (q := 0) d_Tw_told_122 rfl rfl ?_
    refine gG C (v := .ref (ad 9)) 0 14 u_Tw k_662 (mwo_0 _) rfl (by decide) rfl rfl d_Tw_told_123 ?_
    refine g_iload_n C (q := 1) d_Tw_told_126 rfl rfl ?_
    refine g_iald C 9 0 (mwa_9 _) rfl (by decide) (by omega) d_Tw_told_127 ?_
    refine g_st (st' := [.int (iI (x 14 b)), .int (iI (k : Int))]) rfl ?_
    refine g_icmp_ge C (tgt := 182) d_Tw_told_128 rfl (by omega) (by omega) (fun h128_1 => ?_) (fun h128_1 => ?_)
    · exfalso
      omega
    · refine g_iload C (q := 4) d_Tw_told_131 rfl ?_
      refine g_iload_n C (q := 3) d_Tw_told_133 rfl rfl ?_
      refine g_iconst C d_Tw_told_134 ?_
      refine g_icmp_ne C (tgt := 157) d_Tw_told_135 rfl (by omega) (by omega) (fun h135_2 => ?_) (fun h135_2 => ?_)
      · refine g_aload_n C (q := 0) d_Tw_told_157 rfl rfl ?_
        refine gG C (v := .ref (ad 4)) 0 5 u_Tw k_653 (mwo_0 _) rfl (by decide) rfl rfl d_Tw_told_158 ?_
        refine g_aload_n C (q := 0) d_Tw_told_161 rfl rfl ?_
        refine gG C (v := .ref (ad 10)) 0 15 u_Tw k_663 (mwo_0 _) rfl (by decide) rfl rfl d_Tw_told_162 ?_
        refine g_iconst C d_Tw_told_165 ?_
        refine g_iload_n C (q := 1) d_Tw_told_166 rfl rfl ?_
        refine g_imul C d_Tw_told_167 ?_
        refine g_iload C (q := 5) d_Tw_told_168 rfl ?_
        refine g_iadd C d_Tw_told_170 ?_
        refine g_iald C 10 0 (mwa_10 _) rfl (by decide) (by omega) d_Tw_told_171 ?_
        refine g_st (st' := [.int (iI (x 13 ((4 * b) + (k : Int)))), .ref (ad 4), .int (iI (sg (fun i => if v = 3 then x 6 (x 13 (b * 4 + i)) else x 8 (x 13 (b * 4 + i))) k))]) rfl ?_
        refine g_st (st' := [.int (iI (x 13 ((b * 4) + (k : Int)))), .ref (ad 4), .int (iI (sg (fun i => if v = 3 then x 6 (x 13 (b * 4 + i)) else x 8 (x 13 (b * 4 + i))) k))]) (by rw [Int.mul_comm 4 b]) ?_
        refine g_iald C 4 0 (mwa_4 _) rfl (by decide) (by omega) d_Tw_told_172 ?_
        refine g_st (st' := [.int (iI (x 8 (x 13 ((b * 4) + (k : Int))))), .int (iI (sg (fun i => if v = 3 then x 6 (x 13 (b * 4 + i)) else x 8 (x 13 (b * 4 + i))) k))]) rfl ?_
        refine g_iadd C d_Tw_told_173 ?_
        refine g_st (st' := [.int (iI (sg (fun i => if v = 3 then x 6 (x 13 (b * 4 + i)) else x 8 (x 13 (b * 4 + i))) (k + 1)))]) (by rw [sg_s]; first | rw [if_pos (by omega)] | rw [if_neg (by omega)]) ?_
        refine g_istore C (lv' := [(0, .ref (ad 0)), (1, .int (iI b)), (2, .int (iI i)), (3, .int (iI v)), (4, .int (iI (sg (fun i => if v = 3 then x 6 (x 13 (b * 4 + i)) else x 8 (x 13 (b * 4 + i))) (k + 1)))), (5, .int (iI (k : Int)))]) d_Tw_told_174 (by decide) rfl rfl ?_
        refine g_iinc C (q := 5) (lv' := [(0, .ref (ad 0)), (1, .int (iI b)), (2, .int (iI i)), (3, .int (iI v)), (4, .int (iI (sg (fun i => if v = 3 then x 6 (x 13 (b * 4 + i)) else x 8 (x 13 (b * 4 + i))) (k + 1)))), (5, .int (iI ((k : Int) + 1)))]) d_Tw_told_176 rfl (by decide) rfl rfl ?_
        refine g_goto C (tgt := 120) d_Tw_told_179 rfl ?_
        exact ih (k + 1) (by omega)
      · refine g_aload_n C (q := 0) d_Tw_told_138 rfl rfl ?_
        refine gG C (v := .ref (ad 2)) 0 3 u_Tw k_651 (mwo_0 _) rfl (by decide) rfl rfl d_Tw_told_139 ?_
        refine g_aload_n C (q := 0) d_Tw_told_142 rfl rfl ?_
        refine gG C (v := .ref (ad 10)) 0 15 u_Tw k_663 (mwo_0 _) rfl (by decide) rfl rfl d_Tw_told_143 ?_
        refine g_iconst C d_Tw_told_146 ?_
        refine g_iload_n C (q := 1) d_Tw_told_147 rfl rfl ?_
        refine g_imul C d_Tw_told_148 ?_
        refine g_iload C (q := 5) d_Tw_told_149 rfl ?_
        refine g_iadd C d_Tw_told_151 ?_
        refine g_iald C 10 0 (mwa_10 _) rfl (by decide) (by omega) d_Tw_told_152 ?_
        refine g_st (st' := [.int (iI (x 13 ((4 * b) + (k : Int)))), .ref (ad 2), .int (iI (sg (fun i => if v = 3 then x 6 (x 13 (b * 4 + i)) else x 8 (x 13 (b * 4 + i))) k))]) rfl ?_
        refine g_st (st' := [.int (iI (x 13 ((b * 4) + (k : Int)))), .ref (ad 2), .int (iI (sg (fun i => if v = 3 then x 6 (x 13 (b * 4 + i)) else x 8 (x 13 (b * 4 + i))) k))]) (by rw [Int.mul_comm 4 b]) ?_
        refine g_iald C 2 0 (mwa_2 _) rfl (by decide) (by omega) d_Tw_told_153 ?_
        refine g_st (st' := [.int (iI (x 6 (x 13 ((b * 4) + (k : Int))))), .int (iI (sg (fun i => if v = 3 then x 6 (x 13 (b * 4 + i)) else x 8 (x 13 (b * 4 + i))) k))]) rfl ?_
        refine g_goto C (tgt := 173) d_Tw_told_154 rfl ?_
        refine g_iadd C d_Tw_told_173 ?_
        refine g_st (st' := [.int (iI (sg (fun i => if v = 3 then x 6 (x 13 (b * 4 + i)) else x 8 (x 13 (b * 4 + i))) (k + 1)))]) (by rw [sg_s]; first | rw [if_pos (by omega)] | rw [if_neg (by omega)]) ?_
        refine g_istore C (lv' := [(0, .ref (ad 0)), (1, .int (iI b)), (2, .int (iI i)), (3, .int (iI v)), (4, .int (iI (sg (fun i => if v = 3 then x 6 (x 13 (b * 4 + i)) else x 8 (x 13 (b * 4 + i))) (k + 1)))), (5, .int (iI (k : Int)))]) d_Tw_told_174 (by decide) rfl rfl ?_
        refine g_iinc C (q := 5) (lv' := [(0, .ref (ad 0)), (1, .int (iI b)), (2, .int (iI i)), (3, .int (iI v)), (4, .int (iI (sg (fun i => if v = 3 then x 6 (x 13 (b * 4 + i)) else x 8 (x 13 (b * 4 + i))) (k + 1)))), (5, .int (iI ((k : Int) + 1)))]) d_Tw_told_176 rfl (by decide) rfl rfl ?_
        refine g_goto C (tgt := 120) d_Tw_told_179 rfl ?_
        exact ih (k + 1) (by omega)
set_option maxRecDepth 100000 in
set_option maxHeartbeats 4000000 in
theorem m_Tw_told {l : Launch} {D : va_G} {cI cZ cJ : ClassId} {base : Nat} {ad : Nat → Nat} (x : Bk) (b i v : Int) (hbr : InR b) (hi : InR i) (hv : InR v) (hok : Ok x) : Cn l D cls9 (tyl cI cZ cJ) base (zz base) y_Tw_told (wz y_Tw_told c_Tw_told 6 (some FieldType.int)) ({ frames := 2, cells := 0, slots := 0, locals := 47 } : Room) [.ref (ad 0), .int (iI b), .int (iI i), .int (iI v)] (mw ad cI cZ x) (fun r w => ∃ z : Bk, w = mw ad cI cZ z ∧ ((z 0 0 = 1 ∧ (¬ (0 ≤ b ∧ b < x 3 0)) ∧ r = some (0) ∧ e0 z x) ∨ (z 0 0 = 2 ∧ ((0 ≤ b ∧ b < x 3 0) ∧ ¬ ((0 ≤ v ∧ v ≤ 4) ∧ (v = 0 → 0 ≤ i ∧ i ≤ x 14 b - 1))) ∧ r = some (0) ∧ e0 z x) ∨ (z 0 0 = 0 ∧ (((0 ≤ b ∧ b < x 3 0) ∧ ((0 ≤ v ∧ v ≤ 4) ∧ (v = 0 → 0 ≤ i ∧ i ≤ x 14 b - 1))) ∧ v = 0) ∧ r = some (x 13 (b * 4 + i)) ∧ e0 z x) ∨ (z 0 0 = 0 ∧ (((0 ≤ b ∧ b < x 3 0) ∧ ((0 ≤ v ∧ v ≤ 4) ∧ (v = 0 → 0 ≤ i ∧ i ≤ x 14 b - 1))) ∧ v = 1) ∧ r = some (wayB x b) ∧ e0 z x) ∨ (z 0 0 = 0 ∧ (((0 ≤ b ∧ b < x 3 0) ∧ ((0 ≤ v ∧ v ≤ 4) ∧ (v = 0 → 0 ≤ i ∧ i ≤ x 14 b - 1))) ∧ v = 2) ∧ r = some (sby x b) ∧ e0 z x) ∨ (z 0 0 = 0 ∧ (((0 ≤ b ∧ b < x 3 0) ∧ ((0 ≤ v ∧ v ≤ 4) ∧ (v = 0 → 0 ≤ i ∧ i ≤ x 14 b - 1))) ∧ v = 3) ∧ r = some (sumB x (x 6) b) ∧ e0 z x) ∨ (z 0 0 = 0 ∧ (((0 ≤ b ∧ b < x 3 0) ∧ ((0 ≤ v ∧ v ≤ 4) ∧ (v = 0 → 0 ≤ i ∧ i ≤ x 14 b - 1))) ∧ v = 4) ∧ r = some (sumB x (x 8) b) ∧ e0 z x))) 0 0 := by
  refine Cn_of (zzG base) (by decide) rfl (Nat.le_of_ble_eq_true rfl) ?_
  intro p e s m args below meth c A C hr hA hnm
  have C : gC p s m args meth c D cls9 (tyl cI cZ cJ) A c_Tw_told 6 "BatchSavingsModel" (wz y_Tw_told c_Tw_told 6 (some FieldType.int)) base (zz base) := C
  refine g_lve (lv' := [(0, .ref (ad 0)), (1, .int (iI b)), (2, .int (iI i)), (3, .int (iI v))]) rfl ?_
  have hb3 := hok.b
  refine g_aload_n C (q := 0) d_Tw_told_0 rfl rfl ?_
  refine g_aload_n C (q := 0) d_Tw_told_1 rfl rfl ?_
  refine g_iload_n C (q := 1) d_Tw_told_2 rfl rfl ?_
  refine gV C (st := [.ref (ad 0)]) (m_Tw_isBatch x b (by omega) (show 0 ≤ (x 3 0) ∧ (x 3 0) ≤ 10 by omega)) k_816 k_813 k_815 kp_58 k_7 rfl ho_Tw_isBatch rfl rfl ⟨by decide, by decide⟩ 0 (mwo_0 _) rfl rfl rfl (Nat.le_of_ble_eq_true rfl) d_Tw_told_3 ⟨by decide, by decide⟩ (fun r w hq => ?_)
  obtain ⟨rfl, rfl⟩ := hq
  refine g_eq (ws' := mw ad cI cZ x) (lv' := [(0, .ref (ad 0)), (1, .int (iI b)), (2, .int (iI i)), (3, .int (iI v))]) (pc' := 6) (st' := [.int (iI (b01 (0 ≤ b ∧ b < (x 3 0)))), .ref (ad 0)]) rfl rfl rfl rfl ?_
  by_cases hb3_1 : (0 ≤ b ∧ b < (x 3 0))
  · refine g_st (st' := [.int (iI 1), .ref (ad 0)]) (by rw [b01_t hb3_1]) ?_
    refine g_if_ne C (tgt := 13) d_Tw_told_6 rfl (by omega) (fun h6_2 => ?_) (fun h6_2 => ?_)
    · refine g_iconst C d_Tw_told_13 ?_
      refine gP C 0 0 t_Tw to_Tw n_Tw u_Tw k_648 (mwo_0 _) rfl (by decide) rfl rfl rfl rfl rfl (Nat.le_of_ble_eq_true rfl) d_Tw_told_14 (mwf_0_0 _ _) ?_
      refine g_ws (ws' := mw ad cI cZ (bu x 0 (updI (x 0) 0 0))) rfl ?_
      refine g_aload_n C (q := 0) d_Tw_told_17 rfl rfl ?_
      refine gG C (v := .int (iI 0)) 0 0 u_Tw k_648 (mwo_0 _) rfl (by decide) rfl rfl d_Tw_told_18 ?_
      refine g_if_ne C (tgt := 62) d_Tw_told_21 rfl (by omega) (fun h21_3 => ?_) (fun h21_3 => ?_)
      · exfalso
        omega
      · refine g_aload_n C (q := 0) d_Tw_told_24 rfl rfl ?_
        refine g_iload_n C (q := 3) d_Tw_told_25 rfl rfl ?_
        refine g_iconst C d_Tw_told_26 ?_
        refine g_iconst C d_Tw_told_27 ?_
        have h14 := hok.r14 b (by omega) (by omega)
        refine gS0 C (st := [.ref (ad 0)]) (m_Tw_in v 0 4 (by omega) (by omega) (by omega)) k_713 k_711 k_712 k_7 rfl ho_Tw_in rfl rfl ⟨by decide, by decide⟩ rfl rfl (Nat.le_of_ble_eq_true rfl) d_Tw_told_28 ⟨by decide, by decide⟩ (fun r w hq => ?_)
        obtain ⟨rfl, rfl⟩ := hq
        refine g_eq (ws' := mw ad cI cZ (bu x 0 (updI (x 0) 0 0))) (lv' := [(0, .ref (ad 0)), (1, .int (iI b)), (2, .int (iI i)), (3, .int (iI v))]) (pc' := 31) (st' := [.int (iI (b01 (0 ≤ v ∧ v ≤ 4))), .ref (ad 0)]) rfl rfl rfl rfl ?_
        by_cases hb28_4 : (0 ≤ v ∧ v ≤ 4)
        · refine g_st (st' := [.int (iI 1), .ref (ad 0)]) (by rw [b01_t hb28_4]) ?_
          refine g_if_eq C (tgt := 54) d_Tw_told_31 rfl (by omega) (fun h31_5 => ?_) (fun h31_5 => ?_)
          · exfalso
            omega
          · refine g_iload_n C (q := 3) d_Tw_told_34 rfl rfl ?_
            refine g_if_ne C (tgt := 58) d_Tw_told_35 rfl (by omega) (fun h35_6 => ?_) (fun h35_6 => ?_)
            · refine g_iconst C d_Tw_told_58 ?_
              refine gP C 0 0 t_Tw to_Tw n_Tw u_Tw k_648 (mwo_0 _) rfl (by decide) rfl rfl rfl rfl rfl (Nat.le_of_ble_eq_true rfl) d_Tw_told_59 (mwf_0_0 _ _) ?_
              refine g_ws (ws' := mw ad cI cZ (bu (bu x 0 (updI (x 0) 0 0)) 0 (updI (updI (x 0) 0 0) 0 0))) rfl ?_
              refine g_aload_n C (q := 0) d_Tw_told_62 rfl rfl ?_
              refine gG C (v := .int (iI 0)) 0 0 u_Tw k_648 (mwo_0 _) rfl (by decide) rfl rfl d_Tw_told_63 ?_
              refine g_if_le C (tgt := 71) d_Tw_told_66 rfl (by omega) (fun h66_7 => ?_) (fun h66_7 => ?_)
              · refine g_iload_n C (q := 3) d_Tw_told_71 rfl rfl ?_
                refine g_if_ne C (tgt := 86) d_Tw_told_72 rfl (by omega) (fun h72_8 => ?_) (fun h72_8 => ?_)
                · refine g_iload_n C (q := 3) d_Tw_told_86 rfl rfl ?_
                  refine g_iconst C d_Tw_told_87 ?_
                  refine g_icmp_ne C (tgt := 97) d_Tw_told_88 rfl (by omega) (by omega) (fun h88_9 => ?_) (fun h88_9 => ?_)
                  · refine g_iload_n C (q := 3) d_Tw_told_97 rfl rfl ?_
                    refine g_iconst C d_Tw_told_98 ?_
                    refine g_icmp_ne C (tgt := 114) d_Tw_told_99 rfl (by omega) (by omega) (fun h99_10 => ?_) (fun h99_10 => ?_)
                    · refine g_iconst C d_Tw_told_114 ?_
                      refine g_istore C (lv' := [(0, .ref (ad 0)), (1, .int (iI b)), (2, .int (iI i)), (3, .int (iI v)), (4, .int (iI 0))]) d_Tw_told_115 (by decide) rfl rfl ?_
                      refine g_iconst C d_Tw_told_117 ?_
                      refine g_istore C (lv' := [(0, .ref (ad 0)), (1, .int (iI b)), (2, .int (iI i)), (3, .int (iI v)), (4, .int (iI 0)), (5, .int (iI 0))]) d_Tw_told_118 (by decide) rfl rfl ?_
                      refine lp_Tw_told C (bu (bu x 0 (updI (x 0) 0 0)) 0 (updI (updI (x 0) 0 0) 0 0)) b i v (by omega) hv (hok.e0 (e0.sc (e0.sc (e0.rf x) _) _)) ?_ (x 14 b).toNat 0 (show ((0 : Nat) : Int) + (((x 14 b).toNat : Nat) : Int) = x 14 b by omega)
                      refine g_eq (ws' := mw ad cI cZ (bu (bu x 0 (updI (x 0) 0 0)) 0 (updI (updI (x 0) 0 0) 0 0))) (lv' := [(0, .ref (ad 0)), (1, .int (iI b)), (2, .int (iI i)), (3, .int (iI v)), (4, .int (iI (sg (fun i => if v = 3 then x 6 (x 13 (b * 4 + i)) else x 8 (x 13 (b * 4 + i))) (x 14 b).toNat))), (5, .int (iI ((x 14 b).toNat : Int)))]) (pc' := 182) (st' := []) rfl rfl rfl rfl ?_
                      refine g_iload C (q := 4) d_Tw_told_182 rfl ?_
                      by_cases hv3 : v = 3
                      · exact g_iret C hA hr d_Tw_told_184 (by decide) (by decide) ⟨_, rfl, Or.inr (Or.inr (Or.inr (Or.inr (Or.inr (Or.inl (⟨rfl, (by omega), (congrArg some (sg_congr (fun j hj => if_pos (by omega)))), (e0.sc (e0.sc (e0.rf x) _) _)⟩))))))⟩
                      · exact g_iret C hA hr d_Tw_told_184 (by decide) (by decide) ⟨_, rfl, Or.inr (Or.inr (Or.inr (Or.inr (Or.inr (Or.inr (⟨rfl, (by omega), (congrArg some (sg_congr (fun j hj => if_neg (by omega)))), (e0.sc (e0.sc (e0.rf x) _) _)⟩))))))⟩
                    · refine g_aload_n C (q := 0) d_Tw_told_102 rfl rfl ?_
                      refine g_iload_n C (q := 1) d_Tw_told_103 rfl rfl ?_
                      refine gV C (st := []) (m_Tw_allSeconds (bu (bu x 0 (updI (x 0) 0 0)) 0 (updI (updI (x 0) 0 0) 0 0)) b (by omega) (hok.e0 (e0.sc (e0.sc (e0.rf x) _) _))) k_848 k_845 k_847 kp_63 k_7 rfl ho_Tw_allSeconds rfl rfl ⟨by decide, by decide⟩ 0 (mwo_0 _) rfl rfl rfl (Nat.le_of_ble_eq_true rfl) d_Tw_told_104 ⟨by decide, by decide⟩ (fun r w hq => ?_)
                      obtain ⟨rfl, rfl⟩ := hq
                      refine g_eq (ws' := mw ad cI cZ (bu (bu x 0 (updI (x 0) 0 0)) 0 (updI (updI (x 0) 0 0) 0 0))) (lv' := [(0, .ref (ad 0)), (1, .int (iI b)), (2, .int (iI i)), (3, .int (iI v))]) (pc' := 107) (st' := [.int (iI (sumB x (x 5) b))]) rfl rfl rfl rfl ?_
                      refine g_aload_n C (q := 0) d_Tw_told_107 rfl rfl ?_
                      refine g_iload_n C (q := 1) d_Tw_told_108 rfl rfl ?_
                      refine gV C (st := [.int (iI (sumB x (x 5) b))]) (m_Tw_way (bu (bu x 0 (updI (x 0) 0 0)) 0 (updI (updI (x 0) 0 0) 0 0)) b (by omega) (hok.e0 (e0.sc (e0.sc (e0.rf x) _) _))) k_832 k_829 k_831 kp_62 k_7 rfl ho_Tw_way rfl rfl ⟨by decide, by decide⟩ 0 (mwo_0 _) rfl rfl rfl (Nat.le_of_ble_eq_true rfl) d_Tw_told_109 ⟨by decide, by decide⟩ (fun r w hq => ?_)
                      obtain ⟨rfl, rfl⟩ := hq
                      rw [way_eq]
                      refine g_eq (ws' := mw ad cI cZ (bu (bu x 0 (updI (x 0) 0 0)) 0 (updI (updI (x 0) 0 0) 0 0))) (lv' := [(0, .ref (ad 0)), (1, .int (iI b)), (2, .int (iI i)), (3, .int (iI v))]) (pc' := 112) (st' := [.int (iI (wayB x b)), .int (iI (sumB x (x 5) b))]) rfl rfl rfl rfl ?_
                      refine g_isub C d_Tw_told_112 ?_
                      exact g_iret C hA hr d_Tw_told_113 (by decide) (by decide) ⟨_, rfl, Or.inr (Or.inr (Or.inr (Or.inr (Or.inl (⟨rfl, (by omega), (by first | rfl | exact congrArg some (by unfold wayB; omega)), (e0.sc (e0.sc (e0.rf x) _) _)⟩)))))⟩
                  · refine g_aload_n C (q := 0) d_Tw_told_91 rfl rfl ?_
                    refine g_iload_n C (q := 1) d_Tw_told_92 rfl rfl ?_
                    refine gV C (st := []) (m_Tw_way (bu (bu x 0 (updI (x 0) 0 0)) 0 (updI (updI (x 0) 0 0) 0 0)) b (by omega) (hok.e0 (e0.sc (e0.sc (e0.rf x) _) _))) k_832 k_829 k_831 kp_62 k_7 rfl ho_Tw_way rfl rfl ⟨by decide, by decide⟩ 0 (mwo_0 _) rfl rfl rfl (Nat.le_of_ble_eq_true rfl) d_Tw_told_93 ⟨by decide, by decide⟩ (fun r w hq => ?_)
                    obtain ⟨rfl, rfl⟩ := hq
                    rw [way_eq]
                    refine g_eq (ws' := mw ad cI cZ (bu (bu x 0 (updI (x 0) 0 0)) 0 (updI (updI (x 0) 0 0) 0 0))) (lv' := [(0, .ref (ad 0)), (1, .int (iI b)), (2, .int (iI i)), (3, .int (iI v))]) (pc' := 96) (st' := [.int (iI (wayB x b))]) rfl rfl rfl rfl ?_
                    exact g_iret C hA hr d_Tw_told_96 (by decide) (by decide) ⟨_, rfl, Or.inr (Or.inr (Or.inr (Or.inl (⟨rfl, (by omega), (by first | rfl | exact congrArg some (by unfold wayB; omega)), (e0.sc (e0.sc (e0.rf x) _) _)⟩))))⟩
                · refine g_aload_n C (q := 0) d_Tw_told_75 rfl rfl ?_
                  refine gG C (v := .ref (ad 10)) 0 15 u_Tw k_663 (mwo_0 _) rfl (by decide) rfl rfl d_Tw_told_76 ?_
                  refine g_iconst C d_Tw_told_79 ?_
                  refine g_iload_n C (q := 1) d_Tw_told_80 rfl rfl ?_
                  refine g_imul C d_Tw_told_81 ?_
                  refine g_iload_n C (q := 2) d_Tw_told_82 rfl rfl ?_
                  refine g_iadd C d_Tw_told_83 ?_
                  refine g_st (st' := [.int (iI ((b * 4) + i)), .ref (ad 10)]) (by rw [Int.mul_comm 4 b]) ?_
                  refine g_iald C 10 0 (mwa_10 _) rfl (by decide) (by omega) d_Tw_told_84 ?_
                  refine g_st (st' := [.int (iI (x 13 ((b * 4) + i)))]) rfl ?_
                  exact g_iret C hA hr d_Tw_told_85 (by decide) (by decide) ⟨_, rfl, Or.inr (Or.inr (Or.inl (⟨rfl, (by omega), (by first | rfl | exact congrArg some (by unfold wayB; omega)), (e0.sc (e0.sc (e0.rf x) _) _)⟩)))⟩
              · exfalso
                omega
            · refine g_iload_n C (q := 2) d_Tw_told_38 rfl rfl ?_
              refine g_iconst C d_Tw_told_39 ?_
              refine g_aload_n C (q := 0) d_Tw_told_40 rfl rfl ?_
              refine gG C (v := .ref (ad 9)) 0 14 u_Tw k_662 (mwo_0 _) rfl (by decide) rfl rfl d_Tw_told_41 ?_
              refine g_iload_n C (q := 1) d_Tw_told_44 rfl rfl ?_
              refine g_iald C 9 0 (mwa_9 _) rfl (by decide) (by omega) d_Tw_told_45 ?_
              refine g_st (st' := [.int (iI (x 14 b)), .int (iI 0), .int (iI i), .ref (ad 0)]) rfl ?_
              refine g_iconst C d_Tw_told_46 ?_
              refine g_isub C d_Tw_told_47 ?_
              refine gS0 C (st := [.ref (ad 0)]) (m_Tw_in i 0 ((x 14 b) - 1) (by omega) (by omega) (by omega)) k_713 k_711 k_712 k_7 rfl ho_Tw_in rfl rfl ⟨by decide, by decide⟩ rfl rfl (Nat.le_of_ble_eq_true rfl) d_Tw_told_48 ⟨by decide, by decide⟩ (fun r w hq => ?_)
              obtain ⟨rfl, rfl⟩ := hq
              refine g_eq (ws' := mw ad cI cZ (bu x 0 (updI (x 0) 0 0))) (lv' := [(0, .ref (ad 0)), (1, .int (iI b)), (2, .int (iI i)), (3, .int (iI v))]) (pc' := 51) (st' := [.int (iI (b01 (0 ≤ i ∧ i ≤ ((x 14 b) - 1)))), .ref (ad 0)]) rfl rfl rfl rfl ?_
              by_cases hb48_11 : (0 ≤ i ∧ i ≤ ((x 14 b) - 1))
              · refine g_st (st' := [.int (iI 1), .ref (ad 0)]) (by rw [b01_t hb48_11]) ?_
                refine g_if_ne C (tgt := 58) d_Tw_told_51 rfl (by omega) (fun h51_12 => ?_) (fun h51_12 => ?_)
                · refine g_iconst C d_Tw_told_58 ?_
                  refine gP C 0 0 t_Tw to_Tw n_Tw u_Tw k_648 (mwo_0 _) rfl (by decide) rfl rfl rfl rfl rfl (Nat.le_of_ble_eq_true rfl) d_Tw_told_59 (mwf_0_0 _ _) ?_
                  refine g_ws (ws' := mw ad cI cZ (bu (bu x 0 (updI (x 0) 0 0)) 0 (updI (updI (x 0) 0 0) 0 0))) rfl ?_
                  refine g_aload_n C (q := 0) d_Tw_told_62 rfl rfl ?_
                  refine gG C (v := .int (iI 0)) 0 0 u_Tw k_648 (mwo_0 _) rfl (by decide) rfl rfl d_Tw_told_63 ?_
                  refine g_if_le C (tgt := 71) d_Tw_told_66 rfl (by omega) (fun h66_13 => ?_) (fun h66_13 => ?_)
                  · refine g_iload_n C (q := 3) d_Tw_told_71 rfl rfl ?_
                    refine g_if_ne C (tgt := 86) d_Tw_told_72 rfl (by omega) (fun h72_14 => ?_) (fun h72_14 => ?_)
                    · refine g_iload_n C (q := 3) d_Tw_told_86 rfl rfl ?_
                      refine g_iconst C d_Tw_told_87 ?_
                      refine g_icmp_ne C (tgt := 97) d_Tw_told_88 rfl (by omega) (by omega) (fun h88_15 => ?_) (fun h88_15 => ?_)
                      · refine g_iload_n C (q := 3) d_Tw_told_97 rfl rfl ?_
                        refine g_iconst C d_Tw_told_98 ?_
                        refine g_icmp_ne C (tgt := 114) d_Tw_told_99 rfl (by omega) (by omega) (fun h99_16 => ?_) (fun h99_16 => ?_)
                        · refine g_iconst C d_Tw_told_114 ?_
                          refine g_istore C (lv' := [(0, .ref (ad 0)), (1, .int (iI b)), (2, .int (iI i)), (3, .int (iI v)), (4, .int (iI 0))]) d_Tw_told_115 (by decide) rfl rfl ?_
                          refine g_iconst C d_Tw_told_117 ?_
                          refine g_istore C (lv' := [(0, .ref (ad 0)), (1, .int (iI b)), (2, .int (iI i)), (3, .int (iI v)), (4, .int (iI 0)), (5, .int (iI 0))]) d_Tw_told_118 (by decide) rfl rfl ?_
                          refine lp_Tw_told C (bu (bu x 0 (updI (x 0) 0 0)) 0 (updI (updI (x 0) 0 0) 0 0)) b i v (by omega) hv (hok.e0 (e0.sc (e0.sc (e0.rf x) _) _)) ?_ (x 14 b).toNat 0 (show ((0 : Nat) : Int) + (((x 14 b).toNat : Nat) : Int) = x 14 b by omega)
                          refine g_eq (ws' := mw ad cI cZ (bu (bu x 0 (updI (x 0) 0 0)) 0 (updI (updI (x 0) 0 0) 0 0))) (lv' := [(0, .ref (ad 0)), (1, .int (iI b)), (2, .int (iI i)), (3, .int (iI v)), (4, .int (iI (sg (fun i => if v = 3 then x 6 (x 13 (b * 4 + i)) else x 8 (x 13 (b * 4 + i))) (x 14 b).toNat))), (5, .int (iI ((x 14 b).toNat : Int)))]) (pc' := 182) (st' := []) rfl rfl rfl rfl ?_
                          refine g_iload C (q := 4) d_Tw_told_182 rfl ?_
                          by_cases hv3 : v = 3
                          · exact g_iret C hA hr d_Tw_told_184 (by decide) (by decide) ⟨_, rfl, Or.inr (Or.inr (Or.inr (Or.inr (Or.inr (Or.inl (⟨rfl, (by omega), (congrArg some (sg_congr (fun j hj => if_pos (by omega)))), (e0.sc (e0.sc (e0.rf x) _) _)⟩))))))⟩
                          · exact g_iret C hA hr d_Tw_told_184 (by decide) (by decide) ⟨_, rfl, Or.inr (Or.inr (Or.inr (Or.inr (Or.inr (Or.inr (⟨rfl, (by omega), (congrArg some (sg_congr (fun j hj => if_neg (by omega)))), (e0.sc (e0.sc (e0.rf x) _) _)⟩))))))⟩
                        · refine g_aload_n C (q := 0) d_Tw_told_102 rfl rfl ?_
                          refine g_iload_n C (q := 1) d_Tw_told_103 rfl rfl ?_
                          refine gV C (st := []) (m_Tw_allSeconds (bu (bu x 0 (updI (x 0) 0 0)) 0 (updI (updI (x 0) 0 0) 0 0)) b (by omega) (hok.e0 (e0.sc (e0.sc (e0.rf x) _) _))) k_848 k_845 k_847 kp_63 k_7 rfl ho_Tw_allSeconds rfl rfl ⟨by decide, by decide⟩ 0 (mwo_0 _) rfl rfl rfl (Nat.le_of_ble_eq_true rfl) d_Tw_told_104 ⟨by decide, by decide⟩ (fun r w hq => ?_)
                          obtain ⟨rfl, rfl⟩ := hq
                          refine g_eq (ws' := mw ad cI cZ (bu (bu x 0 (updI (x 0) 0 0)) 0 (updI (updI (x 0) 0 0) 0 0))) (lv' := [(0, .ref (ad 0)), (1, .int (iI b)), (2, .int (iI i)), (3, .int (iI v))]) (pc' := 107) (st' := [.int (iI (sumB x (x 5) b))]) rfl rfl rfl rfl ?_
                          refine g_aload_n C (q := 0) d_Tw_told_107 rfl rfl ?_
                          refine g_iload_n C (q := 1) d_Tw_told_108 rfl rfl ?_
                          refine gV C (st := [.int (iI (sumB x (x 5) b))]) (m_Tw_way (bu (bu x 0 (updI (x 0) 0 0)) 0 (updI (updI (x 0) 0 0) 0 0)) b (by omega) (hok.e0 (e0.sc (e0.sc (e0.rf x) _) _))) k_832 k_829 k_831 kp_62 k_7 rfl ho_Tw_way rfl rfl ⟨by decide, by decide⟩ 0 (mwo_0 _) rfl rfl rfl (Nat.le_of_ble_eq_true rfl) d_Tw_told_109 ⟨by decide, by decide⟩ (fun r w hq => ?_)
                          obtain ⟨rfl, rfl⟩ := hq
                          rw [way_eq]
                          refine g_eq (ws' := mw ad cI cZ (bu (bu x 0 (updI (x 0) 0 0)) 0 (updI (updI (x 0) 0 0) 0 0))) (lv' := [(0, .ref (ad 0)), (1, .int (iI b)), (2, .int (iI i)), (3, .int (iI v))]) (pc' := 112) (st' := [.int (iI (wayB x b)), .int (iI (sumB x (x 5) b))]) rfl rfl rfl rfl ?_
                          refine g_isub C d_Tw_told_112 ?_
                          exact g_iret C hA hr d_Tw_told_113 (by decide) (by decide) ⟨_, rfl, Or.inr (Or.inr (Or.inr (Or.inr (Or.inl (⟨rfl, (by omega), (by first | rfl | exact congrArg some (by unfold wayB; omega)), (e0.sc (e0.sc (e0.rf x) _) _)⟩)))))⟩
                      · refine g_aload_n C (q := 0) d_Tw_told_91 rfl rfl ?_
                        refine g_iload_n C (q := 1) d_Tw_told_92 rfl rfl ?_
                        refine gV C (st := []) (m_Tw_way (bu (bu x 0 (updI (x 0) 0 0)) 0 (updI (updI (x 0) 0 0) 0 0)) b (by omega) (hok.e0 (e0.sc (e0.sc (e0.rf x) _) _))) k_832 k_829 k_831 kp_62 k_7 rfl ho_Tw_way rfl rfl ⟨by decide, by decide⟩ 0 (mwo_0 _) rfl rfl rfl (Nat.le_of_ble_eq_true rfl) d_Tw_told_93 ⟨by decide, by decide⟩ (fun r w hq => ?_)
                        obtain ⟨rfl, rfl⟩ := hq
                        rw [way_eq]
                        refine g_eq (ws' := mw ad cI cZ (bu (bu x 0 (updI (x 0) 0 0)) 0 (updI (updI (x 0) 0 0) 0 0))) (lv' := [(0, .ref (ad 0)), (1, .int (iI b)), (2, .int (iI i)), (3, .int (iI v))]) (pc' := 96) (st' := [.int (iI (wayB x b))]) rfl rfl rfl rfl ?_
                        exact g_iret C hA hr d_Tw_told_96 (by decide) (by decide) ⟨_, rfl, Or.inr (Or.inr (Or.inr (Or.inl (⟨rfl, (by omega), (by first | rfl | exact congrArg some (by unfold wayB; omega)), (e0.sc (e0.sc (e0.rf x) _) _)⟩))))⟩
                    · refine g_aload_n C (q := 0) d_Tw_told_75 rfl rfl ?_
                      refine gG C (v := .ref (ad 10)) 0 15 u_Tw k_663 (mwo_0 _) rfl (by decide) rfl rfl d_Tw_told_76 ?_
                      refine g_iconst C d_Tw_told_79 ?_
                      refine g_iload_n C (q := 1) d_Tw_told_80 rfl rfl ?_
                      refine g_imul C d_Tw_told_81 ?_
                      refine g_iload_n C (q := 2) d_Tw_told_82 rfl rfl ?_
                      refine g_iadd C d_Tw_told_83 ?_
                      refine g_st (st' := [.int (iI ((b * 4) + i)), .ref (ad 10)]) (by rw [Int.mul_comm 4 b]) ?_
                      refine g_iald C 10 0 (mwa_10 _) rfl (by decide) (by omega) d_Tw_told_84 ?_
                      refine g_st (st' := [.int (iI (x 13 ((b * 4) + i)))]) rfl ?_
                      exact g_iret C hA hr d_Tw_told_85 (by decide) (by decide) ⟨_, rfl, Or.inr (Or.inr (Or.inl (⟨rfl, (by omega), (by first | rfl | exact congrArg some (by unfold wayB; omega)), (e0.sc (e0.sc (e0.rf x) _) _)⟩)))⟩
                  · exfalso
                    omega
                · exfalso
                  omega
              · refine g_st (st' := [.int (iI 0), .ref (ad 0)]) (by rw [b01_f hb48_11]) ?_
                refine g_if_ne C (tgt := 58) d_Tw_told_51 rfl (by omega) (fun h51_17 => ?_) (fun h51_17 => ?_)
                · exfalso
                  omega
                · refine g_iconst C d_Tw_told_54 ?_
                  refine g_goto C (tgt := 59) d_Tw_told_55 rfl ?_
                  refine gP C 0 0 t_Tw to_Tw n_Tw u_Tw k_648 (mwo_0 _) rfl (by decide) rfl rfl rfl rfl rfl (Nat.le_of_ble_eq_true rfl) d_Tw_told_59 (mwf_0_0 _ _) ?_
                  refine g_ws (ws' := mw ad cI cZ (bu (bu x 0 (updI (x 0) 0 0)) 0 (updI (updI (x 0) 0 0) 0 2))) rfl ?_
                  refine g_aload_n C (q := 0) d_Tw_told_62 rfl rfl ?_
                  refine gG C (v := .int (iI 2)) 0 0 u_Tw k_648 (mwo_0 _) rfl (by decide) rfl rfl d_Tw_told_63 ?_
                  refine g_if_le C (tgt := 71) d_Tw_told_66 rfl (by omega) (fun h66_18 => ?_) (fun h66_18 => ?_)
                  · exfalso
                    omega
                  · refine g_iconst C d_Tw_told_69 ?_
                    exact g_iret C hA hr d_Tw_told_70 (by decide) (by decide) ⟨_, rfl, Or.inr (Or.inl (⟨rfl, (by omega), (by first | rfl | exact congrArg some (by unfold wayB; omega)), (e0.sc (e0.sc (e0.rf x) _) _)⟩))⟩
        · refine g_st (st' := [.int (iI 0), .ref (ad 0)]) (by rw [b01_f hb28_4]) ?_
          refine g_if_eq C (tgt := 54) d_Tw_told_31 rfl (by omega) (fun h31_19 => ?_) (fun h31_19 => ?_)
          · refine g_iconst C d_Tw_told_54 ?_
            refine g_goto C (tgt := 59) d_Tw_told_55 rfl ?_
            refine gP C 0 0 t_Tw to_Tw n_Tw u_Tw k_648 (mwo_0 _) rfl (by decide) rfl rfl rfl rfl rfl (Nat.le_of_ble_eq_true rfl) d_Tw_told_59 (mwf_0_0 _ _) ?_
            refine g_ws (ws' := mw ad cI cZ (bu (bu x 0 (updI (x 0) 0 0)) 0 (updI (updI (x 0) 0 0) 0 2))) rfl ?_
            refine g_aload_n C (q := 0) d_Tw_told_62 rfl rfl ?_
            refine gG C (v := .int (iI 2)) 0 0 u_Tw k_648 (mwo_0 _) rfl (by decide) rfl rfl d_Tw_told_63 ?_
            refine g_if_le C (tgt := 71) d_Tw_told_66 rfl (by omega) (fun h66_20 => ?_) (fun h66_20 => ?_)
            · exfalso
              omega
            · refine g_iconst C d_Tw_told_69 ?_
              exact g_iret C hA hr d_Tw_told_70 (by decide) (by decide) ⟨_, rfl, Or.inr (Or.inl (⟨rfl, (by omega), (by first | rfl | exact congrArg some (by unfold wayB; omega)), (e0.sc (e0.sc (e0.rf x) _) _)⟩))⟩
          · exfalso
            omega
    · exfalso
      omega
  · refine g_st (st' := [.int (iI 0), .ref (ad 0)]) (by rw [b01_f hb3_1]) ?_
    refine g_if_ne C (tgt := 13) d_Tw_told_6 rfl (by omega) (fun h6_21 => ?_) (fun h6_21 => ?_)
    · exfalso
      omega
    · refine g_iconst C d_Tw_told_9 ?_
      refine g_goto C (tgt := 14) d_Tw_told_10 rfl ?_
      refine gP C 0 0 t_Tw to_Tw n_Tw u_Tw k_648 (mwo_0 _) rfl (by decide) rfl rfl rfl rfl rfl (Nat.le_of_ble_eq_true rfl) d_Tw_told_14 (mwf_0_0 _ _) ?_
      refine g_ws (ws' := mw ad cI cZ (bu x 0 (updI (x 0) 0 1))) rfl ?_
      refine g_aload_n C (q := 0) d_Tw_told_17 rfl rfl ?_
      refine gG C (v := .int (iI 1)) 0 0 u_Tw k_648 (mwo_0 _) rfl (by decide) rfl rfl d_Tw_told_18 ?_
      refine g_if_ne C (tgt := 62) d_Tw_told_21 rfl (by omega) (fun h21_22 => ?_) (fun h21_22 => ?_)
      · refine g_aload_n C (q := 0) d_Tw_told_62 rfl rfl ?_
        refine gG C (v := .int (iI 1)) 0 0 u_Tw k_648 (mwo_0 _) rfl (by decide) rfl rfl d_Tw_told_63 ?_
        refine g_if_le C (tgt := 71) d_Tw_told_66 rfl (by omega) (fun h66_23 => ?_) (fun h66_23 => ?_)
        · exfalso
          omega
        · refine g_iconst C d_Tw_told_69 ?_
          exact g_iret C hA hr d_Tw_told_70 (by decide) (by decide) ⟨_, rfl, Or.inl (⟨rfl, (by omega), (by first | rfl | exact congrArg some (by unfold wayB; omega)), (e0.sc (e0.rf x) _)⟩)⟩
      · exfalso
        omega
set_option maxRecDepth 100000 in
set_option maxHeartbeats 4000000 in
theorem lp_Tw_best {p : Program} {l : Launch} {e : Env} {s : State} {m : MethodId} {args : Array Value} {below : List Frame} {meth : Method} {c : Code} {D : va_G} {cI cZ cJ : ClassId} {base : Nat} {ad : Nat → Nat} {A : Nat → Prop} {Q : State → Prop} (C : gC p s m args meth c D cls9 (tyl cI cZ cJ) A c_Tw_best 4 "BatchSavingsModel" (wz y_Tw_best c_Tw_best 4 (some FieldType.int)) base (zz base)) (x : Bk) (a : Int) (ha : 0 ≤ a ∧ a < x 1 0) (hfr : x 15 a = -1) (hok : Ok x) (hs : sym x) (hrw : rows x)
    (K : gW p l e ({ frames := 3, cells := 0, slots := 0, locals := 67 } : Room) s m args below meth c D cls9 A 4 0 0 Q (mw ad cI cZ x) [(0, .ref (ad 0)), (1, .int (iI a)), (2, .int (iI ((bsf x a ((x 3 0).toNat)).1))), (3, .int (iI ((x 3 0).toNat : Int)))] 112 []) : ∀ (d k : Nat), (k : Int) + (d : Int) = x 3 0 → gW p l e ({ frames := 3, cells := 0, slots := 0, locals := 67 } : Room) s m args below meth c D cls9 A 4 0 0 Q (mw ad cI cZ x) [(0, .ref (ad 0)), (1, .int (iI a)), (2, .int (iI ((bsf x a k).1))), (3, .int (iI (k : Int)))] 54 [] := by
  intro d
  induction d with
  | zero =>
    intro k hk
    have hb3 := hok.b
    refine g_iload_n C (q := 3) d_Tw_best_54 rfl rfl ?_
    refine g_aload_n C (q := 0) d_Tw_best_55 rfl rfl ?_
    refine gG C (v := .int (iI (x 3 0))) 0 13 u_Tw k_661 (mwo_0 _) rfl (by decide) rfl rfl d_Tw_best_56 ?_
    refine g_icmp_ge C (tgt := 112) d_Tw_best_59 rfl (by omega) (by omega) (fun h59_1 => ?_) (fun h59_1 => ?_)
    · obtain rfl : k = (x 3 0).toNat := by omega
      exact K
    · exfalso
      omega
  | succ d ih =>
    intro k hk
    have hn := hok.n
    have hb3 := hok.b
    have h14 := hok.r14 (k : Int) (by omega) (by omega)
    have hbi := bsf_in hok (a := a) (by omega) k (by omega)
    have hbv := bsf_v (x := x) (a := a) k
    have hs1 := swl_bd hok (a := a) (b := (k : Int)) (by omega) (by omega)
    refine g_iload_n C (q := 3) d_Tw_best_54 rfl rfl ?_
    refine g_aload_n C (q := 0) d_Tw_best_55 rfl rfl ?_
    refine gG C (v := .int (iI (x 3 0))) 0 13 u_Tw k_661 (mwo_0 _) rfl (by decide) rfl rfl d_Tw_best_56 ?_
    refine g_icmp_ge C (tgt := 112) d_Tw_best_59 rfl (by omega) (by omega) (fun h59_1 => ?_) (fun h59_1 => ?_)
    · exfalso
      omega
    · refine g_aload_n C (q := 0) d_Tw_best_62 rfl rfl ?_
      refine gG C (v := .ref (ad 9)) 0 14 u_Tw k_662 (mwo_0 _) rfl (by decide) rfl rfl d_Tw_best_63 ?_
      refine g_iload_n C (q := 3) d_Tw_best_66 rfl rfl ?_
      refine g_iald C 9 0 (mwa_9 _) rfl (by decide) (by omega) d_Tw_best_67 ?_
      refine g_st (st' := [.int (iI (x 14 (k : Int)))]) rfl ?_
      refine g_iconst C d_Tw_best_68 ?_
      refine g_icmp_eq C (tgt := 106) d_Tw_best_69 rfl (by omega) (by omega) (fun h69_2 => ?_) (fun h69_2 => ?_)
      · refine g_lve (lv' := [(0, .ref (ad 0)), (1, .int (iI a)), (2, .int (iI ((bsf x a (k + 1)).1))), (3, .int (iI (k : Int)))]) (by first | (rw [bsf_t ⟨by omega, by assumption, by omega⟩]; done) | (rw [bsf_f (fun z => absurd z.2.1 (by assumption))]; done) | (rw [bsf_f (fun z => by have z1 := z.1; have z3 := z.2.2; omega)]; done)) ?_
        refine g_iinc C (q := 3) (lv' := [(0, .ref (ad 0)), (1, .int (iI a)), (2, .int (iI ((bsf x a (k + 1)).1))), (3, .int (iI ((k : Int) + 1)))]) d_Tw_best_106 rfl (by decide) rfl rfl ?_
        refine g_goto C (tgt := 54) d_Tw_best_109 rfl ?_
        exact ih (k + 1) (by omega)
      · refine g_aload_n C (q := 0) d_Tw_best_72 rfl rfl ?_
        refine g_iload_n C (q := 1) d_Tw_best_73 rfl rfl ?_
        refine g_iload_n C (q := 3) d_Tw_best_74 rfl rfl ?_
        refine gV C (st := []) (m_Tw_mayCome x a (k : Int) ha (by omega) hs hok (hrw.at (by omega) hfr) (hrw (k : Int) (by omega) (by omega)).2) k_820 k_817 k_819 kp_59 k_7 rfl ho_Tw_mayCome rfl rfl ⟨by decide, by decide⟩ 0 (mwo_0 _) rfl rfl rfl (Nat.le_of_ble_eq_true rfl) d_Tw_best_75 ⟨by decide, by decide⟩ (fun r w hq => ?_)
        obtain ⟨rfl, rfl⟩ := hq
        refine g_eq (ws' := mw ad cI cZ x) (lv' := [(0, .ref (ad 0)), (1, .int (iI a)), (2, .int (iI ((bsf x a k).1))), (3, .int (iI (k : Int)))]) (pc' := 78) (st' := [.int (iI (c01 (mayC x a (k : Int))))]) rfl rfl rfl rfl ?_
        by_cases hb75_3 : (mayC x a (k : Int))
        · refine g_st (st' := [.int (iI 1)]) (by rw [c01_t hb75_3]) ?_
          refine g_if_ne C (tgt := 84) d_Tw_best_78 rfl (by omega) (fun h78_4 => ?_) (fun h78_4 => ?_)
          · refine g_iload_n C (q := 2) d_Tw_best_84 rfl rfl ?_
            refine g_iconst C d_Tw_best_85 ?_
            refine g_icmp_eq C (tgt := 104) d_Tw_best_86 rfl (by omega) (by omega) (fun h86_5 => ?_) (fun h86_5 => ?_)
            · refine g_iload_n C (q := 3) d_Tw_best_104 rfl rfl ?_
              refine g_istore_n C (lv' := [(0, .ref (ad 0)), (1, .int (iI a)), (2, .int (iI (k : Int))), (3, .int (iI (k : Int)))]) d_Tw_best_105 rfl (by decide) rfl rfl ?_
              refine g_lve (lv' := [(0, .ref (ad 0)), (1, .int (iI a)), (2, .int (iI ((bsf x a (k + 1)).1))), (3, .int (iI (k : Int)))]) (by first | (rw [bsf_t ⟨by omega, by assumption, by omega⟩]; done) | (rw [bsf_f (fun z => absurd z.2.1 (by assumption))]; done) | (rw [bsf_f (fun z => by have z1 := z.1; have z3 := z.2.2; omega)]; done)) ?_
              refine g_iinc C (q := 3) (lv' := [(0, .ref (ad 0)), (1, .int (iI a)), (2, .int (iI ((bsf x a (k + 1)).1))), (3, .int (iI ((k : Int) + 1)))]) d_Tw_best_106 rfl (by decide) rfl rfl ?_
              refine g_goto C (tgt := 54) d_Tw_best_109 rfl ?_
              exact ih (k + 1) (by omega)
            · refine g_aload_n C (q := 0) d_Tw_best_89 rfl rfl ?_
              refine g_iload_n C (q := 1) d_Tw_best_90 rfl rfl ?_
              refine g_iload_n C (q := 3) d_Tw_best_91 rfl rfl ?_
              have hs2 := swl_bd hok (a := a) (b := (bsf x a k).1) (by omega) (by omega)
              refine gV C (st := []) (m_Tw_savingWithLast x a (k : Int) (by omega) (by omega) hok) k_828 k_825 k_827 kp_61 k_7 rfl ho_Tw_savingWithLast rfl rfl ⟨by decide, by decide⟩ 0 (mwo_0 _) rfl rfl rfl (Nat.le_of_ble_eq_true rfl) d_Tw_best_92 ⟨by decide, by decide⟩ (fun r w hq => ?_)
              obtain ⟨rfl, rfl⟩ := hq
              refine g_eq (ws' := mw ad cI cZ x) (lv' := [(0, .ref (ad 0)), (1, .int (iI a)), (2, .int (iI ((bsf x a k).1))), (3, .int (iI (k : Int)))]) (pc' := 95) (st' := [.int (iI (swl x a (k : Int)))]) rfl rfl rfl rfl ?_
              refine g_aload_n C (q := 0) d_Tw_best_95 rfl rfl ?_
              refine g_iload_n C (q := 1) d_Tw_best_96 rfl rfl ?_
              refine g_iload_n C (q := 2) d_Tw_best_97 rfl rfl ?_
              refine gV C (st := [.int (iI (swl x a (k : Int)))]) (m_Tw_savingWithLast x a ((bsf x a k).1) (by omega) (by omega) hok) k_828 k_825 k_827 kp_61 k_7 rfl ho_Tw_savingWithLast rfl rfl ⟨by decide, by decide⟩ 0 (mwo_0 _) rfl rfl rfl (Nat.le_of_ble_eq_true rfl) d_Tw_best_98 ⟨by decide, by decide⟩ (fun r w hq => ?_)
              obtain ⟨rfl, rfl⟩ := hq
              refine g_eq (ws' := mw ad cI cZ x) (lv' := [(0, .ref (ad 0)), (1, .int (iI a)), (2, .int (iI ((bsf x a k).1))), (3, .int (iI (k : Int)))]) (pc' := 101) (st' := [.int (iI (swl x a ((bsf x a k).1))), .int (iI (swl x a (k : Int)))]) rfl rfl rfl rfl ?_
              refine g_icmp_le C (tgt := 106) d_Tw_best_101 rfl (by omega) (by omega) (fun h101_6 => ?_) (fun h101_6 => ?_)
              · refine g_lve (lv' := [(0, .ref (ad 0)), (1, .int (iI a)), (2, .int (iI ((bsf x a (k + 1)).1))), (3, .int (iI (k : Int)))]) (by first | (rw [bsf_t ⟨by omega, by assumption, by omega⟩]; done) | (rw [bsf_f (fun z => absurd z.2.1 (by assumption))]; done) | (rw [bsf_f (fun z => by have z1 := z.1; have z3 := z.2.2; omega)]; done)) ?_
                refine g_iinc C (q := 3) (lv' := [(0, .ref (ad 0)), (1, .int (iI a)), (2, .int (iI ((bsf x a (k + 1)).1))), (3, .int (iI ((k : Int) + 1)))]) d_Tw_best_106 rfl (by decide) rfl rfl ?_
                refine g_goto C (tgt := 54) d_Tw_best_109 rfl ?_
                exact ih (k + 1) (by omega)
              · refine g_iload_n C (q := 3) d_Tw_best_104 rfl rfl ?_
                refine g_istore_n C (lv' := [(0, .ref (ad 0)), (1, .int (iI a)), (2, .int (iI (k : Int))), (3, .int (iI (k : Int)))]) d_Tw_best_105 rfl (by decide) rfl rfl ?_
                refine g_lve (lv' := [(0, .ref (ad 0)), (1, .int (iI a)), (2, .int (iI ((bsf x a (k + 1)).1))), (3, .int (iI (k : Int)))]) (by first | (rw [bsf_t ⟨by omega, by assumption, by omega⟩]; done) | (rw [bsf_f (fun z => absurd z.2.1 (by assumption))]; done) | (rw [bsf_f (fun z => by have z1 := z.1; have z3 := z.2.2; omega)]; done)) ?_
                refine g_iinc C (q := 3) (lv' := [(0, .ref (ad 0)), (1, .int (iI a)), (2, .int (iI ((bsf x a (k + 1)).1))), (3, .int (iI ((k : Int) + 1)))]) d_Tw_best_106 rfl (by decide) rfl rfl ?_
                refine g_goto C (tgt := 54) d_Tw_best_109 rfl ?_
                exact ih (k + 1) (by omega)
          · exfalso
            omega
        · refine g_st (st' := [.int (iI 0)]) (by rw [c01_f hb75_3]) ?_
          refine g_if_ne C (tgt := 84) d_Tw_best_78 rfl (by omega) (fun h78_7 => ?_) (fun h78_7 => ?_)
          · exfalso
            omega
          · refine g_goto C (tgt := 106) d_Tw_best_81 rfl ?_
            refine g_lve (lv' := [(0, .ref (ad 0)), (1, .int (iI a)), (2, .int (iI ((bsf x a (k + 1)).1))), (3, .int (iI (k : Int)))]) (by first | (rw [bsf_t ⟨by omega, by assumption, by omega⟩]; done) | (rw [bsf_f (fun z => absurd z.2.1 (by assumption))]; done) | (rw [bsf_f (fun z => by have z1 := z.1; have z3 := z.2.2; omega)]; done)) ?_
            refine g_iinc C (q := 3) (lv' := [(0, .ref (ad 0)), (1, .int (iI a)), (2, .int (iI ((bsf x a (k + 1)).1))), (3, .int (iI ((k : Int) + 1)))]) d_Tw_best_106 rfl (by decide) rfl rfl ?_
            refine g_goto C (tgt := 54) d_Tw_best_109 rfl ?_
            exact ih (k + 1) (by omega)
theorem swl_e0 {z x : Bk} (h : e0 z x) (a b : Int) : swl z a b = swl x a b := by
  unfold swl sv
  rw [h 14 (by decide), h 13 (by decide), h 9 (by decide), h 5 (by decide)]
theorem mayC_e0 {z x : Bk} (h : e0 z x) (a b : Int) : mayC z a b ↔ mayC x a b := by
  unfold mayC okS bat1 alg
  rw [swl_e0 h, h 14 (by decide), h 13 (by decide), h 10 (by decide), h 11 (by decide), h 7 (by decide), h 8 (by decide), h 6 (by decide), h 2 (by decide)]
theorem bsf_e0 {z x : Bk} (h : e0 z x) (a : Int) (k : Nat) : bsf z a k = bsf x a k := by
  induction k with
  | zero => rfl
  | succ k ih =>
    by_cases hc : ¬ 4 ≤ x 14 (k : Int) ∧ mayC x a (k : Int) ∧ ((bsf x a k).1 = -1 ∨ (bsf x a k).2 < swl x a (k : Int))
    · rw [bsf_t hc, bsf_t (by rw [h 14 (by decide), mayC_e0 h, ih, swl_e0 h]; exact hc), swl_e0 h]
    · rw [bsf_f hc, bsf_f (by rw [h 14 (by decide), mayC_e0 h, ih, swl_e0 h]; exact hc), ih]
set_option maxRecDepth 100000 in
set_option maxHeartbeats 4000000 in
theorem m_Tw_best {l : Launch} {D : va_G} {cI cZ cJ : ClassId} {base : Nat} {ad : Nat → Nat} (x : Bk) (a : Int) (ha : InR a) (hok : Ok x) (hs : sym x) (hrw : rows x) : Cn l D cls9 (tyl cI cZ cJ) base (zz base) y_Tw_best (wz y_Tw_best c_Tw_best 4 (some FieldType.int)) ({ frames := 3, cells := 0, slots := 0, locals := 67 } : Room) [.ref (ad 0), .int (iI a)] (mw ad cI cZ x) (fun r w => ∃ z : Bk, w = mw ad cI cZ z ∧ ((z 0 0 = 1 ∧ (¬ (0 ≤ a ∧ a < x 1 0)) ∧ r = some (0) ∧ e0 z x) ∨ (z 0 0 = 2 ∧ ((0 ≤ a ∧ a < x 1 0) ∧ ¬ x 15 a = -1) ∧ r = some (0) ∧ e0 z x) ∨ (z 0 0 = 0 ∧ ((0 ≤ a ∧ a < x 1 0) ∧ x 15 a = -1) ∧ r = some ((bsf x a (x 3 0).toNat).1) ∧ e0 z x))) 0 0 := by
  refine Cn_of (zzG base) (by decide) rfl (Nat.le_of_ble_eq_true rfl) ?_
  intro p e s m args below meth c A C hr hA hnm
  have C : gC p s m args meth c D cls9 (tyl cI cZ cJ) A c_Tw_best 4 "BatchSavingsModel" (wz y_Tw_best c_Tw_best 4 (some FieldType.int)) base (zz base) := C
  refine g_lve (lv' := [(0, .ref (ad 0)), (1, .int (iI a))]) rfl ?_
  have hn := hok.n
  have hb3 := hok.b
  refine g_aload_n C (q := 0) d_Tw_best_0 rfl rfl ?_
  refine g_aload_n C (q := 0) d_Tw_best_1 rfl rfl ?_
  refine g_iload_n C (q := 1) d_Tw_best_2 rfl rfl ?_
  refine gV C (st := [.ref (ad 0)]) (m_Tw_isOrder x a (by omega) (show 0 ≤ (x 1 0) ∧ (x 1 0) ≤ 10 by omega)) k_721 k_718 k_720 kp_45 k_7 rfl ho_Tw_isOrder rfl rfl ⟨by decide, by decide⟩ 0 (mwo_0 _) rfl rfl rfl (Nat.le_of_ble_eq_true rfl) d_Tw_best_3 ⟨by decide, by decide⟩ (fun r w hq => ?_)
  obtain ⟨rfl, rfl⟩ := hq
  refine g_eq (ws' := mw ad cI cZ x) (lv' := [(0, .ref (ad 0)), (1, .int (iI a))]) (pc' := 6) (st' := [.int (iI (b01 (0 ≤ a ∧ a < (x 1 0)))), .ref (ad 0)]) rfl rfl rfl rfl ?_
  by_cases hb3_1 : (0 ≤ a ∧ a < (x 1 0))
  · refine g_st (st' := [.int (iI 1), .ref (ad 0)]) (by rw [b01_t hb3_1]) ?_
    refine g_if_ne C (tgt := 13) d_Tw_best_6 rfl (by omega) (fun h6_2 => ?_) (fun h6_2 => ?_)
    · refine g_iconst C d_Tw_best_13 ?_
      refine gP C 0 0 t_Tw to_Tw n_Tw u_Tw k_648 (mwo_0 _) rfl (by decide) rfl rfl rfl rfl rfl (Nat.le_of_ble_eq_true rfl) d_Tw_best_14 (mwf_0_0 _ _) ?_
      refine g_ws (ws' := mw ad cI cZ (bu x 0 (updI (x 0) 0 0))) rfl ?_
      refine g_aload_n C (q := 0) d_Tw_best_17 rfl rfl ?_
      refine gG C (v := .int (iI 0)) 0 0 u_Tw k_648 (mwo_0 _) rfl (by decide) rfl rfl d_Tw_best_18 ?_
      refine g_if_ne C (tgt := 41) d_Tw_best_21 rfl (by omega) (fun h21_3 => ?_) (fun h21_3 => ?_)
      · exfalso
        omega
      · refine g_aload_n C (q := 0) d_Tw_best_24 rfl rfl ?_
        refine g_aload_n C (q := 0) d_Tw_best_25 rfl rfl ?_
        refine g_iload_n C (q := 1) d_Tw_best_26 rfl rfl ?_
        have h15 := hok.r15 a (by omega) (by omega)
        refine gV C (st := [.ref (ad 0)]) (m_Tw_isFree (bu x 0 (updI (x 0) 0 0)) a (by omega) (show InR (x 15 a) by omega)) k_749 k_746 k_748 kp_49 k_7 rfl ho_Tw_isFree rfl rfl ⟨by decide, by decide⟩ 0 (mwo_0 _) rfl rfl rfl (Nat.le_of_ble_eq_true rfl) d_Tw_best_27 ⟨by decide, by decide⟩ (fun r w hq => ?_)
        obtain ⟨rfl, rfl⟩ := hq
        refine g_eq (ws' := mw ad cI cZ (bu x 0 (updI (x 0) 0 0))) (lv' := [(0, .ref (ad 0)), (1, .int (iI a))]) (pc' := 30) (st' := [.int (iI (b01 ((x 15 a) = -1))), .ref (ad 0)]) rfl rfl rfl rfl ?_
        by_cases hb27_4 : ((x 15 a) = -1)
        · refine g_st (st' := [.int (iI 1), .ref (ad 0)]) (by rw [b01_t hb27_4]) ?_
          refine g_if_ne C (tgt := 37) d_Tw_best_30 rfl (by omega) (fun h30_5 => ?_) (fun h30_5 => ?_)
          · refine g_iconst C d_Tw_best_37 ?_
            refine gP C 0 0 t_Tw to_Tw n_Tw u_Tw k_648 (mwo_0 _) rfl (by decide) rfl rfl rfl rfl rfl (Nat.le_of_ble_eq_true rfl) d_Tw_best_38 (mwf_0_0 _ _) ?_
            refine g_ws (ws' := mw ad cI cZ (bu (bu x 0 (updI (x 0) 0 0)) 0 (updI (updI (x 0) 0 0) 0 0))) rfl ?_
            refine g_aload_n C (q := 0) d_Tw_best_41 rfl rfl ?_
            refine gG C (v := .int (iI 0)) 0 0 u_Tw k_648 (mwo_0 _) rfl (by decide) rfl rfl d_Tw_best_42 ?_
            refine g_if_le C (tgt := 50) d_Tw_best_45 rfl (by omega) (fun h45_6 => ?_) (fun h45_6 => ?_)
            · refine g_iconst C d_Tw_best_50 ?_
              refine g_istore_n C (lv' := [(0, .ref (ad 0)), (1, .int (iI a)), (2, .int (iI (-1)))]) d_Tw_best_51 rfl (by decide) rfl rfl ?_
              refine g_iconst C d_Tw_best_52 ?_
              refine g_istore_n C (lv' := [(0, .ref (ad 0)), (1, .int (iI a)), (2, .int (iI (-1))), (3, .int (iI 0))]) d_Tw_best_53 rfl (by decide) rfl rfl ?_
              have bsf_e : ∀ k, bsf (bu (bu x 0 (updI (x 0) 0 0)) 0 (updI (updI (x 0) 0 0) 0 0)) a k = bsf x a k := fun k => bsf_e0 (e0.sc (e0.sc (e0.rf x) _) _) a k
              refine g_lve (lv' := [(0, .ref (ad 0)), (1, .int (iI a)), (2, .int (iI ((bsf (bu (bu x 0 (updI (x 0) 0 0)) 0 (updI (updI (x 0) 0 0) 0 0)) a 0).1))), (3, .int (iI ((0 : Nat) : Int)))]) (by rw [bsf_e]; rfl) ?_
              refine lp_Tw_best C (bu (bu x 0 (updI (x 0) 0 0)) 0 (updI (updI (x 0) 0 0) 0 0)) a (show 0 ≤ a ∧ a < x 1 0 by omega) (show x 15 a = -1 by omega) (hok.e0 (e0.sc (e0.sc (e0.rf x) _) _)) (hs.e0 (e0.sc (e0.sc (e0.rf x) _) _)) (hrw.e0 (e0.sc (e0.sc (e0.rf x) _) _)) ?_ (x 3 0).toNat 0 (show ((0 : Nat) : Int) + (((x 3 0).toNat : Nat) : Int) = x 3 0 by omega)
              refine g_eq (ws' := mw ad cI cZ (bu (bu x 0 (updI (x 0) 0 0)) 0 (updI (updI (x 0) 0 0) 0 0))) (lv' := [(0, .ref (ad 0)), (1, .int (iI a)), (2, .int (iI ((bsf x a (x 3 0).toNat).1))), (3, .int (iI ((x 3 0).toNat : Int)))]) (pc' := 112) (st' := []) rfl (by rw [bsf_e]; rfl) rfl rfl ?_
              refine g_iload_n C (q := 2) d_Tw_best_112 rfl rfl ?_
              exact g_iret C hA hr d_Tw_best_113 (by decide) (by decide) ⟨_, rfl, Or.inr (Or.inr (⟨rfl, (by omega), (by first | rfl | exact congrArg some (by omega)), (e0.sc (e0.sc (e0.rf x) _) _)⟩))⟩
            · exfalso
              omega
          · exfalso
            omega
        · refine g_st (st' := [.int (iI 0), .ref (ad 0)]) (by rw [b01_f hb27_4]) ?_
          refine g_if_ne C (tgt := 37) d_Tw_best_30 rfl (by omega) (fun h30_7 => ?_) (fun h30_7 => ?_)
          · exfalso
            omega
          · refine g_iconst C d_Tw_best_33 ?_
            refine g_goto C (tgt := 38) d_Tw_best_34 rfl ?_
            refine gP C 0 0 t_Tw to_Tw n_Tw u_Tw k_648 (mwo_0 _) rfl (by decide) rfl rfl rfl rfl rfl (Nat.le_of_ble_eq_true rfl) d_Tw_best_38 (mwf_0_0 _ _) ?_
            refine g_ws (ws' := mw ad cI cZ (bu (bu x 0 (updI (x 0) 0 0)) 0 (updI (updI (x 0) 0 0) 0 2))) rfl ?_
            refine g_aload_n C (q := 0) d_Tw_best_41 rfl rfl ?_
            refine gG C (v := .int (iI 2)) 0 0 u_Tw k_648 (mwo_0 _) rfl (by decide) rfl rfl d_Tw_best_42 ?_
            refine g_if_le C (tgt := 50) d_Tw_best_45 rfl (by omega) (fun h45_8 => ?_) (fun h45_8 => ?_)
            · exfalso
              omega
            · refine g_iconst C d_Tw_best_48 ?_
              exact g_iret C hA hr d_Tw_best_49 (by decide) (by decide) ⟨_, rfl, Or.inr (Or.inl (⟨rfl, (by omega), (by first | rfl | exact congrArg some (by omega)), (e0.sc (e0.sc (e0.rf x) _) _)⟩))⟩
    · exfalso
      omega
  · refine g_st (st' := [.int (iI 0), .ref (ad 0)]) (by rw [b01_f hb3_1]) ?_
    refine g_if_ne C (tgt := 13) d_Tw_best_6 rfl (by omega) (fun h6_9 => ?_) (fun h6_9 => ?_)
    · exfalso
      omega
    · refine g_iconst C d_Tw_best_9 ?_
      refine g_goto C (tgt := 14) d_Tw_best_10 rfl ?_
      refine gP C 0 0 t_Tw to_Tw n_Tw u_Tw k_648 (mwo_0 _) rfl (by decide) rfl rfl rfl rfl rfl (Nat.le_of_ble_eq_true rfl) d_Tw_best_14 (mwf_0_0 _ _) ?_
      refine g_ws (ws' := mw ad cI cZ (bu x 0 (updI (x 0) 0 1))) rfl ?_
      refine g_aload_n C (q := 0) d_Tw_best_17 rfl rfl ?_
      refine gG C (v := .int (iI 1)) 0 0 u_Tw k_648 (mwo_0 _) rfl (by decide) rfl rfl d_Tw_best_18 ?_
      refine g_if_ne C (tgt := 41) d_Tw_best_21 rfl (by omega) (fun h21_10 => ?_) (fun h21_10 => ?_)
      · refine g_aload_n C (q := 0) d_Tw_best_41 rfl rfl ?_
        refine gG C (v := .int (iI 1)) 0 0 u_Tw k_648 (mwo_0 _) rfl (by decide) rfl rfl d_Tw_best_42 ?_
        refine g_if_le C (tgt := 50) d_Tw_best_45 rfl (by omega) (fun h45_11 => ?_) (fun h45_11 => ?_)
        · exfalso
          omega
        · refine g_iconst C d_Tw_best_48 ?_
          exact g_iret C hA hr d_Tw_best_49 (by decide) (by decide) ⟨_, rfl, Or.inl (⟨rfl, (by omega), (by first | rfl | exact congrArg some (by omega)), (e0.sc (e0.rf x) _)⟩)⟩
      · exfalso
        omega
set_option maxRecDepth 100000 in
set_option maxHeartbeats 4000000 in
theorem lp_Tw_mean {p : Program} {l : Launch} {e : Env} {s : State} {m : MethodId} {args : Array Value} {below : List Frame} {meth : Method} {c : Code} {D : va_G} {cI cZ cJ : ClassId} {base : Nat} {ad : Nat → Nat} {A : Nat → Prop} {Q : State → Prop} (C : gC p s m args meth c D cls9 (tyl cI cZ cJ) A c_Tw_mean 3 "BatchSavingsModel" (wz y_Tw_mean c_Tw_mean 3 (some FieldType.int)) base (zz base)) (x : Bk) (hok : Ok x)
    (K : gW p l e ({ frames := 2, cells := 0, slots := 0, locals := 47 } : Room) s m args below meth c D cls9 A 3 0 0 Q (mw ad cI cZ x) [(0, .ref (ad 0)), (1, .int (iI (svd x + sg (sby x) ((x 3 0).toNat)))), (2, .int (iI ((x 3 0).toNat : Int)))] 60 []) : ∀ (d k : Nat), (k : Int) + (d : Int) = x 3 0 → gW p l e ({ frames := 2, cells := 0, slots := 0, locals := 47 } : Room) s m args below meth c D cls9 A 3 0 0 Q (mw ad cI cZ x) [(0, .ref (ad 0)), (1, .int (iI (svd x + sg (sby x) k))), (2, .int (iI (k : Int)))] 32 [] := by
  intro d
  induction d with
  | zero =>
    intro k hk
    have hb3 := hok.b
    refine g_iload_n C (q := 2) d_Tw_mean_32 rfl rfl ?_
    refine g_aload_n C (q := 0) d_Tw_mean_33 rfl rfl ?_
    refine gG C (v := .int (iI (x 3 0))) 0 13 u_Tw k_661 (mwo_0 _) rfl (by decide) rfl rfl d_Tw_mean_34 ?_
    refine g_icmp_ge C (tgt := 60) d_Tw_mean_37 rfl (by omega) (by omega) (fun h37_1 => ?_) (fun h37_1 => ?_)
    · obtain rfl : k = (x 3 0).toNat := by omega
      exact K
    · exfalso
      omega
  | succ d ih =>
    intro k hk
    have hb3 := hok.b
    refine g_iload_n C (q := 2) d_Tw_mean_32 rfl rfl ?_
    refine g_aload_n C (q := 0) d_Tw_mean_33 rfl rfl ?_
    refine gG C (v := .int (iI (x 3 0))) 0 13 u_Tw k_661 (mwo_0 _) rfl (by decide) rfl rfl d_Tw_mean_34 ?_
    refine g_icmp_ge C (tgt := 60) d_Tw_mean_37 rfl (by omega) (by omega) (fun h37_1 => ?_) (fun h37_1 => ?_)
    · exfalso
      omega
    · refine g_iload_n C (q := 1) d_Tw_mean_40 rfl rfl ?_
      refine g_aload_n C (q := 0) d_Tw_mean_41 rfl rfl ?_
      refine g_iload_n C (q := 2) d_Tw_mean_42 rfl rfl ?_
      refine gV C (st := [.int (iI (svd x + sg (sby x) k))]) (m_Tw_allSeconds x (k : Int) (by omega) hok) k_848 k_845 k_847 kp_63 k_7 rfl ho_Tw_allSeconds rfl rfl ⟨by decide, by decide⟩ 0 (mwo_0 _) rfl rfl rfl (Nat.le_of_ble_eq_true rfl) d_Tw_mean_43 ⟨by decide, by decide⟩ (fun r w hq => ?_)
      obtain ⟨rfl, rfl⟩ := hq
      refine g_eq (ws' := mw ad cI cZ x) (lv' := [(0, .ref (ad 0)), (1, .int (iI (svd x + sg (sby x) k))), (2, .int (iI (k : Int)))]) (pc' := 46) (st' := [.int (iI (sumB x (x 5) (k : Int))), .int (iI (svd x + sg (sby x) k))]) rfl rfl rfl rfl ?_
      refine g_aload_n C (q := 0) d_Tw_mean_46 rfl rfl ?_
      refine g_iload_n C (q := 2) d_Tw_mean_47 rfl rfl ?_
      refine gV C (st := [.int (iI (sumB x (x 5) (k : Int))), .int (iI (svd x + sg (sby x) k))]) (m_Tw_way x (k : Int) (by omega) hok) k_832 k_829 k_831 kp_62 k_7 rfl ho_Tw_way rfl rfl ⟨by decide, by decide⟩ 0 (mwo_0 _) rfl rfl rfl (Nat.le_of_ble_eq_true rfl) d_Tw_mean_48 ⟨by decide, by decide⟩ (fun r w hq => ?_)
      obtain ⟨rfl, rfl⟩ := hq
      rw [way_eq]
      refine g_eq (ws' := mw ad cI cZ x) (lv' := [(0, .ref (ad 0)), (1, .int (iI (svd x + sg (sby x) k))), (2, .int (iI (k : Int)))]) (pc' := 51) (st' := [.int (iI (wayB x (k : Int))), .int (iI (sumB x (x 5) (k : Int))), .int (iI (svd x + sg (sby x) k))]) rfl rfl rfl rfl ?_
      refine g_isub C d_Tw_mean_51 ?_
      refine g_iadd C d_Tw_mean_52 ?_
      refine g_st (st' := [.int (iI (svd x + sg (sby x) (k + 1)))]) (by rw [sg_s]; unfold wayB; exact congrArg (fun q => [Value.int (iI q)]) (by omega)) ?_
      refine g_istore_n C (lv' := [(0, .ref (ad 0)), (1, .int (iI (svd x + sg (sby x) (k + 1)))), (2, .int (iI (k : Int)))]) d_Tw_mean_53 rfl (by decide) rfl rfl ?_
      refine g_iinc C (q := 2) (lv' := [(0, .ref (ad 0)), (1, .int (iI (svd x + sg (sby x) (k + 1)))), (2, .int (iI ((k : Int) + 1)))]) d_Tw_mean_54 rfl (by decide) rfl rfl ?_
      refine g_goto C (tgt := 32) d_Tw_mean_57 rfl ?_
      exact ih (k + 1) (by omega)
set_option maxRecDepth 100000 in
set_option maxHeartbeats 4000000 in
theorem m_Tw_mean {l : Launch} {D : va_G} {cI cZ cJ : ClassId} {base : Nat} {ad : Nat → Nat} (x : Bk) (hok : Ok x) : Cn l D cls9 (tyl cI cZ cJ) base (zz base) y_Tw_mean (wz y_Tw_mean c_Tw_mean 3 (some FieldType.int)) ({ frames := 2, cells := 0, slots := 0, locals := 47 } : Room) [.ref (ad 0)] (mw ad cI cZ x) (fun r w => ∃ z : Bk, w = mw ad cI cZ z ∧ ((z 0 0 = 1 ∧ (x 1 0 = 0) ∧ r = some (0) ∧ e0 z x) ∨ (z 0 0 = 0 ∧ (¬ x 1 0 = 0) ∧ r = some ((sg (sby x) (x 3 0).toNat + svd x).tdiv (x 1 0)) ∧ e0 z x))) 0 0 := by
  refine Cn_of (zzG base) (by decide) rfl (Nat.le_of_ble_eq_true rfl) ?_
  intro p e s m args below meth c A C hr hA hnm
  have C : gC p s m args meth c D cls9 (tyl cI cZ cJ) A c_Tw_mean 3 "BatchSavingsModel" (wz y_Tw_mean c_Tw_mean 3 (some FieldType.int)) base (zz base) := C
  refine g_lve (lv' := [(0, .ref (ad 0))]) rfl ?_
  have hn := hok.n
  have hb3 := hok.b
  refine g_aload_n C (q := 0) d_Tw_mean_0 rfl rfl ?_
  refine g_aload_n C (q := 0) d_Tw_mean_1 rfl rfl ?_
  refine gG C (v := .int (iI (x 1 0))) 0 1 u_Tw k_649 (mwo_0 _) rfl (by decide) rfl rfl d_Tw_mean_2 ?_
  refine g_if_ne C (tgt := 12) d_Tw_mean_5 rfl (by omega) (fun h5_1 => ?_) (fun h5_1 => ?_)
  · refine g_iconst C d_Tw_mean_12 ?_
    refine gP C 0 0 t_Tw to_Tw n_Tw u_Tw k_648 (mwo_0 _) rfl (by decide) rfl rfl rfl rfl rfl (Nat.le_of_ble_eq_true rfl) d_Tw_mean_13 (mwf_0_0 _ _) ?_
    refine g_ws (ws' := mw ad cI cZ (bu x 0 (updI (x 0) 0 0))) rfl ?_
    refine g_aload_n C (q := 0) d_Tw_mean_16 rfl rfl ?_
    refine gG C (v := .int (iI 0)) 0 0 u_Tw k_648 (mwo_0 _) rfl (by decide) rfl rfl d_Tw_mean_17 ?_
    refine g_if_le C (tgt := 25) d_Tw_mean_20 rfl (by omega) (fun h20_2 => ?_) (fun h20_2 => ?_)
    · refine g_aload_n C (q := 0) d_Tw_mean_25 rfl rfl ?_
      refine gV C (st := []) (m_Tw_pairSavings (bu x 0 (updI (x 0) 0 0)) (hok.e0 (e0.sc (e0.rf x) _))) k_788 k_785 k_787 kp_55 k_7 rfl ho_Tw_pairSavings rfl rfl ⟨by decide, by decide⟩ 0 (mwo_0 _) rfl rfl rfl (Nat.le_of_ble_eq_true rfl) d_Tw_mean_26 ⟨by decide, by decide⟩ (fun r w hq => ?_)
      obtain ⟨rfl, rfl⟩ := hq
      refine g_eq (ws' := mw ad cI cZ (bu x 0 (updI (x 0) 0 0))) (lv' := [(0, .ref (ad 0))]) (pc' := 29) (st' := [.int (iI (svd x))]) rfl rfl rfl rfl ?_
      refine g_istore_n C (lv' := [(0, .ref (ad 0)), (1, .int (iI (svd x)))]) d_Tw_mean_29 rfl (by decide) rfl rfl ?_
      refine g_iconst C d_Tw_mean_30 ?_
      refine g_istore_n C (lv' := [(0, .ref (ad 0)), (1, .int (iI (svd x))), (2, .int (iI 0))]) d_Tw_mean_31 rfl (by decide) rfl rfl ?_
      refine g_lve (lv' := [(0, .ref (ad 0)), (1, .int (iI (svd (bu x 0 (updI (x 0) 0 0)) + sg (sby (bu x 0 (updI (x 0) 0 0))) 0))), (2, .int (iI ((0 : Nat) : Int)))]) (by rw [show svd (bu x 0 (updI (x 0) 0 0)) + sg (sby (bu x 0 (updI (x 0) 0 0))) 0 = svd x from Int.add_zero _]; rfl) ?_
      refine lp_Tw_mean C (bu x 0 (updI (x 0) 0 0)) (hok.e0 (e0.sc (e0.rf x) _)) ?_ (x 3 0).toNat 0 (show ((0 : Nat) : Int) + (((x 3 0).toNat : Nat) : Int) = x 3 0 by omega)
      refine g_eq (ws' := mw ad cI cZ (bu x 0 (updI (x 0) 0 0))) (lv' := [(0, .ref (ad 0)), (1, .int (iI (svd x + sg (sby x) (x 3 0).toNat))), (2, .int (iI ((x 3 0).toNat : Int)))]) (pc' := 60) (st' := []) rfl rfl rfl rfl ?_
      refine g_iload_n C (q := 1) d_Tw_mean_60 rfl rfl ?_
      refine g_aload_n C (q := 0) d_Tw_mean_61 rfl rfl ?_
      refine gG C (v := .int (iI (x 1 0))) 0 1 u_Tw k_649 (mwo_0 _) rfl (by decide) rfl rfl d_Tw_mean_62 ?_
      refine g_idiv C d_Tw_mean_65 (by have := ssb_bd hok; have := svd_bd hok; omega) (by omega) (by omega) ?_
      exact g_iret C hA hr d_Tw_mean_66 (by decide) (by decide) ⟨_, rfl, Or.inr (⟨rfl, (by omega), (by first | rfl | exact congrArg some (by rw [Int.add_comm])), (e0.sc (e0.rf x) _)⟩)⟩
    · exfalso
      omega
  · refine g_iconst C d_Tw_mean_8 ?_
    refine g_goto C (tgt := 13) d_Tw_mean_9 rfl ?_
    refine gP C 0 0 t_Tw to_Tw n_Tw u_Tw k_648 (mwo_0 _) rfl (by decide) rfl rfl rfl rfl rfl (Nat.le_of_ble_eq_true rfl) d_Tw_mean_13 (mwf_0_0 _ _) ?_
    refine g_ws (ws' := mw ad cI cZ (bu x 0 (updI (x 0) 0 1))) rfl ?_
    refine g_aload_n C (q := 0) d_Tw_mean_16 rfl rfl ?_
    refine gG C (v := .int (iI 1)) 0 0 u_Tw k_648 (mwo_0 _) rfl (by decide) rfl rfl d_Tw_mean_17 ?_
    refine g_if_le C (tgt := 25) d_Tw_mean_20 rfl (by omega) (fun h20_3 => ?_) (fun h20_3 => ?_)
    · exfalso
      omega
    · refine g_iconst C d_Tw_mean_23 ?_
      exact g_iret C hA hr d_Tw_mean_24 (by decide) (by decide) ⟨_, rfl, Or.inl (⟨rfl, (by omega), (by first | rfl | exact congrArg some (by omega)), (e0.sc (e0.rf x) _)⟩)⟩
