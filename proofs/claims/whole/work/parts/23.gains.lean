set_option maxRecDepth 100000 in
set_option maxHeartbeats 4000000 in
theorem lp_S_gains2 {p : Program} {l : Launch} {e : Env} {s : State} {m : MethodId} {args : Array Value} {below : List Frame} {meth : Method} {c : Code} {D : va_G} {cI cZ cJ : ClassId} {base : Nat} {ad : Nat → Nat} {A : Nat → Prop} {Q : State → Prop} (C : gC p s m args meth c D cls9 (tyl cI cZ cJ) A c_S_takeGains 4 "BatchSavings" (wz y_S_takeGains c_S_takeGains 4 none) base (zz base)) (x : Bk) (i : Int) (hi : 0 ≤ i ∧ i < x 1 0) (hok : Ok x)
    (K : ∀ y : Bk, gok y x i (x 1 0) → gW p l e ({ frames := 4, cells := 0, slots := 0, locals := 89 } : Room) s m args below meth c D cls9 A 4 0 0 Q (cw ad cI cZ y) [(0, .ref (ad 0)), (1, .int (iI i)), (2, .int (iI ((x 1 0).toNat : Int)))] 104 []) : ∀ (d k : Nat), ∀ (y : Bk), gok y x i (k : Int) → i < (k : Int) → (k : Int) + (d : Int) = x 1 0 → gW p l e ({ frames := 4, cells := 0, slots := 0, locals := 89 } : Room) s m args below meth c D cls9 A 4 0 0 Q (cw ad cI cZ y) [(0, .ref (ad 0)), (1, .int (iI i)), (2, .int (iI (k : Int)))] 17 [] := by
  intro d
  induction d with
  | zero =>
    intro k y hy hik hk
    have hn := hok.n
    have hoy := hok.cor hy.cor
    have e1 : y 1 0 = x 1 0 := by rw [hy.1 1 (by decide) (by decide) (by decide)]
    have e15 := hy.1 15 (by decide) (by decide) (by decide)
    refine g_iload_n C (q := 2) d_S_takeGains_17 rfl rfl ?_
    refine g_aload_n C (q := 0) d_S_takeGains_18 rfl rfl ?_
    refine gG C (v := .ref (ad 1)) 0 0 u_S k_147 (cwo_0 _) rfl (by decide) rfl rfl d_S_takeGains_19 ?_
    refine gGN C (v := .int (iI (y 1 0))) 1 5 u_O kn_47 (cwo_1 _) rfl (by decide) rfl rfl d_S_takeGains_22 ?_
    refine g_icmp_ge C (tgt := 104) d_S_takeGains_25 rfl (by omega) (by omega) (fun h25_1 => ?_) (fun h25_1 => ?_)
    · obtain rfl : k = (x 1 0).toNat := by omega
      exact K y (by rw [Int.toNat_of_nonneg hn.1] at hy; exact hy)
    · exfalso
      omega
  | succ d ih =>
    intro k y hy hik hk
    have hn := hok.n
    have hoy := hok.cor hy.cor
    have e1 : y 1 0 = x 1 0 := by rw [hy.1 1 (by decide) (by decide) (by decide)]
    have e15 := hy.1 15 (by decide) (by decide) (by decide)
    have i1 := hoy.i15 i (by omega) (by omega)
    have i2 := hoy.i15 (k : Int) (by omega) (by omega)
    have b1 := b01_or (p := y 15 i = -1)
    have b2 := b01_or (p := y 15 (k : Int) = -1)
    refine g_iload_n C (q := 2) d_S_takeGains_17 rfl rfl ?_
    refine g_aload_n C (q := 0) d_S_takeGains_18 rfl rfl ?_
    refine gG C (v := .ref (ad 1)) 0 0 u_S k_147 (cwo_0 _) rfl (by decide) rfl rfl d_S_takeGains_19 ?_
    refine gGN C (v := .int (iI (y 1 0))) 1 5 u_O kn_47 (cwo_1 _) rfl (by decide) rfl rfl d_S_takeGains_22 ?_
    refine g_icmp_ge C (tgt := 104) d_S_takeGains_25 rfl (by omega) (by omega) (fun h25_1 => ?_) (fun h25_1 => ?_)
    · exfalso
      omega
    · refine g_aload_n C (q := 0) d_S_takeGains_28 rfl rfl ?_
      refine gG C (v := .ref (ad 3)) 0 2 u_S k_149 (cwo_0 _) rfl (by decide) rfl rfl d_S_takeGains_29 ?_
      refine g_iload_n C (q := 1) d_S_takeGains_32 rfl rfl ?_
      refine gVN C (st := []) (m_B_isFree y i (by omega) (by omega)) k_175 kn_389 k_174 kp_1 k_5 ho_B_isFree rfl rfl ⟨by decide, by decide⟩ 3 (cwo_3 _) rfl rfl rfl (Nat.le_of_ble_eq_true rfl) d_S_takeGains_33 ⟨by decide, by decide⟩ (fun r w hq => ?_)
      obtain ⟨rfl, rfl⟩ := hq
      refine g_eq (ws' := cw ad cI cZ y) (lv' := [(0, .ref (ad 0)), (1, .int (iI i)), (2, .int (iI (k : Int)))]) (pc' := 36) (st' := [.int (iI (b01 ((y 15 i) = -1)))]) rfl rfl rfl rfl ?_
      refine g_if_eq C (tgt := 66) d_S_takeGains_36 rfl (by omega) (fun h36_2 => ?_) (fun h36_2 => ?_)
      · refine g_iconst C d_S_takeGains_66 ?_
        refine g_istore_n C (lv' := [(0, .ref (ad 0)), (1, .int (iI i)), (2, .int (iI (k : Int))), (3, .int (iI 0))]) d_S_takeGains_67 rfl (by decide) rfl rfl ?_
        refine g_aload_n C (q := 0) d_S_takeGains_68 rfl rfl ?_
        refine gG C (v := .ref (ad 4)) 0 3 u_S k_150 (cwo_0 _) rfl (by decide) rfl rfl d_S_takeGains_69 ?_
        refine g_iload_n C (q := 1) d_S_takeGains_72 rfl rfl ?_
        refine g_iload_n C (q := 2) d_S_takeGains_73 rfl rfl ?_
        refine g_iload_n C (q := 3) d_S_takeGains_74 rfl rfl ?_
        refine g_if_eq C (tgt := 94) d_S_takeGains_75 rfl (by omega) (fun h75_3 => ?_) (fun h75_3 => ?_)
        · refine g_iconst C d_S_takeGains_94 ?_
          refine gVN C (st := []) (m_M_putGain y i (k : Int) 0 (by omega) (by omega)) k_445 kn_442 k_444 kp_21 k_6 ho_M_putGain rfl rfl ⟨by decide, by decide⟩ 4 (cwo_4 _) rfl rfl rfl (Nat.le_of_ble_eq_true rfl) d_S_takeGains_95 ⟨by decide, by decide⟩ (fun r w hq => ?_)
          obtain ⟨rfl, rfl⟩ := hq
          refine g_eq (ws' := cw ad cI cZ (bu y 17 (updI (y 17) (i * 10 + (k : Int)) 0))) (lv' := [(0, .ref (ad 0)), (1, .int (iI i)), (2, .int (iI (k : Int))), (3, .int (iI 0))]) (pc' := 98) (st' := []) rfl rfl rfl rfl ?_
          have hgv : 0 = gn x i (k : Int) := by
            unfold gn
            first
              | (rw [if_pos (show x 15 i = -1 ∧ x 15 (k : Int) = -1 ∧ okP x i (k : Int) from ⟨Classical.byContradiction fun z => absurd (b01_f (p := y 15 i = -1) (by rw [e15]; exact z)) (by omega), Classical.byContradiction fun z => absurd (b01_f (p := y 15 (k : Int) = -1) (by rw [e15]; exact z)) (by omega), (okP_cor hy.cor i (k : Int)).mp (hiff56.mp (by omega))⟩), sv_cor (hsc56.cor.tr hy.cor)]; done)
              | (rw [if_neg (show ¬ (x 15 i = -1 ∧ x 15 (k : Int) = -1 ∧ okP x i (k : Int)) from fun z => absurd (hiff56.mpr ((okP_cor hy.cor i (k : Int)).mpr z.2.2)) (by omega))]; done)
              | (rw [if_neg (show ¬ (x 15 i = -1 ∧ x 15 (k : Int) = -1 ∧ okP x i (k : Int)) from fun z => absurd (b01_t (p := y 15 i = -1) (by rw [e15]; exact z.1)) (by omega))]; done)
              | (rw [if_neg (show ¬ (x 15 i = -1 ∧ x 15 (k : Int) = -1 ∧ okP x i (k : Int)) from fun z => absurd (b01_t (p := y 15 (k : Int) = -1) (by rw [e15]; exact z.2.1)) (by omega))]; done)
          refine g_lv (lv' := [(0, .ref (ad 0)), (1, .int (iI i)), (2, .int (iI (k : Int)))]) [0, 1, 2] rfl ?_
          refine g_iinc C (q := 2) (lv' := [(0, .ref (ad 0)), (1, .int (iI i)), (2, .int (iI ((k : Int) + 1)))]) d_S_takeGains_98 rfl (by decide) rfl rfl ?_
          refine g_goto C (tgt := 17) d_S_takeGains_101 rfl ?_
          exact ih (k + 1) _ (gok_step hy (scr.rf y) hgv hok (by omega) (by omega)) (by omega) (by omega)
        · exfalso
          omega
      · refine g_aload_n C (q := 0) d_S_takeGains_39 rfl rfl ?_
        refine gG C (v := .ref (ad 3)) 0 2 u_S k_149 (cwo_0 _) rfl (by decide) rfl rfl d_S_takeGains_40 ?_
        refine g_iload_n C (q := 2) d_S_takeGains_43 rfl rfl ?_
        refine gVN C (st := []) (m_B_isFree y (k : Int) (by omega) (by omega)) k_175 kn_389 k_174 kp_1 k_5 ho_B_isFree rfl rfl ⟨by decide, by decide⟩ 3 (cwo_3 _) rfl rfl rfl (Nat.le_of_ble_eq_true rfl) d_S_takeGains_44 ⟨by decide, by decide⟩ (fun r w hq => ?_)
        obtain ⟨rfl, rfl⟩ := hq
        refine g_eq (ws' := cw ad cI cZ y) (lv' := [(0, .ref (ad 0)), (1, .int (iI i)), (2, .int (iI (k : Int)))]) (pc' := 47) (st' := [.int (iI (b01 ((y 15 (k : Int)) = -1)))]) rfl rfl rfl rfl ?_
        refine g_if_eq C (tgt := 66) d_S_takeGains_47 rfl (by omega) (fun h47_4 => ?_) (fun h47_4 => ?_)
        · refine g_iconst C d_S_takeGains_66 ?_
          refine g_istore_n C (lv' := [(0, .ref (ad 0)), (1, .int (iI i)), (2, .int (iI (k : Int))), (3, .int (iI 0))]) d_S_takeGains_67 rfl (by decide) rfl rfl ?_
          refine g_aload_n C (q := 0) d_S_takeGains_68 rfl rfl ?_
          refine gG C (v := .ref (ad 4)) 0 3 u_S k_150 (cwo_0 _) rfl (by decide) rfl rfl d_S_takeGains_69 ?_
          refine g_iload_n C (q := 1) d_S_takeGains_72 rfl rfl ?_
          refine g_iload_n C (q := 2) d_S_takeGains_73 rfl rfl ?_
          refine g_iload_n C (q := 3) d_S_takeGains_74 rfl rfl ?_
          refine g_if_eq C (tgt := 94) d_S_takeGains_75 rfl (by omega) (fun h75_5 => ?_) (fun h75_5 => ?_)
          · refine g_iconst C d_S_takeGains_94 ?_
            refine gVN C (st := []) (m_M_putGain y i (k : Int) 0 (by omega) (by omega)) k_445 kn_442 k_444 kp_21 k_6 ho_M_putGain rfl rfl ⟨by decide, by decide⟩ 4 (cwo_4 _) rfl rfl rfl (Nat.le_of_ble_eq_true rfl) d_S_takeGains_95 ⟨by decide, by decide⟩ (fun r w hq => ?_)
            obtain ⟨rfl, rfl⟩ := hq
            refine g_eq (ws' := cw ad cI cZ (bu y 17 (updI (y 17) (i * 10 + (k : Int)) 0))) (lv' := [(0, .ref (ad 0)), (1, .int (iI i)), (2, .int (iI (k : Int))), (3, .int (iI 0))]) (pc' := 98) (st' := []) rfl rfl rfl rfl ?_
            have hgv : 0 = gn x i (k : Int) := by
              unfold gn
              first
                | (rw [if_pos (show x 15 i = -1 ∧ x 15 (k : Int) = -1 ∧ okP x i (k : Int) from ⟨Classical.byContradiction fun z => absurd (b01_f (p := y 15 i = -1) (by rw [e15]; exact z)) (by omega), Classical.byContradiction fun z => absurd (b01_f (p := y 15 (k : Int) = -1) (by rw [e15]; exact z)) (by omega), (okP_cor hy.cor i (k : Int)).mp (hiff56.mp (by omega))⟩), sv_cor (hsc56.cor.tr hy.cor)]; done)
                | (rw [if_neg (show ¬ (x 15 i = -1 ∧ x 15 (k : Int) = -1 ∧ okP x i (k : Int)) from fun z => absurd (hiff56.mpr ((okP_cor hy.cor i (k : Int)).mpr z.2.2)) (by omega))]; done)
                | (rw [if_neg (show ¬ (x 15 i = -1 ∧ x 15 (k : Int) = -1 ∧ okP x i (k : Int)) from fun z => absurd (b01_t (p := y 15 i = -1) (by rw [e15]; exact z.1)) (by omega))]; done)
                | (rw [if_neg (show ¬ (x 15 i = -1 ∧ x 15 (k : Int) = -1 ∧ okP x i (k : Int)) from fun z => absurd (b01_t (p := y 15 (k : Int) = -1) (by rw [e15]; exact z.2.1)) (by omega))]; done)
            refine g_lv (lv' := [(0, .ref (ad 0)), (1, .int (iI i)), (2, .int (iI (k : Int)))]) [0, 1, 2] rfl ?_
            refine g_iinc C (q := 2) (lv' := [(0, .ref (ad 0)), (1, .int (iI i)), (2, .int (iI ((k : Int) + 1)))]) d_S_takeGains_98 rfl (by decide) rfl rfl ?_
            refine g_goto C (tgt := 17) d_S_takeGains_101 rfl ?_
            exact ih (k + 1) _ (gok_step hy (scr.rf y) hgv hok (by omega) (by omega)) (by omega) (by omega)
          · exfalso
            omega
        · refine g_aload_n C (q := 0) d_S_takeGains_50 rfl rfl ?_
          refine gG C (v := .ref (ad 2)) 0 1 u_S k_148 (cwo_0 _) rfl (by decide) rfl rfl d_S_takeGains_51 ?_
          refine g_iload_n C (q := 1) d_S_takeGains_54 rfl rfl ?_
          refine g_iload_n C (q := 2) d_S_takeGains_55 rfl rfl ?_
          refine gVN C (st := []) (m_R_allowPair y i (k : Int) (by omega) (by omega) hoy.z hoy.wr hoy.sr hoy.r8 hoy.r6) k_360 kn_357 k_359 kp_12 k_4 ho_R_allowPair rfl rfl ⟨by decide, by decide⟩ 2 (cwo_2 _) rfl rfl rfl (Nat.le_of_ble_eq_true rfl) d_S_takeGains_56 ⟨by decide, by decide⟩ (fun r w hq => ?_)
          obtain ⟨u56, y56, rfl, hu56, hiff56, hsc56, rfl⟩ := hq
          refine g_eq (ws' := cw ad cI cZ y56) (lv' := [(0, .ref (ad 0)), (1, .int (iI i)), (2, .int (iI (k : Int)))]) (pc' := 59) (st' := [.int (iI u56)]) rfl rfl rfl rfl ?_
          refine g_if_eq C (tgt := 66) d_S_takeGains_59 rfl (by omega) (fun h59_6 => ?_) (fun h59_6 => ?_)
          · refine g_iconst C d_S_takeGains_66 ?_
            refine g_istore_n C (lv' := [(0, .ref (ad 0)), (1, .int (iI i)), (2, .int (iI (k : Int))), (3, .int (iI 0))]) d_S_takeGains_67 rfl (by decide) rfl rfl ?_
            refine g_aload_n C (q := 0) d_S_takeGains_68 rfl rfl ?_
            refine gG C (v := .ref (ad 4)) 0 3 u_S k_150 (cwo_0 _) rfl (by decide) rfl rfl d_S_takeGains_69 ?_
            refine g_iload_n C (q := 1) d_S_takeGains_72 rfl rfl ?_
            refine g_iload_n C (q := 2) d_S_takeGains_73 rfl rfl ?_
            refine g_iload_n C (q := 3) d_S_takeGains_74 rfl rfl ?_
            refine g_if_eq C (tgt := 94) d_S_takeGains_75 rfl (by omega) (fun h75_7 => ?_) (fun h75_7 => ?_)
            · refine g_iconst C d_S_takeGains_94 ?_
              refine gVN C (st := []) (m_M_putGain y56 i (k : Int) 0 (by omega) (by omega)) k_445 kn_442 k_444 kp_21 k_6 ho_M_putGain rfl rfl ⟨by decide, by decide⟩ 4 (cwo_4 _) rfl rfl rfl (Nat.le_of_ble_eq_true rfl) d_S_takeGains_95 ⟨by decide, by decide⟩ (fun r w hq => ?_)
              obtain ⟨rfl, rfl⟩ := hq
              refine g_eq (ws' := cw ad cI cZ (bu y56 17 (updI (y56 17) (i * 10 + (k : Int)) 0))) (lv' := [(0, .ref (ad 0)), (1, .int (iI i)), (2, .int (iI (k : Int))), (3, .int (iI 0))]) (pc' := 98) (st' := []) rfl rfl rfl rfl ?_
              have hgv : 0 = gn x i (k : Int) := by
                unfold gn
                first
                  | (rw [if_pos (show x 15 i = -1 ∧ x 15 (k : Int) = -1 ∧ okP x i (k : Int) from ⟨Classical.byContradiction fun z => absurd (b01_f (p := y 15 i = -1) (by rw [e15]; exact z)) (by omega), Classical.byContradiction fun z => absurd (b01_f (p := y 15 (k : Int) = -1) (by rw [e15]; exact z)) (by omega), (okP_cor hy.cor i (k : Int)).mp (hiff56.mp (by omega))⟩), sv_cor (hsc56.cor.tr hy.cor)]; done)
                  | (rw [if_neg (show ¬ (x 15 i = -1 ∧ x 15 (k : Int) = -1 ∧ okP x i (k : Int)) from fun z => absurd (hiff56.mpr ((okP_cor hy.cor i (k : Int)).mpr z.2.2)) (by omega))]; done)
                  | (rw [if_neg (show ¬ (x 15 i = -1 ∧ x 15 (k : Int) = -1 ∧ okP x i (k : Int)) from fun z => absurd (b01_t (p := y 15 i = -1) (by rw [e15]; exact z.1)) (by omega))]; done)
                  | (rw [if_neg (show ¬ (x 15 i = -1 ∧ x 15 (k : Int) = -1 ∧ okP x i (k : Int)) from fun z => absurd (b01_t (p := y 15 (k : Int) = -1) (by rw [e15]; exact z.2.1)) (by omega))]; done)
              refine g_lv (lv' := [(0, .ref (ad 0)), (1, .int (iI i)), (2, .int (iI (k : Int)))]) [0, 1, 2] rfl ?_
              refine g_iinc C (q := 2) (lv' := [(0, .ref (ad 0)), (1, .int (iI i)), (2, .int (iI ((k : Int) + 1)))]) d_S_takeGains_98 rfl (by decide) rfl rfl ?_
              refine g_goto C (tgt := 17) d_S_takeGains_101 rfl ?_
              exact ih (k + 1) _ (gok_step hy hsc56 hgv hok (by omega) (by omega)) (by omega) (by omega)
            · exfalso
              omega
          · refine g_iconst C d_S_takeGains_62 ?_
            refine g_goto C (tgt := 67) d_S_takeGains_63 rfl ?_
            refine g_istore_n C (lv' := [(0, .ref (ad 0)), (1, .int (iI i)), (2, .int (iI (k : Int))), (3, .int (iI 1))]) d_S_takeGains_67 rfl (by decide) rfl rfl ?_
            refine g_aload_n C (q := 0) d_S_takeGains_68 rfl rfl ?_
            refine gG C (v := .ref (ad 4)) 0 3 u_S k_150 (cwo_0 _) rfl (by decide) rfl rfl d_S_takeGains_69 ?_
            refine g_iload_n C (q := 1) d_S_takeGains_72 rfl rfl ?_
            refine g_iload_n C (q := 2) d_S_takeGains_73 rfl rfl ?_
            refine g_iload_n C (q := 3) d_S_takeGains_74 rfl rfl ?_
            refine g_if_eq C (tgt := 94) d_S_takeGains_75 rfl (by omega) (fun h75_8 => ?_) (fun h75_8 => ?_)
            · exfalso
              omega
            · refine g_iconst C d_S_takeGains_78 ?_
              refine g_aload_n C (q := 0) d_S_takeGains_79 rfl rfl ?_
              refine gG C (v := .ref (ad 1)) 0 0 u_S k_147 (cwo_0 _) rfl (by decide) rfl rfl d_S_takeGains_80 ?_
              refine g_iload_n C (q := 1) d_S_takeGains_83 rfl rfl ?_
              refine g_iload_n C (q := 2) d_S_takeGains_84 rfl rfl ?_
              refine gVN C (st := [.int (iI 0), .int (iI (k : Int)), .int (iI i), .ref (ad 4)]) (m_O_savingOf y56 i (k : Int) (by omega) (by omega) (by have := (hoy.cor hsc56.cor).r9 (i * 10 + (k : Int)) (by omega) (by omega); omega)) k_187 kn_337 k_186 kp_4 k_2 ho_O_savingOf rfl rfl ⟨by decide, by decide⟩ 1 (cwo_1 _) rfl rfl rfl (Nat.le_of_ble_eq_true rfl) d_S_takeGains_85 ⟨by decide, by decide⟩ (fun r w hq => ?_)
              obtain ⟨rfl, rfl⟩ := hq
              refine g_eq (ws' := cw ad cI cZ y56) (lv' := [(0, .ref (ad 0)), (1, .int (iI i)), (2, .int (iI (k : Int))), (3, .int (iI 1))]) (pc' := 88) (st' := [.int (iI (sv y56 i (k : Int))), .int (iI 0), .int (iI (k : Int)), .int (iI i), .ref (ad 4)]) rfl rfl rfl rfl ?_
              have s1 := sv_bd (hoy.cor hsc56.cor) (a := i) (b := (k : Int)) (by omega) (by omega)
              refine g_mmax C (by omega) (by omega) (gws_in mx_link_S) (gws_in mx_stat) (gws_in mx_ini) (gws_in mx_code) (by decide) (Nat.le_of_ble_eq_true rfl) (by decide) (by decide) d_S_takeGains_88 ?_
              refine g_goto C (tgt := 95) d_S_takeGains_91 rfl ?_
              refine gVN C (st := []) (m_M_putGain y56 i (k : Int) (if 0 < (sv y56 i (k : Int)) then (sv y56 i (k : Int)) else 0) (by omega) (by omega)) k_445 kn_442 k_444 kp_21 k_6 ho_M_putGain rfl rfl ⟨by decide, by decide⟩ 4 (cwo_4 _) rfl rfl rfl (Nat.le_of_ble_eq_true rfl) d_S_takeGains_95 ⟨by decide, by decide⟩ (fun r w hq => ?_)
              obtain ⟨rfl, rfl⟩ := hq
              refine g_eq (ws' := cw ad cI cZ (bu y56 17 (updI (y56 17) (i * 10 + (k : Int)) (if 0 < (sv y56 i (k : Int)) then (sv y56 i (k : Int)) else 0)))) (lv' := [(0, .ref (ad 0)), (1, .int (iI i)), (2, .int (iI (k : Int))), (3, .int (iI 1))]) (pc' := 98) (st' := []) rfl rfl rfl rfl ?_
              have hgv : (if 0 < (sv y56 i (k : Int)) then (sv y56 i (k : Int)) else 0) = gn x i (k : Int) := by
                unfold gn
                first
                  | (rw [if_pos (show x 15 i = -1 ∧ x 15 (k : Int) = -1 ∧ okP x i (k : Int) from ⟨Classical.byContradiction fun z => absurd (b01_f (p := y 15 i = -1) (by rw [e15]; exact z)) (by omega), Classical.byContradiction fun z => absurd (b01_f (p := y 15 (k : Int) = -1) (by rw [e15]; exact z)) (by omega), (okP_cor hy.cor i (k : Int)).mp (hiff56.mp (by omega))⟩), sv_cor (hsc56.cor.tr hy.cor)]; done)
                  | (rw [if_neg (show ¬ (x 15 i = -1 ∧ x 15 (k : Int) = -1 ∧ okP x i (k : Int)) from fun z => absurd (hiff56.mpr ((okP_cor hy.cor i (k : Int)).mpr z.2.2)) (by omega))]; done)
                  | (rw [if_neg (show ¬ (x 15 i = -1 ∧ x 15 (k : Int) = -1 ∧ okP x i (k : Int)) from fun z => absurd (b01_t (p := y 15 i = -1) (by rw [e15]; exact z.1)) (by omega))]; done)
                  | (rw [if_neg (show ¬ (x 15 i = -1 ∧ x 15 (k : Int) = -1 ∧ okP x i (k : Int)) from fun z => absurd (b01_t (p := y 15 (k : Int) = -1) (by rw [e15]; exact z.2.1)) (by omega))]; done)
              refine g_lv (lv' := [(0, .ref (ad 0)), (1, .int (iI i)), (2, .int (iI (k : Int)))]) [0, 1, 2] rfl ?_
              refine g_iinc C (q := 2) (lv' := [(0, .ref (ad 0)), (1, .int (iI i)), (2, .int (iI ((k : Int) + 1)))]) d_S_takeGains_98 rfl (by decide) rfl rfl ?_
              refine g_goto C (tgt := 17) d_S_takeGains_101 rfl ?_
              exact ih (k + 1) _ (gok_step hy hsc56 hgv hok (by omega) (by omega)) (by omega) (by omega)
set_option maxRecDepth 100000 in
set_option maxHeartbeats 4000000 in
theorem lp_S_gains1 {p : Program} {l : Launch} {e : Env} {s : State} {m : MethodId} {args : Array Value} {below : List Frame} {meth : Method} {c : Code} {D : va_G} {cI cZ cJ : ClassId} {base : Nat} {ad : Nat → Nat} {A : Nat → Prop} {Q : State → Prop} (C : gC p s m args meth c D cls9 (tyl cI cZ cJ) A c_S_takeGains 4 "BatchSavings" (wz y_S_takeGains c_S_takeGains 4 none) base (zz base)) (x : Bk) (hok : Ok x)
    (K : ∀ y : Bk, gok y x (x 1 0) (x 1 0 + 1) → gW p l e ({ frames := 4, cells := 0, slots := 0, locals := 89 } : Room) s m args below meth c D cls9 A 4 0 0 Q (cw ad cI cZ y) [(0, .ref (ad 0)), (1, .int (iI ((x 1 0).toNat : Int)))] 110 []) : ∀ (d k : Nat), ∀ (y : Bk), gok y x (k : Int) ((k : Int) + 1) → (k : Int) + (d : Int) = x 1 0 → gW p l e ({ frames := 4, cells := 0, slots := 0, locals := 89 } : Room) s m args below meth c D cls9 A 4 0 0 Q (cw ad cI cZ y) [(0, .ref (ad 0)), (1, .int (iI (k : Int)))] 2 [] := by
  intro d
  induction d with
  | zero =>
    intro k y hy hk
    have hn := hok.n
    have hoy := hok.cor hy.cor
    have e1 : y 1 0 = x 1 0 := by rw [hy.1 1 (by decide) (by decide) (by decide)]
    have e15 := hy.1 15 (by decide) (by decide) (by decide)
    refine g_iload_n C (q := 1) d_S_takeGains_2 rfl rfl ?_
    refine g_aload_n C (q := 0) d_S_takeGains_3 rfl rfl ?_
    refine gG C (v := .ref (ad 1)) 0 0 u_S k_147 (cwo_0 _) rfl (by decide) rfl rfl d_S_takeGains_4 ?_
    refine gGN C (v := .int (iI (y 1 0))) 1 5 u_O kn_47 (cwo_1 _) rfl (by decide) rfl rfl d_S_takeGains_7 ?_
    refine g_icmp_ge C (tgt := 110) d_S_takeGains_10 rfl (by omega) (by omega) (fun h10_1 => ?_) (fun h10_1 => ?_)
    · obtain rfl : k = (x 1 0).toNat := by omega
      exact K y (by rw [Int.toNat_of_nonneg hn.1] at hy; exact hy)
    · exfalso
      omega
  | succ d ih =>
    intro k y hy hk
    have hn := hok.n
    have hoy := hok.cor hy.cor
    have e1 : y 1 0 = x 1 0 := by rw [hy.1 1 (by decide) (by decide) (by decide)]
    have e15 := hy.1 15 (by decide) (by decide) (by decide)
    refine g_iload_n C (q := 1) d_S_takeGains_2 rfl rfl ?_
    refine g_aload_n C (q := 0) d_S_takeGains_3 rfl rfl ?_
    refine gG C (v := .ref (ad 1)) 0 0 u_S k_147 (cwo_0 _) rfl (by decide) rfl rfl d_S_takeGains_4 ?_
    refine gGN C (v := .int (iI (y 1 0))) 1 5 u_O kn_47 (cwo_1 _) rfl (by decide) rfl rfl d_S_takeGains_7 ?_
    refine g_icmp_ge C (tgt := 110) d_S_takeGains_10 rfl (by omega) (by omega) (fun h10_1 => ?_) (fun h10_1 => ?_)
    · exfalso
      omega
    · refine g_iload_n C (q := 1) d_S_takeGains_13 rfl rfl ?_
      refine g_iconst C d_S_takeGains_14 ?_
      refine g_iadd C d_S_takeGains_15 ?_
      refine g_istore_n C (lv' := [(0, .ref (ad 0)), (1, .int (iI (k : Int))), (2, .int (iI ((k : Int) + 1)))]) d_S_takeGains_16 rfl (by decide) rfl rfl ?_
      refine g_lve (lv' := [(0, .ref (ad 0)), (1, .int (iI (k : Int))), (2, .int (iI ((k + 1 : Nat) : Int)))]) rfl ?_
      refine lp_S_gains2 C x (k : Int) (by omega) hok (fun y2 hy2 => ?_) ((x 1 0).toNat - (k + 1)) (k + 1) y hy (by omega) (by omega)
      refine g_iinc C (q := 1) (lv' := [(0, .ref (ad 0)), (1, .int (iI ((k : Int) + 1))), (2, .int (iI ((x 1 0).toNat : Int)))]) d_S_takeGains_104 rfl (by decide) rfl rfl ?_
      refine g_goto C (tgt := 2) d_S_takeGains_107 rfl ?_
      refine g_lv (lv' := [(0, .ref (ad 0)), (1, .int (iI ((k : Int) + 1)))]) [0, 1] rfl ?_
      exact ih (k + 1) y2 (gok_next hy2) (by omega)
set_option maxRecDepth 100000 in
set_option maxHeartbeats 4000000 in
theorem m_S_takeGains {l : Launch} {D : va_G} {cI cZ cJ : ClassId} {base : Nat} {ad : Nat → Nat} (x : Bk) (hok : Ok x) (hg : rng x 17 100 0 20000) : Cn l D cls9 (tyl cI cZ cJ) base (zz base) y_S_takeGains (wz y_S_takeGains c_S_takeGains 4 none) ({ frames := 4, cells := 0, slots := 0, locals := 89 } : Room) [.ref (ad 0)] (cw ad cI cZ x) (fun r w => ∃ y : Bk, r = none ∧ gok y x (x 1 0) (x 1 0 + 1) ∧ w = cw ad cI cZ y) 0 0 := by
  refine Cn_of (zzG base) (by decide) rfl (Nat.le_of_ble_eq_true rfl) ?_
  intro p e s m args below meth c A C hr hA hnm
  have C : gC p s m args meth c D cls9 (tyl cI cZ cJ) A c_S_takeGains 4 "BatchSavings" (wz y_S_takeGains c_S_takeGains 4 none) base (zz base) := C
  refine g_lve (lv' := [(0, .ref (ad 0))]) rfl ?_
  refine g_iconst C d_S_takeGains_0 ?_
  refine g_istore_n C (lv' := [(0, .ref (ad 0)), (1, .int (iI 0))]) d_S_takeGains_1 rfl (by decide) rfl rfl ?_
  have hn := hok.n
  refine lp_S_gains1 C x hok (fun y hy => ?_) (x 1 0).toNat 0 x ⟨fun _ _ _ _ => rfl, ⟨rfl, rfl⟩, fun a b h0 h1 h2 h3 => by exfalso; omega, hg⟩ (by omega)
  exact g_vret C hA hr d_S_takeGains_110 (by decide) (by decide) ⟨y, rfl, hy, rfl⟩
/-- the set as it is filled with a batch's orders -/
def stf (r : Int → Int) (b : Int) (f : Int → Int) : Nat → Int → Int
  | 0 => f
  | k + 1 => updI (stf r b f k) (k : Int) (r (b * 4 + (k : Int)))
theorem stf_at (r : Int → Int) (b : Int) (f : Int → Int) (k : Nat) : ∀ i, 0 ≤ i → i < (k : Int) → stf r b f k i = r (b * 4 + i) := by
  induction k with
  | zero => intro i h0 h1; exfalso; omega
  | succ k ih =>
    intro i h0 h1
    show updI _ _ _ i = _
    by_cases h : i = (k : Int)
    · rw [h, updI_s]
    · rw [updI_n h]; exact ih i h0 (by omega)
/-- a batch's orders, and one more -/
def bat1 (x : Bk) (a b : Int) (i : Int) : Int := if i < x 14 b then x 13 (b * 4 + i) else a
def mayC (x : Bk) (a b : Int) : Prop := okS x (bat1 x a b) (x 14 b + 1) ∧ 0 ≤ swl x a b
set_option maxRecDepth 100000 in
set_option maxHeartbeats 4000000 in
theorem lp_S_suits {p : Program} {l : Launch} {e : Env} {s : State} {m : MethodId} {args : Array Value} {below : List Frame} {meth : Method} {c : Code} {D : va_G} {cI cZ cJ : ClassId} {base : Nat} {ad : Nat → Nat} {A : Nat → Prop} {Q : State → Prop} (C : gC p s m args meth c D cls9 (tyl cI cZ cJ) A c_S_suits 4 "BatchSavings" (wz y_S_suits c_S_suits 4 (some FieldType.boolean)) base (zz base)) (x : Bk) (a b : Int) (ha : 0 ≤ a ∧ a < 10) (hb : 0 ≤ b ∧ b < 10) (hok : Ok x)
    (K : gW p l e ({ frames := 3, cells := 0, slots := 0, locals := 67 } : Room) s m args below meth c D cls9 A 4 0 0 Q (cw ad cI cZ (bu (bu x 12 (stf (x 13) b (x 12) ((x 14 b).toNat))) 2 (updI (x 2) 0 ((x 14 b).toNat : Int)))) [(0, .ref (ad 0)), (1, .int (iI a)), (2, .int (iI b)), (3, .int (iI ((x 14 b).toNat : Int)))] 44 []) : ∀ (d k : Nat), (k : Int) + (d : Int) = x 14 b → gW p l e ({ frames := 3, cells := 0, slots := 0, locals := 67 } : Room) s m args below meth c D cls9 A 4 0 0 Q (cw ad cI cZ (bu (bu x 12 (stf (x 13) b (x 12) k)) 2 (updI (x 2) 0 (k : Int)))) [(0, .ref (ad 0)), (1, .int (iI a)), (2, .int (iI b)), (3, .int (iI (k : Int)))] 9 [] := by
  intro d
  induction d with
  | zero =>
    intro k hk
    have hl := hok.r14 b hb.1 hb.2
    refine g_iload_n C (q := 3) d_S_suits_9 rfl rfl ?_
    refine g_aload_n C (q := 0) d_S_suits_10 rfl rfl ?_
    refine gG C (v := .ref (ad 3)) 0 2 u_S k_149 (cwo_0 _) rfl (by decide) rfl rfl d_S_suits_11 ?_
    refine gGN C (v := .ref (ad 14)) 3 2 u_B kn_106 (cwo_3 _) rfl (by decide) rfl rfl d_S_suits_14 ?_
    refine g_iload_n C (q := 2) d_S_suits_17 rfl rfl ?_
    refine g_iald C 14 0 (cwa_14 _) rfl (by decide) (by omega) d_S_suits_18 ?_
    refine g_st (st' := [.int (iI (x 14 b)), .int (iI (k : Int))]) rfl ?_
    refine g_icmp_ge C (tgt := 44) d_S_suits_19 rfl (by omega) (by omega) (fun h19_1 => ?_) (fun h19_1 => ?_)
    · obtain rfl : k = (x 14 b).toNat := by omega
      exact K
    · exfalso
      omega
  | succ d ih =>
    intro k hk
    have hl := hok.r14 b hb.1 hb.2
    refine g_iload_n C (q := 3) d_S_suits_9 rfl rfl ?_
    refine g_aload_n C (q := 0) d_S_suits_10 rfl rfl ?_
    refine gG C (v := .ref (ad 3)) 0 2 u_S k_149 (cwo_0 _) rfl (by decide) rfl rfl d_S_suits_11 ?_
    refine gGN C (v := .ref (ad 14)) 3 2 u_B kn_106 (cwo_3 _) rfl (by decide) rfl rfl d_S_suits_14 ?_
    refine g_iload_n C (q := 2) d_S_suits_17 rfl rfl ?_
    refine g_iald C 14 0 (cwa_14 _) rfl (by decide) (by omega) d_S_suits_18 ?_
    refine g_st (st' := [.int (iI (x 14 b)), .int (iI (k : Int))]) rfl ?_
    refine g_icmp_ge C (tgt := 44) d_S_suits_19 rfl (by omega) (by omega) (fun h19_1 => ?_) (fun h19_1 => ?_)
    · exfalso
      omega
    · refine g_aload_n C (q := 0) d_S_suits_22 rfl rfl ?_
      refine gG C (v := .ref (ad 2)) 0 1 u_S k_148 (cwo_0 _) rfl (by decide) rfl rfl d_S_suits_23 ?_
      refine g_aload_n C (q := 0) d_S_suits_26 rfl rfl ?_
      refine gG C (v := .ref (ad 3)) 0 2 u_S k_149 (cwo_0 _) rfl (by decide) rfl rfl d_S_suits_27 ?_
      refine g_iload_n C (q := 2) d_S_suits_30 rfl rfl ?_
      refine g_iload_n C (q := 3) d_S_suits_31 rfl rfl ?_
      refine gVN C (st := [.ref (ad 2)]) (m_B_orderAt (bu (bu x 12 (stf (x 13) b (x 12) k)) 2 (updI (x 2) 0 (k : Int))) b (k : Int) (by omega)) k_541 kn_538 k_540 kp_37 k_5 ho_B_orderAt rfl rfl ⟨by decide, by decide⟩ 3 (cwo_3 _) rfl rfl rfl (Nat.le_of_ble_eq_true rfl) d_S_suits_32 ⟨by decide, by decide⟩ (fun r w hq => ?_)
      obtain ⟨rfl, rfl⟩ := hq
      refine g_eq (ws' := cw ad cI cZ (bu (bu x 12 (stf (x 13) b (x 12) k)) 2 (updI (x 2) 0 (k : Int)))) (lv' := [(0, .ref (ad 0)), (1, .int (iI a)), (2, .int (iI b)), (3, .int (iI (k : Int)))]) (pc' := 35) (st' := [.int (iI (x 13 (b * 4 + (k : Int)))), .ref (ad 2)]) rfl rfl rfl rfl ?_
      refine gVN C (st := []) (m_R_addToSet (bu (bu x 12 (stf (x 13) b (x 12) k)) 2 (updI (x 2) 0 (k : Int))) (x 13 (b * 4 + (k : Int))) (show 0 ≤ (k : Int) ∧ (k : Int) < 5 by omega)) k_368 kn_542 k_367 kp_14 k_4 ho_R_addToSet rfl rfl ⟨by decide, by decide⟩ 2 (cwo_2 _) rfl rfl rfl (Nat.le_of_ble_eq_true rfl) d_S_suits_35 ⟨by decide, by decide⟩ (fun r w hq => ?_)
      obtain ⟨rfl, rfl⟩ := hq
      refine g_eq (ws' := cw ad cI cZ (bu (bu (bu (bu x 12 (stf (x 13) b (x 12) k)) 2 (updI (x 2) 0 (k : Int))) 12 (updI (stf (x 13) b (x 12) k) (k : Int) (x 13 (b * 4 + (k : Int))))) 2 (updI (updI (x 2) 0 (k : Int)) 0 ((k : Int) + 1)))) (lv' := [(0, .ref (ad 0)), (1, .int (iI a)), (2, .int (iI b)), (3, .int (iI (k : Int)))]) (pc' := 38) (st' := []) rfl rfl rfl rfl ?_
      refine g_iinc C (q := 3) (lv' := [(0, .ref (ad 0)), (1, .int (iI a)), (2, .int (iI b)), (3, .int (iI ((k : Int) + 1)))]) d_S_suits_38 rfl (by decide) rfl rfl ?_
      refine g_goto C (tgt := 9) d_S_suits_41 rfl ?_
      exact ih (k + 1) (by omega)
set_option maxRecDepth 100000 in
set_option maxHeartbeats 4000000 in
theorem m_S_suits {l : Launch} {D : va_G} {cI cZ cJ : ClassId} {base : Nat} {ad : Nat → Nat} (x : Bk) (a b : Int) (ha : 0 ≤ a ∧ a < 10) (hb : 0 ≤ b ∧ b < 10) (hok : Ok x) : Cn l D cls9 (tyl cI cZ cJ) base (zz base) y_S_suits (wz y_S_suits c_S_suits 4 (some FieldType.boolean)) ({ frames := 3, cells := 0, slots := 0, locals := 67 } : Room) [.ref (ad 0), .int (iI a), .int (iI b)] (cw ad cI cZ x) (fun r w => ∃ (u : Int) (y : Bk), r = some u ∧ (u = 0 ∨ u = 1) ∧ (u = 1 ↔ mayC x a b) ∧ scr y x ∧ w = cw ad cI cZ y) 0 0 := by
  refine Cn_of (zzG base) (by decide) rfl (Nat.le_of_ble_eq_true rfl) ?_
  intro p e s m args below meth c A C hr hA hnm
  have C : gC p s m args meth c D cls9 (tyl cI cZ cJ) A c_S_suits 4 "BatchSavings" (wz y_S_suits c_S_suits 4 (some FieldType.boolean)) base (zz base) := C
  refine g_lve (lv' := [(0, .ref (ad 0)), (1, .int (iI a)), (2, .int (iI b))]) rfl ?_
  refine g_aload_n C (q := 0) d_S_suits_0 rfl rfl ?_
  refine gG C (v := .ref (ad 2)) 0 1 u_S k_148 (cwo_0 _) rfl (by decide) rfl rfl d_S_suits_1 ?_
  refine gVN C (st := []) (m_R_startSet x) k_364 kn_537 k_363 kp_13 k_4 ho_R_startSet rfl rfl ⟨by decide, by decide⟩ 2 (cwo_2 _) rfl rfl rfl (Nat.le_of_ble_eq_true rfl) d_S_suits_4 ⟨by decide, by decide⟩ (fun r w hq => ?_)
  obtain ⟨rfl, rfl⟩ := hq
  refine g_eq (ws' := cw ad cI cZ (bu x 2 (updI (x 2) 0 0))) (lv' := [(0, .ref (ad 0)), (1, .int (iI a)), (2, .int (iI b))]) (pc' := 7) (st' := []) rfl rfl rfl rfl ?_
  refine g_iconst C d_S_suits_7 ?_
  refine g_istore_n C (lv' := [(0, .ref (ad 0)), (1, .int (iI a)), (2, .int (iI b)), (3, .int (iI 0))]) d_S_suits_8 rfl (by decide) rfl rfl ?_
  have hl := hok.r14 b hb.1 hb.2
  refine g_eq (ws' := cw ad cI cZ (bu (bu x 12 (stf (x 13) b (x 12) (0 : Nat))) 2 (updI (x 2) 0 ((0 : Nat) : Int)))) (lv' := [(0, .ref (ad 0)), (1, .int (iI a)), (2, .int (iI b)), (3, .int (iI ((0 : Nat) : Int)))]) (pc' := 9) (st' := []) rfl rfl rfl rfl ?_
  refine lp_S_suits C x a b ha hb hok ?_ (x 14 b).toNat 0 (by omega)
  have hset : ∀ i, 0 ≤ i → i < ((x 14 b).toNat : Int) + 1 → 0 ≤ (updI (stf (x 13) b (x 12) (x 14 b).toNat) ((x 14 b).toNat : Int) a) i ∧ (updI (stf (x 13) b (x 12) (x 14 b).toNat) ((x 14 b).toNat : Int) a) i < 10 := by
    intro i h0 h1
    by_cases h : i = ((x 14 b).toNat : Int)
    · rw [h, updI_s]; exact ha
    · rw [updI_n h, stf_at _ _ _ _ i h0 (by omega)]
      exact hok.l13 _ (by omega) (by omega)
  have hsc : scr (bu (bu (bu (bu x 12 (stf (x 13) b (x 12) ((x 14 b).toNat))) 2 (updI (x 2) 0 ((x 14 b).toNat : Int))) 12 (updI (stf (x 13) b (x 12) ((x 14 b).toNat)) ((x 14 b).toNat : Int) a)) 2 (updI (updI (x 2) 0 ((x 14 b).toNat : Int)) 0 (((x 14 b).toNat : Int) + 1))) x := ⟨fun k h1 h2 => by unfold bu; simp [h1, h2], rfl, rfl⟩
  have hfe : ∀ i, 0 ≤ i → i < x 14 b + 1 → (updI (stf (x 13) b (x 12) (x 14 b).toNat) ((x 14 b).toNat : Int) a) i = bat1 x a b i := by
    intro i h0 h1
    unfold bat1
    by_cases h : i = ((x 14 b).toNat : Int)
    · rw [h, updI_s, if_neg (by omega)]
    · rw [updI_n h, stf_at _ _ _ _ i h0 (by omega), if_pos (by omega)]
  refine g_aload_n C (q := 0) d_S_suits_44 rfl rfl ?_
  refine gG C (v := .ref (ad 2)) 0 1 u_S k_148 (cwo_0 _) rfl (by decide) rfl rfl d_S_suits_45 ?_
  refine g_iload_n C (q := 1) d_S_suits_48 rfl rfl ?_
  refine gVN C (st := []) (m_R_addToSet (bu (bu x 12 (stf (x 13) b (x 12) ((x 14 b).toNat))) 2 (updI (x 2) 0 ((x 14 b).toNat : Int))) a (show 0 ≤ ((x 14 b).toNat : Int) ∧ ((x 14 b).toNat : Int) < 5 by omega)) k_368 kn_542 k_367 kp_14 k_4 ho_R_addToSet rfl rfl ⟨by decide, by decide⟩ 2 (cwo_2 _) rfl rfl rfl (Nat.le_of_ble_eq_true rfl) d_S_suits_49 ⟨by decide, by decide⟩ (fun r w hq => ?_)
  obtain ⟨rfl, rfl⟩ := hq
  refine g_eq (ws' := cw ad cI cZ (bu (bu (bu (bu x 12 (stf (x 13) b (x 12) ((x 14 b).toNat))) 2 (updI (x 2) 0 ((x 14 b).toNat : Int))) 12 (updI (stf (x 13) b (x 12) ((x 14 b).toNat)) ((x 14 b).toNat : Int) a)) 2 (updI (updI (x 2) 0 ((x 14 b).toNat : Int)) 0 (((x 14 b).toNat : Int) + 1)))) (lv' := [(0, .ref (ad 0)), (1, .int (iI a)), (2, .int (iI b)), (3, .int (iI ((x 14 b).toNat : Int)))]) (pc' := 52) (st' := []) rfl rfl rfl rfl ?_
  refine g_aload_n C (q := 0) d_S_suits_52 rfl rfl ?_
  refine gG C (v := .ref (ad 2)) 0 1 u_S k_148 (cwo_0 _) rfl (by decide) rfl rfl d_S_suits_53 ?_
  refine gVN C (st := []) (m_R_allowSet (bu (bu (bu (bu x 12 (stf (x 13) b (x 12) ((x 14 b).toNat))) 2 (updI (x 2) 0 ((x 14 b).toNat : Int))) 12 (updI (stf (x 13) b (x 12) ((x 14 b).toNat)) ((x 14 b).toNat : Int) a)) 2 (updI (updI (x 2) 0 ((x 14 b).toNat : Int)) 0 (((x 14 b).toNat : Int) + 1))) hok.z (show 0 ≤ ((x 14 b).toNat : Int) + 1 ∧ ((x 14 b).toNat : Int) + 1 ≤ 5 by omega) hset hok.wr hok.sr hok.r8 hok.r6) k_372 kn_543 k_371 kp_15 k_4 ho_R_allowSet rfl rfl ⟨by decide, by decide⟩ 2 (cwo_2 _) rfl rfl rfl (Nat.le_of_ble_eq_true rfl) d_S_suits_56 ⟨by decide, by decide⟩ (fun r w hq => ?_)
  obtain ⟨u56, rfl, hu56, hiff56, rfl⟩ := hq
  refine g_eq (ws' := cw ad cI cZ (bu (bu (bu (bu x 12 (stf (x 13) b (x 12) ((x 14 b).toNat))) 2 (updI (x 2) 0 ((x 14 b).toNat : Int))) 12 (updI (stf (x 13) b (x 12) ((x 14 b).toNat)) ((x 14 b).toNat : Int) a)) 2 (updI (updI (x 2) 0 ((x 14 b).toNat : Int)) 0 (((x 14 b).toNat : Int) + 1)))) (lv' := [(0, .ref (ad 0)), (1, .int (iI a)), (2, .int (iI b)), (3, .int (iI ((x 14 b).toNat : Int)))]) (pc' := 59) (st' := [.int (iI u56)]) rfl rfl rfl rfl ?_
  have hL : ((x 14 b).toNat : Int) + 1 = x 14 b + 1 := by omega
  have hiff56 : u56 = 1 ↔ okS (bu (bu (bu (bu x 12 (stf (x 13) b (x 12) ((x 14 b).toNat))) 2 (updI (x 2) 0 ((x 14 b).toNat : Int))) 12 (updI (stf (x 13) b (x 12) ((x 14 b).toNat)) ((x 14 b).toNat : Int) a)) 2 (updI (updI (x 2) 0 ((x 14 b).toNat : Int)) 0 (((x 14 b).toNat : Int) + 1))) (updI (stf (x 13) b (x 12) (x 14 b).toNat) ((x 14 b).toNat : Int) a) (x 14 b + 1) := by rw [← hL]; exact hiff56
  refine g_if_eq C (tgt := 78) d_S_suits_59 rfl (by omega) (fun h59_1 => ?_) (fun h59_1 => ?_)
  · refine g_iconst C d_S_suits_78 ?_
    refine g_zret C hA hr d_S_suits_79 (by decide) (by decide) (by omega) ⟨_, _, rfl, by omega, ⟨fun q => ?_, fun q => ?_⟩, hsc, rfl⟩
    · first
        | exact ⟨(okS_congr hsc hfe).mp (hiff56.mp (by omega)), by assumption⟩
        | (exfalso; omega)
    · first
        | rfl
        | (exfalso; obtain ⟨qa, qb⟩ := q; omega)
        | (exfalso; obtain ⟨qa, qb⟩ := q; have q1 := hiff56.mpr ((okS_congr hsc hfe).mpr qa); omega)
  · refine g_aload_n C (q := 0) d_S_suits_62 rfl rfl ?_
    refine gG C (v := .ref (ad 3)) 0 2 u_S k_149 (cwo_0 _) rfl (by decide) rfl rfl d_S_suits_63 ?_
    refine g_iload_n C (q := 1) d_S_suits_66 rfl rfl ?_
    refine g_iload_n C (q := 2) d_S_suits_67 rfl rfl ?_
    refine gVN C (st := []) (m_B_savingWithLast (bu (bu (bu (bu x 12 (stf (x 13) b (x 12) ((x 14 b).toNat))) 2 (updI (x 2) 0 ((x 14 b).toNat : Int))) 12 (updI (stf (x 13) b (x 12) ((x 14 b).toNat)) ((x 14 b).toNat : Int) a)) 2 (updI (updI (x 2) 0 ((x 14 b).toNat : Int)) 0 (((x 14 b).toNat : Int) + 1))) a b (by omega) (by omega) hl hok.l13 hok.r9) k_547 kn_544 k_546 kp_38 k_5 ho_B_savingWithLast rfl rfl ⟨by decide, by decide⟩ 3 (cwo_3 _) rfl rfl rfl (Nat.le_of_ble_eq_true rfl) d_S_suits_68 ⟨by decide, by decide⟩ (fun r w hq => ?_)
    obtain ⟨rfl, rfl⟩ := hq
    refine g_eq (ws' := cw ad cI cZ (bu (bu (bu (bu x 12 (stf (x 13) b (x 12) ((x 14 b).toNat))) 2 (updI (x 2) 0 ((x 14 b).toNat : Int))) 12 (updI (stf (x 13) b (x 12) ((x 14 b).toNat)) ((x 14 b).toNat : Int) a)) 2 (updI (updI (x 2) 0 ((x 14 b).toNat : Int)) 0 (((x 14 b).toNat : Int) + 1)))) (lv' := [(0, .ref (ad 0)), (1, .int (iI a)), (2, .int (iI b)), (3, .int (iI ((x 14 b).toNat : Int)))]) (pc' := 71) (st' := [.int (iI (swl (bu (bu (bu (bu x 12 (stf (x 13) b (x 12) ((x 14 b).toNat))) 2 (updI (x 2) 0 ((x 14 b).toNat : Int))) 12 (updI (stf (x 13) b (x 12) ((x 14 b).toNat)) ((x 14 b).toNat : Int) a)) 2 (updI (updI (x 2) 0 ((x 14 b).toNat : Int)) 0 (((x 14 b).toNat : Int) + 1))) a b))]) rfl rfl rfl rfl ?_
    refine g_st (st' := [.int (iI (swl x a b))]) rfl ?_
    have hsw : -20000 ≤ swl x a b ∧ swl x a b ≤ 20000 := by
      unfold swl
      split
      · omega
      · exact sv_bd hok (hok.l13 _ (by omega) (by omega)) ha
    refine g_if_lt C (tgt := 78) d_S_suits_71 rfl (by omega) (fun h71_2 => ?_) (fun h71_2 => ?_)
    · refine g_iconst C d_S_suits_78 ?_
      refine g_zret C hA hr d_S_suits_79 (by decide) (by decide) (by omega) ⟨_, _, rfl, by omega, ⟨fun q => ?_, fun q => ?_⟩, hsc, rfl⟩
      · first
          | exact ⟨(okS_congr hsc hfe).mp (hiff56.mp (by omega)), by assumption⟩
          | (exfalso; omega)
      · first
          | rfl
          | (exfalso; obtain ⟨qa, qb⟩ := q; omega)
          | (exfalso; obtain ⟨qa, qb⟩ := q; have q1 := hiff56.mpr ((okS_congr hsc hfe).mpr qa); omega)
    · refine g_iconst C d_S_suits_74 ?_
      refine g_goto C (tgt := 79) d_S_suits_75 rfl ?_
      refine g_zret C hA hr d_S_suits_79 (by decide) (by decide) (by omega) ⟨_, _, rfl, by omega, ⟨fun q => ?_, fun q => ?_⟩, hsc, rfl⟩
      · first
          | exact ⟨(okS_congr hsc hfe).mp (hiff56.mp (by omega)), by assumption⟩
          | (exfalso; omega)
      · first
          | rfl
          | (exfalso; obtain ⟨qa, qb⟩ := q; omega)
          | (exfalso; obtain ⟨qa, qb⟩ := q; have q1 := hiff56.mpr ((okS_congr hsc hfe).mpr qa); omega)
