set_option maxRecDepth 100000 in
set_option maxHeartbeats 4000000 in
theorem lp_S_best {p : Program} {l : Launch} {e : Env} {s : State} {m : MethodId} {args : Array Value} {below : List Frame} {meth : Method} {c : Code} {D : va_G} {cI cZ cJ : ClassId} {base : Nat} {ad : Nat → Nat} {A : Nat → Prop} {Q : State → Prop} (C : gC p s m args meth c D cls9 (tyl cI cZ cJ) A c_S_best 6 "BatchSavings" (wz y_S_best c_S_best 6 (some FieldType.int)) base (zz base)) (x : Bk) (a : Int) (ha : 0 ≤ a ∧ a < 10) (hok : Ok x)
    (K : ∀ y : Bk, scr y x → gW p l e ({ frames := 7, cells := 1, slots := 6, locals := 103 } : Room) s m args below meth c D cls9 A 6 0 0 Q (cw ad cI cZ y) [(0, .ref (ad 0)), (1, .int (iI a)), (2, .int (iI ((bsf x a ((x 3 0).toNat)).1))), (3, .int (iI ((bsf x a ((x 3 0).toNat)).2))), (4, .int (iI ((x 3 0).toNat : Int)))] 89 []) : ∀ (d k : Nat), ∀ (y : Bk), scr y x → (k : Int) + (d : Int) = x 3 0 → gW p l e ({ frames := 7, cells := 1, slots := 6, locals := 103 } : Room) s m args below meth c D cls9 A 6 0 0 Q (cw ad cI cZ y) [(0, .ref (ad 0)), (1, .int (iI a)), (2, .int (iI ((bsf x a k).1))), (3, .int (iI ((bsf x a k).2))), (4, .int (iI (k : Int)))] 17 [] := by
  intro d
  induction d with
  | zero =>
    intro k y hy hk
    have hb := hok.b
    have e3 : y 3 0 = x 3 0 := by rw [hy.1 3 (by decide) (by decide)]
    have e14 := hy.1 14 (by decide) (by decide)
    have hoy := hok.cor hy.cor
    refine g_iload C (q := 4) d_S_best_17 rfl ?_
    refine g_aload_n C (q := 0) d_S_best_19 rfl rfl ?_
    refine gG C (v := .ref (ad 3)) 0 2 u_S k_149 (cwo_0 _) rfl (by decide) rfl rfl d_S_best_20 ?_
    refine gGN C (v := .int (iI (y 3 0))) 3 4 u_B kn_110 (cwo_3 _) rfl (by decide) rfl rfl d_S_best_23 ?_
    refine g_icmp_ge C (tgt := 89) d_S_best_26 rfl (by omega) (by omega) (fun h26_1 => ?_) (fun h26_1 => ?_)
    · obtain rfl : k = (x 3 0).toNat := by omega
      exact K y hy
    · exfalso
      omega
  | succ d ih =>
    intro k y hy hk
    have hb := hok.b
    have e3 : y 3 0 = x 3 0 := by rw [hy.1 3 (by decide) (by decide)]
    have e14 := hy.1 14 (by decide) (by decide)
    have hoy := hok.cor hy.cor
    have hin := bsf_in hok ha k (by omega)
    have l14 := hoy.r14 (k : Int) (by omega) (by omega)
    have bb := b01_or (p := 4 ≤ y 14 (k : Int))
    have hsw := swl_bd hok ha (b := (k : Int)) (by omega)
    refine g_iload C (q := 4) d_S_best_17 rfl ?_
    refine g_aload_n C (q := 0) d_S_best_19 rfl rfl ?_
    refine gG C (v := .ref (ad 3)) 0 2 u_S k_149 (cwo_0 _) rfl (by decide) rfl rfl d_S_best_20 ?_
    refine gGN C (v := .int (iI (y 3 0))) 3 4 u_B kn_110 (cwo_3 _) rfl (by decide) rfl rfl d_S_best_23 ?_
    refine g_icmp_ge C (tgt := 89) d_S_best_26 rfl (by omega) (by omega) (fun h26_1 => ?_) (fun h26_1 => ?_)
    · exfalso
      omega
    · refine g_aload_n C (q := 0) d_S_best_29 rfl rfl ?_
      refine gG C (v := .ref (ad 3)) 0 2 u_S k_149 (cwo_0 _) rfl (by decide) rfl rfl d_S_best_30 ?_
      refine g_iload C (q := 4) d_S_best_33 rfl ?_
      refine gVN C (st := []) (m_B_isFull y (k : Int) (by omega) (show InR (y 14 (k : Int)) by omega)) k_554 kn_551 k_553 kp_39 k_5 ho_B_isFull rfl rfl ⟨by decide, by decide⟩ 3 (cwo_3 _) rfl rfl rfl (Nat.le_of_ble_eq_true rfl) d_S_best_35 ⟨by decide, by decide⟩ (fun r w hq => ?_)
      obtain ⟨rfl, rfl⟩ := hq
      refine g_eq (ws' := cw ad cI cZ y) (lv' := [(0, .ref (ad 0)), (1, .int (iI a)), (2, .int (iI ((bsf x a k).1))), (3, .int (iI ((bsf x a k).2))), (4, .int (iI (k : Int)))]) (pc' := 38) (st' := [.int (iI (b01 (4 ≤ (y 14 (k : Int)))))]) rfl rfl rfl rfl ?_
      refine g_if_ne C (tgt := 83) d_S_best_38 rfl (by omega) (fun h38_2 => ?_) (fun h38_2 => ?_)
      · refine g_lv (lv' := [(0, .ref (ad 0)), (1, .int (iI a)), (2, .int (iI ((bsf x a k).1))), (3, .int (iI ((bsf x a k).2))), (4, .int (iI (k : Int)))]) [0, 1, 2, 3, 4] rfl ?_
        refine g_lve (lv' := [(0, .ref (ad 0)), (1, .int (iI a)), (2, .int (iI ((bsf x a (k + 1)).1))), (3, .int (iI ((bsf x a (k + 1)).2))), (4, .int (iI (k : Int)))]) (by first | (rw [bsf_t ⟨fun q => absurd (b01_t (p := 4 ≤ y 14 (k : Int)) (by rw [e14]; exact q)) (by omega), (mayC_scr hy a (k : Int)).mp (hiff45.mp (by omega)), by omega⟩]; done) | (rw [bsf_f (fun q => absurd (b01_f (p := 4 ≤ y 14 (k : Int)) (by rw [e14]; exact q.1)) (by omega))]; done) | (rw [bsf_f (fun q => absurd (hiff45.mpr ((mayC_scr hy a (k : Int)).mpr q.2.1)) (by omega))]; done) | (rw [bsf_f (fun q => by have := q.2.2; omega)]; done)) ?_
        refine g_iinc C (q := 4) (lv' := [(0, .ref (ad 0)), (1, .int (iI a)), (2, .int (iI ((bsf x a (k + 1)).1))), (3, .int (iI ((bsf x a (k + 1)).2))), (4, .int (iI ((k : Int) + 1)))]) d_S_best_83 rfl (by decide) rfl rfl ?_
        refine g_goto C (tgt := 17) d_S_best_86 rfl ?_
        exact ih (k + 1) _ hy (by omega)
      · refine g_aload_n C (q := 0) d_S_best_41 rfl rfl ?_
        refine g_iload_n C (q := 1) d_S_best_42 rfl rfl ?_
        refine g_iload C (q := 4) d_S_best_43 rfl ?_
        refine gV C (st := []) (m_S_suits y a (k : Int) (by omega) (by omega) hoy) k_536 k_533 k_535 kp_36 k_1 rfl ho_S_suits rfl rfl ⟨by decide, by decide⟩ 0 (cwo_0 _) rfl rfl rfl (Nat.le_of_ble_eq_true rfl) d_S_best_45 ⟨by decide, by decide⟩ (fun r w hq => ?_)
        obtain ⟨u45, y45, rfl, hu45, hiff45, hsc45, rfl⟩ := hq
        refine g_eq (ws' := cw ad cI cZ y45) (lv' := [(0, .ref (ad 0)), (1, .int (iI a)), (2, .int (iI ((bsf x a k).1))), (3, .int (iI ((bsf x a k).2))), (4, .int (iI (k : Int)))]) (pc' := 48) (st' := [.int (iI u45)]) rfl rfl rfl rfl ?_
        refine g_if_ne C (tgt := 54) d_S_best_48 rfl (by omega) (fun h48_3 => ?_) (fun h48_3 => ?_)
        · have hoz := hoy.cor hsc45.cor
          refine g_aload_n C (q := 0) d_S_best_54 rfl rfl ?_
          refine gG C (v := .ref (ad 3)) 0 2 u_S k_149 (cwo_0 _) rfl (by decide) rfl rfl d_S_best_55 ?_
          refine g_iload_n C (q := 1) d_S_best_58 rfl rfl ?_
          refine g_iload C (q := 4) d_S_best_59 rfl ?_
          refine gVN C (st := []) (m_B_savingWithLast y45 a (k : Int) (by omega) (by omega) (hoz.r14 (k : Int) (by omega) (by omega)) hoz.l13 hoz.r9) k_547 kn_544 k_546 kp_38 k_5 ho_B_savingWithLast rfl rfl ⟨by decide, by decide⟩ 3 (cwo_3 _) rfl rfl rfl (Nat.le_of_ble_eq_true rfl) d_S_best_61 ⟨by decide, by decide⟩ (fun r w hq => ?_)
          obtain ⟨rfl, rfl⟩ := hq
          refine g_eq (ws' := cw ad cI cZ y45) (lv' := [(0, .ref (ad 0)), (1, .int (iI a)), (2, .int (iI ((bsf x a k).1))), (3, .int (iI ((bsf x a k).2))), (4, .int (iI (k : Int)))]) (pc' := 64) (st' := [.int (iI (swl y45 a (k : Int)))]) rfl rfl rfl rfl ?_
          refine g_st (st' := [.int (iI (swl x a (k : Int)))]) (by rw [swl_cor (hsc45.cor.tr hy.cor)]) ?_
          refine g_istore C (lv' := [(0, .ref (ad 0)), (1, .int (iI a)), (2, .int (iI ((bsf x a k).1))), (3, .int (iI ((bsf x a k).2))), (4, .int (iI (k : Int))), (5, .int (iI (swl x a (k : Int))))]) d_S_best_64 (by decide) rfl rfl ?_
          refine g_iload_n C (q := 2) d_S_best_66 rfl rfl ?_
          refine g_iconst C d_S_best_67 ?_
          refine g_icmp_eq C (tgt := 77) d_S_best_68 rfl (by omega) (by omega) (fun h68_4 => ?_) (fun h68_4 => ?_)
          · refine g_iload C (q := 4) d_S_best_77 rfl ?_
            refine g_istore_n C (lv' := [(0, .ref (ad 0)), (1, .int (iI a)), (2, .int (iI (k : Int))), (3, .int (iI ((bsf x a k).2))), (4, .int (iI (k : Int))), (5, .int (iI (swl x a (k : Int))))]) d_S_best_79 rfl (by decide) rfl rfl ?_
            refine g_iload C (q := 5) d_S_best_80 rfl ?_
            refine g_istore_n C (lv' := [(0, .ref (ad 0)), (1, .int (iI a)), (2, .int (iI (k : Int))), (3, .int (iI (swl x a (k : Int)))), (4, .int (iI (k : Int))), (5, .int (iI (swl x a (k : Int))))]) d_S_best_82 rfl (by decide) rfl rfl ?_
            refine g_lv (lv' := [(0, .ref (ad 0)), (1, .int (iI a)), (2, .int (iI (k : Int))), (3, .int (iI (swl x a (k : Int)))), (4, .int (iI (k : Int)))]) [0, 1, 2, 3, 4] rfl ?_
            refine g_lve (lv' := [(0, .ref (ad 0)), (1, .int (iI a)), (2, .int (iI ((bsf x a (k + 1)).1))), (3, .int (iI ((bsf x a (k + 1)).2))), (4, .int (iI (k : Int)))]) (by first | (rw [bsf_t ⟨fun q => absurd (b01_t (p := 4 ≤ y 14 (k : Int)) (by rw [e14]; exact q)) (by omega), (mayC_scr hy a (k : Int)).mp (hiff45.mp (by omega)), by omega⟩]; done) | (rw [bsf_f (fun q => absurd (b01_f (p := 4 ≤ y 14 (k : Int)) (by rw [e14]; exact q.1)) (by omega))]; done) | (rw [bsf_f (fun q => absurd (hiff45.mpr ((mayC_scr hy a (k : Int)).mpr q.2.1)) (by omega))]; done) | (rw [bsf_f (fun q => by have := q.2.2; omega)]; done)) ?_
            refine g_iinc C (q := 4) (lv' := [(0, .ref (ad 0)), (1, .int (iI a)), (2, .int (iI ((bsf x a (k + 1)).1))), (3, .int (iI ((bsf x a (k + 1)).2))), (4, .int (iI ((k : Int) + 1)))]) d_S_best_83 rfl (by decide) rfl rfl ?_
            refine g_goto C (tgt := 17) d_S_best_86 rfl ?_
            exact ih (k + 1) _ ⟨fun k h1 h2 => (hsc45.1 k h1 h2).trans (hy.1 k h1 h2), hsc45.2.1.trans hy.2.1, hsc45.2.2.trans hy.2.2⟩ (by omega)
          · refine g_iload C (q := 5) d_S_best_71 rfl ?_
            refine g_iload_n C (q := 3) d_S_best_73 rfl rfl ?_
            refine g_icmp_le C (tgt := 83) d_S_best_74 rfl (by omega) (by omega) (fun h74_5 => ?_) (fun h74_5 => ?_)
            · refine g_lv (lv' := [(0, .ref (ad 0)), (1, .int (iI a)), (2, .int (iI ((bsf x a k).1))), (3, .int (iI ((bsf x a k).2))), (4, .int (iI (k : Int)))]) [0, 1, 2, 3, 4] rfl ?_
              refine g_lve (lv' := [(0, .ref (ad 0)), (1, .int (iI a)), (2, .int (iI ((bsf x a (k + 1)).1))), (3, .int (iI ((bsf x a (k + 1)).2))), (4, .int (iI (k : Int)))]) (by first | (rw [bsf_t ⟨fun q => absurd (b01_t (p := 4 ≤ y 14 (k : Int)) (by rw [e14]; exact q)) (by omega), (mayC_scr hy a (k : Int)).mp (hiff45.mp (by omega)), by omega⟩]; done) | (rw [bsf_f (fun q => absurd (b01_f (p := 4 ≤ y 14 (k : Int)) (by rw [e14]; exact q.1)) (by omega))]; done) | (rw [bsf_f (fun q => absurd (hiff45.mpr ((mayC_scr hy a (k : Int)).mpr q.2.1)) (by omega))]; done) | (rw [bsf_f (fun q => by have := q.2.2; omega)]; done)) ?_
              refine g_iinc C (q := 4) (lv' := [(0, .ref (ad 0)), (1, .int (iI a)), (2, .int (iI ((bsf x a (k + 1)).1))), (3, .int (iI ((bsf x a (k + 1)).2))), (4, .int (iI ((k : Int) + 1)))]) d_S_best_83 rfl (by decide) rfl rfl ?_
              refine g_goto C (tgt := 17) d_S_best_86 rfl ?_
              exact ih (k + 1) _ ⟨fun k h1 h2 => (hsc45.1 k h1 h2).trans (hy.1 k h1 h2), hsc45.2.1.trans hy.2.1, hsc45.2.2.trans hy.2.2⟩ (by omega)
            · refine g_iload C (q := 4) d_S_best_77 rfl ?_
              refine g_istore_n C (lv' := [(0, .ref (ad 0)), (1, .int (iI a)), (2, .int (iI (k : Int))), (3, .int (iI ((bsf x a k).2))), (4, .int (iI (k : Int))), (5, .int (iI (swl x a (k : Int))))]) d_S_best_79 rfl (by decide) rfl rfl ?_
              refine g_iload C (q := 5) d_S_best_80 rfl ?_
              refine g_istore_n C (lv' := [(0, .ref (ad 0)), (1, .int (iI a)), (2, .int (iI (k : Int))), (3, .int (iI (swl x a (k : Int)))), (4, .int (iI (k : Int))), (5, .int (iI (swl x a (k : Int))))]) d_S_best_82 rfl (by decide) rfl rfl ?_
              refine g_lv (lv' := [(0, .ref (ad 0)), (1, .int (iI a)), (2, .int (iI (k : Int))), (3, .int (iI (swl x a (k : Int)))), (4, .int (iI (k : Int)))]) [0, 1, 2, 3, 4] rfl ?_
              refine g_lve (lv' := [(0, .ref (ad 0)), (1, .int (iI a)), (2, .int (iI ((bsf x a (k + 1)).1))), (3, .int (iI ((bsf x a (k + 1)).2))), (4, .int (iI (k : Int)))]) (by first | (rw [bsf_t ⟨fun q => absurd (b01_t (p := 4 ≤ y 14 (k : Int)) (by rw [e14]; exact q)) (by omega), (mayC_scr hy a (k : Int)).mp (hiff45.mp (by omega)), by omega⟩]; done) | (rw [bsf_f (fun q => absurd (b01_f (p := 4 ≤ y 14 (k : Int)) (by rw [e14]; exact q.1)) (by omega))]; done) | (rw [bsf_f (fun q => absurd (hiff45.mpr ((mayC_scr hy a (k : Int)).mpr q.2.1)) (by omega))]; done) | (rw [bsf_f (fun q => by have := q.2.2; omega)]; done)) ?_
              refine g_iinc C (q := 4) (lv' := [(0, .ref (ad 0)), (1, .int (iI a)), (2, .int (iI ((bsf x a (k + 1)).1))), (3, .int (iI ((bsf x a (k + 1)).2))), (4, .int (iI ((k : Int) + 1)))]) d_S_best_83 rfl (by decide) rfl rfl ?_
              refine g_goto C (tgt := 17) d_S_best_86 rfl ?_
              exact ih (k + 1) _ ⟨fun k h1 h2 => (hsc45.1 k h1 h2).trans (hy.1 k h1 h2), hsc45.2.1.trans hy.2.1, hsc45.2.2.trans hy.2.2⟩ (by omega)
        · refine g_goto C (tgt := 83) d_S_best_51 rfl ?_
          refine g_lv (lv' := [(0, .ref (ad 0)), (1, .int (iI a)), (2, .int (iI ((bsf x a k).1))), (3, .int (iI ((bsf x a k).2))), (4, .int (iI (k : Int)))]) [0, 1, 2, 3, 4] rfl ?_
          refine g_lve (lv' := [(0, .ref (ad 0)), (1, .int (iI a)), (2, .int (iI ((bsf x a (k + 1)).1))), (3, .int (iI ((bsf x a (k + 1)).2))), (4, .int (iI (k : Int)))]) (by first | (rw [bsf_t ⟨fun q => absurd (b01_t (p := 4 ≤ y 14 (k : Int)) (by rw [e14]; exact q)) (by omega), (mayC_scr hy a (k : Int)).mp (hiff45.mp (by omega)), by omega⟩]; done) | (rw [bsf_f (fun q => absurd (b01_f (p := 4 ≤ y 14 (k : Int)) (by rw [e14]; exact q.1)) (by omega))]; done) | (rw [bsf_f (fun q => absurd (hiff45.mpr ((mayC_scr hy a (k : Int)).mpr q.2.1)) (by omega))]; done) | (rw [bsf_f (fun q => by have := q.2.2; omega)]; done)) ?_
          refine g_iinc C (q := 4) (lv' := [(0, .ref (ad 0)), (1, .int (iI a)), (2, .int (iI ((bsf x a (k + 1)).1))), (3, .int (iI ((bsf x a (k + 1)).2))), (4, .int (iI ((k : Int) + 1)))]) d_S_best_83 rfl (by decide) rfl rfl ?_
          refine g_goto C (tgt := 17) d_S_best_86 rfl ?_
          exact ih (k + 1) _ ⟨fun k h1 h2 => (hsc45.1 k h1 h2).trans (hy.1 k h1 h2), hsc45.2.1.trans hy.2.1, hsc45.2.2.trans hy.2.2⟩ (by omega)
set_option maxRecDepth 100000 in
set_option maxHeartbeats 4000000 in
theorem m_S_best {l : Launch} {D : va_G} {cI cZ cJ : ClassId} {base : Nat} {ad : Nat → Nat} (hl : l.stackTraces = false) (x : Bk) (a : Int) (ha : InR a) (hok : Ok x) : Cx l D cls9 (tyl cI cZ cJ) base (zz base) y_S_best (wz y_S_best c_S_best 6 (some FieldType.int)) ({ frames := 7, cells := 1, slots := 6, locals := 103 } : Room) [.ref (ad 0), .int (iI a)] (cw ad cI cZ x) (fun r w => ((0 ≤ a ∧ a < x 1 0) ∧ x 15 a = -1) ∧ ∃ y : Bk, scr y x ∧ r = some (bsf x a (x 3 0).toNat).1 ∧ w = cw ad cI cZ y) (fun E w => ∃ y : Bk, w = cw ad cI cZ y ∧ scr y x ∧ ((E = "java/util/NoSuchElementException" ∧ ¬ (0 ≤ a ∧ a < x 1 0)) ∨ (E = "java/lang/IllegalStateException" ∧ (0 ≤ a ∧ a < x 1 0) ∧ ¬ x 15 a = -1))) 1 6 := by
  refine Cx_of (zzG base) (by decide) rfl (Nat.le_of_ble_eq_true rfl) ?_
  intro p e s m args below meth c A C hr hA hno
  have C : gC p s m args meth c D cls9 (tyl cI cZ cJ) A c_S_best 6 "BatchSavings" (wz y_S_best c_S_best 6 (some FieldType.int)) base (zz base) := C
  refine g_lve (lv' := [(0, .ref (ad 0)), (1, .int (iI a))]) rfl ?_
  have hn := hok.n
  have hnb := hok.b
  have hww := hok.w
  have hss := hok.s
  refine g_aload_n C (q := 0) d_S_best_0 rfl rfl ?_
  refine g_iload_n C (q := 1) d_S_best_1 rfl rfl ?_
  by_cases hc2 : 0 ≤ a ∧ a < (x 1 0)
  · refine gV C (st := []) (m_S_needOrder x a (by omega) (show InR (x 1 0) by omega) hc2) k_308 k_305 k_307 kp_8 k_1 rfl ho_S_needOrder rfl rfl ⟨by decide, by decide⟩ 0 (cwo_0 _) rfl rfl rfl (Nat.le_of_ble_eq_true rfl) d_S_best_2 ⟨by decide, by decide⟩ (fun r w hq => ?_)
    obtain ⟨rfl, rfl⟩ := hq
    refine g_eq (ws' := cw ad cI cZ x) (lv' := [(0, .ref (ad 0)), (1, .int (iI a))]) (pc' := 5) (st' := []) rfl rfl rfl rfl ?_
    refine g_aload_n C (q := 0) d_S_best_5 rfl rfl ?_
    refine g_iload_n C (q := 1) d_S_best_6 rfl rfl ?_
    by_cases hc7 : (x 15 a) = -1
    · refine gV C (st := []) (m_S_needFree x a (by omega) (hok.i15 a (by omega) (by omega)) hc7) k_388 k_385 k_387 kp_17 k_1 rfl ho_S_needFree rfl rfl ⟨by decide, by decide⟩ 0 (cwo_0 _) rfl rfl rfl (Nat.le_of_ble_eq_true rfl) d_S_best_7 ⟨by decide, by decide⟩ (fun r w hq => ?_)
      obtain ⟨rfl, rfl⟩ := hq
      refine g_eq (ws' := cw ad cI cZ x) (lv' := [(0, .ref (ad 0)), (1, .int (iI a))]) (pc' := 10) (st' := []) rfl rfl rfl rfl ?_
      refine g_iconst C d_S_best_10 ?_
      refine g_istore_n C (lv' := [(0, .ref (ad 0)), (1, .int (iI a)), (2, .int (iI (-1)))]) d_S_best_11 rfl (by decide) rfl rfl ?_
      refine g_iconst C d_S_best_12 ?_
      refine g_istore_n C (lv' := [(0, .ref (ad 0)), (1, .int (iI a)), (2, .int (iI (-1))), (3, .int (iI 0))]) d_S_best_13 rfl (by decide) rfl rfl ?_
      refine g_iconst C d_S_best_14 ?_
      refine g_istore C (lv' := [(0, .ref (ad 0)), (1, .int (iI a)), (2, .int (iI (-1))), (3, .int (iI 0)), (4, .int (iI 0))]) d_S_best_15 (by decide) rfl rfl ?_
      refine g_lve (lv' := [(0, .ref (ad 0)), (1, .int (iI a)), (2, .int (iI ((bsf x a (0 : Nat)).1))), (3, .int (iI ((bsf x a (0 : Nat)).2))), (4, .int (iI ((0 : Nat) : Int)))]) rfl ?_
      refine lp_S_best C x a (by omega) hok (fun y hy => ?_) (x 3 0).toNat 0 x (scr.rf x) (by omega)
      refine g_iload_n C (q := 2) d_S_best_89 rfl rfl ?_
      exact g_x (g_iret C hA hr d_S_best_90 (by decide) (by decide) ⟨by omega, y, hy, rfl, rfl⟩)
    · refine gVx C (st := []) (t_S_needFree hl x a (by omega) (hok.i15 a (by omega) (by omega)) hc7) k_388 k_385 k_387 kp_17 k_1 rfl ho_S_needFree rfl rfl ⟨by decide, by decide⟩ 0 (cwo_0 _) rfl rfl rfl (Nat.le_of_ble_eq_true rfl) d_S_best_7 ⟨by decide, by decide⟩ (fun E w hq => ?_) (fun r w hq => hq.elim)
      obtain ⟨rfl, rfl⟩ := hq
      exact g_out C hno hA (by decide) (by decide) ⟨_, rfl, (scr.rf x), by first | exact Or.inl ⟨rfl, by omega⟩ | exact Or.inr (⟨rfl, by omega⟩)⟩
  · refine gVx C (st := []) (t_S_needOrder hl x a (by omega) (show InR (x 1 0) by omega) hc2) k_308 k_305 k_307 kp_8 k_1 rfl ho_S_needOrder rfl rfl ⟨by decide, by decide⟩ 0 (cwo_0 _) rfl rfl rfl (Nat.le_of_ble_eq_true rfl) d_S_best_2 ⟨by decide, by decide⟩ (fun E w hq => ?_) (fun r w hq => hq.elim)
    obtain ⟨rfl, rfl⟩ := hq
    exact g_out C hno hA (by decide) (by decide) ⟨_, rfl, (scr.rf x), by first | exact Or.inl ⟨rfl, by omega⟩ | exact Or.inr (⟨rfl, by omega⟩)⟩
set_option maxRecDepth 100000 in
set_option maxHeartbeats 4000000 in
theorem m_S_share {l : Launch} {D : va_G} {cI cZ cJ : ClassId} {base : Nat} {ad : Nat → Nat} (hl : l.stackTraces = false) (x : Bk) (a b : Int) (ha : InR a) (hb : InR b) (hok : Ok x) : Cx l D cls9 (tyl cI cZ cJ) base (zz base) y_S_share (wz y_S_share c_S_share 3 (some FieldType.int)) ({ frames := 7, cells := 1, slots := 6, locals := 104 } : Room) [.ref (ad 0), .int (iI a), .int (iI b)] (cw ad cI cZ x) (fun r w => (((0 ≤ a ∧ a ≤ 1000000) ∧ 0 ≤ b) ∧ ¬ b = 0) ∧ r = some ((100 * a).tdiv b) ∧ w = cw ad cI cZ x) (fun E w => ∃ y : Bk, w = cw ad cI cZ y ∧ scr y x ∧ ((E = "java/lang/IllegalArgumentException" ∧ ¬ ((0 ≤ a ∧ a ≤ 1000000) ∧ 0 ≤ b)) ∨ (E = "java/lang/ArithmeticException" ∧ ((0 ≤ a ∧ a ≤ 1000000) ∧ 0 ≤ b) ∧ b = 0))) 1 6 := by
  refine Cx_of (zzG base) (by decide) rfl (Nat.le_of_ble_eq_true rfl) ?_
  intro p e s m args below meth c A C hr hA hno
  have C : gC p s m args meth c D cls9 (tyl cI cZ cJ) A c_S_share 3 "BatchSavings" (wz y_S_share c_S_share 3 (some FieldType.int)) base (zz base) := C
  refine g_lve (lv' := [(0, .ref (ad 0)), (1, .int (iI a)), (2, .int (iI b))]) rfl ?_
  have hn := hok.n
  have hnb := hok.b
  have hww := hok.w
  have hss := hok.s
  refine g_iload_n C (q := 1) d_S_share_0 rfl rfl ?_
  refine g_iconst C d_S_share_1 ?_
  refine g_ldc C (n := 1000000) d_S_share_2 (C.1.2.2.2.2 _ (gws_in k_612)) ?_
  by_cases hc4 : 0 ≤ a ∧ a ≤ 1000000
  · refine gS0 C (st := []) (m_S_needRange a 0 1000000 (by omega) (by omega) (by omega) hc4) k_202 k_200 k_201 k_1 rfl ho_S_needRange rfl rfl ⟨by decide, by decide⟩ rfl rfl (Nat.le_of_ble_eq_true rfl) d_S_share_4 ⟨by decide, by decide⟩ (fun r w hq => ?_)
    obtain ⟨rfl, rfl⟩ := hq
    refine g_eq (ws' := cw ad cI cZ x) (lv' := [(0, .ref (ad 0)), (1, .int (iI a)), (2, .int (iI b))]) (pc' := 7) (st' := []) rfl rfl rfl rfl ?_
    refine g_iload_n C (q := 2) d_S_share_7 rfl rfl ?_
    refine g_if_ge C (tgt := 21) d_S_share_8 rfl (by omega) (fun h8_1 => ?_) (fun h8_1 => ?_)
    · refine g_iload_n C (q := 2) d_S_share_21 rfl rfl ?_
      refine g_if_ne C (tgt := 35) d_S_share_22 rfl (by omega) (fun h22_2 => ?_) (fun h22_2 => ?_)
      · refine g_bipush C d_S_share_35 rfl ?_
        refine g_iload_n C (q := 1) d_S_share_37 rfl rfl ?_
        refine g_imul C d_S_share_38 ?_
        refine g_iload_n C (q := 2) d_S_share_39 rfl rfl ?_
        refine g_idiv C d_S_share_40 (by omega) (by omega) (by omega) ?_
        exact g_x (g_iret C hA hr d_S_share_41 (by decide) (by decide) ⟨by omega, rfl, rfl⟩)
      · exact gT C hl hno hA (by decide +kernel) thk_AE thi_AE (is := 194) (text := "a share of nothing") (by decide +kernel) thr_AE thg_AE d_S_share_25 d_S_share_28 d_S_share_29 d_S_share_31 d_S_share_34 (by decide) (Nat.le_of_ble_eq_true rfl) (by decide) (by decide) (by decide) (by decide) ⟨_, rfl, (scr.rf x), by first | exact Or.inl ⟨rfl, by omega⟩ | exact Or.inr (⟨rfl, by omega⟩)⟩
    · exact gT C hl hno hA (by decide +kernel) thk_IAE thi_IAE (is := 190) (text := "a number below 0") (by decide +kernel) thr_IAE thg_IAE d_S_share_11 d_S_share_14 d_S_share_15 d_S_share_17 d_S_share_20 (by decide) (Nat.le_of_ble_eq_true rfl) (by decide) (by decide) (by decide) (by decide) ⟨_, rfl, (scr.rf x), by first | exact Or.inl ⟨rfl, by omega⟩ | exact Or.inr (⟨rfl, by omega⟩)⟩
  · refine gSx C (st := []) (t_S_needRange hl a 0 1000000 (by omega) (by omega) (by omega) hc4) k_202 k_200 k_201 k_1 rfl ho_S_needRange rfl rfl ⟨by decide, by decide⟩ rfl rfl (Nat.le_of_ble_eq_true rfl) d_S_share_4 ⟨by decide, by decide⟩ (fun E w hq => ?_) (fun r w hq => hq.elim)
    obtain ⟨rfl, rfl⟩ := hq
    exact g_out C hno hA (by decide) (by decide) ⟨_, rfl, (scr.rf x), by first | exact Or.inl ⟨rfl, by omega⟩ | exact Or.inr (⟨rfl, by omega⟩)⟩
set_option maxRecDepth 100000 in
set_option maxHeartbeats 4000000 in
theorem m_S_mean {l : Launch} {D : va_G} {cI cZ cJ : ClassId} {base : Nat} {ad : Nat → Nat} (hl : l.stackTraces = false) (x : Bk) (hok : Ok x) : Cx l D cls9 (tyl cI cZ cJ) base (zz base) y_S_mean (wz y_S_mean c_S_mean 1 (some FieldType.int)) ({ frames := 6, cells := 1, slots := 6, locals := 90 } : Room) [.ref (ad 0)] (cw ad cI cZ x) (fun r w => ¬ x 1 0 = 0 ∧ r = some ((sg (sby x) (x 3 0).toNat + svd x).tdiv (x 1 0)) ∧ w = cw ad cI cZ x) (fun E w => ∃ y : Bk, w = cw ad cI cZ y ∧ scr y x ∧ ((E = "java/lang/ArithmeticException" ∧ x 1 0 = 0))) 1 6 := by
  refine Cx_of (zzG base) (by decide) rfl (Nat.le_of_ble_eq_true rfl) ?_
  intro p e s m args below meth c A C hr hA hno
  have C : gC p s m args meth c D cls9 (tyl cI cZ cJ) A c_S_mean 1 "BatchSavings" (wz y_S_mean c_S_mean 1 (some FieldType.int)) base (zz base) := C
  refine g_lve (lv' := [(0, .ref (ad 0))]) rfl ?_
  have hn := hok.n
  have hnb := hok.b
  have hww := hok.w
  have hss := hok.s
  refine g_aload_n C (q := 0) d_S_mean_0 rfl rfl ?_
  refine gG C (v := .ref (ad 1)) 0 0 u_S k_147 (cwo_0 _) rfl (by decide) rfl rfl d_S_mean_1 ?_
  refine gGN C (v := .int (iI (x 1 0))) 1 5 u_O kn_47 (cwo_1 _) rfl (by decide) rfl rfl d_S_mean_4 ?_
  refine g_if_ne C (tgt := 20) d_S_mean_7 rfl (by omega) (fun h7_1 => ?_) (fun h7_1 => ?_)
  · have h16 := hok.r16
    have h9 := hok.r9
    have s1 := ssb_bd hok
    have s2 := svd_bd hok
    refine g_aload_n C (q := 0) d_S_mean_20 rfl rfl ?_
    refine gG C (v := .ref (ad 3)) 0 2 u_S k_149 (cwo_0 _) rfl (by decide) rfl rfl d_S_mean_21 ?_
    refine gVN C (st := []) (m_B_saved x hnb hok.r14 hok.l13 hok.r9) k_641 kn_638 k_640 kp_44 k_5 ho_B_saved rfl rfl ⟨by decide, by decide⟩ 3 (cwo_3 _) rfl rfl rfl (Nat.le_of_ble_eq_true rfl) d_S_mean_24 ⟨by decide, by decide⟩ (fun r w hq => ?_)
    obtain ⟨rfl, rfl⟩ := hq
    refine g_eq (ws' := cw ad cI cZ x) (lv' := [(0, .ref (ad 0))]) (pc' := 27) (st' := [.int (iI (sg (sby x) ((x 3 0)).toNat))]) rfl rfl rfl rfl ?_
    refine g_aload_n C (q := 0) d_S_mean_27 rfl rfl ?_
    refine gG C (v := .ref (ad 4)) 0 3 u_S k_150 (cwo_0 _) rfl (by decide) rfl rfl d_S_mean_28 ?_
    refine gVN C (st := [.int (iI (sg (sby x) ((x 3 0)).toNat))]) (m_M_saved x hn h16 h9) k_183 kn_180 k_182 kp_3 k_6 ho_M_saved rfl rfl ⟨by decide, by decide⟩ 4 (cwo_4 _) rfl rfl rfl (Nat.le_of_ble_eq_true rfl) d_S_mean_31 ⟨by decide, by decide⟩ (fun r w hq => ?_)
    obtain ⟨rfl, rfl⟩ := hq
    refine g_eq (ws' := cw ad cI cZ x) (lv' := [(0, .ref (ad 0))]) (pc' := 34) (st' := [.int (iI (svd x)), .int (iI (sg (sby x) ((x 3 0)).toNat))]) rfl rfl rfl rfl ?_
    refine g_iadd C d_S_mean_34 ?_
    refine g_aload_n C (q := 0) d_S_mean_35 rfl rfl ?_
    refine gG C (v := .ref (ad 1)) 0 0 u_S k_147 (cwo_0 _) rfl (by decide) rfl rfl d_S_mean_36 ?_
    refine gGN C (v := .int (iI (x 1 0))) 1 5 u_O kn_47 (cwo_1 _) rfl (by decide) rfl rfl d_S_mean_39 ?_
    refine g_idiv C d_S_mean_42 (by omega) (by omega) (by omega) ?_
    exact g_x (g_iret C hA hr d_S_mean_43 (by decide) (by decide) ⟨by omega, rfl, rfl⟩)
  · exact gT C hl hno hA (by decide +kernel) thk_AE thi_AE (is := 197) (text := "a mean of no orders") (by decide +kernel) thr_AE thg_AE d_S_mean_10 d_S_mean_13 d_S_mean_14 d_S_mean_16 d_S_mean_19 (by decide) (Nat.le_of_ble_eq_true rfl) (by decide) (by decide) (by decide) (by decide) ⟨_, rfl, scr.rf x, rfl, by omega⟩
def cnt (x : Bk) (z : Int) : Int := if z = 0 then x 1 0 else if z = 1 then x 3 0 else if z = 2 then frees x else if z = 3 then prs x else if z = 4 then svd x else -1
set_option maxRecDepth 100000 in
set_option maxHeartbeats 4000000 in
theorem m_S_count {l : Launch} {D : va_G} {cI cZ cJ : ClassId} {base : Nat} {ad : Nat → Nat} (x : Bk) (z : Int) (hz : InR z) (hok : Ok x) : Cn l D cls9 (tyl cI cZ cJ) base (zz base) y_S_count (wz y_S_count c_S_count 2 (some FieldType.int)) ({ frames := 3, cells := 0, slots := 0, locals := 66 } : Room) [.ref (ad 0), .int (iI z)] (cw ad cI cZ x) (fun r w => r = some (cnt x z) ∧ w = cw ad cI cZ x) 0 0 := by
  refine Cn_of (zzG base) (by decide) rfl (Nat.le_of_ble_eq_true rfl) ?_
  intro p e s m args below meth c A C hr hA hnm
  have C : gC p s m args meth c D cls9 (tyl cI cZ cJ) A c_S_count 2 "BatchSavings" (wz y_S_count c_S_count 2 (some FieldType.int)) base (zz base) := C
  refine g_lve (lv' := [(0, .ref (ad 0)), (1, .int (iI z))]) rfl ?_
  have hnp := hok.n
  have h16 := hok.r16
  have h9 := hok.r9
  refine g_iload_n C (q := 1) d_S_count_0 rfl rfl ?_
  by_cases hs1_0 : z = 0
  · refine g_tin C (tgt := 36) (off := 35) d_S_count_1 (by omega) (by omega) (by rw [hs1_0]; rfl) rfl ?_
    refine g_aload_n C (q := 0) d_S_count_36 rfl rfl ?_
    refine gG C (v := .ref (ad 1)) 0 0 u_S k_147 (cwo_0 _) rfl (by decide) rfl rfl d_S_count_37 ?_
    refine gGN C (v := .int (iI (x 1 0))) 1 5 u_O kn_47 (cwo_1 _) rfl (by decide) rfl rfl d_S_count_40 ?_
    exact g_iret C hA hr d_S_count_43 (by decide) (by decide) ⟨congrArg some (by unfold cnt; first | (rw [if_pos (by omega)]; done) | (rw [if_neg (by omega), if_pos (by omega)]; done) | (rw [if_neg (by omega), if_neg (by omega), if_pos (by omega)]; done) | (rw [if_neg (by omega), if_neg (by omega), if_neg (by omega), if_pos (by omega)]; done) | (rw [if_neg (by omega), if_neg (by omega), if_neg (by omega), if_neg (by omega), if_pos (by omega)]; done) | (rw [if_neg (by omega), if_neg (by omega), if_neg (by omega), if_neg (by omega), if_neg (by omega)]; done)), rfl⟩
  · skip
    by_cases hs1_1 : z = 1
    · refine g_tin C (tgt := 44) (off := 43) d_S_count_1 (by omega) (by omega) (by rw [hs1_1]; rfl) rfl ?_
      refine g_aload_n C (q := 0) d_S_count_44 rfl rfl ?_
      refine gG C (v := .ref (ad 3)) 0 2 u_S k_149 (cwo_0 _) rfl (by decide) rfl rfl d_S_count_45 ?_
      refine gGN C (v := .int (iI (x 3 0))) 3 4 u_B kn_110 (cwo_3 _) rfl (by decide) rfl rfl d_S_count_48 ?_
      exact g_iret C hA hr d_S_count_51 (by decide) (by decide) ⟨congrArg some (by unfold cnt; first | (rw [if_pos (by omega)]; done) | (rw [if_neg (by omega), if_pos (by omega)]; done) | (rw [if_neg (by omega), if_neg (by omega), if_pos (by omega)]; done) | (rw [if_neg (by omega), if_neg (by omega), if_neg (by omega), if_pos (by omega)]; done) | (rw [if_neg (by omega), if_neg (by omega), if_neg (by omega), if_neg (by omega), if_pos (by omega)]; done) | (rw [if_neg (by omega), if_neg (by omega), if_neg (by omega), if_neg (by omega), if_neg (by omega)]; done)), rfl⟩
    · skip
      by_cases hs1_2 : z = 2
      · refine g_tin C (tgt := 52) (off := 51) d_S_count_1 (by omega) (by omega) (by rw [hs1_2]; rfl) rfl ?_
        refine g_aload_n C (q := 0) d_S_count_52 rfl rfl ?_
        refine gG C (v := .ref (ad 3)) 0 2 u_S k_149 (cwo_0 _) rfl (by decide) rfl rfl d_S_count_53 ?_
        refine gVN C (st := []) (m_B_freeOrders x (show 0 ≤ (x 1 0) ∧ (x 1 0) ≤ 10 by omega) hok.i15) k_171 kn_168 k_170 kp_0 k_5 ho_B_freeOrders rfl rfl ⟨by decide, by decide⟩ 3 (cwo_3 _) rfl rfl rfl (Nat.le_of_ble_eq_true rfl) d_S_count_56 ⟨by decide, by decide⟩ (fun r w hq => ?_)
        obtain ⟨rfl, rfl⟩ := hq
        refine g_eq (ws' := cw ad cI cZ x) (lv' := [(0, .ref (ad 0)), (1, .int (iI z))]) (pc' := 59) (st' := [.int (iI (frees x))]) rfl rfl rfl rfl ?_
        exact g_iret C hA hr d_S_count_59 (by decide) (by decide) ⟨congrArg some (by unfold cnt; first | (rw [if_pos (by omega)]; done) | (rw [if_neg (by omega), if_pos (by omega)]; done) | (rw [if_neg (by omega), if_neg (by omega), if_pos (by omega)]; done) | (rw [if_neg (by omega), if_neg (by omega), if_neg (by omega), if_pos (by omega)]; done) | (rw [if_neg (by omega), if_neg (by omega), if_neg (by omega), if_neg (by omega), if_pos (by omega)]; done) | (rw [if_neg (by omega), if_neg (by omega), if_neg (by omega), if_neg (by omega), if_neg (by omega)]; done)), rfl⟩
      · skip
        by_cases hs1_3 : z = 3
        · refine g_tin C (tgt := 60) (off := 59) d_S_count_1 (by omega) (by omega) (by rw [hs1_3]; rfl) rfl ?_
          refine g_aload_n C (q := 0) d_S_count_60 rfl rfl ?_
          refine gG C (v := .ref (ad 4)) 0 3 u_S k_150 (cwo_0 _) rfl (by decide) rfl rfl d_S_count_61 ?_
          refine gVN C (st := []) (m_M_pairs x hok.n hok.r16) k_179 kn_176 k_178 kp_2 k_6 ho_M_pairs rfl rfl ⟨by decide, by decide⟩ 4 (cwo_4 _) rfl rfl rfl (Nat.le_of_ble_eq_true rfl) d_S_count_64 ⟨by decide, by decide⟩ (fun r w hq => ?_)
          obtain ⟨rfl, rfl⟩ := hq
          refine g_eq (ws' := cw ad cI cZ x) (lv' := [(0, .ref (ad 0)), (1, .int (iI z))]) (pc' := 67) (st' := [.int (iI (prs x))]) rfl rfl rfl rfl ?_
          exact g_iret C hA hr d_S_count_67 (by decide) (by decide) ⟨congrArg some (by unfold cnt; first | (rw [if_pos (by omega)]; done) | (rw [if_neg (by omega), if_pos (by omega)]; done) | (rw [if_neg (by omega), if_neg (by omega), if_pos (by omega)]; done) | (rw [if_neg (by omega), if_neg (by omega), if_neg (by omega), if_pos (by omega)]; done) | (rw [if_neg (by omega), if_neg (by omega), if_neg (by omega), if_neg (by omega), if_pos (by omega)]; done) | (rw [if_neg (by omega), if_neg (by omega), if_neg (by omega), if_neg (by omega), if_neg (by omega)]; done)), rfl⟩
        · skip
          by_cases hs1_4 : z = 4
          · refine g_tin C (tgt := 68) (off := 67) d_S_count_1 (by omega) (by omega) (by rw [hs1_4]; rfl) rfl ?_
            refine g_aload_n C (q := 0) d_S_count_68 rfl rfl ?_
            refine gG C (v := .ref (ad 4)) 0 3 u_S k_150 (cwo_0 _) rfl (by decide) rfl rfl d_S_count_69 ?_
            refine gVN C (st := []) (m_M_saved x hnp h16 h9) k_183 kn_180 k_182 kp_3 k_6 ho_M_saved rfl rfl ⟨by decide, by decide⟩ 4 (cwo_4 _) rfl rfl rfl (Nat.le_of_ble_eq_true rfl) d_S_count_72 ⟨by decide, by decide⟩ (fun r w hq => ?_)
            obtain ⟨rfl, rfl⟩ := hq
            refine g_eq (ws' := cw ad cI cZ x) (lv' := [(0, .ref (ad 0)), (1, .int (iI z))]) (pc' := 75) (st' := [.int (iI (svd x))]) rfl rfl rfl rfl ?_
            exact g_iret C hA hr d_S_count_75 (by decide) (by decide) ⟨congrArg some (by unfold cnt; first | (rw [if_pos (by omega)]; done) | (rw [if_neg (by omega), if_pos (by omega)]; done) | (rw [if_neg (by omega), if_neg (by omega), if_pos (by omega)]; done) | (rw [if_neg (by omega), if_neg (by omega), if_neg (by omega), if_pos (by omega)]; done) | (rw [if_neg (by omega), if_neg (by omega), if_neg (by omega), if_neg (by omega), if_pos (by omega)]; done) | (rw [if_neg (by omega), if_neg (by omega), if_neg (by omega), if_neg (by omega), if_neg (by omega)]; done)), rfl⟩
          · skip
            refine g_tout C (tgt := 76) d_S_count_1 (by omega) (by omega) rfl ?_
            refine g_iconst C d_S_count_76 ?_
            exact g_iret C hA hr d_S_count_77 (by decide) (by decide) ⟨congrArg some (by unfold cnt; first | (rw [if_pos (by omega)]; done) | (rw [if_neg (by omega), if_pos (by omega)]; done) | (rw [if_neg (by omega), if_neg (by omega), if_pos (by omega)]; done) | (rw [if_neg (by omega), if_neg (by omega), if_neg (by omega), if_pos (by omega)]; done) | (rw [if_neg (by omega), if_neg (by omega), if_neg (by omega), if_neg (by omega), if_pos (by omega)]; done) | (rw [if_neg (by omega), if_neg (by omega), if_neg (by omega), if_neg (by omega), if_neg (by omega)]; done)), rfl⟩
