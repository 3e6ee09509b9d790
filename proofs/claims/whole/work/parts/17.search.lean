set_option maxRecDepth 100000 in
set_option maxHeartbeats 4000000 in
theorem lp_M_greatest {p : Program} {l : Launch} {e : Env} {s : State} {m : MethodId} {args : Array Value} {below : List Frame} {meth : Method} {c : Code} {D : va_G} {cI cZ cJ : ClassId} {base : Nat} {ad : Nat → Nat} {A : Nat → Prop} {Q : State → Prop} (C : gC p s m args meth c D cls9 (tyl cI cZ cJ) A c_M_greatestSum 5 "BatchSavings$Matching" (wz y_M_greatestSum c_M_greatestSum 5 (some FieldType.int)) base (zz base)) (x : Bk) (lo q : Int) (hn : 0 ≤ x 1 0 ∧ x 1 0 ≤ 10) (hlo : 0 ≤ lo ∧ lo < x 1 0) (hq : 0 ≤ q ∧ q < 1024) (hg : ∀ i, 0 ≤ i → i < 100 → 0 ≤ x 17 i ∧ x 17 i ≤ 20000) (ht : ∀ i, 0 ≤ i → i < 1024 → 0 ≤ x 18 i ∧ x 18 i ≤ 400000)
    (K : gW p l e ({ frames := 2, cells := 0, slots := 0, locals := 44 } : Room) s m args below meth c D cls9 A 5 0 0 Q (cw ad cI cZ x) [(0, .ref (ad 4)), (1, .int (iI lo)), (2, .int (iI q)), (3, .int (iI (gm (x 17) (x 18) lo q ((x 1 0).toNat)))), (4, .int (iI ((x 1 0).toNat : Int)))] 54 []) : ∀ (d k : Nat), lo < (k : Int) → (k : Int) + (d : Int) = x 1 0 → gW p l e ({ frames := 2, cells := 0, slots := 0, locals := 44 } : Room) s m args below meth c D cls9 A 5 0 0 Q (cw ad cI cZ x) [(0, .ref (ad 4)), (1, .int (iI lo)), (2, .int (iI q)), (3, .int (iI (gm (x 17) (x 18) lo q k))), (4, .int (iI (k : Int)))] 12 [] := by
  intro d
  induction d with
  | zero =>
    intro k hlk hk
    refine g_iload C (q := 4) d_M_greatestSum_12 rfl ?_
    refine g_aload_n C (q := 0) d_M_greatestSum_14 rfl rfl ?_
    refine gG C (v := .ref (ad 1)) 4 0 u_M k_129 (cwo_4 _) rfl (by decide) rfl rfl d_M_greatestSum_15 ?_
    refine gGN C (v := .int (iI (x 1 0))) 1 5 u_O kn_50 (cwo_1 _) rfl (by decide) rfl rfl d_M_greatestSum_18 ?_
    refine g_icmp_ge C (tgt := 54) d_M_greatestSum_21 rfl (by omega) (by omega) (fun h21_1 => ?_) (fun h21_1 => ?_)
    · obtain rfl : k = (x 1 0).toNat := by omega
      exact K
    · exfalso
      omega
  | succ d ih =>
    intro k hlk hk
    refine g_iload C (q := 4) d_M_greatestSum_12 rfl ?_
    refine g_aload_n C (q := 0) d_M_greatestSum_14 rfl rfl ?_
    refine gG C (v := .ref (ad 1)) 4 0 u_M k_129 (cwo_4 _) rfl (by decide) rfl rfl d_M_greatestSum_15 ?_
    refine gGN C (v := .int (iI (x 1 0))) 1 5 u_O kn_50 (cwo_1 _) rfl (by decide) rfl rfl d_M_greatestSum_18 ?_
    refine g_icmp_ge C (tgt := 54) d_M_greatestSum_21 rfl (by omega) (by omega) (fun h21_1 => ?_) (fun h21_1 => ?_)
    · exfalso
      omega
    · have g1 := hg (lo * 10 + (k : Int)) (by omega) (by omega)
      have g2 := gm_bd (by omega) hq ht hg k (by omega) (lo := lo)
      have hb := b01_or (p := mtk x lo (k : Int) q)
      refine g_aload_n C (q := 0) d_M_greatestSum_24 rfl rfl ?_
      refine g_iload_n C (q := 1) d_M_greatestSum_25 rfl rfl ?_
      refine g_iload C (q := 4) d_M_greatestSum_26 rfl ?_
      refine g_iload_n C (q := 2) d_M_greatestSum_28 rfl rfl ?_
      refine gV C (st := []) (m_M_mayTake x lo (k : Int) q (by omega) (by omega) (by omega) (by omega)) k_468 k_465 k_467 kp_25 k_6 rfl ho_M_mayTake rfl rfl ⟨by decide, by decide⟩ 4 (cwo_4 _) rfl rfl rfl (Nat.le_of_ble_eq_true rfl) d_M_greatestSum_29 ⟨by decide, by decide⟩ (fun r w hq => ?_)
      obtain ⟨rfl, rfl⟩ := hq
      refine g_eq (ws' := cw ad cI cZ x) (lv' := [(0, .ref (ad 4)), (1, .int (iI lo)), (2, .int (iI q)), (3, .int (iI (gm (x 17) (x 18) lo q k))), (4, .int (iI (k : Int)))]) (pc' := 32) (st' := [.int (iI (b01 (mtk x lo (k : Int) q)))]) rfl rfl rfl rfl ?_
      refine g_if_eq C (tgt := 48) d_M_greatestSum_32 rfl (by omega) (fun h32_2 => ?_) (fun h32_2 => ?_)
      · refine g_lve (lv' := [(0, .ref (ad 4)), (1, .int (iI lo)), (2, .int (iI q)), (3, .int (iI (gm (x 17) (x 18) lo q (k + 1)))), (4, .int (iI (k : Int)))]) (by first | (rw [gm_t ⟨by omega, Classical.byContradiction fun z => absurd (b01_f (p := mtk x lo (k : Int) q) z) (by omega)⟩]; done) | (rw [gm_f (fun z => absurd (b01_t (p := mtk x lo (k : Int) q) z.2) (by omega))]; done)) ?_
        refine g_iinc C (q := 4) (lv' := [(0, .ref (ad 4)), (1, .int (iI lo)), (2, .int (iI q)), (3, .int (iI (gm (x 17) (x 18) lo q (k + 1)))), (4, .int (iI ((k : Int) + 1)))]) d_M_greatestSum_48 rfl (by decide) rfl rfl ?_
        refine g_goto C (tgt := 12) d_M_greatestSum_51 rfl ?_
        exact ih (k + 1) (by omega) (by omega)
      · refine g_iload_n C (q := 3) d_M_greatestSum_35 rfl rfl ?_
        refine g_aload_n C (q := 0) d_M_greatestSum_36 rfl rfl ?_
        refine g_iload_n C (q := 1) d_M_greatestSum_37 rfl rfl ?_
        refine g_iload C (q := 4) d_M_greatestSum_38 rfl ?_
        refine g_iload_n C (q := 2) d_M_greatestSum_40 rfl rfl ?_
        refine gV C (st := [.int (iI (gm (x 17) (x 18) lo q k))]) (m_M_sumWith x lo (k : Int) q (by omega) (by omega) (by omega)) k_472 k_469 k_471 kp_26 k_6 rfl ho_M_sumWith rfl rfl ⟨by decide, by decide⟩ 4 (cwo_4 _) rfl rfl rfl (Nat.le_of_ble_eq_true rfl) d_M_greatestSum_41 ⟨by decide, by decide⟩ (fun r w hq => ?_)
        obtain ⟨rfl, rfl⟩ := hq
        refine g_eq (ws' := cw ad cI cZ x) (lv' := [(0, .ref (ad 4)), (1, .int (iI lo)), (2, .int (iI q)), (3, .int (iI (gm (x 17) (x 18) lo q k))), (4, .int (iI (k : Int)))]) (pc' := 44) (st' := [.int (iI ((x 17 (lo * 10 + (k : Int))) + (x 18 (clr q (k : Int))))), .int (iI (gm (x 17) (x 18) lo q k))]) rfl rfl rfl rfl ?_
        have g3 := clr_in (q := q) (o := (k : Int)) hq (by omega)
        have g4 := ht (clr q (k : Int)) (by omega) (by omega)
        refine g_mmax C (by omega) (by omega) (gws_in mx_link_M) (gws_in mx_stat) (gws_in mx_ini) (gws_in mx_code) (by decide) (Nat.le_of_ble_eq_true rfl) (by decide) (by decide) d_M_greatestSum_44 ?_
        refine g_istore_n C (lv' := [(0, .ref (ad 4)), (1, .int (iI lo)), (2, .int (iI q)), (3, .int (iI (if (gm (x 17) (x 18) lo q k) < ((x 17 (lo * 10 + (k : Int))) + (x 18 (clr q (k : Int)))) then ((x 17 (lo * 10 + (k : Int))) + (x 18 (clr q (k : Int)))) else (gm (x 17) (x 18) lo q k)))), (4, .int (iI (k : Int)))]) d_M_greatestSum_47 rfl (by decide) rfl rfl ?_
        refine g_lve (lv' := [(0, .ref (ad 4)), (1, .int (iI lo)), (2, .int (iI q)), (3, .int (iI (gm (x 17) (x 18) lo q (k + 1)))), (4, .int (iI (k : Int)))]) (by first | (rw [gm_t ⟨by omega, Classical.byContradiction fun z => absurd (b01_f (p := mtk x lo (k : Int) q) z) (by omega)⟩]; done) | (rw [gm_f (fun z => absurd (b01_t (p := mtk x lo (k : Int) q) z.2) (by omega))]; done)) ?_
        refine g_iinc C (q := 4) (lv' := [(0, .ref (ad 4)), (1, .int (iI lo)), (2, .int (iI q)), (3, .int (iI (gm (x 17) (x 18) lo q (k + 1)))), (4, .int (iI ((k : Int) + 1)))]) d_M_greatestSum_48 rfl (by decide) rfl rfl ?_
        refine g_goto C (tgt := 12) d_M_greatestSum_51 rfl ?_
        exact ih (k + 1) (by omega) (by omega)
set_option maxRecDepth 100000 in
set_option maxHeartbeats 4000000 in
theorem m_M_greatestSum {l : Launch} {D : va_G} {cI cZ cJ : ClassId} {base : Nat} {ad : Nat → Nat} (x : Bk) (lo q : Int) (hn : 0 ≤ x 1 0 ∧ x 1 0 ≤ 10) (hlo : 0 ≤ lo ∧ lo < x 1 0) (hq : 0 ≤ q ∧ q < 1024) (hg : ∀ i, 0 ≤ i → i < 100 → 0 ≤ x 17 i ∧ x 17 i ≤ 20000) (ht : ∀ i, 0 ≤ i → i < 1024 → 0 ≤ x 18 i ∧ x 18 i ≤ 400000) : Cn l D cls9 (tyl cI cZ cJ) base (zz base) y_M_greatestSum (wz y_M_greatestSum c_M_greatestSum 5 (some FieldType.int)) ({ frames := 2, cells := 0, slots := 0, locals := 44 } : Room) [.ref (ad 4), .int (iI lo), .int (iI q)] (cw ad cI cZ x) (fun r w => r = some (gm (x 17) (x 18) lo q (x 1 0).toNat) ∧ w = cw ad cI cZ x) 0 0 := by
  refine Cn_of (zzG base) (by decide) rfl (Nat.le_of_ble_eq_true rfl) ?_
  intro p e s m args below meth c A C hr hA hnm
  have C : gC p s m args meth c D cls9 (tyl cI cZ cJ) A c_M_greatestSum 5 "BatchSavings$Matching" (wz y_M_greatestSum c_M_greatestSum 5 (some FieldType.int)) base (zz base) := C
  refine g_lve (lv' := [(0, .ref (ad 4)), (1, .int (iI lo)), (2, .int (iI q))]) rfl ?_
  refine g_aload_n C (q := 0) d_M_greatestSum_0 rfl rfl ?_
  refine gG C (v := .ref (ad 18)) 4 3 u_M k_133 (cwo_4 _) rfl (by decide) rfl rfl d_M_greatestSum_1 ?_
  refine g_iload_n C (q := 2) d_M_greatestSum_4 rfl rfl ?_
  refine g_iald C 18 0 (cwa_18 _) rfl (by decide) (by omega) d_M_greatestSum_5 ?_
  refine g_st (st' := [.int (iI (x 18 q))]) rfl ?_
  refine g_istore_n C (lv' := [(0, .ref (ad 4)), (1, .int (iI lo)), (2, .int (iI q)), (3, .int (iI (x 18 q)))]) d_M_greatestSum_6 rfl (by decide) rfl rfl ?_
  refine g_iload_n C (q := 1) d_M_greatestSum_7 rfl rfl ?_
  refine g_iconst C d_M_greatestSum_8 ?_
  refine g_iadd C d_M_greatestSum_9 ?_
  refine g_istore C (lv' := [(0, .ref (ad 4)), (1, .int (iI lo)), (2, .int (iI q)), (3, .int (iI (x 18 q))), (4, .int (iI (lo + 1)))]) d_M_greatestSum_10 (by decide) rfl rfl ?_
  refine g_lve (lv' := [(0, .ref (ad 4)), (1, .int (iI lo)), (2, .int (iI q)), (3, .int (iI (gm (x 17) (x 18) lo q ((lo + 1).toNat)))), (4, .int (iI ((lo + 1).toNat : Int)))]) (by rw [gm_lo _ _ _ _ _ (by omega), Int.toNat_of_nonneg (by omega)]) ?_
  refine lp_M_greatest C x lo q hn hlo hq hg ht ?_ ((x 1 0).toNat - (lo + 1).toNat) (lo + 1).toNat (by omega) (by omega)
  refine g_iload_n C (q := 3) d_M_greatestSum_54 rfl rfl ?_
  exact g_iret C hA hr d_M_greatestSum_55 (by decide) (by decide) ⟨rfl, rfl⟩
set_option maxRecDepth 100000 in
set_option maxHeartbeats 4000000 in
theorem lp_M_first {p : Program} {l : Launch} {e : Env} {s : State} {m : MethodId} {args : Array Value} {below : List Frame} {meth : Method} {c : Code} {D : va_G} {cI cZ cJ : ClassId} {base : Nat} {ad : Nat → Nat} {A : Nat → Prop} {Q : State → Prop} (C : gC p s m args meth c D cls9 (tyl cI cZ cJ) A c_M_firstPartner 5 "BatchSavings$Matching" (wz y_M_firstPartner c_M_firstPartner 5 (some FieldType.int)) base (zz base)) (x : Bk) (lo q due : Int) (hn : 0 ≤ x 1 0 ∧ x 1 0 ≤ 10) (hlo : 0 ≤ lo ∧ lo < x 1 0) (hq : 0 ≤ q ∧ q < 1024) (hdue : InR due) (hg : ∀ i, 0 ≤ i → i < 100 → 0 ≤ x 17 i ∧ x 17 i ≤ 20000) (ht : ∀ i, 0 ≤ i → i < 1024 → 0 ≤ x 18 i ∧ x 18 i ≤ 400000)
    (U : Int) (K : ∀ j : Int, j = U → gW p l e ({ frames := 2, cells := 0, slots := 0, locals := 44 } : Room) s m args below meth c D cls9 A 5 0 0 Q (cw ad cI cZ x) [(0, .ref (ad 4)), (1, .int (iI lo)), (2, .int (iI q)), (3, .int (iI due)), (4, .int (iI j))] 42 [.int (iI j)])
    (K1 : U = -1 → gW p l e ({ frames := 2, cells := 0, slots := 0, locals := 44 } : Room) s m args below meth c D cls9 A 5 0 0 Q (cw ad cI cZ x) [(0, .ref (ad 4)), (1, .int (iI lo)), (2, .int (iI q)), (3, .int (iI due)), (4, .int (iI ((x 1 0).toNat : Int)))] 49 []) : ∀ (d k : Nat), lo < (k : Int) → (k : Int) + (d : Int) = x 1 0 → fnd (fpP x lo q due) k d = U → gW p l e ({ frames := 2, cells := 0, slots := 0, locals := 44 } : Room) s m args below meth c D cls9 A 5 0 0 Q (cw ad cI cZ x) [(0, .ref (ad 4)), (1, .int (iI lo)), (2, .int (iI q)), (3, .int (iI due)), (4, .int (iI (k : Int)))] 5 [] := by
  intro d
  induction d with
  | zero =>
    intro k hlk hk hU
    refine g_iload C (q := 4) d_M_firstPartner_5 rfl ?_
    refine g_aload_n C (q := 0) d_M_firstPartner_7 rfl rfl ?_
    refine gG C (v := .ref (ad 1)) 4 0 u_M k_129 (cwo_4 _) rfl (by decide) rfl rfl d_M_firstPartner_8 ?_
    refine gGN C (v := .int (iI (x 1 0))) 1 5 u_O kn_50 (cwo_1 _) rfl (by decide) rfl rfl d_M_firstPartner_11 ?_
    refine g_icmp_ge C (tgt := 49) d_M_firstPartner_14 rfl (by omega) (by omega) (fun h14_1 => ?_) (fun h14_1 => ?_)
    · obtain rfl : k = (x 1 0).toNat := by omega
      exact K1 hU.symm
    · exfalso
      omega
  | succ d ih =>
    intro k hlk hk hU
    refine g_iload C (q := 4) d_M_firstPartner_5 rfl ?_
    refine g_aload_n C (q := 0) d_M_firstPartner_7 rfl rfl ?_
    refine gG C (v := .ref (ad 1)) 4 0 u_M k_129 (cwo_4 _) rfl (by decide) rfl rfl d_M_firstPartner_8 ?_
    refine gGN C (v := .int (iI (x 1 0))) 1 5 u_O kn_50 (cwo_1 _) rfl (by decide) rfl rfl d_M_firstPartner_11 ?_
    refine g_icmp_ge C (tgt := 49) d_M_firstPartner_14 rfl (by omega) (by omega) (fun h14_1 => ?_) (fun h14_1 => ?_)
    · exfalso
      omega
    · have g1 := hg (lo * 10 + (k : Int)) (by omega) (by omega)
      have g3 := clr_in (q := q) (o := (k : Int)) hq (by omega)
      have g4 := ht (clr q (k : Int)) (by omega) (by omega)
      have hb := b01_or (p := mtk x lo (k : Int) q)
      refine g_aload_n C (q := 0) d_M_firstPartner_17 rfl rfl ?_
      refine g_iload_n C (q := 1) d_M_firstPartner_18 rfl rfl ?_
      refine g_iload C (q := 4) d_M_firstPartner_19 rfl ?_
      refine g_iload_n C (q := 2) d_M_firstPartner_21 rfl rfl ?_
      refine gV C (st := []) (m_M_mayTake x lo (k : Int) q (by omega) (by omega) (by omega) (by omega)) k_468 k_465 k_467 kp_25 k_6 rfl ho_M_mayTake rfl rfl ⟨by decide, by decide⟩ 4 (cwo_4 _) rfl rfl rfl (Nat.le_of_ble_eq_true rfl) d_M_firstPartner_22 ⟨by decide, by decide⟩ (fun r w hq => ?_)
      obtain ⟨rfl, rfl⟩ := hq
      refine g_eq (ws' := cw ad cI cZ x) (lv' := [(0, .ref (ad 4)), (1, .int (iI lo)), (2, .int (iI q)), (3, .int (iI due)), (4, .int (iI (k : Int)))]) (pc' := 25) (st' := [.int (iI (b01 (mtk x lo (k : Int) q)))]) rfl rfl rfl rfl ?_
      refine g_if_eq C (tgt := 43) d_M_firstPartner_25 rfl (by omega) (fun h25_2 => ?_) (fun h25_2 => ?_)
      · refine g_iinc C (q := 4) (lv' := [(0, .ref (ad 4)), (1, .int (iI lo)), (2, .int (iI q)), (3, .int (iI due)), (4, .int (iI ((k : Int) + 1)))]) d_M_firstPartner_43 rfl (by decide) rfl rfl ?_
        refine g_goto C (tgt := 5) d_M_firstPartner_46 rfl ?_
        refine ih (k + 1) (by omega) (by omega) ?_
        rw [← hU]
        show _ = (if _ then _ else _)
        first
          | rw [if_neg (fun z => absurd (b01_t (p := mtk x lo (k : Int) q) z.1) (by omega))]
          | rw [if_neg (fun z => by have := z.2; omega)]
      · refine g_aload_n C (q := 0) d_M_firstPartner_28 rfl rfl ?_
        refine g_iload_n C (q := 1) d_M_firstPartner_29 rfl rfl ?_
        refine g_iload C (q := 4) d_M_firstPartner_30 rfl ?_
        refine g_iload_n C (q := 2) d_M_firstPartner_32 rfl rfl ?_
        refine gV C (st := []) (m_M_sumWith x lo (k : Int) q (by omega) (by omega) (by omega)) k_472 k_469 k_471 kp_26 k_6 rfl ho_M_sumWith rfl rfl ⟨by decide, by decide⟩ 4 (cwo_4 _) rfl rfl rfl (Nat.le_of_ble_eq_true rfl) d_M_firstPartner_33 ⟨by decide, by decide⟩ (fun r w hq => ?_)
        obtain ⟨rfl, rfl⟩ := hq
        refine g_eq (ws' := cw ad cI cZ x) (lv' := [(0, .ref (ad 4)), (1, .int (iI lo)), (2, .int (iI q)), (3, .int (iI due)), (4, .int (iI (k : Int)))]) (pc' := 36) (st' := [.int (iI ((x 17 (lo * 10 + (k : Int))) + (x 18 (clr q (k : Int)))))]) rfl rfl rfl rfl ?_
        refine g_iload_n C (q := 3) d_M_firstPartner_36 rfl rfl ?_
        refine g_icmp_ne C (tgt := 43) d_M_firstPartner_37 rfl (by omega) (by omega) (fun h37_3 => ?_) (fun h37_3 => ?_)
        · refine g_iinc C (q := 4) (lv' := [(0, .ref (ad 4)), (1, .int (iI lo)), (2, .int (iI q)), (3, .int (iI due)), (4, .int (iI ((k : Int) + 1)))]) d_M_firstPartner_43 rfl (by decide) rfl rfl ?_
          refine g_goto C (tgt := 5) d_M_firstPartner_46 rfl ?_
          refine ih (k + 1) (by omega) (by omega) ?_
          rw [← hU]
          show _ = (if _ then _ else _)
          first
            | rw [if_neg (fun z => absurd (b01_t (p := mtk x lo (k : Int) q) z.1) (by omega))]
            | rw [if_neg (fun z => by have := z.2; omega)]
        · refine g_iload C (q := 4) d_M_firstPartner_40 rfl ?_
          refine K _ ?_
          rw [← hU]
          show _ = (if _ then _ else _)
          rw [if_pos ⟨Classical.byContradiction fun z => absurd (b01_f z) ‹_›, by omega⟩]
set_option maxRecDepth 100000 in
set_option maxHeartbeats 4000000 in
theorem m_M_firstPartner {l : Launch} {D : va_G} {cI cZ cJ : ClassId} {base : Nat} {ad : Nat → Nat} (x : Bk) (lo q due : Int) (hn : 0 ≤ x 1 0 ∧ x 1 0 ≤ 10) (hlo : 0 ≤ lo ∧ lo < x 1 0) (hq : 0 ≤ q ∧ q < 1024) (hdue : InR due) (hg : ∀ i, 0 ≤ i → i < 100 → 0 ≤ x 17 i ∧ x 17 i ≤ 20000) (ht : ∀ i, 0 ≤ i → i < 1024 → 0 ≤ x 18 i ∧ x 18 i ≤ 400000) : Cn l D cls9 (tyl cI cZ cJ) base (zz base) y_M_firstPartner (wz y_M_firstPartner c_M_firstPartner 5 (some FieldType.int)) ({ frames := 2, cells := 0, slots := 0, locals := 44 } : Room) [.ref (ad 4), .int (iI lo), .int (iI q), .int (iI due)] (cw ad cI cZ x) (fun r w => r = some (fnd (fpP x lo q due) (lo + 1).toNat ((x 1 0).toNat - (lo + 1).toNat)) ∧ w = cw ad cI cZ x) 0 0 := by
  refine Cn_of (zzG base) (by decide) rfl (Nat.le_of_ble_eq_true rfl) ?_
  intro p e s m args below meth c A C hr hA hnm
  have C : gC p s m args meth c D cls9 (tyl cI cZ cJ) A c_M_firstPartner 5 "BatchSavings$Matching" (wz y_M_firstPartner c_M_firstPartner 5 (some FieldType.int)) base (zz base) := C
  refine g_lve (lv' := [(0, .ref (ad 4)), (1, .int (iI lo)), (2, .int (iI q)), (3, .int (iI due))]) rfl ?_
  refine g_iload_n C (q := 1) d_M_firstPartner_0 rfl rfl ?_
  refine g_iconst C d_M_firstPartner_1 ?_
  refine g_iadd C d_M_firstPartner_2 ?_
  refine g_istore C (lv' := [(0, .ref (ad 4)), (1, .int (iI lo)), (2, .int (iI q)), (3, .int (iI due)), (4, .int (iI (lo + 1)))]) d_M_firstPartner_3 (by decide) rfl rfl ?_
  refine g_lve (lv' := [(0, .ref (ad 4)), (1, .int (iI lo)), (2, .int (iI q)), (3, .int (iI due)), (4, .int (iI ((lo + 1).toNat : Int)))]) (by rw [Int.toNat_of_nonneg (by omega)]) ?_
  refine lp_M_first C x lo q due hn hlo hq hdue hg ht _ (fun j hj => ?_) (fun hU => ?_) ((x 1 0).toNat - (lo + 1).toNat) (lo + 1).toNat (by omega) (by omega) rfl
  · subst hj
    exact g_iret C hA hr d_M_firstPartner_42 (by decide) (by decide) ⟨rfl, rfl⟩
  · refine g_iconst C d_M_firstPartner_49 ?_
    exact g_iret C hA hr d_M_firstPartner_50 (by decide) (by decide) ⟨by rw [hU], rfl⟩
