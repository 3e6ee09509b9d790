set_option maxRecDepth 100000 in
set_option maxHeartbeats 4000000 in
theorem lp_Tw_mb2 {p : Program} {l : Launch} {e : Env} {s : State} {m : MethodId} {args : Array Value} {below : List Frame} {meth : Method} {c : Code} {D : va_G} {cI cZ cJ : ClassId} {base : Nat} {ad : Nat → Nat} {A : Nat → Prop} {Q : State → Prop} (C : gC p s m args meth c D cls9 (tyl cI cZ cJ) A c_Tw_mayBe 6 "BatchSavingsModel" (wz y_Tw_mayBe c_Tw_mayBe 6 (some FieldType.boolean)) base (zz base)) (x : Bk) (sz wt : Int) (i : Nat) (q : Int) (hq : 0 ≤ q ∧ q < 1024) (hok : Ok x) (hi : (i : Int) < x 1 0)
    (K : (∀ b, 0 ≤ b → b < (i : Int) → bt q b → alg x (i : Int) b) → gW p l e ({ frames := 0, cells := 0, slots := 0, locals := 0 } : Room) s m args below meth c D cls9 A 6 0 0 Q (mw ad cI cZ x) [(0, .ref (ad 0)), (1, .int (iI q)), (2, .int (iI sz)), (3, .int (iI wt)), (4, .int (iI (i : Int))), (5, .int (iI (i : Int)))] 117 [])
    (K0 : (∃ b, 0 ≤ b ∧ b < (i : Int) ∧ bt q b ∧ ¬ alg x (i : Int) b) → ∀ lv' : List (Nat × Value), gW p l e ({ frames := 0, cells := 0, slots := 0, locals := 0 } : Room) s m args below meth c D cls9 A 6 0 0 Q (mw ad cI cZ x) lv' 109 []) : ∀ (d k : Nat), k + d = i → (∀ b, 0 ≤ b → b < (k : Int) → bt q b → alg x (i : Int) b) → gW p l e ({ frames := 0, cells := 0, slots := 0, locals := 0 } : Room) s m args below meth c D cls9 A 6 0 0 Q (mw ad cI cZ x) [(0, .ref (ad 0)), (1, .int (iI q)), (2, .int (iI sz)), (3, .int (iI wt)), (4, .int (iI (i : Int))), (5, .int (iI (k : Int)))] 51 [] := by
  intro d
  induction d with
  | zero =>
    intro k hk hall
    have hn := hok.n
    refine g_iload C (q := 5) d_Tw_mayBe_51 rfl ?_
    refine g_iload C (q := 4) d_Tw_mayBe_53 rfl ?_
    refine g_icmp_ge C (tgt := 117) d_Tw_mayBe_55 rfl (by omega) (by omega) (fun h55_1 => ?_) (fun h55_1 => ?_)
    · obtain rfl : k = i := by omega
      exact K hall
    · exfalso
      omega
  | succ d ih =>
    intro k hk hall
    have hn := hok.n
    have h10 := hok.r10 ((i : Int) * 10 + (k : Int)) (by omega) (by omega)
    have h7 := hok.r7 (i : Int) (by omega) (by omega)
    have h7b := hok.r7 (k : Int) (by omega) (by omega)
    have h11 := hok.r11 (x 7 (i : Int) * 4 + x 7 (k : Int)) (by omega) (by omega)
    have hbo := bit_or q (k : Int)
    refine g_iload C (q := 5) d_Tw_mayBe_51 rfl ?_
    refine g_iload C (q := 4) d_Tw_mayBe_53 rfl ?_
    refine g_icmp_ge C (tgt := 117) d_Tw_mayBe_55 rfl (by omega) (by omega) (fun h55_1 => ?_) (fun h55_1 => ?_)
    · exfalso
      omega
    · refine g_iload_n C (q := 1) d_Tw_mayBe_58 rfl rfl ?_
      refine g_iload C (q := 5) d_Tw_mayBe_59 rfl ?_
      refine g_ishrv C d_Tw_mayBe_61 (i_shr (by omega) (by omega)) ?_
      refine g_iconst C d_Tw_mayBe_62 ?_
      refine g_iandv C d_Tw_mayBe_63 (i_and1 (shr_in _ (by omega))) ?_
      refine g_iconst C d_Tw_mayBe_64 ?_
      refine g_icmp_ne C (tgt := 111) d_Tw_mayBe_65 rfl (by omega) (by omega) (fun h65_2 => ?_) (fun h65_2 => ?_)
      · refine g_iinc C (q := 5) (lv' := [(0, .ref (ad 0)), (1, .int (iI q)), (2, .int (iI sz)), (3, .int (iI wt)), (4, .int (iI (i : Int))), (5, .int (iI ((k : Int) + 1)))]) d_Tw_mayBe_111 rfl (by decide) rfl rfl ?_
        refine g_goto C (tgt := 51) d_Tw_mayBe_114 rfl ?_
        refine ih (k + 1) (by omega) (fun b hb0 hb1 hb => ?_)
        by_cases hbk : b = (k : Int)
        · rw [hbk] at hb ⊢
          first
            | exact absurd hb (by unfold bt; omega)
            | exact ⟨by omega, by omega⟩
        · exact hall b hb0 (by omega) hb
      · refine g_aload_n C (q := 0) d_Tw_mayBe_68 rfl rfl ?_
        refine gG C (v := .ref (ad 6)) 0 7 u_Tw k_655 (mwo_0 _) rfl (by decide) rfl rfl d_Tw_mayBe_69 ?_
        refine g_bipush C d_Tw_mayBe_72 rfl ?_
        refine g_iload C (q := 4) d_Tw_mayBe_74 rfl ?_
        refine g_imul C d_Tw_mayBe_76 ?_
        refine g_iload C (q := 5) d_Tw_mayBe_77 rfl ?_
        refine g_iadd C d_Tw_mayBe_79 ?_
        refine g_zald C 6 1 (mwa_6 _) rfl (by decide) (by omega) d_Tw_mayBe_80 ?_
        refine g_st (st' := [.int (iI (x 10 ((10 * (i : Int)) + (k : Int))))]) rfl ?_
        refine g_st (st' := [.int (iI (x 10 ((i : Int) * 10 + (k : Int))))]) (by rw [Int.mul_comm 10 (i : Int)]) ?_
        refine g_if_ne C (tgt := 109) d_Tw_mayBe_81 rfl (by omega) (fun h81_3 => ?_) (fun h81_3 => ?_)
        · exact K0 ⟨(k : Int), by omega, by omega, by unfold bt; omega, fun z => by have z1 := z.1; have z2 := z.2; omega⟩ _
        · refine g_aload_n C (q := 0) d_Tw_mayBe_84 rfl rfl ?_
          refine gG C (v := .ref (ad 7)) 0 8 u_Tw k_656 (mwo_0 _) rfl (by decide) rfl rfl d_Tw_mayBe_85 ?_
          refine g_iconst C d_Tw_mayBe_88 ?_
          refine g_aload_n C (q := 0) d_Tw_mayBe_89 rfl rfl ?_
          refine gG C (v := .ref (ad 3)) 0 4 u_Tw k_652 (mwo_0 _) rfl (by decide) rfl rfl d_Tw_mayBe_90 ?_
          refine g_iload C (q := 4) d_Tw_mayBe_93 rfl ?_
          refine g_iald C 3 0 (mwa_3 _) rfl (by decide) (by omega) d_Tw_mayBe_95 ?_
          refine g_st (st' := [.int (iI (x 7 (i : Int))), .int (iI 4), .ref (ad 7)]) rfl ?_
          refine g_imul C d_Tw_mayBe_96 ?_
          refine g_aload_n C (q := 0) d_Tw_mayBe_97 rfl rfl ?_
          refine gG C (v := .ref (ad 3)) 0 4 u_Tw k_652 (mwo_0 _) rfl (by decide) rfl rfl d_Tw_mayBe_98 ?_
          refine g_iload C (q := 5) d_Tw_mayBe_101 rfl ?_
          refine g_iald C 3 0 (mwa_3 _) rfl (by decide) (by omega) d_Tw_mayBe_103 ?_
          refine g_st (st' := [.int (iI (x 7 (k : Int))), .int (iI (4 * (x 7 (i : Int)))), .ref (ad 7)]) rfl ?_
          refine g_iadd C d_Tw_mayBe_104 ?_
          refine g_zald C 7 1 (mwa_7 _) rfl (by decide) (by omega) d_Tw_mayBe_105 ?_
          refine g_st (st' := [.int (iI (x 11 ((4 * (x 7 (i : Int))) + (x 7 (k : Int)))))]) rfl ?_
          refine g_st (st' := [.int (iI (x 11 (x 7 (i : Int) * 4 + x 7 (k : Int))))]) (by rw [Int.mul_comm 4 (x 7 (i : Int))]) ?_
          refine g_if_ne C (tgt := 111) d_Tw_mayBe_106 rfl (by omega) (fun h106_4 => ?_) (fun h106_4 => ?_)
          · refine g_iinc C (q := 5) (lv' := [(0, .ref (ad 0)), (1, .int (iI q)), (2, .int (iI sz)), (3, .int (iI wt)), (4, .int (iI (i : Int))), (5, .int (iI ((k : Int) + 1)))]) d_Tw_mayBe_111 rfl (by decide) rfl rfl ?_
            refine g_goto C (tgt := 51) d_Tw_mayBe_114 rfl ?_
            refine ih (k + 1) (by omega) (fun b hb0 hb1 hb => ?_)
            by_cases hbk : b = (k : Int)
            · rw [hbk] at hb ⊢
              first
                | exact absurd hb (by unfold bt; omega)
                | exact ⟨by omega, by omega⟩
            · exact hall b hb0 (by omega) hb
          · exact K0 ⟨(k : Int), by omega, by omega, by unfold bt; omega, fun z => by have z1 := z.1; have z2 := z.2; omega⟩ _
set_option maxRecDepth 100000 in
set_option maxHeartbeats 4000000 in
theorem lp_Tw_mb1 {p : Program} {l : Launch} {e : Env} {s : State} {m : MethodId} {args : Array Value} {below : List Frame} {meth : Method} {c : Code} {D : va_G} {cI cZ cJ : ClassId} {base : Nat} {ad : Nat → Nat} {A : Nat → Prop} {Q : State → Prop} (C : gC p s m args meth c D cls9 (tyl cI cZ cJ) A c_Tw_mayBe 6 "BatchSavingsModel" (wz y_Tw_mayBe c_Tw_mayBe 6 (some FieldType.boolean)) base (zz base)) (x : Bk) (q : Int) (hq : 0 ≤ q ∧ q < 1024) (hok : Ok x)
    (K : mbq x q (x 1 0) → gW p l e ({ frames := 0, cells := 0, slots := 0, locals := 0 } : Room) s m args below meth c D cls9 A 6 0 0 Q (mw ad cI cZ x) [(0, .ref (ad 0)), (1, .int (iI q)), (2, .int (iI (mbs (x 6) q ((x 1 0).toNat)))), (3, .int (iI (mbs (x 8) q ((x 1 0).toNat)))), (4, .int (iI ((x 1 0).toNat : Int)))] 123 [])
    (K0 : ¬ mbq x q (x 1 0) → ∀ lv' : List (Nat × Value), gW p l e ({ frames := 0, cells := 0, slots := 0, locals := 0 } : Room) s m args below meth c D cls9 A 6 0 0 Q (mw ad cI cZ x) lv' 109 []) : ∀ (d k : Nat), (k : Int) + (d : Int) = x 1 0 → mbq x q (k : Int) → gW p l e ({ frames := 0, cells := 0, slots := 0, locals := 0 } : Room) s m args below meth c D cls9 A 6 0 0 Q (mw ad cI cZ x) [(0, .ref (ad 0)), (1, .int (iI q)), (2, .int (iI (mbs (x 6) q k))), (3, .int (iI (mbs (x 8) q k))), (4, .int (iI (k : Int)))] 7 [] := by
  intro d
  induction d with
  | zero =>
    intro k hk hq0
    have hn := hok.n
    refine g_iload C (q := 4) d_Tw_mayBe_7 rfl ?_
    refine g_aload_n C (q := 0) d_Tw_mayBe_9 rfl rfl ?_
    refine gG C (v := .int (iI (x 1 0))) 0 1 u_Tw k_649 (mwo_0 _) rfl (by decide) rfl rfl d_Tw_mayBe_10 ?_
    refine g_icmp_ge C (tgt := 123) d_Tw_mayBe_13 rfl (by omega) (by omega) (fun h13_1 => ?_) (fun h13_1 => ?_)
    · obtain rfl : k = (x 1 0).toNat := by omega
      exact K (by rw [show x 1 0 = (((x 1 0).toNat : Nat) : Int) by omega]; exact hq0)
    · exfalso
      omega
  | succ d ih =>
    intro k hk hq0
    have hn := hok.n
    have hbo := bit_or q (k : Int)
    refine g_iload C (q := 4) d_Tw_mayBe_7 rfl ?_
    refine g_aload_n C (q := 0) d_Tw_mayBe_9 rfl rfl ?_
    refine gG C (v := .int (iI (x 1 0))) 0 1 u_Tw k_649 (mwo_0 _) rfl (by decide) rfl rfl d_Tw_mayBe_10 ?_
    refine g_icmp_ge C (tgt := 123) d_Tw_mayBe_13 rfl (by omega) (by omega) (fun h13_1 => ?_) (fun h13_1 => ?_)
    · exfalso
      omega
    · refine g_iload_n C (q := 1) d_Tw_mayBe_16 rfl rfl ?_
      refine g_iload C (q := 4) d_Tw_mayBe_17 rfl ?_
      refine g_ishrv C d_Tw_mayBe_19 (i_shr (by omega) (by omega)) ?_
      refine g_iconst C d_Tw_mayBe_20 ?_
      refine g_iandv C d_Tw_mayBe_21 (i_and1 (shr_in _ (by omega))) ?_
      refine g_if_ne C (tgt := 28) d_Tw_mayBe_22 rfl (by omega) (fun h22_2 => ?_) (fun h22_2 => ?_)
      · refine g_iload_n C (q := 2) d_Tw_mayBe_28 rfl rfl ?_
        refine g_aload_n C (q := 0) d_Tw_mayBe_29 rfl rfl ?_
        refine gG C (v := .ref (ad 2)) 0 3 u_Tw k_651 (mwo_0 _) rfl (by decide) rfl rfl d_Tw_mayBe_30 ?_
        refine g_iload C (q := 4) d_Tw_mayBe_33 rfl ?_
        refine g_iald C 2 0 (mwa_2 _) rfl (by decide) (by omega) d_Tw_mayBe_35 ?_
        refine g_st (st' := [.int (iI (x 6 (k : Int))), .int (iI (mbs (x 6) q k))]) rfl ?_
        refine g_iadd C d_Tw_mayBe_36 ?_
        refine g_istore_n C (lv' := [(0, .ref (ad 0)), (1, .int (iI q)), (2, .int (iI ((mbs (x 6) q k) + (x 6 (k : Int))))), (3, .int (iI (mbs (x 8) q k))), (4, .int (iI (k : Int)))]) d_Tw_mayBe_37 rfl (by decide) rfl rfl ?_
        refine g_iload_n C (q := 3) d_Tw_mayBe_38 rfl rfl ?_
        refine g_aload_n C (q := 0) d_Tw_mayBe_39 rfl rfl ?_
        refine gG C (v := .ref (ad 4)) 0 5 u_Tw k_653 (mwo_0 _) rfl (by decide) rfl rfl d_Tw_mayBe_40 ?_
        refine g_iload C (q := 4) d_Tw_mayBe_43 rfl ?_
        refine g_iald C 4 0 (mwa_4 _) rfl (by decide) (by omega) d_Tw_mayBe_45 ?_
        refine g_st (st' := [.int (iI (x 8 (k : Int))), .int (iI (mbs (x 8) q k))]) rfl ?_
        refine g_iadd C d_Tw_mayBe_46 ?_
        refine g_istore_n C (lv' := [(0, .ref (ad 0)), (1, .int (iI q)), (2, .int (iI ((mbs (x 6) q k) + (x 6 (k : Int))))), (3, .int (iI ((mbs (x 8) q k) + (x 8 (k : Int))))), (4, .int (iI (k : Int)))]) d_Tw_mayBe_47 rfl (by decide) rfl rfl ?_
        refine g_iconst C d_Tw_mayBe_48 ?_
        refine g_istore C (lv' := [(0, .ref (ad 0)), (1, .int (iI q)), (2, .int (iI ((mbs (x 6) q k) + (x 6 (k : Int))))), (3, .int (iI ((mbs (x 8) q k) + (x 8 (k : Int))))), (4, .int (iI (k : Int))), (5, .int (iI 0))]) d_Tw_mayBe_49 (by decide) rfl rfl ?_
        refine lp_Tw_mb2 C x ((mbs (x 6) q k) + (x 6 (k : Int))) ((mbs (x 8) q k) + (x 8 (k : Int))) k q hq hok (by omega) (fun hall => ?_) (fun ⟨b, b0, b1, b2, b3⟩ lv' => K0 (fun z => b3 (z (k : Int) b b0 b1 (by omega) (by unfold bt; omega) b2)) lv') k 0 (by omega) (fun b h0 h1 => by omega)
        refine g_iinc C (q := 4) (lv' := [(0, .ref (ad 0)), (1, .int (iI q)), (2, .int (iI ((mbs (x 6) q k) + (x 6 (k : Int))))), (3, .int (iI ((mbs (x 8) q k) + (x 8 (k : Int))))), (4, .int (iI ((k : Int) + 1))), (5, .int (iI (k : Int)))]) d_Tw_mayBe_117 rfl (by decide) rfl rfl ?_
        refine g_goto C (tgt := 7) d_Tw_mayBe_120 rfl ?_
        have hbt : bt q (k : Int) := by unfold bt; omega
        refine g_lv [0, 1, 2, 3, 4] rfl ?_
        refine g_lve (lv' := [(0, .ref (ad 0)), (1, .int (iI q)), (2, .int (iI (mbs (x 6) q (k + 1)))), (3, .int (iI (mbs (x 8) q (k + 1)))), (4, .int (iI ((k + 1 : Nat) : Int)))]) (by rw [mbs_t hbt, mbs_t hbt]; rfl) ?_
        exact ih (k + 1) (by omega) (mbq_y hq0 hall)
      · refine g_goto C (tgt := 117) d_Tw_mayBe_25 rfl ?_
        refine g_iinc C (q := 4) (lv' := [(0, .ref (ad 0)), (1, .int (iI q)), (2, .int (iI (mbs (x 6) q k))), (3, .int (iI (mbs (x 8) q k))), (4, .int (iI ((k : Int) + 1)))]) d_Tw_mayBe_117 rfl (by decide) rfl rfl ?_
        refine g_goto C (tgt := 7) d_Tw_mayBe_120 rfl ?_
        have hbt : ¬ bt q (k : Int) := by unfold bt; omega
        refine g_lve (lv' := [(0, .ref (ad 0)), (1, .int (iI q)), (2, .int (iI (mbs (x 6) q (k + 1)))), (3, .int (iI (mbs (x 8) q (k + 1)))), (4, .int (iI ((k + 1 : Nat) : Int)))]) (by rw [mbs_f hbt, mbs_f hbt]; rfl) ?_
        exact ih (k + 1) (by omega) (mbq_n hq0 hbt)
set_option maxRecDepth 100000 in
set_option maxHeartbeats 4000000 in
theorem m_Tw_mayBe {l : Launch} {D : va_G} {cI cZ cJ : ClassId} {base : Nat} {ad : Nat → Nat} (x : Bk) (q : Int) (hq : 0 ≤ q ∧ q < 1024) (hok : Ok x) : Cn l D cls9 (tyl cI cZ cJ) base (zz base) y_Tw_mayBe (wz y_Tw_mayBe c_Tw_mayBe 6 (some FieldType.boolean)) ({ frames := 0, cells := 0, slots := 0, locals := 0 } : Room) [.ref (ad 0), .int (iI q)] (mw ad cI cZ x) (fun r w => r = some (c01 (mb x q)) ∧ w = mw ad cI cZ x) 0 0 := by
  refine Cn_of (zzG base) (by decide) rfl (Nat.le_of_ble_eq_true rfl) ?_
  intro p e s m args below meth c A C hr hA hnm
  have C : gC p s m args meth c D cls9 (tyl cI cZ cJ) A c_Tw_mayBe 6 "BatchSavingsModel" (wz y_Tw_mayBe c_Tw_mayBe 6 (some FieldType.boolean)) base (zz base) := C
  refine g_lve (lv' := [(0, .ref (ad 0)), (1, .int (iI q))]) rfl ?_
  refine g_iconst C d_Tw_mayBe_0 ?_
  refine g_istore_n C (lv' := [(0, .ref (ad 0)), (1, .int (iI q)), (2, .int (iI 0))]) d_Tw_mayBe_1 rfl (by decide) rfl rfl ?_
  refine g_iconst C d_Tw_mayBe_2 ?_
  refine g_istore_n C (lv' := [(0, .ref (ad 0)), (1, .int (iI q)), (2, .int (iI 0)), (3, .int (iI 0))]) d_Tw_mayBe_3 rfl (by decide) rfl rfl ?_
  refine g_iconst C d_Tw_mayBe_4 ?_
  refine g_istore C (lv' := [(0, .ref (ad 0)), (1, .int (iI q)), (2, .int (iI 0)), (3, .int (iI 0)), (4, .int (iI 0))]) d_Tw_mayBe_5 (by decide) rfl rfl ?_
  have hn := hok.n
  have hw := hok.w
  have hsz := hok.s
  refine lp_Tw_mb1 C x q hq hok (fun hmq => ?_) (fun hmq lv' => ?_) (x 1 0).toNat 0 (by omega) (mbq_0 x q)
  · have g6 := mbs_bd (q := q) (k := (x 1 0).toNat) (by omega) (by omega) hok.r6
    have g8 := mbs_bd (q := q) (k := (x 1 0).toNat) (by omega) (by omega) hok.r8
    refine g_iload_n C (q := 2) d_Tw_mayBe_123 rfl rfl ?_
    refine g_aload_n C (q := 0) d_Tw_mayBe_124 rfl rfl ?_
    refine gG C (v := .int (iI (x 2 2))) 0 10 u_Tw k_658 (mwo_0 _) rfl (by decide) rfl rfl d_Tw_mayBe_125 ?_
    refine g_icmp_gt C (tgt := 143) d_Tw_mayBe_128 rfl (by omega) (by omega) (fun h128_1 => ?_) (fun h128_1 => ?_)
    · refine g_iconst C d_Tw_mayBe_143 ?_
      exact g_zret C hA hr d_Tw_mayBe_144 (by decide) (by decide) (by omega) ⟨congrArg some (Eq.symm (by first | exact c01_t ⟨hmq, by omega, by omega⟩ | exact c01_f (fun z => by have z1 := z.2.1; have z2 := z.2.2; omega))), rfl⟩
    · refine g_iload_n C (q := 3) d_Tw_mayBe_131 rfl rfl ?_
      refine g_aload_n C (q := 0) d_Tw_mayBe_132 rfl rfl ?_
      refine gG C (v := .int (iI (x 2 1))) 0 9 u_Tw k_657 (mwo_0 _) rfl (by decide) rfl rfl d_Tw_mayBe_133 ?_
      refine g_icmp_gt C (tgt := 143) d_Tw_mayBe_136 rfl (by omega) (by omega) (fun h136_2 => ?_) (fun h136_2 => ?_)
      · refine g_iconst C d_Tw_mayBe_143 ?_
        exact g_zret C hA hr d_Tw_mayBe_144 (by decide) (by decide) (by omega) ⟨congrArg some (Eq.symm (by first | exact c01_t ⟨hmq, by omega, by omega⟩ | exact c01_f (fun z => by have z1 := z.2.1; have z2 := z.2.2; omega))), rfl⟩
      · refine g_iconst C d_Tw_mayBe_139 ?_
        refine g_goto C (tgt := 144) d_Tw_mayBe_140 rfl ?_
        exact g_zret C hA hr d_Tw_mayBe_144 (by decide) (by decide) (by omega) ⟨congrArg some (Eq.symm (by first | exact c01_t ⟨hmq, by omega, by omega⟩ | exact c01_f (fun z => by have z1 := z.2.1; have z2 := z.2.2; omega))), rfl⟩
  · refine g_iconst C d_Tw_mayBe_109 ?_
    exact g_zret C hA hr d_Tw_mayBe_110 (by decide) (by decide) (by omega) ⟨congrArg some (c01_f (fun z => hmq z.1)).symm, rfl⟩
set_option maxRecDepth 100000 in
set_option maxHeartbeats 4000000 in
theorem m_Tw_mayPair {l : Launch} {D : va_G} {cI cZ cJ : ClassId} {base : Nat} {ad : Nat → Nat} (x : Bk) (a b : Int) (ha : 0 ≤ a ∧ a < x 1 0) (hb : 0 ≤ b ∧ b < x 1 0) (hab : ¬ a = b) (hs : sym x) (hok : Ok x) : Cn l D cls9 (tyl cI cZ cJ) base (zz base) y_Tw_mayPair (wz y_Tw_mayPair c_Tw_mayPair 3 (some FieldType.boolean)) ({ frames := 1, cells := 0, slots := 0, locals := 25 } : Room) [.ref (ad 0), .int (iI a), .int (iI b)] (mw ad cI cZ x) (fun r w => r = some (c01 (okP x a b)) ∧ w = mw ad cI cZ x) 0 0 := by
  refine Cn_of (zzG base) (by decide) rfl (Nat.le_of_ble_eq_true rfl) ?_
  intro p e s m args below meth c A C hr hA hnm
  have C : gC p s m args meth c D cls9 (tyl cI cZ cJ) A c_Tw_mayPair 3 "BatchSavingsModel" (wz y_Tw_mayPair c_Tw_mayPair 3 (some FieldType.boolean)) base (zz base) := C
  refine g_lve (lv' := [(0, .ref (ad 0)), (1, .int (iI a)), (2, .int (iI b))]) rfl ?_
  have hn := hok.n
  have pa := pw_le (o := a) (by omega)
  have pa2 := pw_pos a
  have pa3 : pw a < 1024 := by have := sett_in (q := 0) (o := a) (by omega) (by omega); rw [sett_0] at this; omega
  refine g_aload_n C (q := 0) d_Tw_mayPair_0 rfl rfl ?_
  refine g_iconst C d_Tw_mayPair_1 ?_
  refine g_iload_n C (q := 1) d_Tw_mayPair_2 rfl rfl ?_
  refine g_ishl C d_Tw_mayPair_3 (by omega) (by omega) (by have := pw_le (o := a) (by omega); omega) ?_
  refine g_iconst C d_Tw_mayPair_4 ?_
  refine g_iload_n C (q := 2) d_Tw_mayPair_5 rfl rfl ?_
  refine g_ishl C d_Tw_mayPair_6 (by omega) (by omega) (by have := pw_le (o := b) (by omega); omega) ?_
  refine g_iorv C d_Tw_mayPair_7 (i_ior (by omega) (by omega)) ?_
  have hset := sett_in (q := 1 * pw a) (o := b) (by omega) (by omega)
  refine gV C (st := []) (m_Tw_mayBe x (sett (1 * pw a) b) (by omega) hok) k_741 k_738 k_740 kp_48 k_7 rfl ho_Tw_mayBe rfl rfl ⟨by decide, by decide⟩ 0 (mwo_0 _) rfl rfl rfl (Nat.le_of_ble_eq_true rfl) d_Tw_mayPair_8 ⟨by decide, by decide⟩ (fun r w hq => ?_)
  obtain ⟨rfl, rfl⟩ := hq
  refine g_eq (ws' := mw ad cI cZ x) (lv' := [(0, .ref (ad 0)), (1, .int (iI a)), (2, .int (iI b))]) (pc' := 11) (st' := [.int (iI (c01 (mb x (sett (1 * pw a) b))))]) rfl rfl rfl rfl ?_
  exact g_zret C hA hr d_Tw_mayPair_11 (by decide) (by decide) (c01_b _) ⟨congrArg some (by rw [show (mb x (sett (1 * pw a) b)) = okP x a b from propext (mb_pair hs hok ha hb hab)]), rfl⟩
set_option maxRecDepth 100000 in
set_option maxHeartbeats 4000000 in
theorem m_Tw_mayMatch {l : Launch} {D : va_G} {cI cZ cJ : ClassId} {base : Nat} {ad : Nat → Nat} (x : Bk) (a b : Int) (ha : 0 ≤ a ∧ a < x 1 0) (hb : 0 ≤ b ∧ b < x 1 0) (hab : ¬ a = b) (hs : sym x) (hok : Ok x) : Cn l D cls9 (tyl cI cZ cJ) base (zz base) y_Tw_mayMatch (wz y_Tw_mayMatch c_Tw_mayMatch 3 (some FieldType.boolean)) ({ frames := 2, cells := 0, slots := 0, locals := 47 } : Room) [.ref (ad 0), .int (iI a), .int (iI b)] (mw ad cI cZ x) (fun r w => r = some (c01 (0 < sv x a b ∧ okP x a b)) ∧ w = mw ad cI cZ x) 0 0 := by
  refine Cn_of (zzG base) (by decide) rfl (Nat.le_of_ble_eq_true rfl) ?_
  intro p e s m args below meth c A C hr hA hnm
  have C : gC p s m args meth c D cls9 (tyl cI cZ cJ) A c_Tw_mayMatch 3 "BatchSavingsModel" (wz y_Tw_mayMatch c_Tw_mayMatch 3 (some FieldType.boolean)) base (zz base) := C
  refine g_lve (lv' := [(0, .ref (ad 0)), (1, .int (iI a)), (2, .int (iI b))]) rfl ?_
  have hn := hok.n
  have h9 := hok.r9 (a * 10 + b) (by omega) (by omega)
  have hsv := sv_bd hok (a := a) (b := b) (by omega) (by omega)
  refine g_aload_n C (q := 0) d_Tw_mayMatch_0 rfl rfl ?_
  refine g_iload_n C (q := 1) d_Tw_mayMatch_1 rfl rfl ?_
  refine g_iload_n C (q := 2) d_Tw_mayMatch_2 rfl rfl ?_
  refine gV C (st := []) (m_Tw_save x a b (by omega) (by omega) (by omega)) k_725 k_722 k_724 kp_46 k_7 rfl ho_Tw_save rfl rfl ⟨by decide, by decide⟩ 0 (mwo_0 _) rfl rfl rfl (Nat.le_of_ble_eq_true rfl) d_Tw_mayMatch_3 ⟨by decide, by decide⟩ (fun r w hq => ?_)
  obtain ⟨rfl, rfl⟩ := hq
  refine g_eq (ws' := mw ad cI cZ x) (lv' := [(0, .ref (ad 0)), (1, .int (iI a)), (2, .int (iI b))]) (pc' := 6) (st' := [.int (iI (sv x a b))]) rfl rfl rfl rfl ?_
  refine g_if_le C (tgt := 22) d_Tw_mayMatch_6 rfl (by omega) (fun h6_1 => ?_) (fun h6_1 => ?_)
  · refine g_iconst C d_Tw_mayMatch_22 ?_
    exact g_zret C hA hr d_Tw_mayMatch_23 (by decide) (by decide) (by omega) ⟨congrArg some (Eq.symm (by first | exact c01_t ⟨by omega, by assumption⟩ | exact c01_f (fun z => by have z1 := z.1; omega) | exact c01_f (fun z => absurd z.2 (by assumption)))), rfl⟩
  · refine g_aload_n C (q := 0) d_Tw_mayMatch_9 rfl rfl ?_
    refine g_iload_n C (q := 1) d_Tw_mayMatch_10 rfl rfl ?_
    refine g_iload_n C (q := 2) d_Tw_mayMatch_11 rfl rfl ?_
    refine gV C (st := []) (m_Tw_mayPair x a b (by omega) (by omega) (by omega) hs hok) k_737 k_734 k_736 kp_47 k_7 rfl ho_Tw_mayPair rfl rfl ⟨by decide, by decide⟩ 0 (mwo_0 _) rfl rfl rfl (Nat.le_of_ble_eq_true rfl) d_Tw_mayMatch_12 ⟨by decide, by decide⟩ (fun r w hq => ?_)
    obtain ⟨rfl, rfl⟩ := hq
    refine g_eq (ws' := mw ad cI cZ x) (lv' := [(0, .ref (ad 0)), (1, .int (iI a)), (2, .int (iI b))]) (pc' := 15) (st' := [.int (iI (c01 (okP x a b)))]) rfl rfl rfl rfl ?_
    by_cases hb12_2 : (okP x a b)
    · refine g_st (st' := [.int (iI 1)]) (by rw [c01_t hb12_2]) ?_
      refine g_if_eq C (tgt := 22) d_Tw_mayMatch_15 rfl (by omega) (fun h15_3 => ?_) (fun h15_3 => ?_)
      · exfalso
        omega
      · refine g_iconst C d_Tw_mayMatch_18 ?_
        refine g_goto C (tgt := 23) d_Tw_mayMatch_19 rfl ?_
        exact g_zret C hA hr d_Tw_mayMatch_23 (by decide) (by decide) (by omega) ⟨congrArg some (Eq.symm (by first | exact c01_t ⟨by omega, by assumption⟩ | exact c01_f (fun z => by have z1 := z.1; omega) | exact c01_f (fun z => absurd z.2 (by assumption)))), rfl⟩
    · refine g_st (st' := [.int (iI 0)]) (by rw [c01_f hb12_2]) ?_
      refine g_if_eq C (tgt := 22) d_Tw_mayMatch_15 rfl (by omega) (fun h15_4 => ?_) (fun h15_4 => ?_)
      · refine g_iconst C d_Tw_mayMatch_22 ?_
        exact g_zret C hA hr d_Tw_mayMatch_23 (by decide) (by decide) (by omega) ⟨congrArg some (Eq.symm (by first | exact c01_t ⟨by omega, by assumption⟩ | exact c01_f (fun z => by have z1 := z.1; omega) | exact c01_f (fun z => absurd z.2 (by assumption)))), rfl⟩
      · exfalso
        omega
set_option maxRecDepth 100000 in
set_option maxHeartbeats 4000000 in
theorem lp_Tw_setOf {p : Program} {l : Launch} {e : Env} {s : State} {m : MethodId} {args : Array Value} {below : List Frame} {meth : Method} {c : Code} {D : va_G} {cI cZ cJ : ClassId} {base : Nat} {ad : Nat → Nat} {A : Nat → Prop} {Q : State → Prop} (C : gC p s m args meth c D cls9 (tyl cI cZ cJ) A c_Tw_setOf 4 "BatchSavingsModel" (wz y_Tw_setOf c_Tw_setOf 4 (some FieldType.int)) base (zz base)) (x : Bk) (b : Int) (hb : 0 ≤ b ∧ b < 10) (hok : Ok x)
    (K : gW p l e ({ frames := 0, cells := 0, slots := 0, locals := 0 } : Room) s m args below meth c D cls9 A 4 0 0 Q (mw ad cI cZ x) [(0, .ref (ad 0)), (1, .int (iI b)), (2, .int (iI (sof (fun i => x 13 (b * 4 + i)) ((x 14 b).toNat)))), (3, .int (iI ((x 14 b).toNat : Int)))] 35 []) : ∀ (d k : Nat), (k : Int) + (d : Int) = x 14 b → gW p l e ({ frames := 0, cells := 0, slots := 0, locals := 0 } : Room) s m args below meth c D cls9 A 4 0 0 Q (mw ad cI cZ x) [(0, .ref (ad 0)), (1, .int (iI b)), (2, .int (iI (sof (fun i => x 13 (b * 4 + i)) k))), (3, .int (iI (k : Int)))] 4 [] := by
  intro d
  induction d with
  | zero =>
    intro k hk
    have h14 := hok.r14 b hb.1 hb.2
    have h13 : (k : Int) < 4 → 0 ≤ x 13 (b * 4 + (k : Int)) ∧ x 13 (b * 4 + (k : Int)) < 10 := fun h => hok.l13 _ (by omega) (by omega)
    refine g_iload_n C (q := 3) d_Tw_setOf_4 rfl rfl ?_
    refine g_aload_n C (q := 0) d_Tw_setOf_5 rfl rfl ?_
    refine gG C (v := .ref (ad 9)) 0 14 u_Tw k_662 (mwo_0 _) rfl (by decide) rfl rfl d_Tw_setOf_6 ?_
    refine g_iload_n C (q := 1) d_Tw_setOf_9 rfl rfl ?_
    refine g_iald C 9 0 (mwa_9 _) rfl (by decide) (by omega) d_Tw_setOf_10 ?_
    refine g_st (st' := [.int (iI (x 14 b)), .int (iI (k : Int))]) rfl ?_
    refine g_icmp_ge C (tgt := 35) d_Tw_setOf_11 rfl (by omega) (by omega) (fun h11_1 => ?_) (fun h11_1 => ?_)
    · obtain rfl : k = (x 14 b).toNat := by omega
      exact K
    · exfalso
      omega
  | succ d ih =>
    intro k hk
    have h14 := hok.r14 b hb.1 hb.2
    have h13 : (k : Int) < 4 → 0 ≤ x 13 (b * 4 + (k : Int)) ∧ x 13 (b * 4 + (k : Int)) < 10 := fun h => hok.l13 _ (by omega) (by omega)
    refine g_iload_n C (q := 3) d_Tw_setOf_4 rfl rfl ?_
    refine g_aload_n C (q := 0) d_Tw_setOf_5 rfl rfl ?_
    refine gG C (v := .ref (ad 9)) 0 14 u_Tw k_662 (mwo_0 _) rfl (by decide) rfl rfl d_Tw_setOf_6 ?_
    refine g_iload_n C (q := 1) d_Tw_setOf_9 rfl rfl ?_
    refine g_iald C 9 0 (mwa_9 _) rfl (by decide) (by omega) d_Tw_setOf_10 ?_
    refine g_st (st' := [.int (iI (x 14 b)), .int (iI (k : Int))]) rfl ?_
    refine g_icmp_ge C (tgt := 35) d_Tw_setOf_11 rfl (by omega) (by omega) (fun h11_1 => ?_) (fun h11_1 => ?_)
    · exfalso
      omega
    · refine g_iload_n C (q := 2) d_Tw_setOf_14 rfl rfl ?_
      refine g_iconst C d_Tw_setOf_15 ?_
      refine g_aload_n C (q := 0) d_Tw_setOf_16 rfl rfl ?_
      refine gG C (v := .ref (ad 10)) 0 15 u_Tw k_663 (mwo_0 _) rfl (by decide) rfl rfl d_Tw_setOf_17 ?_
      refine g_iconst C d_Tw_setOf_20 ?_
      refine g_iload_n C (q := 1) d_Tw_setOf_21 rfl rfl ?_
      refine g_imul C d_Tw_setOf_22 ?_
      refine g_iload_n C (q := 3) d_Tw_setOf_23 rfl rfl ?_
      refine g_iadd C d_Tw_setOf_24 ?_
      refine g_iald C 10 0 (mwa_10 _) rfl (by decide) (by omega) d_Tw_setOf_25 ?_
      refine g_st (st' := [.int (iI (x 13 ((4 * b) + (k : Int)))), .int (iI 1), .int (iI (sof (fun i => x 13 (b * 4 + i)) k))]) rfl ?_
      refine g_st (st' := [.int (iI (x 13 ((b * 4) + (k : Int)))), .int (iI 1), .int (iI (sof (fun i => x 13 (b * 4 + i)) k))]) (by rw [Int.mul_comm 4 b]) ?_
      refine g_ishl C d_Tw_setOf_26 (by omega) (by omega) (by have := pw_le (o := (x 13 ((b * 4) + (k : Int)))) (by omega); omega) ?_
      have hso := sof_in (f := fun i => x 13 (b * 4 + i)) (m := k) (fun i h0 h1 => hok.l13 _ (by omega) (by omega))
      refine g_iorv C d_Tw_setOf_27 (i_ior (by omega) (by omega)) ?_
      refine g_istore_n C (lv' := [(0, .ref (ad 0)), (1, .int (iI b)), (2, .int (iI (sett (sof (fun i => x 13 (b * 4 + i)) k) (x 13 ((b * 4) + (k : Int)))))), (3, .int (iI (k : Int)))]) d_Tw_setOf_28 rfl (by decide) rfl rfl ?_
      refine g_iinc C (q := 3) (lv' := [(0, .ref (ad 0)), (1, .int (iI b)), (2, .int (iI (sett (sof (fun i => x 13 (b * 4 + i)) k) (x 13 ((b * 4) + (k : Int)))))), (3, .int (iI ((k : Int) + 1)))]) d_Tw_setOf_29 rfl (by decide) rfl rfl ?_
      refine g_goto C (tgt := 4) d_Tw_setOf_32 rfl ?_
      exact ih (k + 1) (by omega)
set_option maxRecDepth 100000 in
set_option maxHeartbeats 4000000 in
theorem m_Tw_setOf {l : Launch} {D : va_G} {cI cZ cJ : ClassId} {base : Nat} {ad : Nat → Nat} (x : Bk) (b : Int) (hb : 0 ≤ b ∧ b < 10) (hok : Ok x) : Cn l D cls9 (tyl cI cZ cJ) base (zz base) y_Tw_setOf (wz y_Tw_setOf c_Tw_setOf 4 (some FieldType.int)) ({ frames := 0, cells := 0, slots := 0, locals := 0 } : Room) [.ref (ad 0), .int (iI b)] (mw ad cI cZ x) (fun r w => r = some (sof (fun i => x 13 (b * 4 + i)) ((x 14 b).toNat)) ∧ w = mw ad cI cZ x) 0 0 := by
  refine Cn_of (zzG base) (by decide) rfl (Nat.le_of_ble_eq_true rfl) ?_
  intro p e s m args below meth c A C hr hA hnm
  have C : gC p s m args meth c D cls9 (tyl cI cZ cJ) A c_Tw_setOf 4 "BatchSavingsModel" (wz y_Tw_setOf c_Tw_setOf 4 (some FieldType.int)) base (zz base) := C
  refine g_lve (lv' := [(0, .ref (ad 0)), (1, .int (iI b))]) rfl ?_
  refine g_iconst C d_Tw_setOf_0 ?_
  refine g_istore_n C (lv' := [(0, .ref (ad 0)), (1, .int (iI b)), (2, .int (iI 0))]) d_Tw_setOf_1 rfl (by decide) rfl rfl ?_
  refine g_iconst C d_Tw_setOf_2 ?_
  refine g_istore_n C (lv' := [(0, .ref (ad 0)), (1, .int (iI b)), (2, .int (iI 0)), (3, .int (iI 0))]) d_Tw_setOf_3 rfl (by decide) rfl rfl ?_
  have h14 := hok.r14 b hb.1 hb.2
  refine lp_Tw_setOf C x b hb hok ?_ (x 14 b).toNat 0 (by omega)
  refine g_iload_n C (q := 2) d_Tw_setOf_35 rfl rfl ?_
  exact g_iret C hA hr d_Tw_setOf_36 (by decide) (by decide) ⟨rfl, rfl⟩
set_option maxRecDepth 100000 in
set_option maxHeartbeats 4000000 in
theorem m_Tw_savingWithLast {l : Launch} {D : va_G} {cI cZ cJ : ClassId} {base : Nat} {ad : Nat → Nat} (x : Bk) (a b : Int) (ha : 0 ≤ a ∧ a < 10) (hb : 0 ≤ b ∧ b < 10) (hok : Ok x) : Cn l D cls9 (tyl cI cZ cJ) base (zz base) y_Tw_savingWithLast (wz y_Tw_savingWithLast c_Tw_savingWithLast 3 (some FieldType.int)) ({ frames := 1, cells := 0, slots := 0, locals := 23 } : Room) [.ref (ad 0), .int (iI a), .int (iI b)] (mw ad cI cZ x) (fun r w => r = some (swl x a b) ∧ w = mw ad cI cZ x) 0 0 := by
  refine Cn_of (zzG base) (by decide) rfl (Nat.le_of_ble_eq_true rfl) ?_
  intro p e s m args below meth c A C hr hA hnm
  have C : gC p s m args meth c D cls9 (tyl cI cZ cJ) A c_Tw_savingWithLast 3 "BatchSavingsModel" (wz y_Tw_savingWithLast c_Tw_savingWithLast 3 (some FieldType.int)) base (zz base) := C
  refine g_lve (lv' := [(0, .ref (ad 0)), (1, .int (iI a)), (2, .int (iI b))]) rfl ?_
  have h14 := hok.r14 b hb.1 hb.2
  refine g_aload_n C (q := 0) d_Tw_savingWithLast_0 rfl rfl ?_
  refine gG C (v := .ref (ad 9)) 0 14 u_Tw k_662 (mwo_0 _) rfl (by decide) rfl rfl d_Tw_savingWithLast_1 ?_
  refine g_iload_n C (q := 2) d_Tw_savingWithLast_4 rfl rfl ?_
  refine g_iald C 9 0 (mwa_9 _) rfl (by decide) (by omega) d_Tw_savingWithLast_5 ?_
  refine g_st (st' := [.int (iI (x 14 b))]) rfl ?_
  refine g_if_ne C (tgt := 13) d_Tw_savingWithLast_6 rfl (by omega) (fun h6_1 => ?_) (fun h6_1 => ?_)
  · refine g_aload_n C (q := 0) d_Tw_savingWithLast_13 rfl rfl ?_
    refine g_aload_n C (q := 0) d_Tw_savingWithLast_14 rfl rfl ?_
    refine gG C (v := .ref (ad 10)) 0 15 u_Tw k_663 (mwo_0 _) rfl (by decide) rfl rfl d_Tw_savingWithLast_15 ?_
    refine g_iconst C d_Tw_savingWithLast_18 ?_
    refine g_iload_n C (q := 2) d_Tw_savingWithLast_19 rfl rfl ?_
    refine g_imul C d_Tw_savingWithLast_20 ?_
    refine g_aload_n C (q := 0) d_Tw_savingWithLast_21 rfl rfl ?_
    refine gG C (v := .ref (ad 9)) 0 14 u_Tw k_662 (mwo_0 _) rfl (by decide) rfl rfl d_Tw_savingWithLast_22 ?_
    refine g_iload_n C (q := 2) d_Tw_savingWithLast_25 rfl rfl ?_
    refine g_iald C 9 0 (mwa_9 _) rfl (by decide) (by omega) d_Tw_savingWithLast_26 ?_
    refine g_st (st' := [.int (iI (x 14 b)), .int (iI (4 * b)), .ref (ad 10), .ref (ad 0)]) rfl ?_
    refine g_iadd C d_Tw_savingWithLast_27 ?_
    refine g_iconst C d_Tw_savingWithLast_28 ?_
    refine g_isub C d_Tw_savingWithLast_29 ?_
    refine g_iald C 10 0 (mwa_10 _) rfl (by decide) (by omega) d_Tw_savingWithLast_30 ?_
    refine g_st (st' := [.int (iI (x 13 (((4 * b) + (x 14 b)) - 1))), .ref (ad 0)]) rfl ?_
    refine g_st (st' := [.int (iI (x 13 (b * 4 + (x 14 b - 1)))), .ref (ad 0)]) (by rw [Int.mul_comm 4 b, Int.add_sub_assoc]) ?_
    have h13 := hok.l13 (b * 4 + (x 14 b - 1)) (by omega) (by omega)
    have h9 := hok.r9 (x 13 (b * 4 + (x 14 b - 1)) * 10 + a) (by omega) (by omega)
    refine g_iload_n C (q := 1) d_Tw_savingWithLast_31 rfl rfl ?_
    refine gV C (st := []) (m_Tw_save x (x 13 (b * 4 + (x 14 b - 1))) a (by omega) (by omega) (by omega)) k_725 k_722 k_724 kp_46 k_7 rfl ho_Tw_save rfl rfl ⟨by decide, by decide⟩ 0 (mwo_0 _) rfl rfl rfl (Nat.le_of_ble_eq_true rfl) d_Tw_savingWithLast_32 ⟨by decide, by decide⟩ (fun r w hq => ?_)
    obtain ⟨rfl, rfl⟩ := hq
    refine g_eq (ws' := mw ad cI cZ x) (lv' := [(0, .ref (ad 0)), (1, .int (iI a)), (2, .int (iI b))]) (pc' := 35) (st' := [.int (iI (sv x (x 13 (b * 4 + (x 14 b - 1))) a))]) rfl rfl rfl rfl ?_
    exact g_iret C hA hr d_Tw_savingWithLast_35 (by decide) (by decide) ⟨by unfold swl; simp [*], rfl⟩
  · refine g_iconst C d_Tw_savingWithLast_9 ?_
    refine g_goto C (tgt := 35) d_Tw_savingWithLast_10 rfl ?_
    exact g_iret C hA hr d_Tw_savingWithLast_35 (by decide) (by decide) ⟨by unfold swl; simp [*], rfl⟩
set_option maxRecDepth 100000 in
set_option maxHeartbeats 4000000 in
theorem m_Tw_mayCome {l : Launch} {D : va_G} {cI cZ cJ : ClassId} {base : Nat} {ad : Nat → Nat} (x : Bk) (a b : Int) (ha : 0 ≤ a ∧ a < x 1 0) (hb : 0 ≤ b ∧ b < 10) (hs : sym x) (hok : Ok x) (hrow : ∀ i, 0 ≤ i → i < x 14 b → (0 ≤ x 13 (b * 4 + i) ∧ x 13 (b * 4 + i) < x 1 0) ∧ ¬ x 13 (b * 4 + i) = a) (hdis : ∀ i j, 0 ≤ i → i < j → j < x 14 b → ¬ x 13 (b * 4 + i) = x 13 (b * 4 + j)) : Cn l D cls9 (tyl cI cZ cJ) base (zz base) y_Tw_mayCome (wz y_Tw_mayCome c_Tw_mayCome 3 (some FieldType.boolean)) ({ frames := 2, cells := 0, slots := 0, locals := 45 } : Room) [.ref (ad 0), .int (iI a), .int (iI b)] (mw ad cI cZ x) (fun r w => r = some (c01 (mayC x a b)) ∧ w = mw ad cI cZ x) 0 0 := by
  refine Cn_of (zzG base) (by decide) rfl (Nat.le_of_ble_eq_true rfl) ?_
  intro p e s m args below meth c A C hr hA hnm
  have C : gC p s m args meth c D cls9 (tyl cI cZ cJ) A c_Tw_mayCome 3 "BatchSavingsModel" (wz y_Tw_mayCome c_Tw_mayCome 3 (some FieldType.boolean)) base (zz base) := C
  refine g_lve (lv' := [(0, .ref (ad 0)), (1, .int (iI a)), (2, .int (iI b))]) rfl ?_
  have hn := hok.n
  have h14 := hok.r14 b hb.1 hb.2
  refine g_aload_n C (q := 0) d_Tw_mayCome_0 rfl rfl ?_
  refine g_aload_n C (q := 0) d_Tw_mayCome_1 rfl rfl ?_
  refine g_iload_n C (q := 2) d_Tw_mayCome_2 rfl rfl ?_
  refine gV C (st := [.ref (ad 0)]) (m_Tw_setOf x b (by omega) hok) k_824 k_821 k_823 kp_60 k_7 rfl ho_Tw_setOf rfl rfl ⟨by decide, by decide⟩ 0 (mwo_0 _) rfl rfl rfl (Nat.le_of_ble_eq_true rfl) d_Tw_mayCome_3 ⟨by decide, by decide⟩ (fun r w hq => ?_)
  obtain ⟨rfl, rfl⟩ := hq
  refine g_eq (ws' := mw ad cI cZ x) (lv' := [(0, .ref (ad 0)), (1, .int (iI a)), (2, .int (iI b))]) (pc' := 6) (st' := [.int (iI (sof (fun i => (x 13 (b * 4 + i))) ((x 14 b)).toNat)), .ref (ad 0)]) rfl rfl rfl rfl ?_
  refine g_iconst C d_Tw_mayCome_6 ?_
  refine g_iload_n C (q := 1) d_Tw_mayCome_7 rfl rfl ?_
  refine g_ishl C d_Tw_mayCome_8 (by omega) (by omega) (by have := pw_le (o := a) (by omega); omega) ?_
  have hso := sof_in (f := fun i => x 13 (b * 4 + i)) (m := (x 14 b).toNat) (fun i h0 h1 => hok.l13 _ (by omega) (by omega))
  refine g_iorv C d_Tw_mayCome_9 (i_ior (by omega) (by omega)) ?_
  have hset := sett_in (q := sof (fun i => x 13 (b * 4 + i)) (x 14 b).toNat) (o := a) (by omega) (by omega)
  refine gV C (st := []) (m_Tw_mayBe x (sett (sof (fun i => (x 13 (b * 4 + i))) ((x 14 b)).toNat) a) (by omega) hok) k_741 k_738 k_740 kp_48 k_7 rfl ho_Tw_mayBe rfl rfl ⟨by decide, by decide⟩ 0 (mwo_0 _) rfl rfl rfl (Nat.le_of_ble_eq_true rfl) d_Tw_mayCome_10 ⟨by decide, by decide⟩ (fun r w hq => ?_)
  obtain ⟨rfl, rfl⟩ := hq
  refine g_eq (ws' := mw ad cI cZ x) (lv' := [(0, .ref (ad 0)), (1, .int (iI a)), (2, .int (iI b))]) (pc' := 13) (st' := [.int (iI (c01 (mb x (sett (sof (fun i => (x 13 (b * 4 + i))) ((x 14 b)).toNat) a))))]) rfl rfl rfl rfl ?_
  by_cases hb10_1 : (mb x (sett (sof (fun i => (x 13 (b * 4 + i))) ((x 14 b)).toNat) a))
  · refine g_st (st' := [.int (iI 1)]) (by rw [c01_t hb10_1]) ?_
    refine g_if_eq C (tgt := 29) d_Tw_mayCome_13 rfl (by omega) (fun h13_2 => ?_) (fun h13_2 => ?_)
    · exfalso
      omega
    · refine g_aload_n C (q := 0) d_Tw_mayCome_16 rfl rfl ?_
      refine g_iload_n C (q := 1) d_Tw_mayCome_17 rfl rfl ?_
      refine g_iload_n C (q := 2) d_Tw_mayCome_18 rfl rfl ?_
      refine gV C (st := []) (m_Tw_savingWithLast x a b (by omega) (by omega) hok) k_828 k_825 k_827 kp_61 k_7 rfl ho_Tw_savingWithLast rfl rfl ⟨by decide, by decide⟩ 0 (mwo_0 _) rfl rfl rfl (Nat.le_of_ble_eq_true rfl) d_Tw_mayCome_19 ⟨by decide, by decide⟩ (fun r w hq => ?_)
      obtain ⟨rfl, rfl⟩ := hq
      refine g_eq (ws' := mw ad cI cZ x) (lv' := [(0, .ref (ad 0)), (1, .int (iI a)), (2, .int (iI b))]) (pc' := 22) (st' := [.int (iI (swl x a b))]) rfl rfl rfl rfl ?_
      have hsw := swl_bd hok (a := a) (b := b) (by omega) hb
      refine g_if_lt C (tgt := 29) d_Tw_mayCome_22 rfl (by omega) (fun h22_3 => ?_) (fun h22_3 => ?_)
      · refine g_iconst C d_Tw_mayCome_29 ?_
        exact g_zret C hA hr d_Tw_mayCome_30 (by decide) (by decide) (by omega) ⟨congrArg some (Eq.symm (by first | exact c01_t ⟨(mb_bat hs hok ha hb hrow hdis).mp (by assumption), by omega⟩ | exact c01_f (fun z => by have z1 := z.2; omega) | exact c01_f (fun z => absurd ((mb_bat hs hok ha hb hrow hdis).mpr z.1) (by assumption)))), rfl⟩
      · refine g_iconst C d_Tw_mayCome_25 ?_
        refine g_goto C (tgt := 30) d_Tw_mayCome_26 rfl ?_
        exact g_zret C hA hr d_Tw_mayCome_30 (by decide) (by decide) (by omega) ⟨congrArg some (Eq.symm (by first | exact c01_t ⟨(mb_bat hs hok ha hb hrow hdis).mp (by assumption), by omega⟩ | exact c01_f (fun z => by have z1 := z.2; omega) | exact c01_f (fun z => absurd ((mb_bat hs hok ha hb hrow hdis).mpr z.1) (by assumption)))), rfl⟩
  · refine g_st (st' := [.int (iI 0)]) (by rw [c01_f hb10_1]) ?_
    refine g_if_eq C (tgt := 29) d_Tw_mayCome_13 rfl (by omega) (fun h13_4 => ?_) (fun h13_4 => ?_)
    · refine g_iconst C d_Tw_mayCome_29 ?_
      exact g_zret C hA hr d_Tw_mayCome_30 (by decide) (by decide) (by omega) ⟨congrArg some (Eq.symm (by first | exact c01_t ⟨(mb_bat hs hok ha hb hrow hdis).mp (by assumption), by omega⟩ | exact c01_f (fun z => by have z1 := z.2; omega) | exact c01_f (fun z => absurd ((mb_bat hs hok ha hb hrow hdis).mpr z.1) (by assumption)))), rfl⟩
    · exfalso
      omega
set_option maxRecDepth 100000 in
set_option maxHeartbeats 4000000 in
theorem lp_Tw_way {p : Program} {l : Launch} {e : Env} {s : State} {m : MethodId} {args : Array Value} {below : List Frame} {meth : Method} {c : Code} {D : va_G} {cI cZ cJ : ClassId} {base : Nat} {ad : Nat → Nat} {A : Nat → Prop} {Q : State → Prop} (C : gC p s m args meth c D cls9 (tyl cI cZ cJ) A c_Tw_way 5 "BatchSavingsModel" (wz y_Tw_way c_Tw_way 5 (some FieldType.int)) base (zz base)) (x : Bk) (b : Int) (hb : 0 ≤ b ∧ b < 10) (hok : Ok x)
    (K : gW p l e ({ frames := 1, cells := 0, slots := 0, locals := 23 } : Room) s m args below meth c D cls9 A 5 0 0 Q (mw ad cI cZ x) [(0, .ref (ad 0)), (1, .int (iI b)), (2, .int (iI (sg (fun i => x 5 (x 13 (b * 4 + i)) - sbt x b i) ((x 14 b).toNat)))), (3, .int (iI ((x 14 b).toNat : Int)))] 69 []) : ∀ (d k : Nat), (k : Int) + (d : Int) = x 14 b → gW p l e ({ frames := 1, cells := 0, slots := 0, locals := 23 } : Room) s m args below meth c D cls9 A 5 0 0 Q (mw ad cI cZ x) [(0, .ref (ad 0)), (1, .int (iI b)), (2, .int (iI (sg (fun i => x 5 (x 13 (b * 4 + i)) - sbt x b i) k))), (3, .int (iI (k : Int)))] 4 [] := by
  intro d
  induction d with
  | zero =>
    intro k hk
    have h14 := hok.r14 b hb.1 hb.2
    refine g_iload_n C (q := 3) d_Tw_way_4 rfl rfl ?_
    refine g_aload_n C (q := 0) d_Tw_way_5 rfl rfl ?_
    refine gG C (v := .ref (ad 9)) 0 14 u_Tw k_662 (mwo_0 _) rfl (by decide) rfl rfl d_Tw_way_6 ?_
    refine g_iload_n C (q := 1) d_Tw_way_9 rfl rfl ?_
    refine g_iald C 9 0 (mwa_9 _) rfl (by decide) (by omega) d_Tw_way_10 ?_
    refine g_st (st' := [.int (iI (x 14 b)), .int (iI (k : Int))]) rfl ?_
    refine g_icmp_ge C (tgt := 69) d_Tw_way_11 rfl (by omega) (by omega) (fun h11_1 => ?_) (fun h11_1 => ?_)
    · obtain rfl : k = (x 14 b).toNat := by omega
      exact K
    · exfalso
      omega
  | succ d ih =>
    intro k hk
    have h14 := hok.r14 b hb.1 hb.2
    have h13 := hok.l13 (b * 4 + (k : Int)) (by omega) (by omega)
    refine g_iload_n C (q := 3) d_Tw_way_4 rfl rfl ?_
    refine g_aload_n C (q := 0) d_Tw_way_5 rfl rfl ?_
    refine gG C (v := .ref (ad 9)) 0 14 u_Tw k_662 (mwo_0 _) rfl (by decide) rfl rfl d_Tw_way_6 ?_
    refine g_iload_n C (q := 1) d_Tw_way_9 rfl rfl ?_
    refine g_iald C 9 0 (mwa_9 _) rfl (by decide) (by omega) d_Tw_way_10 ?_
    refine g_st (st' := [.int (iI (x 14 b)), .int (iI (k : Int))]) rfl ?_
    refine g_icmp_ge C (tgt := 69) d_Tw_way_11 rfl (by omega) (by omega) (fun h11_1 => ?_) (fun h11_1 => ?_)
    · exfalso
      omega
    · refine g_aload_n C (q := 0) d_Tw_way_14 rfl rfl ?_
      refine gG C (v := .ref (ad 10)) 0 15 u_Tw k_663 (mwo_0 _) rfl (by decide) rfl rfl d_Tw_way_15 ?_
      refine g_iconst C d_Tw_way_18 ?_
      refine g_iload_n C (q := 1) d_Tw_way_19 rfl rfl ?_
      refine g_imul C d_Tw_way_20 ?_
      refine g_iload_n C (q := 3) d_Tw_way_21 rfl rfl ?_
      refine g_iadd C d_Tw_way_22 ?_
      refine g_iald C 10 0 (mwa_10 _) rfl (by decide) (by omega) d_Tw_way_23 ?_
      refine g_st (st' := [.int (iI (x 13 ((4 * b) + (k : Int))))]) rfl ?_
      refine g_st (st' := [.int (iI (x 13 ((b * 4) + (k : Int))))]) (by rw [Int.mul_comm 4 b]) ?_
      refine g_istore C (lv' := [(0, .ref (ad 0)), (1, .int (iI b)), (2, .int (iI (sg (fun i => x 5 (x 13 (b * 4 + i)) - sbt x b i) k))), (3, .int (iI (k : Int))), (4, .int (iI (x 13 ((b * 4) + (k : Int)))))]) d_Tw_way_24 (by decide) rfl rfl ?_
      refine g_iload_n C (q := 2) d_Tw_way_26 rfl rfl ?_
      refine g_aload_n C (q := 0) d_Tw_way_27 rfl rfl ?_
      refine gG C (v := .ref (ad 1)) 0 2 u_Tw k_650 (mwo_0 _) rfl (by decide) rfl rfl d_Tw_way_28 ?_
      refine g_iload C (q := 4) d_Tw_way_31 rfl ?_
      refine g_iald C 1 0 (mwa_1 _) rfl (by decide) (by omega) d_Tw_way_33 ?_
      refine g_st (st' := [.int (iI (x 5 (x 13 ((b * 4) + (k : Int))))), .int (iI (sg (fun i => x 5 (x 13 (b * 4 + i)) - sbt x b i) k))]) rfl ?_
      refine g_iload_n C (q := 3) d_Tw_way_34 rfl rfl ?_
      refine g_if_ne C (tgt := 42) d_Tw_way_35 rfl (by omega) (fun h35_2 => ?_) (fun h35_2 => ?_)
      · have h13b := hok.l13 (b * 4 + ((k : Int) - 1)) (by omega) (by omega)
        have h9 := hok.r9 (x 13 (b * 4 + ((k : Int) - 1)) * 10 + x 13 (b * 4 + (k : Int))) (by omega) (by omega)
        refine g_aload_n C (q := 0) d_Tw_way_42 rfl rfl ?_
        refine g_aload_n C (q := 0) d_Tw_way_43 rfl rfl ?_
        refine gG C (v := .ref (ad 10)) 0 15 u_Tw k_663 (mwo_0 _) rfl (by decide) rfl rfl d_Tw_way_44 ?_
        refine g_iconst C d_Tw_way_47 ?_
        refine g_iload_n C (q := 1) d_Tw_way_48 rfl rfl ?_
        refine g_imul C d_Tw_way_49 ?_
        refine g_iload_n C (q := 3) d_Tw_way_50 rfl rfl ?_
        refine g_iadd C d_Tw_way_51 ?_
        refine g_iconst C d_Tw_way_52 ?_
        refine g_isub C d_Tw_way_53 ?_
        refine g_st (st' := [.int (iI (b * 4 + ((k : Int) - 1))), .ref (ad 10), .ref (ad 0), .int (iI (x 5 (x 13 ((b * 4) + (k : Int))))), .int (iI (sg (fun i => x 5 (x 13 (b * 4 + i)) - sbt x b i) k))]) (by rw [Int.mul_comm 4 b, Int.add_sub_assoc]) ?_
        refine g_iald C 10 0 (mwa_10 _) rfl (by decide) (by omega) d_Tw_way_54 ?_
        refine g_st (st' := [.int (iI (x 13 (b * 4 + ((k : Int) - 1)))), .ref (ad 0), .int (iI (x 5 (x 13 ((b * 4) + (k : Int))))), .int (iI (sg (fun i => x 5 (x 13 (b * 4 + i)) - sbt x b i) k))]) rfl ?_
        refine g_iload C (q := 4) d_Tw_way_55 rfl ?_
        refine gV C (st := [.int (iI (x 5 (x 13 ((b * 4) + (k : Int))))), .int (iI (sg (fun i => x 5 (x 13 (b * 4 + i)) - sbt x b i) k))]) (m_Tw_save x (x 13 (b * 4 + ((k : Int) - 1))) (x 13 ((b * 4) + (k : Int))) (by omega) (by omega) (by omega)) k_725 k_722 k_724 kp_46 k_7 rfl ho_Tw_save rfl rfl ⟨by decide, by decide⟩ 0 (mwo_0 _) rfl rfl rfl (Nat.le_of_ble_eq_true rfl) d_Tw_way_57 ⟨by decide, by decide⟩ (fun r w hq => ?_)
        obtain ⟨rfl, rfl⟩ := hq
        refine g_eq (ws' := mw ad cI cZ x) (lv' := [(0, .ref (ad 0)), (1, .int (iI b)), (2, .int (iI (sg (fun i => x 5 (x 13 (b * 4 + i)) - sbt x b i) k))), (3, .int (iI (k : Int))), (4, .int (iI (x 13 ((b * 4) + (k : Int)))))]) (pc' := 60) (st' := [.int (iI (sv x (x 13 (b * 4 + ((k : Int) - 1))) (x 13 ((b * 4) + (k : Int))))), .int (iI (x 5 (x 13 ((b * 4) + (k : Int))))), .int (iI (sg (fun i => x 5 (x 13 (b * 4 + i)) - sbt x b i) k))]) rfl rfl rfl rfl ?_
        refine g_isub C d_Tw_way_60 ?_
        refine g_iadd C d_Tw_way_61 ?_
        refine g_st (st' := [.int (iI (sg (fun i => x 5 (x 13 (b * 4 + i)) - sbt x b i) (k + 1)))]) (by rw [sg_s]; unfold sbt; first | rw [if_pos (by omega)] | rw [if_neg (by omega)]) ?_
        refine g_istore_n C (lv' := [(0, .ref (ad 0)), (1, .int (iI b)), (2, .int (iI (sg (fun i => x 5 (x 13 (b * 4 + i)) - sbt x b i) (k + 1)))), (3, .int (iI (k : Int))), (4, .int (iI (x 13 ((b * 4) + (k : Int)))))]) d_Tw_way_62 rfl (by decide) rfl rfl ?_
        refine g_iinc C (q := 3) (lv' := [(0, .ref (ad 0)), (1, .int (iI b)), (2, .int (iI (sg (fun i => x 5 (x 13 (b * 4 + i)) - sbt x b i) (k + 1)))), (3, .int (iI ((k : Int) + 1))), (4, .int (iI (x 13 ((b * 4) + (k : Int)))))]) d_Tw_way_63 rfl (by decide) rfl rfl ?_
        refine g_goto C (tgt := 4) d_Tw_way_66 rfl ?_
        refine g_lv [0, 1, 2, 3] rfl ?_
        exact ih (k + 1) (by omega)
      · refine g_iconst C d_Tw_way_38 ?_
        refine g_goto C (tgt := 60) d_Tw_way_39 rfl ?_
        refine g_isub C d_Tw_way_60 ?_
        refine g_iadd C d_Tw_way_61 ?_
        refine g_st (st' := [.int (iI (sg (fun i => x 5 (x 13 (b * 4 + i)) - sbt x b i) (k + 1)))]) (by rw [sg_s]; unfold sbt; first | rw [if_pos (by omega)] | rw [if_neg (by omega)]) ?_
        refine g_istore_n C (lv' := [(0, .ref (ad 0)), (1, .int (iI b)), (2, .int (iI (sg (fun i => x 5 (x 13 (b * 4 + i)) - sbt x b i) (k + 1)))), (3, .int (iI (k : Int))), (4, .int (iI (x 13 ((b * 4) + (k : Int)))))]) d_Tw_way_62 rfl (by decide) rfl rfl ?_
        refine g_iinc C (q := 3) (lv' := [(0, .ref (ad 0)), (1, .int (iI b)), (2, .int (iI (sg (fun i => x 5 (x 13 (b * 4 + i)) - sbt x b i) (k + 1)))), (3, .int (iI ((k : Int) + 1))), (4, .int (iI (x 13 ((b * 4) + (k : Int)))))]) d_Tw_way_63 rfl (by decide) rfl rfl ?_
        refine g_goto C (tgt := 4) d_Tw_way_66 rfl ?_
        refine g_lv [0, 1, 2, 3] rfl ?_
        exact ih (k + 1) (by omega)
set_option maxRecDepth 100000 in
set_option maxHeartbeats 4000000 in
theorem m_Tw_way {l : Launch} {D : va_G} {cI cZ cJ : ClassId} {base : Nat} {ad : Nat → Nat} (x : Bk) (b : Int) (hb : 0 ≤ b ∧ b < 10) (hok : Ok x) : Cn l D cls9 (tyl cI cZ cJ) base (zz base) y_Tw_way (wz y_Tw_way c_Tw_way 5 (some FieldType.int)) ({ frames := 1, cells := 0, slots := 0, locals := 23 } : Room) [.ref (ad 0), .int (iI b)] (mw ad cI cZ x) (fun r w => r = some (sg (fun i => x 5 (x 13 (b * 4 + i)) - sbt x b i) (x 14 b).toNat) ∧ w = mw ad cI cZ x) 0 0 := by
  refine Cn_of (zzG base) (by decide) rfl (Nat.le_of_ble_eq_true rfl) ?_
  intro p e s m args below meth c A C hr hA hnm
  have C : gC p s m args meth c D cls9 (tyl cI cZ cJ) A c_Tw_way 5 "BatchSavingsModel" (wz y_Tw_way c_Tw_way 5 (some FieldType.int)) base (zz base) := C
  refine g_lve (lv' := [(0, .ref (ad 0)), (1, .int (iI b))]) rfl ?_
  refine g_iconst C d_Tw_way_0 ?_
  refine g_istore_n C (lv' := [(0, .ref (ad 0)), (1, .int (iI b)), (2, .int (iI 0))]) d_Tw_way_1 rfl (by decide) rfl rfl ?_
  refine g_iconst C d_Tw_way_2 ?_
  refine g_istore_n C (lv' := [(0, .ref (ad 0)), (1, .int (iI b)), (2, .int (iI 0)), (3, .int (iI 0))]) d_Tw_way_3 rfl (by decide) rfl rfl ?_
  refine lp_Tw_way C x b hb hok ?_ (x 14 b).toNat 0 (by have h14 := hok.r14 b hb.1 hb.2; omega)
  refine g_iload_n C (q := 2) d_Tw_way_69 rfl rfl ?_
  exact g_iret C hA hr d_Tw_way_70 (by decide) (by decide) ⟨rfl, rfl⟩
theorem sg_sub (f g : Int → Int) (k : Nat) : sg (fun i => f i - g i) k = sg f k - sg g k := by
  induction k with
  | zero => rfl
  | succ k ih => rw [sg_s, sg_s, sg_s, ih]; omega
theorem way_eq (x : Bk) (b : Int) : sg (fun i => x 5 (x 13 (b * 4 + i)) - sbt x b i) (x 14 b).toNat = wayB x b := sg_sub _ _ _
set_option maxRecDepth 100000 in
set_option maxHeartbeats 4000000 in
theorem lp_Tw_allSeconds {p : Program} {l : Launch} {e : Env} {s : State} {m : MethodId} {args : Array Value} {below : List Frame} {meth : Method} {c : Code} {D : va_G} {cI cZ cJ : ClassId} {base : Nat} {ad : Nat → Nat} {A : Nat → Prop} {Q : State → Prop} (C : gC p s m args meth c D cls9 (tyl cI cZ cJ) A c_Tw_allSeconds 4 "BatchSavingsModel" (wz y_Tw_allSeconds c_Tw_allSeconds 4 (some FieldType.int)) base (zz base)) (x : Bk) (b : Int) (hb : 0 ≤ b ∧ b < 10) (hok : Ok x)
    (K : gW p l e ({ frames := 0, cells := 0, slots := 0, locals := 0 } : Room) s m args below meth c D cls9 A 4 0 0 Q (mw ad cI cZ x) [(0, .ref (ad 0)), (1, .int (iI b)), (2, .int (iI (sg (fun i => x 5 (x 13 (b * 4 + i))) ((x 14 b).toNat)))), (3, .int (iI ((x 14 b).toNat : Int)))] 38 []) : ∀ (d k : Nat), (k : Int) + (d : Int) = x 14 b → gW p l e ({ frames := 0, cells := 0, slots := 0, locals := 0 } : Room) s m args below meth c D cls9 A 4 0 0 Q (mw ad cI cZ x) [(0, .ref (ad 0)), (1, .int (iI b)), (2, .int (iI (sg (fun i => x 5 (x 13 (b * 4 + i))) k))), (3, .int (iI (k : Int)))] 4 [] := by
  intro d
  induction d with
  | zero =>
    intro k hk
    have h14 := hok.r14 b hb.1 hb.2
    have h13 : (k : Int) < 4 → 0 ≤ x 13 (b * 4 + (k : Int)) ∧ x 13 (b * 4 + (k : Int)) < 10 := fun h => hok.l13 _ (by omega) (by omega)
    refine g_iload_n C (q := 3) d_Tw_allSeconds_4 rfl rfl ?_
    refine g_aload_n C (q := 0) d_Tw_allSeconds_5 rfl rfl ?_
    refine gG C (v := .ref (ad 9)) 0 14 u_Tw k_662 (mwo_0 _) rfl (by decide) rfl rfl d_Tw_allSeconds_6 ?_
    refine g_iload_n C (q := 1) d_Tw_allSeconds_9 rfl rfl ?_
    refine g_iald C 9 0 (mwa_9 _) rfl (by decide) (by omega) d_Tw_allSeconds_10 ?_
    refine g_st (st' := [.int (iI (x 14 b)), .int (iI (k : Int))]) rfl ?_
    refine g_icmp_ge C (tgt := 38) d_Tw_allSeconds_11 rfl (by omega) (by omega) (fun h11_1 => ?_) (fun h11_1 => ?_)
    · obtain rfl : k = (x 14 b).toNat := by omega
      exact K
    · exfalso
      omega
  | succ d ih =>
    intro k hk
    have h14 := hok.r14 b hb.1 hb.2
    have h13 : (k : Int) < 4 → 0 ≤ x 13 (b * 4 + (k : Int)) ∧ x 13 (b * 4 + (k : Int)) < 10 := fun h => hok.l13 _ (by omega) (by omega)
    refine g_iload_n C (q := 3) d_Tw_allSeconds_4 rfl rfl ?_
    refine g_aload_n C (q := 0) d_Tw_allSeconds_5 rfl rfl ?_
    refine gG C (v := .ref (ad 9)) 0 14 u_Tw k_662 (mwo_0 _) rfl (by decide) rfl rfl d_Tw_allSeconds_6 ?_
    refine g_iload_n C (q := 1) d_Tw_allSeconds_9 rfl rfl ?_
    refine g_iald C 9 0 (mwa_9 _) rfl (by decide) (by omega) d_Tw_allSeconds_10 ?_
    refine g_st (st' := [.int (iI (x 14 b)), .int (iI (k : Int))]) rfl ?_
    refine g_icmp_ge C (tgt := 38) d_Tw_allSeconds_11 rfl (by omega) (by omega) (fun h11_1 => ?_) (fun h11_1 => ?_)
    · exfalso
      omega
    · refine g_iload_n C (q := 2) d_Tw_allSeconds_14 rfl rfl ?_
      refine g_aload_n C (q := 0) d_Tw_allSeconds_15 rfl rfl ?_
      refine gG C (v := .ref (ad 1)) 0 2 u_Tw k_650 (mwo_0 _) rfl (by decide) rfl rfl d_Tw_allSeconds_16 ?_
      refine g_aload_n C (q := 0) d_Tw_allSeconds_19 rfl rfl ?_
      refine gG C (v := .ref (ad 10)) 0 15 u_Tw k_663 (mwo_0 _) rfl (by decide) rfl rfl d_Tw_allSeconds_20 ?_
      refine g_iconst C d_Tw_allSeconds_23 ?_
      refine g_iload_n C (q := 1) d_Tw_allSeconds_24 rfl rfl ?_
      refine g_imul C d_Tw_allSeconds_25 ?_
      refine g_iload_n C (q := 3) d_Tw_allSeconds_26 rfl rfl ?_
      refine g_iadd C d_Tw_allSeconds_27 ?_
      refine g_iald C 10 0 (mwa_10 _) rfl (by decide) (by omega) d_Tw_allSeconds_28 ?_
      refine g_st (st' := [.int (iI (x 13 ((4 * b) + (k : Int)))), .ref (ad 1), .int (iI (sg (fun i => x 5 (x 13 (b * 4 + i))) k))]) rfl ?_
      refine g_st (st' := [.int (iI (x 13 ((b * 4) + (k : Int)))), .ref (ad 1), .int (iI (sg (fun i => x 5 (x 13 (b * 4 + i))) k))]) (by rw [Int.mul_comm 4 b]) ?_
      refine g_iald C 1 0 (mwa_1 _) rfl (by decide) (by omega) d_Tw_allSeconds_29 ?_
      refine g_st (st' := [.int (iI (x 5 (x 13 ((b * 4) + (k : Int))))), .int (iI (sg (fun i => x 5 (x 13 (b * 4 + i))) k))]) rfl ?_
      refine g_iadd C d_Tw_allSeconds_30 ?_
      refine g_istore_n C (lv' := [(0, .ref (ad 0)), (1, .int (iI b)), (2, .int (iI ((sg (fun i => x 5 (x 13 (b * 4 + i))) k) + (x 5 (x 13 ((b * 4) + (k : Int))))))), (3, .int (iI (k : Int)))]) d_Tw_allSeconds_31 rfl (by decide) rfl rfl ?_
      refine g_iinc C (q := 3) (lv' := [(0, .ref (ad 0)), (1, .int (iI b)), (2, .int (iI ((sg (fun i => x 5 (x 13 (b * 4 + i))) k) + (x 5 (x 13 ((b * 4) + (k : Int))))))), (3, .int (iI ((k : Int) + 1)))]) d_Tw_allSeconds_32 rfl (by decide) rfl rfl ?_
      refine g_goto C (tgt := 4) d_Tw_allSeconds_35 rfl ?_
      exact ih (k + 1) (by omega)
set_option maxRecDepth 100000 in
set_option maxHeartbeats 4000000 in
theorem m_Tw_allSeconds {l : Launch} {D : va_G} {cI cZ cJ : ClassId} {base : Nat} {ad : Nat → Nat} (x : Bk) (b : Int) (hb : 0 ≤ b ∧ b < 10) (hok : Ok x) : Cn l D cls9 (tyl cI cZ cJ) base (zz base) y_Tw_allSeconds (wz y_Tw_allSeconds c_Tw_allSeconds 4 (some FieldType.int)) ({ frames := 0, cells := 0, slots := 0, locals := 0 } : Room) [.ref (ad 0), .int (iI b)] (mw ad cI cZ x) (fun r w => r = some (sumB x (x 5) b) ∧ w = mw ad cI cZ x) 0 0 := by
  refine Cn_of (zzG base) (by decide) rfl (Nat.le_of_ble_eq_true rfl) ?_
  intro p e s m args below meth c A C hr hA hnm
  have C : gC p s m args meth c D cls9 (tyl cI cZ cJ) A c_Tw_allSeconds 4 "BatchSavingsModel" (wz y_Tw_allSeconds c_Tw_allSeconds 4 (some FieldType.int)) base (zz base) := C
  refine g_lve (lv' := [(0, .ref (ad 0)), (1, .int (iI b))]) rfl ?_
  refine g_iconst C d_Tw_allSeconds_0 ?_
  refine g_istore_n C (lv' := [(0, .ref (ad 0)), (1, .int (iI b)), (2, .int (iI 0))]) d_Tw_allSeconds_1 rfl (by decide) rfl rfl ?_
  refine g_iconst C d_Tw_allSeconds_2 ?_
  refine g_istore_n C (lv' := [(0, .ref (ad 0)), (1, .int (iI b)), (2, .int (iI 0)), (3, .int (iI 0))]) d_Tw_allSeconds_3 rfl (by decide) rfl rfl ?_
  refine lp_Tw_allSeconds C x b hb hok ?_ (x 14 b).toNat 0 (by have h14 := hok.r14 b hb.1 hb.2; omega)
  refine g_iload_n C (q := 2) d_Tw_allSeconds_38 rfl rfl ?_
  exact g_iret C hA hr d_Tw_allSeconds_39 (by decide) (by decide) ⟨rfl, rfl⟩
set_option maxRecDepth 100000 in
set_option maxHeartbeats 4000000 in
theorem lp_Tw_pairSavings {p : Program} {l : Launch} {e : Env} {s : State} {m : MethodId} {args : Array Value} {below : List Frame} {meth : Method} {c : Code} {D : va_G} {cI cZ cJ : ClassId} {base : Nat} {ad : Nat → Nat} {A : Nat → Prop} {Q : State → Prop} (C : gC p s m args meth c D cls9 (tyl cI cZ cJ) A c_Tw_pairSavings 3 "BatchSavingsModel" (wz y_Tw_pairSavings c_Tw_pairSavings 3 (some FieldType.int)) base (zz base)) (x : Bk) (hok : Ok x)
    (K : gW p l e ({ frames := 1, cells := 0, slots := 0, locals := 23 } : Room) s m args below meth c D cls9 A 3 0 0 Q (mw ad cI cZ x) [(0, .ref (ad 0)), (1, .int (iI (sg (fun i => if i < x 16 i then sv x i (x 16 i) else 0) ((x 1 0).toNat)))), (2, .int (iI ((x 1 0).toNat : Int)))] 46 []) : ∀ (d k : Nat), (k : Int) + (d : Int) = x 1 0 → gW p l e ({ frames := 1, cells := 0, slots := 0, locals := 23 } : Room) s m args below meth c D cls9 A 3 0 0 Q (mw ad cI cZ x) [(0, .ref (ad 0)), (1, .int (iI (sg (fun i => if i < x 16 i then sv x i (x 16 i) else 0) k))), (2, .int (iI (k : Int)))] 4 [] := by
  intro d
  induction d with
  | zero =>
    intro k hk
    have hn := hok.n
    refine g_iload_n C (q := 2) d_Tw_pairSavings_4 rfl rfl ?_
    refine g_aload_n C (q := 0) d_Tw_pairSavings_5 rfl rfl ?_
    refine gG C (v := .int (iI (x 1 0))) 0 1 u_Tw k_649 (mwo_0 _) rfl (by decide) rfl rfl d_Tw_pairSavings_6 ?_
    refine g_icmp_ge C (tgt := 46) d_Tw_pairSavings_9 rfl (by omega) (by omega) (fun h9_1 => ?_) (fun h9_1 => ?_)
    · obtain rfl : k = (x 1 0).toNat := by omega
      exact K
    · exfalso
      omega
  | succ d ih =>
    intro k hk
    have hn := hok.n
    have h16 := hok.r16 (k : Int) (by omega) (by omega)
    have h15 := hok.r15 (k : Int) (by omega) (by omega)
    refine g_iload_n C (q := 2) d_Tw_pairSavings_4 rfl rfl ?_
    refine g_aload_n C (q := 0) d_Tw_pairSavings_5 rfl rfl ?_
    refine gG C (v := .int (iI (x 1 0))) 0 1 u_Tw k_649 (mwo_0 _) rfl (by decide) rfl rfl d_Tw_pairSavings_6 ?_
    refine g_icmp_ge C (tgt := 46) d_Tw_pairSavings_9 rfl (by omega) (by omega) (fun h9_1 => ?_) (fun h9_1 => ?_)
    · exfalso
      omega
    · refine g_iload_n C (q := 1) d_Tw_pairSavings_12 rfl rfl ?_
      refine g_aload_n C (q := 0) d_Tw_pairSavings_13 rfl rfl ?_
      refine gG C (v := .ref (ad 8)) 0 11 u_Tw k_659 (mwo_0 _) rfl (by decide) rfl rfl d_Tw_pairSavings_14 ?_
      refine g_iload_n C (q := 2) d_Tw_pairSavings_17 rfl rfl ?_
      refine g_iald C 8 0 (mwa_8 _) rfl (by decide) (by omega) d_Tw_pairSavings_18 ?_
      refine g_st (st' := [.int (iI (x 16 (k : Int))), .int (iI (sg (fun i => if i < x 16 i then sv x i (x 16 i) else 0) k))]) rfl ?_
      refine g_iload_n C (q := 2) d_Tw_pairSavings_19 rfl rfl ?_
      refine g_icmp_le C (tgt := 37) d_Tw_pairSavings_20 rfl (by omega) (by omega) (fun h20_2 => ?_) (fun h20_2 => ?_)
      · refine g_iconst C d_Tw_pairSavings_37 ?_
        refine g_iadd C d_Tw_pairSavings_38 ?_
        refine g_st (st' := [.int (iI (sg (fun i => if i < x 16 i then sv x i (x 16 i) else 0) (k + 1)))]) (by rw [sg_s]; first | rw [if_pos (by omega)] | rw [if_neg (by omega)]) ?_
        refine g_istore_n C (lv' := [(0, .ref (ad 0)), (1, .int (iI (sg (fun i => if i < x 16 i then sv x i (x 16 i) else 0) (k + 1)))), (2, .int (iI (k : Int)))]) d_Tw_pairSavings_39 rfl (by decide) rfl rfl ?_
        refine g_iinc C (q := 2) (lv' := [(0, .ref (ad 0)), (1, .int (iI (sg (fun i => if i < x 16 i then sv x i (x 16 i) else 0) (k + 1)))), (2, .int (iI ((k : Int) + 1)))]) d_Tw_pairSavings_40 rfl (by decide) rfl rfl ?_
        refine g_goto C (tgt := 4) d_Tw_pairSavings_43 rfl ?_
        exact ih (k + 1) (by omega)
      · refine g_aload_n C (q := 0) d_Tw_pairSavings_23 rfl rfl ?_
        refine g_iload_n C (q := 2) d_Tw_pairSavings_24 rfl rfl ?_
        refine g_aload_n C (q := 0) d_Tw_pairSavings_25 rfl rfl ?_
        refine gG C (v := .ref (ad 8)) 0 11 u_Tw k_659 (mwo_0 _) rfl (by decide) rfl rfl d_Tw_pairSavings_26 ?_
        refine g_iload_n C (q := 2) d_Tw_pairSavings_29 rfl rfl ?_
        refine g_iald C 8 0 (mwa_8 _) rfl (by decide) (by omega) d_Tw_pairSavings_30 ?_
        refine g_st (st' := [.int (iI (x 16 (k : Int))), .int (iI (k : Int)), .ref (ad 0), .int (iI (sg (fun i => if i < x 16 i then sv x i (x 16 i) else 0) k))]) rfl ?_
        have h9 := hok.r9 ((k : Int) * 10 + x 16 (k : Int)) (by omega) (by omega)
        refine gV C (st := [.int (iI (sg (fun i => if i < x 16 i then sv x i (x 16 i) else 0) k))]) (m_Tw_save x (k : Int) (x 16 (k : Int)) (by omega) (by omega) (by omega)) k_725 k_722 k_724 kp_46 k_7 rfl ho_Tw_save rfl rfl ⟨by decide, by decide⟩ 0 (mwo_0 _) rfl rfl rfl (Nat.le_of_ble_eq_true rfl) d_Tw_pairSavings_31 ⟨by decide, by decide⟩ (fun r w hq => ?_)
        obtain ⟨rfl, rfl⟩ := hq
        refine g_eq (ws' := mw ad cI cZ x) (lv' := [(0, .ref (ad 0)), (1, .int (iI (sg (fun i => if i < x 16 i then sv x i (x 16 i) else 0) k))), (2, .int (iI (k : Int)))]) (pc' := 34) (st' := [.int (iI (sv x (k : Int) (x 16 (k : Int)))), .int (iI (sg (fun i => if i < x 16 i then sv x i (x 16 i) else 0) k))]) rfl rfl rfl rfl ?_
        refine g_goto C (tgt := 38) d_Tw_pairSavings_34 rfl ?_
        refine g_iadd C d_Tw_pairSavings_38 ?_
        refine g_st (st' := [.int (iI (sg (fun i => if i < x 16 i then sv x i (x 16 i) else 0) (k + 1)))]) (by rw [sg_s]; first | rw [if_pos (by omega)] | rw [if_neg (by omega)]) ?_
        refine g_istore_n C (lv' := [(0, .ref (ad 0)), (1, .int (iI (sg (fun i => if i < x 16 i then sv x i (x 16 i) else 0) (k + 1)))), (2, .int (iI (k : Int)))]) d_Tw_pairSavings_39 rfl (by decide) rfl rfl ?_
        refine g_iinc C (q := 2) (lv' := [(0, .ref (ad 0)), (1, .int (iI (sg (fun i => if i < x 16 i then sv x i (x 16 i) else 0) (k + 1)))), (2, .int (iI ((k : Int) + 1)))]) d_Tw_pairSavings_40 rfl (by decide) rfl rfl ?_
        refine g_goto C (tgt := 4) d_Tw_pairSavings_43 rfl ?_
        exact ih (k + 1) (by omega)
set_option maxRecDepth 100000 in
set_option maxHeartbeats 4000000 in
theorem m_Tw_pairSavings {l : Launch} {D : va_G} {cI cZ cJ : ClassId} {base : Nat} {ad : Nat → Nat} (x : Bk) (hok : Ok x) : Cn l D cls9 (tyl cI cZ cJ) base (zz base) y_Tw_pairSavings (wz y_Tw_pairSavings c_Tw_pairSavings 3 (some FieldType.int)) ({ frames := 1, cells := 0, slots := 0, locals := 23 } : Room) [.ref (ad 0)] (mw ad cI cZ x) (fun r w => r = some (svd x) ∧ w = mw ad cI cZ x) 0 0 := by
  refine Cn_of (zzG base) (by decide) rfl (Nat.le_of_ble_eq_true rfl) ?_
  intro p e s m args below meth c A C hr hA hnm
  have C : gC p s m args meth c D cls9 (tyl cI cZ cJ) A c_Tw_pairSavings 3 "BatchSavingsModel" (wz y_Tw_pairSavings c_Tw_pairSavings 3 (some FieldType.int)) base (zz base) := C
  refine g_lve (lv' := [(0, .ref (ad 0))]) rfl ?_
  refine g_iconst C d_Tw_pairSavings_0 ?_
  refine g_istore_n C (lv' := [(0, .ref (ad 0)), (1, .int (iI 0))]) d_Tw_pairSavings_1 rfl (by decide) rfl rfl ?_
  refine g_iconst C d_Tw_pairSavings_2 ?_
  refine g_istore_n C (lv' := [(0, .ref (ad 0)), (1, .int (iI 0)), (2, .int (iI 0))]) d_Tw_pairSavings_3 rfl (by decide) rfl rfl ?_
  have hn := hok.n
  refine lp_Tw_pairSavings C x hok ?_ (x 1 0).toNat 0 (by omega)
  refine g_iload_n C (q := 1) d_Tw_pairSavings_46 rfl rfl ?_
  exact g_iret C hA hr d_Tw_pairSavings_47 (by decide) (by decide) ⟨rfl, rfl⟩
set_option maxRecDepth 100000 in
set_option maxHeartbeats 4000000 in
theorem lp_Tw_pairs {p : Program} {l : Launch} {e : Env} {s : State} {m : MethodId} {args : Array Value} {below : List Frame} {meth : Method} {c : Code} {D : va_G} {cI cZ cJ : ClassId} {base : Nat} {ad : Nat → Nat} {A : Nat → Prop} {Q : State → Prop} (C : gC p s m args meth c D cls9 (tyl cI cZ cJ) A c_Tw_pairs 3 "BatchSavingsModel" (wz y_Tw_pairs c_Tw_pairs 3 (some FieldType.int)) base (zz base)) (x : Bk) (hok : Ok x)
    (K : gW p l e ({ frames := 0, cells := 0, slots := 0, locals := 0 } : Room) s m args below meth c D cls9 A 3 0 0 Q (mw ad cI cZ x) [(0, .ref (ad 0)), (1, .int (iI (sg (fun i => b01 (i < x 16 i)) ((x 1 0).toNat)))), (2, .int (iI ((x 1 0).toNat : Int)))] 36 []) : ∀ (d k : Nat), (k : Int) + (d : Int) = x 1 0 → gW p l e ({ frames := 0, cells := 0, slots := 0, locals := 0 } : Room) s m args below meth c D cls9 A 3 0 0 Q (mw ad cI cZ x) [(0, .ref (ad 0)), (1, .int (iI (sg (fun i => b01 (i < x 16 i)) k))), (2, .int (iI (k : Int)))] 4 [] := by
  intro d
  induction d with
  | zero =>
    intro k hk
    have hn := hok.n
    refine g_iload_n C (q := 2) d_Tw_pairs_4 rfl rfl ?_
    refine g_aload_n C (q := 0) d_Tw_pairs_5 rfl rfl ?_
    refine gG C (v := .int (iI (x 1 0))) 0 1 u_Tw k_649 (mwo_0 _) rfl (by decide) rfl rfl d_Tw_pairs_6 ?_
    refine g_icmp_ge C (tgt := 36) d_Tw_pairs_9 rfl (by omega) (by omega) (fun h9_1 => ?_) (fun h9_1 => ?_)
    · obtain rfl : k = (x 1 0).toNat := by omega
      exact K
    · exfalso
      omega
  | succ d ih =>
    intro k hk
    have hn := hok.n
    have h16 := hok.r16 (k : Int) (by omega) (by omega)
    have h15 := hok.r15 (k : Int) (by omega) (by omega)
    refine g_iload_n C (q := 2) d_Tw_pairs_4 rfl rfl ?_
    refine g_aload_n C (q := 0) d_Tw_pairs_5 rfl rfl ?_
    refine gG C (v := .int (iI (x 1 0))) 0 1 u_Tw k_649 (mwo_0 _) rfl (by decide) rfl rfl d_Tw_pairs_6 ?_
    refine g_icmp_ge C (tgt := 36) d_Tw_pairs_9 rfl (by omega) (by omega) (fun h9_1 => ?_) (fun h9_1 => ?_)
    · exfalso
      omega
    · refine g_iload_n C (q := 1) d_Tw_pairs_12 rfl rfl ?_
      refine g_aload_n C (q := 0) d_Tw_pairs_13 rfl rfl ?_
      refine gG C (v := .ref (ad 8)) 0 11 u_Tw k_659 (mwo_0 _) rfl (by decide) rfl rfl d_Tw_pairs_14 ?_
      refine g_iload_n C (q := 2) d_Tw_pairs_17 rfl rfl ?_
      refine g_iald C 8 0 (mwa_8 _) rfl (by decide) (by omega) d_Tw_pairs_18 ?_
      refine g_st (st' := [.int (iI (x 16 (k : Int))), .int (iI (sg (fun i => b01 (i < x 16 i)) k))]) rfl ?_
      refine g_iload_n C (q := 2) d_Tw_pairs_19 rfl rfl ?_
      refine g_icmp_le C (tgt := 27) d_Tw_pairs_20 rfl (by omega) (by omega) (fun h20_2 => ?_) (fun h20_2 => ?_)
      · refine g_iconst C d_Tw_pairs_27 ?_
        refine g_iadd C d_Tw_pairs_28 ?_
        refine g_st (st' := [.int (iI (sg (fun i => b01 (i < x 16 i)) (k + 1)))]) (by rw [sg_s]; first | rw [b01_t (by omega)] | rw [b01_f (by omega)]) ?_
        refine g_istore_n C (lv' := [(0, .ref (ad 0)), (1, .int (iI (sg (fun i => b01 (i < x 16 i)) (k + 1)))), (2, .int (iI (k : Int)))]) d_Tw_pairs_29 rfl (by decide) rfl rfl ?_
        refine g_iinc C (q := 2) (lv' := [(0, .ref (ad 0)), (1, .int (iI (sg (fun i => b01 (i < x 16 i)) (k + 1)))), (2, .int (iI ((k : Int) + 1)))]) d_Tw_pairs_30 rfl (by decide) rfl rfl ?_
        refine g_goto C (tgt := 4) d_Tw_pairs_33 rfl ?_
        exact ih (k + 1) (by omega)
      · refine g_iconst C d_Tw_pairs_23 ?_
        refine g_goto C (tgt := 28) d_Tw_pairs_24 rfl ?_
        refine g_iadd C d_Tw_pairs_28 ?_
        refine g_st (st' := [.int (iI (sg (fun i => b01 (i < x 16 i)) (k + 1)))]) (by rw [sg_s]; first | rw [b01_t (by omega)] | rw [b01_f (by omega)]) ?_
        refine g_istore_n C (lv' := [(0, .ref (ad 0)), (1, .int (iI (sg (fun i => b01 (i < x 16 i)) (k + 1)))), (2, .int (iI (k : Int)))]) d_Tw_pairs_29 rfl (by decide) rfl rfl ?_
        refine g_iinc C (q := 2) (lv' := [(0, .ref (ad 0)), (1, .int (iI (sg (fun i => b01 (i < x 16 i)) (k + 1)))), (2, .int (iI ((k : Int) + 1)))]) d_Tw_pairs_30 rfl (by decide) rfl rfl ?_
        refine g_goto C (tgt := 4) d_Tw_pairs_33 rfl ?_
        exact ih (k + 1) (by omega)
set_option maxRecDepth 100000 in
set_option maxHeartbeats 4000000 in
theorem m_Tw_pairs {l : Launch} {D : va_G} {cI cZ cJ : ClassId} {base : Nat} {ad : Nat → Nat} (x : Bk) (hok : Ok x) : Cn l D cls9 (tyl cI cZ cJ) base (zz base) y_Tw_pairs (wz y_Tw_pairs c_Tw_pairs 3 (some FieldType.int)) ({ frames := 0, cells := 0, slots := 0, locals := 0 } : Room) [.ref (ad 0)] (mw ad cI cZ x) (fun r w => r = some (prs x) ∧ w = mw ad cI cZ x) 0 0 := by
  refine Cn_of (zzG base) (by decide) rfl (Nat.le_of_ble_eq_true rfl) ?_
  intro p e s m args below meth c A C hr hA hnm
  have C : gC p s m args meth c D cls9 (tyl cI cZ cJ) A c_Tw_pairs 3 "BatchSavingsModel" (wz y_Tw_pairs c_Tw_pairs 3 (some FieldType.int)) base (zz base) := C
  refine g_lve (lv' := [(0, .ref (ad 0))]) rfl ?_
  refine g_iconst C d_Tw_pairs_0 ?_
  refine g_istore_n C (lv' := [(0, .ref (ad 0)), (1, .int (iI 0))]) d_Tw_pairs_1 rfl (by decide) rfl rfl ?_
  refine g_iconst C d_Tw_pairs_2 ?_
  refine g_istore_n C (lv' := [(0, .ref (ad 0)), (1, .int (iI 0)), (2, .int (iI 0))]) d_Tw_pairs_3 rfl (by decide) rfl rfl ?_
  have hn := hok.n
  refine lp_Tw_pairs C x hok ?_ (x 1 0).toNat 0 (by omega)
  refine g_iload_n C (q := 1) d_Tw_pairs_36 rfl rfl ?_
  exact g_iret C hA hr d_Tw_pairs_37 (by decide) (by decide) ⟨rfl, rfl⟩
set_option maxRecDepth 100000 in
set_option maxHeartbeats 4000000 in
theorem lp_Tw_freeOnes {p : Program} {l : Launch} {e : Env} {s : State} {m : MethodId} {args : Array Value} {below : List Frame} {meth : Method} {c : Code} {D : va_G} {cI cZ cJ : ClassId} {base : Nat} {ad : Nat → Nat} {A : Nat → Prop} {Q : State → Prop} (C : gC p s m args meth c D cls9 (tyl cI cZ cJ) A c_Tw_freeOnes 3 "BatchSavingsModel" (wz y_Tw_freeOnes c_Tw_freeOnes 3 (some FieldType.int)) base (zz base)) (x : Bk) (hok : Ok x)
    (K : gW p l e ({ frames := 1, cells := 0, slots := 0, locals := 21 } : Room) s m args below meth c D cls9 A 3 0 0 Q (mw ad cI cZ x) [(0, .ref (ad 0)), (1, .int (iI (sg (fun i => b01 (x 15 i = -1)) ((x 1 0).toNat)))), (2, .int (iI ((x 1 0).toNat : Int)))] 34 []) : ∀ (d k : Nat), (k : Int) + (d : Int) = x 1 0 → gW p l e ({ frames := 1, cells := 0, slots := 0, locals := 21 } : Room) s m args below meth c D cls9 A 3 0 0 Q (mw ad cI cZ x) [(0, .ref (ad 0)), (1, .int (iI (sg (fun i => b01 (x 15 i = -1)) k))), (2, .int (iI (k : Int)))] 4 [] := by
  intro d
  induction d with
  | zero =>
    intro k hk
    have hn := hok.n
    refine g_iload_n C (q := 2) d_Tw_freeOnes_4 rfl rfl ?_
    refine g_aload_n C (q := 0) d_Tw_freeOnes_5 rfl rfl ?_
    refine gG C (v := .int (iI (x 1 0))) 0 1 u_Tw k_649 (mwo_0 _) rfl (by decide) rfl rfl d_Tw_freeOnes_6 ?_
    refine g_icmp_ge C (tgt := 34) d_Tw_freeOnes_9 rfl (by omega) (by omega) (fun h9_1 => ?_) (fun h9_1 => ?_)
    · obtain rfl : k = (x 1 0).toNat := by omega
      exact K
    · exfalso
      omega
  | succ d ih =>
    intro k hk
    have hn := hok.n
    have h16 := hok.r16 (k : Int) (by omega) (by omega)
    have h15 := hok.r15 (k : Int) (by omega) (by omega)
    refine g_iload_n C (q := 2) d_Tw_freeOnes_4 rfl rfl ?_
    refine g_aload_n C (q := 0) d_Tw_freeOnes_5 rfl rfl ?_
    refine gG C (v := .int (iI (x 1 0))) 0 1 u_Tw k_649 (mwo_0 _) rfl (by decide) rfl rfl d_Tw_freeOnes_6 ?_
    refine g_icmp_ge C (tgt := 34) d_Tw_freeOnes_9 rfl (by omega) (by omega) (fun h9_1 => ?_) (fun h9_1 => ?_)
    · exfalso
      omega
    · refine g_iload_n C (q := 1) d_Tw_freeOnes_12 rfl rfl ?_
      refine g_aload_n C (q := 0) d_Tw_freeOnes_13 rfl rfl ?_
      refine g_iload_n C (q := 2) d_Tw_freeOnes_14 rfl rfl ?_
      refine gV C (st := [.int (iI (sg (fun i => b01 (x 15 i = -1)) k))]) (m_Tw_isFree x (k : Int) (by omega) (by omega)) k_749 k_746 k_748 kp_49 k_7 rfl ho_Tw_isFree rfl rfl ⟨by decide, by decide⟩ 0 (mwo_0 _) rfl rfl rfl (Nat.le_of_ble_eq_true rfl) d_Tw_freeOnes_15 ⟨by decide, by decide⟩ (fun r w hq => ?_)
      obtain ⟨rfl, rfl⟩ := hq
      refine g_eq (ws' := mw ad cI cZ x) (lv' := [(0, .ref (ad 0)), (1, .int (iI (sg (fun i => b01 (x 15 i = -1)) k))), (2, .int (iI (k : Int)))]) (pc' := 18) (st' := [.int (iI (b01 ((x 15 (k : Int)) = -1))), .int (iI (sg (fun i => b01 (x 15 i = -1)) k))]) rfl rfl rfl rfl ?_
      by_cases hb15_2 : ((x 15 (k : Int)) = -1)
      · refine g_st (st' := [.int (iI 1), .int (iI (sg (fun i => b01 (x 15 i = -1)) k))]) (by rw [b01_t hb15_2]) ?_
        refine g_if_eq C (tgt := 25) d_Tw_freeOnes_18 rfl (by omega) (fun h18_3 => ?_) (fun h18_3 => ?_)
        · exfalso
          omega
        · refine g_iconst C d_Tw_freeOnes_21 ?_
          refine g_goto C (tgt := 26) d_Tw_freeOnes_22 rfl ?_
          refine g_iadd C d_Tw_freeOnes_26 ?_
          refine g_st (st' := [.int (iI (sg (fun i => b01 (x 15 i = -1)) (k + 1)))]) (by rw [sg_s]; first | rw [b01_t (by omega)] | rw [b01_f (by omega)]) ?_
          refine g_istore_n C (lv' := [(0, .ref (ad 0)), (1, .int (iI (sg (fun i => b01 (x 15 i = -1)) (k + 1)))), (2, .int (iI (k : Int)))]) d_Tw_freeOnes_27 rfl (by decide) rfl rfl ?_
          refine g_iinc C (q := 2) (lv' := [(0, .ref (ad 0)), (1, .int (iI (sg (fun i => b01 (x 15 i = -1)) (k + 1)))), (2, .int (iI ((k : Int) + 1)))]) d_Tw_freeOnes_28 rfl (by decide) rfl rfl ?_
          refine g_goto C (tgt := 4) d_Tw_freeOnes_31 rfl ?_
          exact ih (k + 1) (by omega)
      · refine g_st (st' := [.int (iI 0), .int (iI (sg (fun i => b01 (x 15 i = -1)) k))]) (by rw [b01_f hb15_2]) ?_
        refine g_if_eq C (tgt := 25) d_Tw_freeOnes_18 rfl (by omega) (fun h18_4 => ?_) (fun h18_4 => ?_)
        · refine g_iconst C d_Tw_freeOnes_25 ?_
          refine g_iadd C d_Tw_freeOnes_26 ?_
          refine g_st (st' := [.int (iI (sg (fun i => b01 (x 15 i = -1)) (k + 1)))]) (by rw [sg_s]; first | rw [b01_t (by omega)] | rw [b01_f (by omega)]) ?_
          refine g_istore_n C (lv' := [(0, .ref (ad 0)), (1, .int (iI (sg (fun i => b01 (x 15 i = -1)) (k + 1)))), (2, .int (iI (k : Int)))]) d_Tw_freeOnes_27 rfl (by decide) rfl rfl ?_
          refine g_iinc C (q := 2) (lv' := [(0, .ref (ad 0)), (1, .int (iI (sg (fun i => b01 (x 15 i = -1)) (k + 1)))), (2, .int (iI ((k : Int) + 1)))]) d_Tw_freeOnes_28 rfl (by decide) rfl rfl ?_
          refine g_goto C (tgt := 4) d_Tw_freeOnes_31 rfl ?_
          exact ih (k + 1) (by omega)
        · exfalso
          omega
set_option maxRecDepth 100000 in
set_option maxHeartbeats 4000000 in
theorem m_Tw_freeOnes {l : Launch} {D : va_G} {cI cZ cJ : ClassId} {base : Nat} {ad : Nat → Nat} (x : Bk) (hok : Ok x) : Cn l D cls9 (tyl cI cZ cJ) base (zz base) y_Tw_freeOnes (wz y_Tw_freeOnes c_Tw_freeOnes 3 (some FieldType.int)) ({ frames := 1, cells := 0, slots := 0, locals := 21 } : Room) [.ref (ad 0)] (mw ad cI cZ x) (fun r w => r = some (frees x) ∧ w = mw ad cI cZ x) 0 0 := by
  refine Cn_of (zzG base) (by decide) rfl (Nat.le_of_ble_eq_true rfl) ?_
  intro p e s m args below meth c A C hr hA hnm
  have C : gC p s m args meth c D cls9 (tyl cI cZ cJ) A c_Tw_freeOnes 3 "BatchSavingsModel" (wz y_Tw_freeOnes c_Tw_freeOnes 3 (some FieldType.int)) base (zz base) := C
  refine g_lve (lv' := [(0, .ref (ad 0))]) rfl ?_
  refine g_iconst C d_Tw_freeOnes_0 ?_
  refine g_istore_n C (lv' := [(0, .ref (ad 0)), (1, .int (iI 0))]) d_Tw_freeOnes_1 rfl (by decide) rfl rfl ?_
  refine g_iconst C d_Tw_freeOnes_2 ?_
  refine g_istore_n C (lv' := [(0, .ref (ad 0)), (1, .int (iI 0)), (2, .int (iI 0))]) d_Tw_freeOnes_3 rfl (by decide) rfl rfl ?_
  have hn := hok.n
  refine lp_Tw_freeOnes C x hok ?_ (x 1 0).toNat 0 (by omega)
  refine g_iload_n C (q := 1) d_Tw_freeOnes_34 rfl rfl ?_
  exact g_iret C hA hr d_Tw_freeOnes_35 (by decide) (by decide) ⟨rfl, rfl⟩
