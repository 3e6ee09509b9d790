set_option maxRecDepth 100000 in
set_option maxHeartbeats 4000000 in
theorem lp_M_find2 {p : Program} {l : Launch} {e : Env} {s : State} {m : MethodId} {args : Array Value} {below : List Frame} {meth : Method} {c : Code} {D : va_G} {cI cZ cJ : ClassId} {base : Nat} {ad : Nat → Nat} {A : Nat → Prop} {Q : State → Prop} (C : gC p s m args meth c D cls9 (tyl cI cZ cJ) A c_M_findSums 5 "BatchSavings$Matching" (wz y_M_findSums c_M_findSums 5 none) base (zz base)) (x : Bk) (lo : Int) (t : Int → Int) (hn : 0 ≤ x 1 0 ∧ x 1 0 ≤ 10) (hlo : 0 ≤ lo ∧ lo < x 1 0) (ht0 : tb t) (hg : ∀ i, 0 ≤ i → i < 100 → 0 ≤ x 17 i ∧ x 17 i ≤ 20000)
    (K : gW p l e ({ frames := 3, cells := 0, slots := 0, locals := 68 } : Room) s m args below meth c D cls9 A 5 0 0 Q (cw ad cI cZ (bu x 18 (fsI (x 17) (x 1 0) lo t ((pw (x 1 0 - 1 - lo)).toNat)))) [(0, .ref (ad 4)), (1, .int (iI lo)), (2, .int (iI (x 1 0 - 1 - lo))), (3, .int (iI ((pw (x 1 0 - 1 - lo)).toNat : Int)))] 83 []) : ∀ (d k : Nat), (k : Int) + (d : Int) = pw (x 1 0 - 1 - lo) → gW p l e ({ frames := 3, cells := 0, slots := 0, locals := 68 } : Room) s m args below meth c D cls9 A 5 0 0 Q (cw ad cI cZ (bu x 18 (fsI (x 17) (x 1 0) lo t k))) [(0, .ref (ad 4)), (1, .int (iI lo)), (2, .int (iI (x 1 0 - 1 - lo))), (3, .int (iI (k : Int)))] 35 [] := by
  intro d
  induction d with
  | zero =>
    intro k hk
    have hp := pw_le (o := x 1 0 - 1 - lo) (by omega)
    refine g_iload_n C (q := 3) d_M_findSums_35 rfl rfl ?_
    refine g_iconst C d_M_findSums_36 ?_
    refine g_iload_n C (q := 2) d_M_findSums_37 rfl rfl ?_
    refine g_ishl C d_M_findSums_38 (by omega) (by omega) (by have := pw_le (o := (x 1 0 - 1 - lo)) (by omega); omega) ?_
    refine g_icmp_ge C (tgt := 83) d_M_findSums_39 rfl (by omega) (by omega) (fun h39_1 => ?_) (fun h39_1 => ?_)
    · obtain rfl : k = (pw (x 1 0 - 1 - lo)).toNat := by omega
      exact K
    · exfalso
      omega
  | succ d ih =>
    intro k hk
    have hp := pw_le (o := x 1 0 - 1 - lo) (by omega)
    have htb := fsI_tb hn.2 hlo ht0 hg k (by omega)
    have ht := tb_in htb
    have hi := ix_bd (k := (k : Int)) (later := x 1 0 - 1 - lo) (lo := lo) (n := x 1 0) ⟨by omega, by omega⟩ (by omega) (by omega) (by omega) hn.2
    have hp1 := pw_pos (lo + 1)
    have hp2 := pw_two (lo := lo) (by omega)
    have hp3 := pw_pos lo
    refine g_iload_n C (q := 3) d_M_findSums_35 rfl rfl ?_
    refine g_iconst C d_M_findSums_36 ?_
    refine g_iload_n C (q := 2) d_M_findSums_37 rfl rfl ?_
    refine g_ishl C d_M_findSums_38 (by omega) (by omega) (by have := pw_le (o := (x 1 0 - 1 - lo)) (by omega); omega) ?_
    refine g_icmp_ge C (tgt := 83) d_M_findSums_39 rfl (by omega) (by omega) (fun h39_1 => ?_) (fun h39_1 => ?_)
    · exfalso
      omega
    · refine g_iload_n C (q := 2) d_M_findSums_42 rfl rfl ?_
      refine g_iload_n C (q := 3) d_M_findSums_43 rfl rfl ?_
      refine gSo0 C (st := [.int (iI (x 1 0 - 1 - lo))]) (m_I_bitCount (k : Int) (by omega)) k_457 k_455 k_456 k_16 ho_I_bitCount rfl rfl ⟨by decide, by decide⟩ rfl rfl (Nat.le_of_ble_eq_true rfl) d_M_findSums_44 ⟨by decide, by decide⟩ (fun r w hq => ?_)
      obtain ⟨rfl, rfl⟩ := hq
      refine g_eq (ws' := cw ad cI cZ (bu x 18 (fsI (x 17) (x 1 0) lo t k))) (lv' := [(0, .ref (ad 4)), (1, .int (iI lo)), (2, .int (iI (x 1 0 - 1 - lo))), (3, .int (iI (k : Int)))]) (pc' := 47) (st' := [.int (iI (popc (k : Int))), .int (iI (x 1 0 - 1 - lo))]) rfl rfl rfl rfl ?_
      have hpc := pop_in (q := (k : Int)) ⟨by omega, by omega⟩
      refine g_isub C d_M_findSums_47 ?_
      refine g_iload_n C (q := 1) d_M_findSums_48 rfl rfl ?_
      refine g_icmp_gt C (tgt := 77) d_M_findSums_49 rfl (by omega) (by omega) (fun h49_2 => ?_) (fun h49_2 => ?_)
      · refine g_ws (ws' := cw ad cI cZ (bu x 18 (fsI (x 17) (x 1 0) lo t (k + 1)))) (by first | (rw [fsI_t (by omega)]; rfl) | (rw [fsI_f (by omega)]; done)) ?_
        refine g_iinc C (q := 3) (lv' := [(0, .ref (ad 4)), (1, .int (iI lo)), (2, .int (iI (x 1 0 - 1 - lo))), (3, .int (iI ((k : Int) + 1)))]) d_M_findSums_77 rfl (by decide) rfl rfl ?_
        refine g_goto C (tgt := 35) d_M_findSums_80 rfl ?_
        exact ih (k + 1) (by omega)
      · refine g_iload_n C (q := 3) d_M_findSums_52 rfl rfl ?_
        refine g_iload_n C (q := 1) d_M_findSums_53 rfl rfl ?_
        refine g_iconst C d_M_findSums_54 ?_
        refine g_iadd C d_M_findSums_55 ?_
        refine g_ishl C d_M_findSums_56 (by omega) (by omega) (by omega) ?_
        refine g_istore C (lv' := [(0, .ref (ad 4)), (1, .int (iI lo)), (2, .int (iI (x 1 0 - 1 - lo))), (3, .int (iI (k : Int))), (4, .int (iI ((k : Int) * pw (lo + 1))))]) d_M_findSums_57 (by decide) rfl rfl ?_
        refine g_aload_n C (q := 0) d_M_findSums_59 rfl rfl ?_
        refine gG C (v := .ref (ad 18)) 4 3 u_M k_133 (cwo_4 _) rfl (by decide) rfl rfl d_M_findSums_60 ?_
        refine g_iload C (q := 4) d_M_findSums_63 rfl ?_
        refine g_iconst C d_M_findSums_65 ?_
        refine g_iload_n C (q := 1) d_M_findSums_66 rfl rfl ?_
        refine g_ishl C d_M_findSums_67 (by omega) (by omega) (by have := pw_le (o := lo) (by omega); omega) ?_
        refine g_iorv C d_M_findSums_68 (i_or (by omega) ⟨by omega, by have := pw_mono (a := x 1 0 - 1 - lo) (b := 9 - lo) (by omega); omega⟩) ?_
        refine g_aload_n C (q := 0) d_M_findSums_69 rfl rfl ?_
        refine g_iload_n C (q := 1) d_M_findSums_70 rfl rfl ?_
        refine g_iload C (q := 4) d_M_findSums_71 rfl ?_
        refine gV C (st := [.int (iI ((k : Int) * pw (lo + 1) + pw lo)), .ref (ad 18)]) (m_M_greatestSum (bu x 18 (fsI (x 17) (x 1 0) lo t k)) lo ((k : Int) * pw (lo + 1)) (show 0 ≤ (x 1 0) ∧ (x 1 0) ≤ 10 by omega) (show 0 ≤ lo ∧ lo < (x 1 0) by omega) (by omega) hg ht) k_464 k_461 k_463 kp_24 k_6 rfl ho_M_greatestSum rfl rfl ⟨by decide, by decide⟩ 4 (cwo_4 _) rfl rfl rfl (Nat.le_of_ble_eq_true rfl) d_M_findSums_73 ⟨by decide, by decide⟩ (fun r w hq => ?_)
        obtain ⟨rfl, rfl⟩ := hq
        refine g_eq (ws' := cw ad cI cZ (bu x 18 (fsI (x 17) (x 1 0) lo t k))) (lv' := [(0, .ref (ad 4)), (1, .int (iI lo)), (2, .int (iI (x 1 0 - 1 - lo))), (3, .int (iI (k : Int))), (4, .int (iI ((k : Int) * pw (lo + 1))))]) (pc' := 76) (st' := [.int (iI (gm (x 17) (fsI (x 17) (x 1 0) lo t k) lo ((k : Int) * pw (lo + 1)) ((x 1 0)).toNat)), .int (iI ((k : Int) * pw (lo + 1) + pw lo)), .ref (ad 18)]) rfl rfl rfl rfl ?_
        refine g_iast C 18 0 (cwa_18 _) rfl (by decide) (by omega) d_M_findSums_76 (cws_18 _ _) ?_
        refine g_ws (ws' := cw ad cI cZ (bu (bu x 18 (fsI (x 17) (x 1 0) lo t k)) 18 (updI (fsI (x 17) (x 1 0) lo t k) ((k : Int) * pw (lo + 1) + pw lo) (gm (x 17) (fsI (x 17) (x 1 0) lo t k) lo ((k : Int) * pw (lo + 1)) ((x 1 0)).toNat)))) rfl ?_
        refine g_lv [0, 1, 2, 3] rfl ?_
        refine g_ws (ws' := cw ad cI cZ (bu x 18 (fsI (x 17) (x 1 0) lo t (k + 1)))) (by first | (rw [fsI_t (by omega)]; rfl) | (rw [fsI_f (by omega)]; done)) ?_
        refine g_iinc C (q := 3) (lv' := [(0, .ref (ad 4)), (1, .int (iI lo)), (2, .int (iI (x 1 0 - 1 - lo))), (3, .int (iI ((k : Int) + 1)))]) d_M_findSums_77 rfl (by decide) rfl rfl ?_
        refine g_goto C (tgt := 35) d_M_findSums_80 rfl ?_
        exact ih (k + 1) (by omega)
set_option maxRecDepth 100000 in
set_option maxHeartbeats 4000000 in
theorem lp_M_find1 {p : Program} {l : Launch} {e : Env} {s : State} {m : MethodId} {args : Array Value} {below : List Frame} {meth : Method} {c : Code} {D : va_G} {cI cZ cJ : ClassId} {base : Nat} {ad : Nat → Nat} {A : Nat → Prop} {Q : State → Prop} (C : gC p s m args meth c D cls9 (tyl cI cZ cJ) A c_M_findSums 5 "BatchSavings$Matching" (wz y_M_findSums c_M_findSums 5 none) base (zz base)) (x : Bk) (hn : 0 ≤ x 1 0 ∧ x 1 0 ≤ 10) (hg : ∀ i, 0 ≤ i → i < 100 → 0 ≤ x 17 i ∧ x 17 i ≤ 20000) (hs : tb (x 18))
    (K : gW p l e ({ frames := 3, cells := 0, slots := 0, locals := 68 } : Room) s m args below meth c D cls9 A 5 0 0 Q (cw ad cI cZ (bu x 18 (fsO (x 17) (x 1 0) (updI (x 18) 0 0) ((x 1 0).toNat)))) [(0, .ref (ad 4)), (1, .int (iI (x 1 0 - 1 - ((x 1 0).toNat : Int))))] 89 []) : ∀ (d k : Nat), (k : Int) + (d : Int) = x 1 0 → gW p l e ({ frames := 3, cells := 0, slots := 0, locals := 68 } : Room) s m args below meth c D cls9 A 5 0 0 Q (cw ad cI cZ (bu x 18 (fsO (x 17) (x 1 0) (updI (x 18) 0 0) k))) [(0, .ref (ad 4)), (1, .int (iI (x 1 0 - 1 - (k : Int))))] 17 [] := by
  intro d
  induction d with
  | zero =>
    intro k hk
    have hpp := pw_pos 0
    refine g_iload_n C (q := 1) d_M_findSums_17 rfl rfl ?_
    refine g_if_lt C (tgt := 89) d_M_findSums_18 rfl (by omega) (fun h18_1 => ?_) (fun h18_1 => ?_)
    · obtain rfl : k = (x 1 0).toNat := by omega
      exact K
    · exfalso
      omega
  | succ d ih =>
    intro k hk
    have hpp := pw_pos (x 1 0 - 1 - (x 1 0 - 1 - (k : Int)))
    have hs0 : tb (updI (x 18) 0 0) := tb_set hs (by have := pop_in (q := 0) (by omega); omega)
    refine g_iload_n C (q := 1) d_M_findSums_17 rfl rfl ?_
    refine g_if_lt C (tgt := 89) d_M_findSums_18 rfl (by omega) (fun h18_1 => ?_) (fun h18_1 => ?_)
    · exfalso
      omega
    · refine g_aload_n C (q := 0) d_M_findSums_21 rfl rfl ?_
      refine gG C (v := .ref (ad 1)) 4 0 u_M k_129 (cwo_4 _) rfl (by decide) rfl rfl d_M_findSums_22 ?_
      refine gGN C (v := .int (iI (x 1 0))) 1 5 u_O kn_50 (cwo_1 _) rfl (by decide) rfl rfl d_M_findSums_25 ?_
      refine g_iconst C d_M_findSums_28 ?_
      refine g_isub C d_M_findSums_29 ?_
      refine g_iload_n C (q := 1) d_M_findSums_30 rfl rfl ?_
      refine g_isub C d_M_findSums_31 ?_
      refine g_istore_n C (lv' := [(0, .ref (ad 4)), (1, .int (iI (x 1 0 - 1 - (k : Int)))), (2, .int (iI (((x 1 0) - 1) - (x 1 0 - 1 - (k : Int)))))]) d_M_findSums_32 rfl (by decide) rfl rfl ?_
      refine g_iconst C d_M_findSums_33 ?_
      refine g_istore_n C (lv' := [(0, .ref (ad 4)), (1, .int (iI (x 1 0 - 1 - (k : Int)))), (2, .int (iI (((x 1 0) - 1) - (x 1 0 - 1 - (k : Int))))), (3, .int (iI 0))]) d_M_findSums_34 rfl (by decide) rfl rfl ?_
      refine g_eq (ws' := cw ad cI cZ (bu x 18 (fsI (x 17) (x 1 0) (x 1 0 - 1 - (k : Int)) (fsO (x 17) (x 1 0) (updI (x 18) 0 0) k) 0))) (lv' := [(0, .ref (ad 4)), (1, .int (iI (x 1 0 - 1 - (k : Int)))), (2, .int (iI (x 1 0 - 1 - (x 1 0 - 1 - (k : Int))))), (3, .int (iI ((0 : Nat) : Int)))]) (pc' := 35) (st' := []) rfl rfl rfl rfl ?_
      refine lp_M_find2 C x (x 1 0 - 1 - (k : Int)) (fsO (x 17) (x 1 0) (updI (x 18) 0 0) k) hn (by omega) (fsO_tb hn.2 hs0 hg k (by omega)) hg ?_ (pw (x 1 0 - 1 - (x 1 0 - 1 - (k : Int)))).toNat 0 (by omega)
      refine g_iinc C (q := 1) (lv' := [(0, .ref (ad 4)), (1, .int (iI ((x 1 0 - 1 - (k : Int)) + (-1)))), (2, .int (iI (x 1 0 - 1 - (x 1 0 - 1 - (k : Int))))), (3, .int (iI ((pw (x 1 0 - 1 - (x 1 0 - 1 - (k : Int)))).toNat : Int)))]) d_M_findSums_83 rfl (by decide) rfl rfl ?_
      refine g_goto C (tgt := 17) d_M_findSums_86 rfl ?_
      refine g_lv (lv' := [(0, .ref (ad 4)), (1, .int (iI ((x 1 0 - 1 - (k : Int)) + (-1))))]) [0, 1] rfl ?_
      refine g_eq (ws' := cw ad cI cZ (bu x 18 (fsO (x 17) (x 1 0) (updI (x 18) 0 0) (k + 1)))) (lv' := [(0, .ref (ad 4)), (1, .int (iI (x 1 0 - 1 - (((k + 1 : Nat)) : Int))))]) (pc' := 17) (st' := []) (by rw [show x 1 0 - 1 - (x 1 0 - 1 - (k : Int)) = (k : Int) by omega]; rfl) (by rw [show (x 1 0 - 1 - (k : Int)) + -1 = x 1 0 - 1 - ((k + 1 : Nat) : Int) by omega]) rfl rfl ?_
      exact ih (k + 1) (by omega)
set_option maxRecDepth 100000 in
set_option maxHeartbeats 4000000 in
theorem m_M_findSums {l : Launch} {D : va_G} {cI cZ cJ : ClassId} {base : Nat} {ad : Nat → Nat} (x : Bk) (hn : 0 ≤ x 1 0 ∧ x 1 0 ≤ 10) (hg : ∀ i, 0 ≤ i → i < 100 → 0 ≤ x 17 i ∧ x 17 i ≤ 20000) (hs : tb (x 18)) : Cn l D cls9 (tyl cI cZ cJ) base (zz base) y_M_findSums (wz y_M_findSums c_M_findSums 5 none) ({ frames := 3, cells := 0, slots := 0, locals := 68 } : Room) [.ref (ad 4)] (cw ad cI cZ x) (fun r w => r = none ∧ w = cw ad cI cZ (bu x 18 (fsO (x 17) (x 1 0) (updI (x 18) 0 0) (x 1 0).toNat))) 0 0 := by
  refine Cn_of (zzG base) (by decide) rfl (Nat.le_of_ble_eq_true rfl) ?_
  intro p e s m args below meth c A C hr hA hnm
  have C : gC p s m args meth c D cls9 (tyl cI cZ cJ) A c_M_findSums 5 "BatchSavings$Matching" (wz y_M_findSums c_M_findSums 5 none) base (zz base) := C
  refine g_lve (lv' := [(0, .ref (ad 4))]) rfl ?_
  refine g_aload_n C (q := 0) d_M_findSums_0 rfl rfl ?_
  refine gG C (v := .ref (ad 18)) 4 3 u_M k_133 (cwo_4 _) rfl (by decide) rfl rfl d_M_findSums_1 ?_
  refine g_iconst C d_M_findSums_4 ?_
  refine g_iconst C d_M_findSums_5 ?_
  refine g_iast C 18 0 (cwa_18 _) rfl (by decide) (by omega) d_M_findSums_6 (cws_18 _ _) ?_
  refine g_ws (ws' := cw ad cI cZ (bu x 18 (updI (x 18) 0 0))) rfl ?_
  refine g_aload_n C (q := 0) d_M_findSums_7 rfl rfl ?_
  refine gG C (v := .ref (ad 1)) 4 0 u_M k_129 (cwo_4 _) rfl (by decide) rfl rfl d_M_findSums_8 ?_
  refine gGN C (v := .int (iI (x 1 0))) 1 5 u_O kn_50 (cwo_1 _) rfl (by decide) rfl rfl d_M_findSums_11 ?_
  refine g_iconst C d_M_findSums_14 ?_
  refine g_isub C d_M_findSums_15 ?_
  refine g_istore_n C (lv' := [(0, .ref (ad 4)), (1, .int (iI ((x 1 0) - 1)))]) d_M_findSums_16 rfl (by decide) rfl rfl ?_
  refine g_eq (ws' := cw ad cI cZ (bu x 18 (fsO (x 17) (x 1 0) (updI (x 18) 0 0) 0))) (lv' := [(0, .ref (ad 4)), (1, .int (iI (x 1 0 - 1 - (((0 : Nat)) : Int))))]) (pc' := 17) (st' := []) rfl (by rw [show ((0 : Nat) : Int) = 0 from rfl, Int.sub_zero]) rfl rfl ?_
  refine lp_M_find1 C x hn hg hs ?_ (x 1 0).toNat 0 (by omega)
  exact g_vret C hA hr d_M_findSums_89 (by decide) (by decide) ⟨rfl, rfl⟩
