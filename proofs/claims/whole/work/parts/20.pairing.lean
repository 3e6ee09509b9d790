abbrev pbu (x : Bk) (k : Nat) : Int := fnd (fpP x (k : Int) (clr (pbs x k).1 (k : Int)) (x 18 (pbs x k).1)) (k + 1) ((x 1 0).toNat - (k + 1))
theorem pbs_n {x : Bk} {k : Nat} (h : ¬ bt (pbs x k).1 (k : Int)) : pbs x (k + 1) = pbs x k := if_neg h
theorem pbs_0 {x : Bk} {k : Nat} (h : bt (pbs x k).1 (k : Int)) (h0 : pbu x k = -1) : pbs x (k + 1) = (clr (pbs x k).1 (k : Int), (pbs x k).2) := (if_pos h).trans (if_pos h0)
theorem pbs_1 {x : Bk} {k : Nat} (h : bt (pbs x k).1 (k : Int)) (h0 : ¬ pbu x k = -1) : pbs x (k + 1) = (clr (clr (pbs x k).1 (k : Int)) (pbu x k), updI (updI (pbs x k).2 (k : Int) (pbu x k)) (pbu x k) (k : Int)) := (if_pos h).trans (if_neg h0)
set_option maxRecDepth 100000 in
set_option maxHeartbeats 4000000 in
theorem lp_M_bySums {p : Program} {l : Launch} {e : Env} {s : State} {m : MethodId} {args : Array Value} {below : List Frame} {meth : Method} {c : Code} {D : va_G} {cI cZ cJ : ClassId} {base : Nat} {ad : Nat → Nat} {A : Nat → Prop} {Q : State → Prop} (C : gC p s m args meth c D cls9 (tyl cI cZ cJ) A c_M_pairBySums 5 "BatchSavings$Matching" (wz y_M_pairBySums c_M_pairBySums 5 none) base (zz base)) (x : Bk) (hn : 0 ≤ x 1 0 ∧ x 1 0 ≤ 10) (hg : ∀ i, 0 ≤ i → i < 100 → 0 ≤ x 17 i ∧ x 17 i ≤ 20000) (ht : ∀ i, 0 ≤ i → i < 1024 → 0 ≤ x 18 i ∧ x 18 i ≤ 400000)
    (K : gW p l e ({ frames := 3, cells := 0, slots := 0, locals := 68 } : Room) s m args below meth c D cls9 A 5 0 0 Q (cw ad cI cZ (bu x 16 ((pbs x ((x 1 0).toNat)).2))) [(0, .ref (ad 4)), (1, .int (iI ((pbs x ((x 1 0).toNat)).1))), (2, .int (iI ((x 1 0).toNat : Int)))] 85 []) : ∀ (d k : Nat), (k : Int) + (d : Int) = x 1 0 → gW p l e ({ frames := 3, cells := 0, slots := 0, locals := 68 } : Room) s m args below meth c D cls9 A 5 0 0 Q (cw ad cI cZ (bu x 16 ((pbs x k).2))) [(0, .ref (ad 4)), (1, .int (iI ((pbs x k).1))), (2, .int (iI (k : Int)))] 14 [] := by
  intro d
  induction d with
  | zero =>
    intro k hk
    refine g_iload_n C (q := 2) d_M_pairBySums_14 rfl rfl ?_
    refine g_aload_n C (q := 0) d_M_pairBySums_15 rfl rfl ?_
    refine gG C (v := .ref (ad 1)) 4 0 u_M k_129 (cwo_4 _) rfl (by decide) rfl rfl d_M_pairBySums_16 ?_
    refine gGN C (v := .int (iI (x 1 0))) 1 5 u_O kn_50 (cwo_1 _) rfl (by decide) rfl rfl d_M_pairBySums_19 ?_
    refine g_icmp_ge C (tgt := 85) d_M_pairBySums_22 rfl (by omega) (by omega) (fun h22_1 => ?_) (fun h22_1 => ?_)
    · obtain rfl : k = (x 1 0).toNat := by omega
      exact K
    · exfalso
      omega
  | succ d ih =>
    intro k hk
    have hL := pbs_in x hn k (by omega)
    have hc := clr_in (q := (pbs x k).1) (o := (k : Int)) hL (by omega)
    refine g_iload_n C (q := 2) d_M_pairBySums_14 rfl rfl ?_
    refine g_aload_n C (q := 0) d_M_pairBySums_15 rfl rfl ?_
    refine gG C (v := .ref (ad 1)) 4 0 u_M k_129 (cwo_4 _) rfl (by decide) rfl rfl d_M_pairBySums_16 ?_
    refine gGN C (v := .int (iI (x 1 0))) 1 5 u_O kn_50 (cwo_1 _) rfl (by decide) rfl rfl d_M_pairBySums_19 ?_
    refine g_icmp_ge C (tgt := 85) d_M_pairBySums_22 rfl (by omega) (by omega) (fun h22_1 => ?_) (fun h22_1 => ?_)
    · exfalso
      omega
    · refine g_iload_n C (q := 1) d_M_pairBySums_25 rfl rfl ?_
      refine g_iconst C d_M_pairBySums_26 ?_
      refine g_iload_n C (q := 2) d_M_pairBySums_27 rfl rfl ?_
      refine g_ishl C d_M_pairBySums_28 (by omega) (by omega) (by have := pw_le (o := (k : Int)) (by omega); omega) ?_
      refine g_iandv C d_M_pairBySums_29 (i_and (by omega) (by omega)) ?_
      refine g_if_eq C (tgt := 79) d_M_pairBySums_30 rfl (bit_in hL (by omega)) (fun h30_2 => ?_) (fun h30_2 => ?_)
      · refine g_eq (ws' := cw ad cI cZ (bu x 16 ((pbs x (k + 1)).2))) (lv' := [(0, .ref (ad 4)), (1, .int (iI ((pbs x (k + 1)).1))), (2, .int (iI (k : Int)))]) (pc' := 79) (st' := []) (by first | (rw [pbs_n (bit_ne (by assumption))]; done) | (rw [pbs_0 (bit_eq (by assumption)) (by omega)]; done) | (rw [pbs_1 (bit_eq (by assumption)) (by omega), hu]; rfl)) (by first | (rw [pbs_n (bit_ne (by assumption))]; done) | (rw [pbs_0 (bit_eq (by assumption)) (by omega)]; rfl) | (rw [pbs_1 (bit_eq (by assumption)) (by omega), hu]; rfl)) rfl rfl ?_
        refine g_iinc C (q := 2) (lv' := [(0, .ref (ad 4)), (1, .int (iI ((pbs x (k + 1)).1))), (2, .int (iI ((k : Int) + 1)))]) d_M_pairBySums_79 rfl (by decide) rfl rfl ?_
        refine g_goto C (tgt := 14) d_M_pairBySums_82 rfl ?_
        exact ih (k + 1) (by omega)
      · refine g_iload_n C (q := 1) d_M_pairBySums_33 rfl rfl ?_
        refine g_iconst C d_M_pairBySums_34 ?_
        refine g_iload_n C (q := 2) d_M_pairBySums_35 rfl rfl ?_
        refine g_ishl C d_M_pairBySums_36 (by omega) (by omega) (by have := pw_le (o := (k : Int)) (by omega); omega) ?_
        refine g_iconst C d_M_pairBySums_37 ?_
        refine g_ixorv C d_M_pairBySums_38 (i_xor (by omega)) ?_
        refine g_iandv C d_M_pairBySums_39 (i_clr (by omega) (by omega)) ?_
        refine g_istore_n C (lv' := [(0, .ref (ad 4)), (1, .int (iI ((pbs x k).1))), (2, .int (iI (k : Int))), (3, .int (iI (clr ((pbs x k).1) (k : Int))))]) d_M_pairBySums_40 rfl (by decide) rfl rfl ?_
        refine g_aload_n C (q := 0) d_M_pairBySums_41 rfl rfl ?_
        refine g_iload_n C (q := 2) d_M_pairBySums_42 rfl rfl ?_
        refine g_iload_n C (q := 3) d_M_pairBySums_43 rfl rfl ?_
        refine g_aload_n C (q := 0) d_M_pairBySums_44 rfl rfl ?_
        refine gG C (v := .ref (ad 18)) 4 3 u_M k_133 (cwo_4 _) rfl (by decide) rfl rfl d_M_pairBySums_45 ?_
        refine g_iload_n C (q := 1) d_M_pairBySums_48 rfl rfl ?_
        have h18 := ht (pbs x k).1 hL.1 hL.2
        refine g_iald C 18 0 (cwa_18 _) rfl (by decide) (by omega) d_M_pairBySums_49 ?_
        refine g_st (st' := [.int (iI (x 18 ((pbs x k).1))), .int (iI (clr ((pbs x k).1) (k : Int))), .int (iI (k : Int)), .ref (ad 4)]) rfl ?_
        refine gV C (st := []) (m_M_firstPartner (bu x 16 ((pbs x k).2)) (k : Int) (clr ((pbs x k).1) (k : Int)) (x 18 ((pbs x k).1)) (show 0 ≤ (x 1 0) ∧ (x 1 0) ≤ 10 by omega) (show 0 ≤ (k : Int) ∧ (k : Int) < (x 1 0) by omega) (by omega) (by omega) hg ht) k_481 k_478 k_480 kp_28 k_6 rfl ho_M_firstPartner rfl rfl ⟨by decide, by decide⟩ 4 (cwo_4 _) rfl rfl rfl (Nat.le_of_ble_eq_true rfl) d_M_pairBySums_50 ⟨by decide, by decide⟩ (fun r w hq => ?_)
        obtain ⟨rfl, rfl⟩ := hq
        refine g_eq (ws' := cw ad cI cZ (bu x 16 ((pbs x k).2))) (lv' := [(0, .ref (ad 4)), (1, .int (iI ((pbs x k).1))), (2, .int (iI (k : Int))), (3, .int (iI (clr ((pbs x k).1) (k : Int))))]) (pc' := 53) (st' := [.int (iI (fnd (fpP (bu x 16 ((pbs x k).2)) (k : Int) (clr ((pbs x k).1) (k : Int)) (x 18 ((pbs x k).1))) ((k : Int) + 1).toNat (((x 1 0)).toNat - ((k : Int) + 1).toNat)))]) rfl rfl rfl rfl ?_
        obtain ⟨u, hu⟩ : ∃ u : Int, u = pbu x k := ⟨_, rfl⟩
        refine g_st (st' := [.int (iI u)]) (by rw [hu, show ((k : Int) + 1).toNat = k + 1 by omega]; rfl) ?_
        have hur := fnd_in (fpP x (k : Int) (clr (pbs x k).1 (k : Int)) (x 18 (pbs x k).1)) ((x 1 0).toNat - (k + 1)) (k + 1)
        rw [show fnd (fpP x (k : Int) (clr (pbs x k).1 (k : Int)) (x 18 (pbs x k).1)) (k + 1) ((x 1 0).toNat - (k + 1)) = u from hu.symm] at hur
        refine g_istore C (lv' := [(0, .ref (ad 4)), (1, .int (iI ((pbs x k).1))), (2, .int (iI (k : Int))), (3, .int (iI (clr ((pbs x k).1) (k : Int)))), (4, .int (iI u))]) d_M_pairBySums_53 (by decide) rfl rfl ?_
        refine g_iload C (q := 4) d_M_pairBySums_55 rfl ?_
        refine g_iconst C d_M_pairBySums_57 ?_
        refine g_icmp_eq C (tgt := 77) d_M_pairBySums_58 rfl (by omega) (by omega) (fun h58_3 => ?_) (fun h58_3 => ?_)
        · refine g_iload_n C (q := 3) d_M_pairBySums_77 rfl rfl ?_
          refine g_istore_n C (lv' := [(0, .ref (ad 4)), (1, .int (iI (clr ((pbs x k).1) (k : Int)))), (2, .int (iI (k : Int))), (3, .int (iI (clr ((pbs x k).1) (k : Int)))), (4, .int (iI u))]) d_M_pairBySums_78 rfl (by decide) rfl rfl ?_
          refine g_lv [0, 1, 2] rfl ?_
          refine g_eq (ws' := cw ad cI cZ (bu x 16 ((pbs x (k + 1)).2))) (lv' := [(0, .ref (ad 4)), (1, .int (iI ((pbs x (k + 1)).1))), (2, .int (iI (k : Int)))]) (pc' := 79) (st' := []) (by first | (rw [pbs_n (bit_ne (by assumption))]; done) | (rw [pbs_0 (bit_eq (by assumption)) (by omega)]; done) | (rw [pbs_1 (bit_eq (by assumption)) (by omega), hu]; rfl)) (by first | (rw [pbs_n (bit_ne (by assumption))]; done) | (rw [pbs_0 (bit_eq (by assumption)) (by omega)]; rfl) | (rw [pbs_1 (bit_eq (by assumption)) (by omega), hu]; rfl)) rfl rfl ?_
          refine g_iinc C (q := 2) (lv' := [(0, .ref (ad 4)), (1, .int (iI ((pbs x (k + 1)).1))), (2, .int (iI ((k : Int) + 1)))]) d_M_pairBySums_79 rfl (by decide) rfl rfl ?_
          refine g_goto C (tgt := 14) d_M_pairBySums_82 rfl ?_
          exact ih (k + 1) (by omega)
        · refine g_aload_n C (q := 0) d_M_pairBySums_61 rfl rfl ?_
          refine g_iload_n C (q := 2) d_M_pairBySums_62 rfl rfl ?_
          refine g_iload C (q := 4) d_M_pairBySums_63 rfl ?_
          refine gV C (st := []) (m_M_bind (bu x 16 ((pbs x k).2)) (k : Int) u (by omega) (by omega)) k_485 k_482 k_484 kp_29 k_6 rfl ho_M_bind rfl rfl ⟨by decide, by decide⟩ 4 (cwo_4 _) rfl rfl rfl (Nat.le_of_ble_eq_true rfl) d_M_pairBySums_65 ⟨by decide, by decide⟩ (fun r w hq => ?_)
          obtain ⟨rfl, rfl⟩ := hq
          refine g_eq (ws' := cw ad cI cZ (bu (bu (bu x 16 ((pbs x k).2)) 16 (updI ((pbs x k).2) (k : Int) u)) 16 (updI (updI ((pbs x k).2) (k : Int) u) u (k : Int)))) (lv' := [(0, .ref (ad 4)), (1, .int (iI ((pbs x k).1))), (2, .int (iI (k : Int))), (3, .int (iI (clr ((pbs x k).1) (k : Int)))), (4, .int (iI u))]) (pc' := 68) (st' := []) rfl rfl rfl rfl ?_
          refine g_iload_n C (q := 3) d_M_pairBySums_68 rfl rfl ?_
          refine g_iconst C d_M_pairBySums_69 ?_
          refine g_iload C (q := 4) d_M_pairBySums_70 rfl ?_
          refine g_ishl C d_M_pairBySums_72 (by omega) (by omega) (by have := pw_le (o := u) (by omega); omega) ?_
          refine g_iconst C d_M_pairBySums_73 ?_
          refine g_ixorv C d_M_pairBySums_74 (i_xor (by omega)) ?_
          refine g_iandv C d_M_pairBySums_75 (i_clr (by omega) (by omega)) ?_
          refine g_istore_n C (lv' := [(0, .ref (ad 4)), (1, .int (iI ((pbs x k).1))), (2, .int (iI (k : Int))), (3, .int (iI (clr (clr ((pbs x k).1) (k : Int)) u))), (4, .int (iI u))]) d_M_pairBySums_76 rfl (by decide) rfl rfl ?_
          refine g_iload_n C (q := 3) d_M_pairBySums_77 rfl rfl ?_
          refine g_istore_n C (lv' := [(0, .ref (ad 4)), (1, .int (iI (clr (clr ((pbs x k).1) (k : Int)) u))), (2, .int (iI (k : Int))), (3, .int (iI (clr (clr ((pbs x k).1) (k : Int)) u))), (4, .int (iI u))]) d_M_pairBySums_78 rfl (by decide) rfl rfl ?_
          refine g_lv [0, 1, 2] rfl ?_
          refine g_eq (ws' := cw ad cI cZ (bu x 16 ((pbs x (k + 1)).2))) (lv' := [(0, .ref (ad 4)), (1, .int (iI ((pbs x (k + 1)).1))), (2, .int (iI (k : Int)))]) (pc' := 79) (st' := []) (by first | (rw [pbs_n (bit_ne (by assumption))]; done) | (rw [pbs_0 (bit_eq (by assumption)) (by omega)]; done) | (rw [pbs_1 (bit_eq (by assumption)) (by omega), hu]; rfl)) (by first | (rw [pbs_n (bit_ne (by assumption))]; done) | (rw [pbs_0 (bit_eq (by assumption)) (by omega)]; rfl) | (rw [pbs_1 (bit_eq (by assumption)) (by omega), hu]; rfl)) rfl rfl ?_
          refine g_iinc C (q := 2) (lv' := [(0, .ref (ad 4)), (1, .int (iI ((pbs x (k + 1)).1))), (2, .int (iI ((k : Int) + 1)))]) d_M_pairBySums_79 rfl (by decide) rfl rfl ?_
          refine g_goto C (tgt := 14) d_M_pairBySums_82 rfl ?_
          exact ih (k + 1) (by omega)
set_option maxRecDepth 100000 in
set_option maxHeartbeats 4000000 in
theorem m_M_pairBySums {l : Launch} {D : va_G} {cI cZ cJ : ClassId} {base : Nat} {ad : Nat → Nat} (x : Bk) (hn : 0 ≤ x 1 0 ∧ x 1 0 ≤ 10) (hg : ∀ i, 0 ≤ i → i < 100 → 0 ≤ x 17 i ∧ x 17 i ≤ 20000) (ht : ∀ i, 0 ≤ i → i < 1024 → 0 ≤ x 18 i ∧ x 18 i ≤ 400000) : Cn l D cls9 (tyl cI cZ cJ) base (zz base) y_M_pairBySums (wz y_M_pairBySums c_M_pairBySums 5 none) ({ frames := 3, cells := 0, slots := 0, locals := 68 } : Room) [.ref (ad 4)] (cw ad cI cZ x) (fun r w => r = none ∧ w = cw ad cI cZ (bu x 16 (pbs x (x 1 0).toNat).2)) 0 0 := by
  refine Cn_of (zzG base) (by decide) rfl (Nat.le_of_ble_eq_true rfl) ?_
  intro p e s m args below meth c A C hr hA hnm
  have C : gC p s m args meth c D cls9 (tyl cI cZ cJ) A c_M_pairBySums 5 "BatchSavings$Matching" (wz y_M_pairBySums c_M_pairBySums 5 none) base (zz base) := C
  refine g_lve (lv' := [(0, .ref (ad 4))]) rfl ?_
  refine g_iconst C d_M_pairBySums_0 ?_
  refine g_aload_n C (q := 0) d_M_pairBySums_1 rfl rfl ?_
  refine gG C (v := .ref (ad 1)) 4 0 u_M k_129 (cwo_4 _) rfl (by decide) rfl rfl d_M_pairBySums_2 ?_
  refine gGN C (v := .int (iI (x 1 0))) 1 5 u_O kn_50 (cwo_1 _) rfl (by decide) rfl rfl d_M_pairBySums_5 ?_
  refine g_ishl C d_M_pairBySums_8 (by omega) (by omega) (by have := pw_le (o := (x 1 0)) (by omega); omega) ?_
  refine g_iconst C d_M_pairBySums_9 ?_
  refine g_isub C d_M_pairBySums_10 ?_
  refine g_istore_n C (lv' := [(0, .ref (ad 4)), (1, .int (iI ((1 * pw (x 1 0)) - 1)))]) d_M_pairBySums_11 rfl (by decide) rfl rfl ?_
  refine g_iconst C d_M_pairBySums_12 ?_
  refine g_istore_n C (lv' := [(0, .ref (ad 4)), (1, .int (iI ((1 * pw (x 1 0)) - 1))), (2, .int (iI 0))]) d_M_pairBySums_13 rfl (by decide) rfl rfl ?_
  refine g_eq (ws' := cw ad cI cZ (bu x 16 ((pbs x 0).2))) (lv' := [(0, .ref (ad 4)), (1, .int (iI ((pbs x 0).1))), (2, .int (iI ((0 : Nat) : Int)))]) (pc' := 14) (st' := []) rfl (by rw [Int.one_mul]; rfl) rfl rfl ?_
  refine lp_M_bySums C x hn hg ht ?_ (x 1 0).toNat 0 (by omega)
  exact g_vret C hA hr d_M_pairBySums_85 (by decide) (by decide) ⟨rfl, rfl⟩
theorem r2_t {g p : Int → Int} {fi : Int} {s0 : Int × Int × Int} {k : Nat} (h : fi < (k : Int) ∧ (r2 g p fi s0 k).2.2 < g (fi * 10 + (k : Int)) ∧ p fi = -1 ∧ p (k : Int) = -1) : r2 g p fi s0 (k + 1) = (fi, (k : Int), g (fi * 10 + (k : Int))) := if_pos h
theorem r2_f {g p : Int → Int} {fi : Int} {s0 : Int × Int × Int} {k : Nat} (h : ¬ (fi < (k : Int) ∧ (r2 g p fi s0 k).2.2 < g (fi * 10 + (k : Int)) ∧ p fi = -1 ∧ p (k : Int) = -1)) : r2 g p fi s0 (k + 1) = r2 g p fi s0 k := if_neg h
theorem pbr_0 {g : Int → Int} {n : Nat} {p : Int → Int} {j : Nat} (h : (r1 g (pbr g n p j) n n).1 = -1) : pbr g n p (j + 1) = pbr g n p j := if_pos h
theorem pbr_1 {g : Int → Int} {n : Nat} {p : Int → Int} {j : Nat} (h : ¬ (r1 g (pbr g n p j) n n).1 = -1) : pbr g n p (j + 1) = updI (updI (pbr g n p j) (r1 g (pbr g n p j) n n).1 (r1 g (pbr g n p j) n n).2.1) (r1 g (pbr g n p j) n n).2.1 (r1 g (pbr g n p j) n n).1 := if_neg h
theorem pbr_st {g : Int → Int} {n : Nat} {p : Int → Int} {j : Nat} (h : (r1 g (pbr g n p j) n n).1 = -1) (i : Nat) : pbr g n p (j + i) = pbr g n p j := by
  induction i with
  | zero => rfl
  | succ i ih =>
    rw [← Nat.add_assoc, pbr_0 (by rw [ih]; exact h), ih]
theorem pbr_in {g : Int → Int} {n : Nat} {p : Int → Int} (hn : n ≤ 10) (hg : ∀ i, 0 ≤ i → i < 100 → 0 ≤ g i ∧ g i ≤ 20000) (hp : ∀ i, 0 ≤ i → i < 10 → -1 ≤ p i ∧ p i ≤ 9) (j : Nat) : ∀ i, 0 ≤ i → i < 10 → -1 ≤ pbr g n p j i ∧ pbr g n p j i ≤ 9 := by
  induction j with
  | zero => exact hp
  | succ j ih =>
    intro i h0 h1
    by_cases h : (r1 g (pbr g n p j) n n).1 = -1
    · rw [pbr_0 h]; exact ih i h0 h1
    · rw [pbr_1 h]
      have hr := r1_ok (p := pbr g n p j) hn hg n (Nat.le_refl n)
      have hi := ih i h0 h1
      unfold updI
      split
      · omega
      · split <;> omega
set_option maxRecDepth 100000 in
set_option maxHeartbeats 4000000 in
theorem lp_M_rule2 {p : Program} {l : Launch} {e : Env} {s : State} {m : MethodId} {args : Array Value} {below : List Frame} {meth : Method} {c : Code} {D : va_G} {cI cZ cJ : ClassId} {base : Nat} {ad : Nat → Nat} {A : Nat → Prop} {Q : State → Prop} (C : gC p s m args meth c D cls9 (tyl cI cZ cJ) A c_M_pairByRule 8 "BatchSavings$Matching" (wz y_M_pairByRule c_M_pairByRule 8 none) base (zz base)) (x : Bk) (fi : Int) (s0 : Int × Int × Int) (p9 : Int → Int) (rd : Int) (hn : 0 ≤ x 1 0 ∧ x 1 0 ≤ 10) (hg : ∀ i, 0 ≤ i → i < 100 → 0 ≤ x 17 i ∧ x 17 i ≤ 20000) (hf : 0 ≤ fi ∧ fi < x 1 0) (hs0 : rok (x 1 0) s0) (hp9 : ∀ i, 0 ≤ i → i < 10 → -1 ≤ p9 i ∧ p9 i ≤ 9)
    (K : gW p l e ({ frames := 1, cells := 0, slots := 0, locals := 22 } : Room) s m args below meth c D cls9 A 8 0 0 Q (cw ad cI cZ (bu x 16 p9)) [(0, .ref (ad 4)), (1, .int (iI rd)), (2, .int (iI ((r2 (x 17) p9 fi s0 ((x 1 0).toNat)).1))), (3, .int (iI ((r2 (x 17) p9 fi s0 ((x 1 0).toNat)).2.1))), (4, .int (iI ((r2 (x 17) p9 fi s0 ((x 1 0).toNat)).2.2))), (5, .int (iI fi)), (6, .int (iI ((x 1 0).toNat : Int)))] 106 []) : ∀ (d k : Nat), fi < (k : Int) → (k : Int) + (d : Int) = x 1 0 → gW p l e ({ frames := 1, cells := 0, slots := 0, locals := 22 } : Room) s m args below meth c D cls9 A 8 0 0 Q (cw ad cI cZ (bu x 16 p9)) [(0, .ref (ad 4)), (1, .int (iI rd)), (2, .int (iI ((r2 (x 17) p9 fi s0 k).1))), (3, .int (iI ((r2 (x 17) p9 fi s0 k).2.1))), (4, .int (iI ((r2 (x 17) p9 fi s0 k).2.2))), (5, .int (iI fi)), (6, .int (iI (k : Int)))] 35 [] := by
  intro d
  induction d with
  | zero =>
    intro k hfk hk
    refine g_iload C (q := 6) d_M_pairByRule_35 rfl ?_
    refine g_aload_n C (q := 0) d_M_pairByRule_37 rfl rfl ?_
    refine gG C (v := .ref (ad 1)) 4 0 u_M k_129 (cwo_4 _) rfl (by decide) rfl rfl d_M_pairByRule_38 ?_
    refine gGN C (v := .int (iI (x 1 0))) 1 5 u_O kn_50 (cwo_1 _) rfl (by decide) rfl rfl d_M_pairByRule_41 ?_
    refine g_icmp_ge C (tgt := 106) d_M_pairByRule_44 rfl (by omega) (by omega) (fun h44_1 => ?_) (fun h44_1 => ?_)
    · obtain rfl : k = (x 1 0).toNat := by omega
      exact K
    · exfalso
      omega
  | succ d ih =>
    intro k hfk hk
    have hr := r2_ok (p := p9) hn.2 hf hg hs0 k (by omega)
    have g1 := hg (fi * 10 + (k : Int)) (by omega) (by omega)
    have g2 := hp9 fi (by omega) (by omega)
    have g3 := hp9 (k : Int) (by omega) (by omega)
    refine g_iload C (q := 6) d_M_pairByRule_35 rfl ?_
    refine g_aload_n C (q := 0) d_M_pairByRule_37 rfl rfl ?_
    refine gG C (v := .ref (ad 1)) 4 0 u_M k_129 (cwo_4 _) rfl (by decide) rfl rfl d_M_pairByRule_38 ?_
    refine gGN C (v := .int (iI (x 1 0))) 1 5 u_O kn_50 (cwo_1 _) rfl (by decide) rfl rfl d_M_pairByRule_41 ?_
    refine g_icmp_ge C (tgt := 106) d_M_pairByRule_44 rfl (by omega) (by omega) (fun h44_1 => ?_) (fun h44_1 => ?_)
    · exfalso
      omega
    · refine g_aload_n C (q := 0) d_M_pairByRule_47 rfl rfl ?_
      refine gG C (v := .ref (ad 17)) 4 2 u_M k_132 (cwo_4 _) rfl (by decide) rfl rfl d_M_pairByRule_48 ?_
      refine g_iload C (q := 5) d_M_pairByRule_51 rfl ?_
      refine g_iload C (q := 6) d_M_pairByRule_53 rfl ?_
      refine gSN0 C (st := [.ref (ad 17)]) (m_S_pairIndex fi (k : Int)) k_190 kn_446 k_189 k_1 ho_S_pairIndex rfl rfl ⟨by decide, by decide⟩ rfl rfl (Nat.le_of_ble_eq_true rfl) d_M_pairByRule_55 ⟨by decide, by decide⟩ (fun r w hq => ?_)
      obtain ⟨rfl, rfl⟩ := hq
      refine g_eq (ws' := cw ad cI cZ (bu x 16 p9)) (lv' := [(0, .ref (ad 4)), (1, .int (iI rd)), (2, .int (iI ((r2 (x 17) p9 fi s0 k).1))), (3, .int (iI ((r2 (x 17) p9 fi s0 k).2.1))), (4, .int (iI ((r2 (x 17) p9 fi s0 k).2.2))), (5, .int (iI fi)), (6, .int (iI (k : Int)))]) (pc' := 58) (st' := [.int (iI (fi * 10 + (k : Int))), .ref (ad 17)]) rfl rfl rfl rfl ?_
      refine g_iald C 17 0 (cwa_17 _) rfl (by decide) (by omega) d_M_pairByRule_58 ?_
      refine g_st (st' := [.int (iI (x 17 (fi * 10 + (k : Int))))]) rfl ?_
      refine g_istore C (lv' := [(0, .ref (ad 4)), (1, .int (iI rd)), (2, .int (iI ((r2 (x 17) p9 fi s0 k).1))), (3, .int (iI ((r2 (x 17) p9 fi s0 k).2.1))), (4, .int (iI ((r2 (x 17) p9 fi s0 k).2.2))), (5, .int (iI fi)), (6, .int (iI (k : Int))), (7, .int (iI (x 17 (fi * 10 + (k : Int)))))]) d_M_pairByRule_59 (by decide) rfl rfl ?_
      refine g_iload C (q := 7) d_M_pairByRule_61 rfl ?_
      refine g_iload C (q := 4) d_M_pairByRule_63 rfl ?_
      refine g_icmp_le C (tgt := 100) d_M_pairByRule_65 rfl (by omega) (by omega) (fun h65_2 => ?_) (fun h65_2 => ?_)
      · refine g_lv (lv' := [(0, .ref (ad 4)), (1, .int (iI rd)), (2, .int (iI ((r2 (x 17) p9 fi s0 k).1))), (3, .int (iI ((r2 (x 17) p9 fi s0 k).2.1))), (4, .int (iI ((r2 (x 17) p9 fi s0 k).2.2))), (5, .int (iI fi)), (6, .int (iI (k : Int)))]) [0, 1, 2, 3, 4, 5, 6] rfl ?_
        refine g_lve (lv' := [(0, .ref (ad 4)), (1, .int (iI rd)), (2, .int (iI ((r2 (x 17) p9 fi s0 (k + 1)).1))), (3, .int (iI ((r2 (x 17) p9 fi s0 (k + 1)).2.1))), (4, .int (iI ((r2 (x 17) p9 fi s0 (k + 1)).2.2))), (5, .int (iI fi)), (6, .int (iI (k : Int)))]) (by first | (rw [r2_t ⟨by omega, by omega, by omega, by omega⟩]; done) | (rw [r2_f (by omega)]; done)) ?_
        refine g_iinc C (q := 6) (lv' := [(0, .ref (ad 4)), (1, .int (iI rd)), (2, .int (iI ((r2 (x 17) p9 fi s0 (k + 1)).1))), (3, .int (iI ((r2 (x 17) p9 fi s0 (k + 1)).2.1))), (4, .int (iI ((r2 (x 17) p9 fi s0 (k + 1)).2.2))), (5, .int (iI fi)), (6, .int (iI ((k : Int) + 1)))]) d_M_pairByRule_100 rfl (by decide) rfl rfl ?_
        refine g_goto C (tgt := 35) d_M_pairByRule_103 rfl ?_
        exact ih (k + 1) (by omega) (by omega)
      · refine g_aload_n C (q := 0) d_M_pairByRule_68 rfl rfl ?_
        refine gG C (v := .ref (ad 16)) 4 1 u_M k_130 (cwo_4 _) rfl (by decide) rfl rfl d_M_pairByRule_69 ?_
        refine g_iload C (q := 5) d_M_pairByRule_72 rfl ?_
        refine g_iald C 16 0 (cwa_16 _) rfl (by decide) (by omega) d_M_pairByRule_74 ?_
        refine g_st (st' := [.int (iI (p9 fi))]) rfl ?_
        refine g_iconst C d_M_pairByRule_75 ?_
        refine g_icmp_ne C (tgt := 100) d_M_pairByRule_76 rfl (by omega) (by omega) (fun h76_3 => ?_) (fun h76_3 => ?_)
        · refine g_lv (lv' := [(0, .ref (ad 4)), (1, .int (iI rd)), (2, .int (iI ((r2 (x 17) p9 fi s0 k).1))), (3, .int (iI ((r2 (x 17) p9 fi s0 k).2.1))), (4, .int (iI ((r2 (x 17) p9 fi s0 k).2.2))), (5, .int (iI fi)), (6, .int (iI (k : Int)))]) [0, 1, 2, 3, 4, 5, 6] rfl ?_
          refine g_lve (lv' := [(0, .ref (ad 4)), (1, .int (iI rd)), (2, .int (iI ((r2 (x 17) p9 fi s0 (k + 1)).1))), (3, .int (iI ((r2 (x 17) p9 fi s0 (k + 1)).2.1))), (4, .int (iI ((r2 (x 17) p9 fi s0 (k + 1)).2.2))), (5, .int (iI fi)), (6, .int (iI (k : Int)))]) (by first | (rw [r2_t ⟨by omega, by omega, by omega, by omega⟩]; done) | (rw [r2_f (by omega)]; done)) ?_
          refine g_iinc C (q := 6) (lv' := [(0, .ref (ad 4)), (1, .int (iI rd)), (2, .int (iI ((r2 (x 17) p9 fi s0 (k + 1)).1))), (3, .int (iI ((r2 (x 17) p9 fi s0 (k + 1)).2.1))), (4, .int (iI ((r2 (x 17) p9 fi s0 (k + 1)).2.2))), (5, .int (iI fi)), (6, .int (iI ((k : Int) + 1)))]) d_M_pairByRule_100 rfl (by decide) rfl rfl ?_
          refine g_goto C (tgt := 35) d_M_pairByRule_103 rfl ?_
          exact ih (k + 1) (by omega) (by omega)
        · refine g_aload_n C (q := 0) d_M_pairByRule_79 rfl rfl ?_
          refine gG C (v := .ref (ad 16)) 4 1 u_M k_130 (cwo_4 _) rfl (by decide) rfl rfl d_M_pairByRule_80 ?_
          refine g_iload C (q := 6) d_M_pairByRule_83 rfl ?_
          refine g_iald C 16 0 (cwa_16 _) rfl (by decide) (by omega) d_M_pairByRule_85 ?_
          refine g_st (st' := [.int (iI (p9 (k : Int)))]) rfl ?_
          refine g_iconst C d_M_pairByRule_86 ?_
          refine g_icmp_ne C (tgt := 100) d_M_pairByRule_87 rfl (by omega) (by omega) (fun h87_4 => ?_) (fun h87_4 => ?_)
          · refine g_lv (lv' := [(0, .ref (ad 4)), (1, .int (iI rd)), (2, .int (iI ((r2 (x 17) p9 fi s0 k).1))), (3, .int (iI ((r2 (x 17) p9 fi s0 k).2.1))), (4, .int (iI ((r2 (x 17) p9 fi s0 k).2.2))), (5, .int (iI fi)), (6, .int (iI (k : Int)))]) [0, 1, 2, 3, 4, 5, 6] rfl ?_
            refine g_lve (lv' := [(0, .ref (ad 4)), (1, .int (iI rd)), (2, .int (iI ((r2 (x 17) p9 fi s0 (k + 1)).1))), (3, .int (iI ((r2 (x 17) p9 fi s0 (k + 1)).2.1))), (4, .int (iI ((r2 (x 17) p9 fi s0 (k + 1)).2.2))), (5, .int (iI fi)), (6, .int (iI (k : Int)))]) (by first | (rw [r2_t ⟨by omega, by omega, by omega, by omega⟩]; done) | (rw [r2_f (by omega)]; done)) ?_
            refine g_iinc C (q := 6) (lv' := [(0, .ref (ad 4)), (1, .int (iI rd)), (2, .int (iI ((r2 (x 17) p9 fi s0 (k + 1)).1))), (3, .int (iI ((r2 (x 17) p9 fi s0 (k + 1)).2.1))), (4, .int (iI ((r2 (x 17) p9 fi s0 (k + 1)).2.2))), (5, .int (iI fi)), (6, .int (iI ((k : Int) + 1)))]) d_M_pairByRule_100 rfl (by decide) rfl rfl ?_
            refine g_goto C (tgt := 35) d_M_pairByRule_103 rfl ?_
            exact ih (k + 1) (by omega) (by omega)
          · refine g_iload C (q := 5) d_M_pairByRule_90 rfl ?_
            refine g_istore_n C (lv' := [(0, .ref (ad 4)), (1, .int (iI rd)), (2, .int (iI fi)), (3, .int (iI ((r2 (x 17) p9 fi s0 k).2.1))), (4, .int (iI ((r2 (x 17) p9 fi s0 k).2.2))), (5, .int (iI fi)), (6, .int (iI (k : Int))), (7, .int (iI (x 17 (fi * 10 + (k : Int)))))]) d_M_pairByRule_92 rfl (by decide) rfl rfl ?_
            refine g_iload C (q := 6) d_M_pairByRule_93 rfl ?_
            refine g_istore_n C (lv' := [(0, .ref (ad 4)), (1, .int (iI rd)), (2, .int (iI fi)), (3, .int (iI (k : Int))), (4, .int (iI ((r2 (x 17) p9 fi s0 k).2.2))), (5, .int (iI fi)), (6, .int (iI (k : Int))), (7, .int (iI (x 17 (fi * 10 + (k : Int)))))]) d_M_pairByRule_95 rfl (by decide) rfl rfl ?_
            refine g_iload C (q := 7) d_M_pairByRule_96 rfl ?_
            refine g_istore C (lv' := [(0, .ref (ad 4)), (1, .int (iI rd)), (2, .int (iI fi)), (3, .int (iI (k : Int))), (4, .int (iI (x 17 (fi * 10 + (k : Int))))), (5, .int (iI fi)), (6, .int (iI (k : Int))), (7, .int (iI (x 17 (fi * 10 + (k : Int)))))]) d_M_pairByRule_98 (by decide) rfl rfl ?_
            refine g_lv (lv' := [(0, .ref (ad 4)), (1, .int (iI rd)), (2, .int (iI fi)), (3, .int (iI (k : Int))), (4, .int (iI (x 17 (fi * 10 + (k : Int))))), (5, .int (iI fi)), (6, .int (iI (k : Int)))]) [0, 1, 2, 3, 4, 5, 6] rfl ?_
            refine g_lve (lv' := [(0, .ref (ad 4)), (1, .int (iI rd)), (2, .int (iI ((r2 (x 17) p9 fi s0 (k + 1)).1))), (3, .int (iI ((r2 (x 17) p9 fi s0 (k + 1)).2.1))), (4, .int (iI ((r2 (x 17) p9 fi s0 (k + 1)).2.2))), (5, .int (iI fi)), (6, .int (iI (k : Int)))]) (by first | (rw [r2_t ⟨by omega, by omega, by omega, by omega⟩]; done) | (rw [r2_f (by omega)]; done)) ?_
            refine g_iinc C (q := 6) (lv' := [(0, .ref (ad 4)), (1, .int (iI rd)), (2, .int (iI ((r2 (x 17) p9 fi s0 (k + 1)).1))), (3, .int (iI ((r2 (x 17) p9 fi s0 (k + 1)).2.1))), (4, .int (iI ((r2 (x 17) p9 fi s0 (k + 1)).2.2))), (5, .int (iI fi)), (6, .int (iI ((k : Int) + 1)))]) d_M_pairByRule_100 rfl (by decide) rfl rfl ?_
            refine g_goto C (tgt := 35) d_M_pairByRule_103 rfl ?_
            exact ih (k + 1) (by omega) (by omega)
set_option maxRecDepth 100000 in
set_option maxHeartbeats 4000000 in
theorem lp_M_rule1 {p : Program} {l : Launch} {e : Env} {s : State} {m : MethodId} {args : Array Value} {below : List Frame} {meth : Method} {c : Code} {D : va_G} {cI cZ cJ : ClassId} {base : Nat} {ad : Nat → Nat} {A : Nat → Prop} {Q : State → Prop} (C : gC p s m args meth c D cls9 (tyl cI cZ cJ) A c_M_pairByRule 8 "BatchSavings$Matching" (wz y_M_pairByRule c_M_pairByRule 8 none) base (zz base)) (x : Bk) (p9 : Int → Int) (rd : Int) (hn : 0 ≤ x 1 0 ∧ x 1 0 ≤ 10) (hg : ∀ i, 0 ≤ i → i < 100 → 0 ≤ x 17 i ∧ x 17 i ≤ 20000) (hp9 : ∀ i, 0 ≤ i → i < 10 → -1 ≤ p9 i ∧ p9 i ≤ 9)
    (K : gW p l e ({ frames := 1, cells := 0, slots := 0, locals := 22 } : Room) s m args below meth c D cls9 A 8 0 0 Q (cw ad cI cZ (bu x 16 p9)) [(0, .ref (ad 4)), (1, .int (iI rd)), (2, .int (iI ((r1 (x 17) p9 (x 1 0).toNat ((x 1 0).toNat)).1))), (3, .int (iI ((r1 (x 17) p9 (x 1 0).toNat ((x 1 0).toNat)).2.1))), (4, .int (iI ((r1 (x 17) p9 (x 1 0).toNat ((x 1 0).toNat)).2.2))), (5, .int (iI ((x 1 0).toNat : Int)))] 112 []) : ∀ (d k : Nat), (k : Int) + (d : Int) = x 1 0 → gW p l e ({ frames := 1, cells := 0, slots := 0, locals := 22 } : Room) s m args below meth c D cls9 A 8 0 0 Q (cw ad cI cZ (bu x 16 p9)) [(0, .ref (ad 4)), (1, .int (iI rd)), (2, .int (iI ((r1 (x 17) p9 (x 1 0).toNat k).1))), (3, .int (iI ((r1 (x 17) p9 (x 1 0).toNat k).2.1))), (4, .int (iI ((r1 (x 17) p9 (x 1 0).toNat k).2.2))), (5, .int (iI (k : Int)))] 17 [] := by
  intro d
  induction d with
  | zero =>
    intro k hk
    refine g_iload C (q := 5) d_M_pairByRule_17 rfl ?_
    refine g_aload_n C (q := 0) d_M_pairByRule_19 rfl rfl ?_
    refine gG C (v := .ref (ad 1)) 4 0 u_M k_129 (cwo_4 _) rfl (by decide) rfl rfl d_M_pairByRule_20 ?_
    refine gGN C (v := .int (iI (x 1 0))) 1 5 u_O kn_50 (cwo_1 _) rfl (by decide) rfl rfl d_M_pairByRule_23 ?_
    refine g_icmp_ge C (tgt := 112) d_M_pairByRule_26 rfl (by omega) (by omega) (fun h26_1 => ?_) (fun h26_1 => ?_)
    · obtain rfl : k = (x 1 0).toNat := by omega
      exact K
    · exfalso
      omega
  | succ d ih =>
    intro k hk
    have hr : rok (x 1 0) (r1 (x 17) p9 (x 1 0).toNat k) := by have := r1_ok (p := p9) (n := (x 1 0).toNat) (by omega) hg k (by omega); rw [Int.toNat_of_nonneg hn.1] at this; exact this
    refine g_iload C (q := 5) d_M_pairByRule_17 rfl ?_
    refine g_aload_n C (q := 0) d_M_pairByRule_19 rfl rfl ?_
    refine gG C (v := .ref (ad 1)) 4 0 u_M k_129 (cwo_4 _) rfl (by decide) rfl rfl d_M_pairByRule_20 ?_
    refine gGN C (v := .int (iI (x 1 0))) 1 5 u_O kn_50 (cwo_1 _) rfl (by decide) rfl rfl d_M_pairByRule_23 ?_
    refine g_icmp_ge C (tgt := 112) d_M_pairByRule_26 rfl (by omega) (by omega) (fun h26_1 => ?_) (fun h26_1 => ?_)
    · exfalso
      omega
    · refine g_iload C (q := 5) d_M_pairByRule_29 rfl ?_
      refine g_iconst C d_M_pairByRule_31 ?_
      refine g_iadd C d_M_pairByRule_32 ?_
      refine g_istore C (lv' := [(0, .ref (ad 4)), (1, .int (iI rd)), (2, .int (iI ((r1 (x 17) p9 (x 1 0).toNat k).1))), (3, .int (iI ((r1 (x 17) p9 (x 1 0).toNat k).2.1))), (4, .int (iI ((r1 (x 17) p9 (x 1 0).toNat k).2.2))), (5, .int (iI (k : Int))), (6, .int (iI ((k : Int) + 1)))]) d_M_pairByRule_33 (by decide) rfl rfl ?_
      refine g_lve (lv' := [(0, .ref (ad 4)), (1, .int (iI rd)), (2, .int (iI ((r2 (x 17) p9 (k : Int) (r1 (x 17) p9 (x 1 0).toNat k) (k + 1)).1))), (3, .int (iI ((r2 (x 17) p9 (k : Int) (r1 (x 17) p9 (x 1 0).toNat k) (k + 1)).2.1))), (4, .int (iI ((r2 (x 17) p9 (k : Int) (r1 (x 17) p9 (x 1 0).toNat k) (k + 1)).2.2))), (5, .int (iI (k : Int))), (6, .int (iI ((k + 1 : Nat) : Int)))]) (by rw [r2_lo _ _ _ _ _ (by omega)]; rfl) ?_
      refine lp_M_rule2 C x (k : Int) (r1 (x 17) p9 (x 1 0).toNat k) p9 rd hn hg (by omega) hr hp9 ?_ ((x 1 0).toNat - (k + 1)) (k + 1) (by omega) (by omega)
      refine g_iinc C (q := 5) (lv' := [(0, .ref (ad 4)), (1, .int (iI rd)), (2, .int (iI ((r2 (x 17) p9 (k : Int) (r1 (x 17) p9 (x 1 0).toNat k) (x 1 0).toNat).1))), (3, .int (iI ((r2 (x 17) p9 (k : Int) (r1 (x 17) p9 (x 1 0).toNat k) (x 1 0).toNat).2.1))), (4, .int (iI ((r2 (x 17) p9 (k : Int) (r1 (x 17) p9 (x 1 0).toNat k) (x 1 0).toNat).2.2))), (5, .int (iI ((k : Int) + 1))), (6, .int (iI ((x 1 0).toNat : Int)))]) d_M_pairByRule_106 rfl (by decide) rfl rfl ?_
      refine g_goto C (tgt := 17) d_M_pairByRule_109 rfl ?_
      refine g_lv [0, 1, 2, 3, 4, 5] rfl ?_
      exact ih (k + 1) (by omega)
set_option maxRecDepth 100000 in
set_option maxHeartbeats 4000000 in
theorem lp_M_rule0 {p : Program} {l : Launch} {e : Env} {s : State} {m : MethodId} {args : Array Value} {below : List Frame} {meth : Method} {c : Code} {D : va_G} {cI cZ cJ : ClassId} {base : Nat} {ad : Nat → Nat} {A : Nat → Prop} {Q : State → Prop} (C : gC p s m args meth c D cls9 (tyl cI cZ cJ) A c_M_pairByRule 8 "BatchSavings$Matching" (wz y_M_pairByRule c_M_pairByRule 8 none) base (zz base)) (x : Bk) (hn : 0 ≤ x 1 0 ∧ x 1 0 ≤ 10) (hg : ∀ i, 0 ≤ i → i < 100 → 0 ≤ x 17 i ∧ x 17 i ≤ 20000) (hp : ∀ i, 0 ≤ i → i < 10 → -1 ≤ x 16 i ∧ x 16 i ≤ 9)
    (K : gW p l e ({ frames := 1, cells := 0, slots := 0, locals := 22 } : Room) s m args below meth c D cls9 A 8 0 0 Q (cw ad cI cZ (bu x 16 (pbr (x 17) (x 1 0).toNat (x 16) 5))) [(0, .ref (ad 4)), (1, .int (iI (5 : Int)))] 130 [])
    (K1 : gW p l e ({ frames := 1, cells := 0, slots := 0, locals := 22 } : Room) s m args below meth c D cls9 A 8 0 0 Q (cw ad cI cZ (bu x 16 (pbr (x 17) (x 1 0).toNat (x 16) 5))) [(0, .ref (ad 4))] 117 []) : ∀ (d k : Nat), k + d = 5 → gW p l e ({ frames := 1, cells := 0, slots := 0, locals := 22 } : Room) s m args below meth c D cls9 A 8 0 0 Q (cw ad cI cZ (bu x 16 (pbr (x 17) (x 1 0).toNat (x 16) k))) [(0, .ref (ad 4)), (1, .int (iI (k : Int)))] 2 [] := by
  intro d
  induction d with
  | zero =>
    intro k hk
    refine g_iload_n C (q := 1) d_M_pairByRule_2 rfl rfl ?_
    refine g_iconst C d_M_pairByRule_3 ?_
    refine g_icmp_ge C (tgt := 130) d_M_pairByRule_4 rfl (by omega) (by omega) (fun h4_1 => ?_) (fun h4_1 => ?_)
    · obtain rfl : k = 5 := by omega
      exact K
    · exfalso
      omega
  | succ d ih =>
    intro k hk
    refine g_iload_n C (q := 1) d_M_pairByRule_2 rfl rfl ?_
    refine g_iconst C d_M_pairByRule_3 ?_
    refine g_icmp_ge C (tgt := 130) d_M_pairByRule_4 rfl (by omega) (by omega) (fun h4_1 => ?_) (fun h4_1 => ?_)
    · exfalso
      omega
    · refine g_iconst C d_M_pairByRule_7 ?_
      refine g_istore_n C (lv' := [(0, .ref (ad 4)), (1, .int (iI (k : Int))), (2, .int (iI (-1)))]) d_M_pairByRule_8 rfl (by decide) rfl rfl ?_
      refine g_iconst C d_M_pairByRule_9 ?_
      refine g_istore_n C (lv' := [(0, .ref (ad 4)), (1, .int (iI (k : Int))), (2, .int (iI (-1))), (3, .int (iI (-1)))]) d_M_pairByRule_10 rfl (by decide) rfl rfl ?_
      refine g_iconst C d_M_pairByRule_11 ?_
      refine g_istore C (lv' := [(0, .ref (ad 4)), (1, .int (iI (k : Int))), (2, .int (iI (-1))), (3, .int (iI (-1))), (4, .int (iI 0))]) d_M_pairByRule_12 (by decide) rfl rfl ?_
      refine g_iconst C d_M_pairByRule_14 ?_
      refine g_istore C (lv' := [(0, .ref (ad 4)), (1, .int (iI (k : Int))), (2, .int (iI (-1))), (3, .int (iI (-1))), (4, .int (iI 0)), (5, .int (iI 0))]) d_M_pairByRule_15 (by decide) rfl rfl ?_
      refine g_lve (lv' := [(0, .ref (ad 4)), (1, .int (iI (k : Int))), (2, .int (iI ((r1 (x 17) (pbr (x 17) (x 1 0).toNat (x 16) k) (x 1 0).toNat 0).1))), (3, .int (iI ((r1 (x 17) (pbr (x 17) (x 1 0).toNat (x 16) k) (x 1 0).toNat 0).2.1))), (4, .int (iI ((r1 (x 17) (pbr (x 17) (x 1 0).toNat (x 16) k) (x 1 0).toNat 0).2.2))), (5, .int (iI ((0 : Nat) : Int)))]) rfl ?_
      have hr := r1_ok (p := (pbr (x 17) (x 1 0).toNat (x 16) k)) (n := (x 1 0).toNat) (by omega) hg (x 1 0).toNat (Nat.le_refl _)
      refine lp_M_rule1 C x (pbr (x 17) (x 1 0).toNat (x 16) k) (k : Int) hn hg (pbr_in (by omega) hg hp k) ?_ (x 1 0).toNat 0 (by omega)
      refine g_iload_n C (q := 2) d_M_pairByRule_112 rfl rfl ?_
      refine g_iconst C d_M_pairByRule_113 ?_
      refine g_icmp_ne C (tgt := 118) d_M_pairByRule_114 rfl (by omega) (by omega) (fun h114_1 => ?_) (fun h114_1 => ?_)
      · refine g_aload_n C (q := 0) d_M_pairByRule_118 rfl rfl ?_
        refine g_iload_n C (q := 2) d_M_pairByRule_119 rfl rfl ?_
        refine g_iload_n C (q := 3) d_M_pairByRule_120 rfl rfl ?_
        refine gV C (st := []) (m_M_bind (bu x 16 (pbr (x 17) (x 1 0).toNat (x 16) k)) ((r1 (x 17) (pbr (x 17) (x 1 0).toNat (x 16) k) (x 1 0).toNat (x 1 0).toNat).1) ((r1 (x 17) (pbr (x 17) (x 1 0).toNat (x 16) k) (x 1 0).toNat (x 1 0).toNat).2.1) (by omega) (by omega)) k_485 k_482 k_484 kp_29 k_6 rfl ho_M_bind rfl rfl ⟨by decide, by decide⟩ 4 (cwo_4 _) rfl rfl rfl (Nat.le_of_ble_eq_true rfl) d_M_pairByRule_121 ⟨by decide, by decide⟩ (fun r w hq => ?_)
        obtain ⟨rfl, rfl⟩ := hq
        refine g_eq (ws' := cw ad cI cZ (bu (bu (bu x 16 (pbr (x 17) (x 1 0).toNat (x 16) k)) 16 (updI (pbr (x 17) (x 1 0).toNat (x 16) k) ((r1 (x 17) (pbr (x 17) (x 1 0).toNat (x 16) k) (x 1 0).toNat (x 1 0).toNat).1) ((r1 (x 17) (pbr (x 17) (x 1 0).toNat (x 16) k) (x 1 0).toNat (x 1 0).toNat).2.1))) 16 (updI (updI (pbr (x 17) (x 1 0).toNat (x 16) k) ((r1 (x 17) (pbr (x 17) (x 1 0).toNat (x 16) k) (x 1 0).toNat (x 1 0).toNat).1) ((r1 (x 17) (pbr (x 17) (x 1 0).toNat (x 16) k) (x 1 0).toNat (x 1 0).toNat).2.1)) ((r1 (x 17) (pbr (x 17) (x 1 0).toNat (x 16) k) (x 1 0).toNat (x 1 0).toNat).2.1) ((r1 (x 17) (pbr (x 17) (x 1 0).toNat (x 16) k) (x 1 0).toNat (x 1 0).toNat).1)))) (lv' := [(0, .ref (ad 4)), (1, .int (iI (k : Int))), (2, .int (iI ((r1 (x 17) (pbr (x 17) (x 1 0).toNat (x 16) k) (x 1 0).toNat (x 1 0).toNat).1))), (3, .int (iI ((r1 (x 17) (pbr (x 17) (x 1 0).toNat (x 16) k) (x 1 0).toNat (x 1 0).toNat).2.1))), (4, .int (iI ((r1 (x 17) (pbr (x 17) (x 1 0).toNat (x 16) k) (x 1 0).toNat (x 1 0).toNat).2.2))), (5, .int (iI ((x 1 0).toNat : Int)))]) (pc' := 124) (st' := []) rfl rfl rfl rfl ?_
        refine g_iinc C (q := 1) (lv' := [(0, .ref (ad 4)), (1, .int (iI ((k : Int) + 1))), (2, .int (iI ((r1 (x 17) (pbr (x 17) (x 1 0).toNat (x 16) k) (x 1 0).toNat (x 1 0).toNat).1))), (3, .int (iI ((r1 (x 17) (pbr (x 17) (x 1 0).toNat (x 16) k) (x 1 0).toNat (x 1 0).toNat).2.1))), (4, .int (iI ((r1 (x 17) (pbr (x 17) (x 1 0).toNat (x 16) k) (x 1 0).toNat (x 1 0).toNat).2.2))), (5, .int (iI ((x 1 0).toNat : Int)))]) d_M_pairByRule_124 rfl (by decide) rfl rfl ?_
        refine g_goto C (tgt := 2) d_M_pairByRule_127 rfl ?_
        refine g_lv (lv' := [(0, .ref (ad 4)), (1, .int (iI ((k : Int) + 1)))]) [0, 1] rfl ?_
        refine g_ws (ws' := cw ad cI cZ (bu x 16 (pbr (x 17) (x 1 0).toNat (x 16) (k + 1)))) (by rw [pbr_1 (by assumption)]; rfl) ?_
        exact ih (k + 1) (by omega)
      · refine g_lv (lv' := [(0, .ref (ad 4))]) [0] rfl ?_
        refine g_ws (ws' := cw ad cI cZ (bu x 16 (pbr (x 17) (x 1 0).toNat (x 16) 5))) (by have h5 := pbr_st (g := x 17) (n := (x 1 0).toNat) (p := x 16) (j := k) (by assumption) (5 - k); rw [show k + (5 - k) = 5 by omega] at h5; rw [h5]) ?_
        exact K1
set_option maxRecDepth 100000 in
set_option maxHeartbeats 4000000 in
theorem m_M_pairByRule {l : Launch} {D : va_G} {cI cZ cJ : ClassId} {base : Nat} {ad : Nat → Nat} (x : Bk) (hn : 0 ≤ x 1 0 ∧ x 1 0 ≤ 10) (hg : ∀ i, 0 ≤ i → i < 100 → 0 ≤ x 17 i ∧ x 17 i ≤ 20000) (hp : ∀ i, 0 ≤ i → i < 10 → -1 ≤ x 16 i ∧ x 16 i ≤ 9) : Cn l D cls9 (tyl cI cZ cJ) base (zz base) y_M_pairByRule (wz y_M_pairByRule c_M_pairByRule 8 none) ({ frames := 1, cells := 0, slots := 0, locals := 22 } : Room) [.ref (ad 4)] (cw ad cI cZ x) (fun r w => r = none ∧ w = cw ad cI cZ (bu x 16 (pbr (x 17) (x 1 0).toNat (x 16) 5))) 0 0 := by
  refine Cn_of (zzG base) (by decide) rfl (Nat.le_of_ble_eq_true rfl) ?_
  intro p e s m args below meth c A C hr hA hnm
  have C : gC p s m args meth c D cls9 (tyl cI cZ cJ) A c_M_pairByRule 8 "BatchSavings$Matching" (wz y_M_pairByRule c_M_pairByRule 8 none) base (zz base) := C
  refine g_lve (lv' := [(0, .ref (ad 4))]) rfl ?_
  refine g_iconst C d_M_pairByRule_0 ?_
  refine g_istore_n C (lv' := [(0, .ref (ad 4)), (1, .int (iI 0))]) d_M_pairByRule_1 rfl (by decide) rfl rfl ?_
  refine g_ws (ws' := cw ad cI cZ (bu x 16 (pbr (x 17) (x 1 0).toNat (x 16) 0))) rfl ?_
  refine lp_M_rule0 C x hn hg hp ?_ ?_ 5 0 (by omega)
  · exact g_vret C hA hr d_M_pairByRule_130 (by decide) (by decide) ⟨rfl, rfl⟩
  · exact g_vret C hA hr d_M_pairByRule_117 (by decide) (by decide) ⟨rfl, rfl⟩
