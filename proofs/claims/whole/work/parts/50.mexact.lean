theorem fnd_t {P : Int → Prop} [DecidablePred P] {k d : Nat} (h : P (k : Int)) : fnd P k (d + 1) = (k : Int) := if_pos h
theorem fnd_f {P : Int → Prop} [DecidablePred P] {k d : Nat} (h : ¬ P (k : Int)) : fnd P k (d + 1) = fnd P (k + 1) d := if_neg h
theorem Ok.p16 {x : Bk} (h : Ok x) {p : Int → Int} (hp : ∀ i, 0 ≤ i → i < 10 → -1 ≤ p i ∧ p i ≤ 9) : Ok (bu x 16 p) := ⟨h.n, h.b, h.w, h.s, h.e, h.r5, h.r6, h.r7, h.r8, h.r9, h.r10, h.r11, h.r13, h.r14, h.r15, hp⟩
theorem p_bind {p : Int → Int} {a b : Int} (hp : ∀ i, 0 ≤ i → i < 10 → -1 ≤ p i ∧ p i ≤ 9) (ha : 0 ≤ a ∧ a < 10) (hb : 0 ≤ b ∧ b < 10) : ∀ i, 0 ≤ i → i < 10 → -1 ≤ updI (updI p a b) b a i ∧ updI (updI p a b) b a i ≤ 9 := fun i h0 h1 => by
  have := hp i h0 h1
  unfold updI
  split
  · omega
  · split <;> omega
theorem bt_low {q i : Int} (hq : 0 ≤ q ∧ q < 1024) (hi : low q < i) (h0 : ¬ q = 0) : bt (clr q (low q)) i ↔ bt q i := by
  have hL := low_ok hq h0
  rw [bt_clr hq hL.1 (by omega)]
  exact ⟨fun z => z.1, fun z => ⟨z, by omega⟩⟩
theorem low_lt {q n : Int} (hq : 0 ≤ q ∧ q < 1024) (h0 : ¬ q = 0) (hn : 0 ≤ n ∧ n ≤ 10) (h : q < pw n) : low q < n := by
  have hL := low_ok hq h0
  refine Classical.byContradiction fun z => ?_
  have h1 : pw n ≤ pw (low q) := pw_mono (by omega)
  have h2 : q / pw (low q) = 0 := Int.ediv_eq_zero_of_lt hq.1 (by omega)
  have h3 : q / pw (low q) % 2 = 1 := hL.2.1
  rw [h2] at h3
  omega
set_option maxRecDepth 100000 in
set_option maxHeartbeats 4000000 in
theorem lp_Tw_ex1 {p : Program} {l : Launch} {e : Env} {s : State} {m : MethodId} {args : Array Value} {below : List Frame} {meth : Method} {c : Code} {D : va_G} {cI cZ cJ : ClassId} {base : Nat} {ad : Nat → Nat} {A : Nat → Prop} {Q : State → Prop} (C : gC p s m args meth c D cls9 (tyl cI cZ cJ) A c_Tw_exactly 7 "BatchSavingsModel" (wz y_Tw_exactly c_Tw_exactly 7 none) base (zz base)) (x : Bk) (q0 q : Int) (hq : 0 ≤ q ∧ q < 1024) (hq1 : ¬ q = 0) (t : Int → Int) (ht : tb t) (hok : Ok x) (hs : sym x) (h17 : g17 x) (hg : rng x 17 100 0 20000)
    (K : gW p l e ({ frames := 3, cells := 0, slots := 0, locals := 69 } : Room) s m args below meth c D cls9 A 7 0 0 Q (mw ad cI cZ (bu x 18 t)) [(0, .ref (ad 0)), (1, .int (iI q0)), (2, .int (iI q)), (3, .int (iI (low q))), (4, .int (iI (gm (x 17) t (low q) (clr q (low q)) ((x 1 0).toNat)))), (5, .int (iI ((x 1 0).toNat : Int)))] 125 []) : ∀ (d k : Nat), low q < (k : Int) → (k : Int) + (d : Int) = x 1 0 → gW p l e ({ frames := 3, cells := 0, slots := 0, locals := 69 } : Room) s m args below meth c D cls9 A 7 0 0 Q (mw ad cI cZ (bu x 18 t)) [(0, .ref (ad 0)), (1, .int (iI q0)), (2, .int (iI q)), (3, .int (iI (low q))), (4, .int (iI (gm (x 17) t (low q) (clr q (low q)) k))), (5, .int (iI (k : Int)))] 43 [] := by
  intro d
  induction d with
  | zero =>
    intro k hlk hk
    have hn := hok.n
    refine g_iload C (q := 5) d_Tw_exactly_43 rfl ?_
    refine g_aload_n C (q := 0) d_Tw_exactly_45 rfl rfl ?_
    refine gG C (v := .int (iI (x 1 0))) 0 1 u_Tw k_649 (mwo_0 _) rfl (by decide) rfl rfl d_Tw_exactly_46 ?_
    refine g_icmp_ge C (tgt := 125) d_Tw_exactly_49 rfl (by omega) (by omega) (fun h49_1 => ?_) (fun h49_1 => ?_)
    · obtain rfl : k = (x 1 0).toNat := by omega
      exact K
    · exfalso
      omega
  | succ d ih =>
    intro k hlk hk
    have hn := hok.n
    have hL := low_ok hq hq1
    have hc := clr_in hq hL.1
    have g1 := hg (low q * 10 + (k : Int)) (by omega) (by omega)
    have g2 := gm_bd (g := x 17) (t := t) (lo := low q) (q := clr q (low q)) hL.1 (by omega) (tb_in ht) hg k (by omega)
    have hbc := bt_low hq hlk hq1
    have h17k := h17 (low q) (k : Int) (by omega) hlk (by omega)
    have hbo := bit_or q (k : Int)
    have h9 := hok.r9 (low q * 10 + (k : Int)) (by omega) (by omega)
    have svb := sv_bd hok (a := low q) (b := (k : Int)) hL.1 (by omega)
    have hcc := clr_in (q := clr q (low q)) (o := (k : Int)) (by omega) (by omega)
    have htc := tb_in ht (clr (clr q (low q)) (k : Int)) (by omega) (by omega)
    refine g_iload C (q := 5) d_Tw_exactly_43 rfl ?_
    refine g_aload_n C (q := 0) d_Tw_exactly_45 rfl rfl ?_
    refine gG C (v := .int (iI (x 1 0))) 0 1 u_Tw k_649 (mwo_0 _) rfl (by decide) rfl rfl d_Tw_exactly_46 ?_
    refine g_icmp_ge C (tgt := 125) d_Tw_exactly_49 rfl (by omega) (by omega) (fun h49_1 => ?_) (fun h49_1 => ?_)
    · exfalso
      omega
    · refine g_iload_n C (q := 2) d_Tw_exactly_52 rfl rfl ?_
      refine g_iload C (q := 5) d_Tw_exactly_53 rfl ?_
      refine g_ishrv C d_Tw_exactly_55 (i_shr (by omega) (by omega)) ?_
      refine g_iconst C d_Tw_exactly_56 ?_
      refine g_iandv C d_Tw_exactly_57 (i_and1 (shr_in _ (by omega))) ?_
      refine g_if_eq C (tgt := 119) d_Tw_exactly_58 rfl (by omega) (fun h58_2 => ?_) (fun h58_2 => ?_)
      · refine g_lve (lv' := [(0, .ref (ad 0)), (1, .int (iI q0)), (2, .int (iI q)), (3, .int (iI (low q))), (4, .int (iI (gm (x 17) t (low q) (clr q (low q)) (k + 1)))), (5, .int (iI (k : Int)))]) (by first | (rw [gm_t HT, e17, if_pos (by omega)]; done) | (rw [gm_t HT, e17, if_neg (by omega)]; done) | (rw [gm_f HF]; done) | (rw [gm_f (fun z => by have z1 := hbc.mp z.2.1; unfold bt at z1; omega)]; done)) ?_
        refine g_iinc C (q := 5) (lv' := [(0, .ref (ad 0)), (1, .int (iI q0)), (2, .int (iI q)), (3, .int (iI (low q))), (4, .int (iI (gm (x 17) t (low q) (clr q (low q)) (k + 1)))), (5, .int (iI ((k : Int) + 1)))]) d_Tw_exactly_119 rfl (by decide) rfl rfl ?_
        refine g_goto C (tgt := 43) d_Tw_exactly_122 rfl ?_
        exact ih (k + 1) (by omega) (by omega)
      · refine g_aload_n C (q := 0) d_Tw_exactly_61 rfl rfl ?_
        refine g_iload_n C (q := 3) d_Tw_exactly_62 rfl rfl ?_
        refine g_iload C (q := 5) d_Tw_exactly_63 rfl ?_
        refine gV C (st := []) (m_Tw_mayMatch (bu x 18 t) (low q) (k : Int) (show 0 ≤ low q ∧ low q < x 1 0 by omega) (show 0 ≤ (k : Int) ∧ (k : Int) < x 1 0 by omega) (by omega) (show sym (bu x 18 t) from hs) (show Ok (bu x 18 t) from hok)) k_776 k_773 k_775 kp_52 k_7 rfl ho_Tw_mayMatch rfl rfl ⟨by decide, by decide⟩ 0 (mwo_0 _) rfl rfl rfl (Nat.le_of_ble_eq_true rfl) d_Tw_exactly_65 ⟨by decide, by decide⟩ (fun r w hq => ?_)
        obtain ⟨rfl, rfl⟩ := hq
        refine g_eq (ws' := mw ad cI cZ (bu x 18 t)) (lv' := [(0, .ref (ad 0)), (1, .int (iI q0)), (2, .int (iI q)), (3, .int (iI (low q))), (4, .int (iI (gm (x 17) t (low q) (clr q (low q)) k))), (5, .int (iI (k : Int)))]) (pc' := 68) (st' := [.int (iI (c01 (0 < sv x (low q) (k : Int) ∧ okP x (low q) (k : Int))))]) rfl rfl rfl rfl ?_
        by_cases hb65_3 : (0 < sv x (low q) (k : Int) ∧ okP x (low q) (k : Int))
        · refine g_st (st' := [.int (iI 1)]) (by rw [c01_t hb65_3]) ?_
          have e17 := h17k.trans (mgv_t (by assumption))
          have hsv : 0 < sv x (low q) (k : Int) := And.left (b := okP x (low q) (k : Int)) (by assumption)
          have HT : low q < (k : Int) ∧ bt (clr q (low q)) (k : Int) ∧ 0 < x 17 (low q * 10 + (k : Int)) := ⟨by omega, hbc.mpr (by unfold bt; omega), by omega⟩
          refine g_if_ne C (tgt := 74) d_Tw_exactly_68 rfl (by omega) (fun h68_4 => ?_) (fun h68_4 => ?_)
          · refine g_aload_n C (q := 0) d_Tw_exactly_74 rfl rfl ?_
            refine g_iload_n C (q := 3) d_Tw_exactly_75 rfl rfl ?_
            refine g_iload C (q := 5) d_Tw_exactly_76 rfl ?_
            refine gV C (st := []) (m_Tw_save (bu x 18 t) (low q) (k : Int) (by omega) (by omega) (show InR (x 9 (low q * 10 + (k : Int))) by omega)) k_725 k_722 k_724 kp_46 k_7 rfl ho_Tw_save rfl rfl ⟨by decide, by decide⟩ 0 (mwo_0 _) rfl rfl rfl (Nat.le_of_ble_eq_true rfl) d_Tw_exactly_78 ⟨by decide, by decide⟩ (fun r w hq => ?_)
            obtain ⟨rfl, rfl⟩ := hq
            refine g_eq (ws' := mw ad cI cZ (bu x 18 t)) (lv' := [(0, .ref (ad 0)), (1, .int (iI q0)), (2, .int (iI q)), (3, .int (iI (low q))), (4, .int (iI (gm (x 17) t (low q) (clr q (low q)) k))), (5, .int (iI (k : Int)))]) (pc' := 81) (st' := [.int (iI (sv x (low q) (k : Int)))]) rfl rfl rfl rfl ?_
            refine g_aload_n C (q := 0) d_Tw_exactly_81 rfl rfl ?_
            refine gG C (v := .ref (ad 12)) 0 17 u_Tw k_665 (mwo_0 _) rfl (by decide) rfl rfl d_Tw_exactly_82 ?_
            refine g_iload_n C (q := 2) d_Tw_exactly_85 rfl rfl ?_
            refine g_iconst C d_Tw_exactly_86 ?_
            refine g_iload_n C (q := 3) d_Tw_exactly_87 rfl rfl ?_
            refine g_ishl C d_Tw_exactly_88 (by omega) (by omega) (by have := pw_le (o := (low q)) (by omega); omega) ?_
            refine g_iconst C d_Tw_exactly_89 ?_
            refine g_ixorv C d_Tw_exactly_90 (i_xor (by omega)) ?_
            refine g_iandv C d_Tw_exactly_91 (i_clr (by omega) (by omega)) ?_
            refine g_iconst C d_Tw_exactly_92 ?_
            refine g_iload C (q := 5) d_Tw_exactly_93 rfl ?_
            refine g_ishl C d_Tw_exactly_95 (by omega) (by omega) (by have := pw_le (o := (k : Int)) (by omega); omega) ?_
            refine g_iconst C d_Tw_exactly_96 ?_
            refine g_ixorv C d_Tw_exactly_97 (i_xor (by omega)) ?_
            refine g_iandv C d_Tw_exactly_98 (i_clr (clr_b (by omega) (by omega)) (by omega)) ?_
            refine g_iald C 12 0 (mwa_12 _) rfl (by decide) (by omega) d_Tw_exactly_99 ?_
            refine g_st (st' := [.int (iI (t (clr (clr q (low q)) (k : Int)))), .int (iI (sv x (low q) (k : Int)))]) rfl ?_
            refine g_iadd C d_Tw_exactly_100 ?_
            refine g_istore C (lv' := [(0, .ref (ad 0)), (1, .int (iI q0)), (2, .int (iI q)), (3, .int (iI (low q))), (4, .int (iI (gm (x 17) t (low q) (clr q (low q)) k))), (5, .int (iI (k : Int))), (6, .int (iI ((sv x (low q) (k : Int)) + (t (clr (clr q (low q)) (k : Int))))))]) d_Tw_exactly_101 (by decide) rfl rfl ?_
            refine g_iload C (q := 6) d_Tw_exactly_103 rfl ?_
            refine g_iload C (q := 4) d_Tw_exactly_105 rfl ?_
            refine g_icmp_le C (tgt := 115) d_Tw_exactly_107 rfl (by omega) (by omega) (fun h107_5 => ?_) (fun h107_5 => ?_)
            · refine g_iload C (q := 4) d_Tw_exactly_115 rfl ?_
              refine g_istore C (lv' := [(0, .ref (ad 0)), (1, .int (iI q0)), (2, .int (iI q)), (3, .int (iI (low q))), (4, .int (iI (gm (x 17) t (low q) (clr q (low q)) k))), (5, .int (iI (k : Int))), (6, .int (iI ((sv x (low q) (k : Int)) + (t (clr (clr q (low q)) (k : Int))))))]) d_Tw_exactly_117 (by decide) rfl rfl ?_
              refine g_lv (lv' := [(0, .ref (ad 0)), (1, .int (iI q0)), (2, .int (iI q)), (3, .int (iI (low q))), (4, .int (iI (gm (x 17) t (low q) (clr q (low q)) k))), (5, .int (iI (k : Int)))]) [0, 1, 2, 3, 4, 5] rfl ?_
              refine g_lve (lv' := [(0, .ref (ad 0)), (1, .int (iI q0)), (2, .int (iI q)), (3, .int (iI (low q))), (4, .int (iI (gm (x 17) t (low q) (clr q (low q)) (k + 1)))), (5, .int (iI (k : Int)))]) (by first | (rw [gm_t HT, e17, if_pos (by omega)]; done) | (rw [gm_t HT, e17, if_neg (by omega)]; done) | (rw [gm_f HF]; done) | (rw [gm_f (fun z => by have z1 := hbc.mp z.2.1; unfold bt at z1; omega)]; done)) ?_
              refine g_iinc C (q := 5) (lv' := [(0, .ref (ad 0)), (1, .int (iI q0)), (2, .int (iI q)), (3, .int (iI (low q))), (4, .int (iI (gm (x 17) t (low q) (clr q (low q)) (k + 1)))), (5, .int (iI ((k : Int) + 1)))]) d_Tw_exactly_119 rfl (by decide) rfl rfl ?_
              refine g_goto C (tgt := 43) d_Tw_exactly_122 rfl ?_
              exact ih (k + 1) (by omega) (by omega)
            · refine g_iload C (q := 6) d_Tw_exactly_110 rfl ?_
              refine g_goto C (tgt := 117) d_Tw_exactly_112 rfl ?_
              refine g_istore C (lv' := [(0, .ref (ad 0)), (1, .int (iI q0)), (2, .int (iI q)), (3, .int (iI (low q))), (4, .int (iI ((sv x (low q) (k : Int)) + (t (clr (clr q (low q)) (k : Int)))))), (5, .int (iI (k : Int))), (6, .int (iI ((sv x (low q) (k : Int)) + (t (clr (clr q (low q)) (k : Int))))))]) d_Tw_exactly_117 (by decide) rfl rfl ?_
              refine g_lv (lv' := [(0, .ref (ad 0)), (1, .int (iI q0)), (2, .int (iI q)), (3, .int (iI (low q))), (4, .int (iI ((sv x (low q) (k : Int)) + (t (clr (clr q (low q)) (k : Int)))))), (5, .int (iI (k : Int)))]) [0, 1, 2, 3, 4, 5] rfl ?_
              refine g_lve (lv' := [(0, .ref (ad 0)), (1, .int (iI q0)), (2, .int (iI q)), (3, .int (iI (low q))), (4, .int (iI (gm (x 17) t (low q) (clr q (low q)) (k + 1)))), (5, .int (iI (k : Int)))]) (by first | (rw [gm_t HT, e17, if_pos (by omega)]; done) | (rw [gm_t HT, e17, if_neg (by omega)]; done) | (rw [gm_f HF]; done) | (rw [gm_f (fun z => by have z1 := hbc.mp z.2.1; unfold bt at z1; omega)]; done)) ?_
              refine g_iinc C (q := 5) (lv' := [(0, .ref (ad 0)), (1, .int (iI q0)), (2, .int (iI q)), (3, .int (iI (low q))), (4, .int (iI (gm (x 17) t (low q) (clr q (low q)) (k + 1)))), (5, .int (iI ((k : Int) + 1)))]) d_Tw_exactly_119 rfl (by decide) rfl rfl ?_
              refine g_goto C (tgt := 43) d_Tw_exactly_122 rfl ?_
              exact ih (k + 1) (by omega) (by omega)
          · exfalso
            omega
        · refine g_st (st' := [.int (iI 0)]) (by rw [c01_f hb65_3]) ?_
          have e17 := h17k.trans (mgv_f (by assumption))
          have HF : ¬ (low q < (k : Int) ∧ bt (clr q (low q)) (k : Int) ∧ 0 < x 17 (low q * 10 + (k : Int))) := fun z => by have z1 := z.2.2; omega
          refine g_if_ne C (tgt := 74) d_Tw_exactly_68 rfl (by omega) (fun h68_6 => ?_) (fun h68_6 => ?_)
          · exfalso
            omega
          · refine g_goto C (tgt := 119) d_Tw_exactly_71 rfl ?_
            refine g_lve (lv' := [(0, .ref (ad 0)), (1, .int (iI q0)), (2, .int (iI q)), (3, .int (iI (low q))), (4, .int (iI (gm (x 17) t (low q) (clr q (low q)) (k + 1)))), (5, .int (iI (k : Int)))]) (by first | (rw [gm_t HT, e17, if_pos (by omega)]; done) | (rw [gm_t HT, e17, if_neg (by omega)]; done) | (rw [gm_f HF]; done) | (rw [gm_f (fun z => by have z1 := hbc.mp z.2.1; unfold bt at z1; omega)]; done)) ?_
            refine g_iinc C (q := 5) (lv' := [(0, .ref (ad 0)), (1, .int (iI q0)), (2, .int (iI q)), (3, .int (iI (low q))), (4, .int (iI (gm (x 17) t (low q) (clr q (low q)) (k + 1)))), (5, .int (iI ((k : Int) + 1)))]) d_Tw_exactly_119 rfl (by decide) rfl rfl ?_
            refine g_goto C (tgt := 43) d_Tw_exactly_122 rfl ?_
            exact ih (k + 1) (by omega) (by omega)
set_option maxRecDepth 100000 in
set_option maxHeartbeats 4000000 in
theorem lp_Tw_ex2 {p : Program} {l : Launch} {e : Env} {s : State} {m : MethodId} {args : Array Value} {below : List Frame} {meth : Method} {c : Code} {D : va_G} {cI cZ cJ : ClassId} {base : Nat} {ad : Nat → Nat} {A : Nat → Prop} {Q : State → Prop} (C : gC p s m args meth c D cls9 (tyl cI cZ cJ) A c_Tw_exactly 7 "BatchSavingsModel" (wz y_Tw_exactly c_Tw_exactly 7 none) base (zz base)) (x : Bk) (q0 : Int) (htb : tb (x 18)) (hok : Ok x) (hs : sym x) (h17 : g17 x) (hg : rng x 17 100 0 20000)
    (K : gW p l e ({ frames := 3, cells := 0, slots := 0, locals := 69 } : Room) s m args below meth c D cls9 A 7 0 0 Q (mw ad cI cZ (bu x 18 (mT x ((pw (x 1 0) - 1).toNat)))) [(0, .ref (ad 0)), (1, .int (iI q0)), (2, .int (iI (pw (x 1 0))))] 139 []) : ∀ (d k : Nat), ((k + 1 : Nat) : Int) + (d : Int) = pw (x 1 0) → gW p l e ({ frames := 3, cells := 0, slots := 0, locals := 69 } : Room) s m args below meth c D cls9 A 7 0 0 Q (mw ad cI cZ (bu x 18 (mT x k))) [(0, .ref (ad 0)), (1, .int (iI q0)), (2, .int (iI ((k + 1 : Nat) : Int)))] 9 [] := by
  intro d
  induction d with
  | zero =>
    intro k hk
    have hn := hok.n
    have hp := pw_le (o := x 1 0) hn
    refine g_iload_n C (q := 2) d_Tw_exactly_9 rfl rfl ?_
    refine g_iconst C d_Tw_exactly_10 ?_
    refine g_aload_n C (q := 0) d_Tw_exactly_11 rfl rfl ?_
    refine gG C (v := .int (iI (x 1 0))) 0 1 u_Tw k_649 (mwo_0 _) rfl (by decide) rfl rfl d_Tw_exactly_12 ?_
    refine g_ishl C d_Tw_exactly_15 (by omega) (by omega) (by have := pw_le (o := (x 1 0)) (by omega); omega) ?_
    refine g_icmp_ge C (tgt := 139) d_Tw_exactly_16 rfl (by omega) (by omega) (fun h16_1 => ?_) (fun h16_1 => ?_)
    · obtain rfl : k = (pw (x 1 0) - 1).toNat := by omega
      refine g_lve (lv' := [(0, .ref (ad 0)), (1, .int (iI q0)), (2, .int (iI (pw (x 1 0))))]) (by rw [show (((pw (x 1 0) - 1).toNat + 1 : Nat) : Int) = pw (x 1 0) by omega]) ?_
      exact K
    · exfalso
      omega
  | succ d ih =>
    intro k hk
    have hn := hok.n
    have hp := pw_le (o := x 1 0) hn
    have hq : 0 ≤ ((k + 1 : Nat) : Int) ∧ ((k + 1 : Nat) : Int) < 1024 := by omega
    have hq1 : ¬ ((k + 1 : Nat) : Int) = 0 := by omega
    have hL := low_ok hq hq1
    have hlow := low_lt hq hq1 hn (by omega)
    have hc := clr_in hq hL.1
    refine g_iload_n C (q := 2) d_Tw_exactly_9 rfl rfl ?_
    refine g_iconst C d_Tw_exactly_10 ?_
    refine g_aload_n C (q := 0) d_Tw_exactly_11 rfl rfl ?_
    refine gG C (v := .int (iI (x 1 0))) 0 1 u_Tw k_649 (mwo_0 _) rfl (by decide) rfl rfl d_Tw_exactly_12 ?_
    refine g_ishl C d_Tw_exactly_15 (by omega) (by omega) (by have := pw_le (o := (x 1 0)) (by omega); omega) ?_
    refine g_icmp_ge C (tgt := 139) d_Tw_exactly_16 rfl (by omega) (by omega) (fun h16_1 => ?_) (fun h16_1 => ?_)
    · exfalso
      omega
    · refine g_iload_n C (q := 2) d_Tw_exactly_19 rfl rfl ?_
      refine gS0 C (st := []) (m_Tw_lowest ((k + 1 : Nat) : Int) (by omega) (by omega)) k_772 k_770 k_771 k_7 rfl ho_Tw_lowest rfl rfl ⟨by decide, by decide⟩ rfl rfl (Nat.le_of_ble_eq_true rfl) d_Tw_exactly_20 ⟨by decide, by decide⟩ (fun r w hq => ?_)
      obtain ⟨rfl, rfl⟩ := hq
      refine g_eq (ws' := mw ad cI cZ (bu x 18 (mT x k))) (lv' := [(0, .ref (ad 0)), (1, .int (iI q0)), (2, .int (iI ((k + 1 : Nat) : Int)))]) (pc' := 23) (st' := [.int (iI (low ((k + 1 : Nat) : Int)))]) rfl rfl rfl rfl ?_
      refine g_istore_n C (lv' := [(0, .ref (ad 0)), (1, .int (iI q0)), (2, .int (iI ((k + 1 : Nat) : Int))), (3, .int (iI (low ((k + 1 : Nat) : Int))))]) d_Tw_exactly_23 rfl (by decide) rfl rfl ?_
      refine g_aload_n C (q := 0) d_Tw_exactly_24 rfl rfl ?_
      refine gG C (v := .ref (ad 12)) 0 17 u_Tw k_665 (mwo_0 _) rfl (by decide) rfl rfl d_Tw_exactly_25 ?_
      refine g_iload_n C (q := 2) d_Tw_exactly_28 rfl rfl ?_
      refine g_iconst C d_Tw_exactly_29 ?_
      refine g_iload_n C (q := 3) d_Tw_exactly_30 rfl rfl ?_
      refine g_ishl C d_Tw_exactly_31 (by omega) (by omega) (by have := pw_le (o := (low ((k + 1 : Nat) : Int))) (by omega); omega) ?_
      refine g_iconst C d_Tw_exactly_32 ?_
      refine g_ixorv C d_Tw_exactly_33 (i_xor (by omega)) ?_
      refine g_iandv C d_Tw_exactly_34 (i_clr (by omega) (by omega)) ?_
      refine g_iald C 12 0 (mwa_12 _) rfl (by decide) (by omega) d_Tw_exactly_35 ?_
      refine g_st (st' := [.int (iI ((mT x k) (clr ((k + 1 : Nat) : Int) (low ((k + 1 : Nat) : Int)))))]) rfl ?_
      refine g_istore C (lv' := [(0, .ref (ad 0)), (1, .int (iI q0)), (2, .int (iI ((k + 1 : Nat) : Int))), (3, .int (iI (low ((k + 1 : Nat) : Int)))), (4, .int (iI ((mT x k) (clr ((k + 1 : Nat) : Int) (low ((k + 1 : Nat) : Int))))))]) d_Tw_exactly_36 (by decide) rfl rfl ?_
      refine g_iload_n C (q := 3) d_Tw_exactly_38 rfl rfl ?_
      refine g_iconst C d_Tw_exactly_39 ?_
      refine g_iadd C d_Tw_exactly_40 ?_
      refine g_istore C (lv' := [(0, .ref (ad 0)), (1, .int (iI q0)), (2, .int (iI ((k + 1 : Nat) : Int))), (3, .int (iI (low ((k + 1 : Nat) : Int)))), (4, .int (iI ((mT x k) (clr ((k + 1 : Nat) : Int) (low ((k + 1 : Nat) : Int)))))), (5, .int (iI ((low ((k + 1 : Nat) : Int)) + 1)))]) d_Tw_exactly_41 (by decide) rfl rfl ?_
      refine g_lve (lv' := [(0, .ref (ad 0)), (1, .int (iI q0)), (2, .int (iI ((k + 1 : Nat) : Int))), (3, .int (iI (low ((k + 1 : Nat) : Int)))), (4, .int (iI (gm (x 17) (mT x k) (low ((k + 1 : Nat) : Int)) (clr ((k + 1 : Nat) : Int) (low ((k + 1 : Nat) : Int))) (((low ((k + 1 : Nat) : Int)) + 1).toNat)))), (5, .int (iI (((low ((k + 1 : Nat) : Int)) + 1).toNat : Int)))]) (by rw [gm_lo _ _ _ _ _ (by omega), Int.toNat_of_nonneg (by omega)]) ?_
      refine lp_Tw_ex1 C x q0 ((k + 1 : Nat) : Int) hq hq1 (mT x k) (mT_tb hn hg htb k (by omega)) hok hs h17 hg ?_ ((x 1 0).toNat - ((low ((k + 1 : Nat) : Int)) + 1).toNat) ((low ((k + 1 : Nat) : Int)) + 1).toNat (by omega) (by omega)
      refine g_aload_n C (q := 0) d_Tw_exactly_125 rfl rfl ?_
      refine gG C (v := .ref (ad 12)) 0 17 u_Tw k_665 (mwo_0 _) rfl (by decide) rfl rfl d_Tw_exactly_126 ?_
      refine g_iload_n C (q := 2) d_Tw_exactly_129 rfl rfl ?_
      refine g_iload C (q := 4) d_Tw_exactly_130 rfl ?_
      refine g_iast C 12 0 (mwa_12 _) rfl (by decide) (by omega) d_Tw_exactly_132 (mws_12 _ _) ?_
      refine g_ws (ws' := mw ad cI cZ (bu (bu x 18 (mT x k)) 18 (updI (mT x k) ((k + 1 : Nat) : Int) (gm (x 17) (mT x k) (low ((k + 1 : Nat) : Int)) (clr ((k + 1 : Nat) : Int) (low ((k + 1 : Nat) : Int))) ((x 1 0).toNat))))) rfl ?_
      refine g_iinc C (q := 2) (lv' := [(0, .ref (ad 0)), (1, .int (iI q0)), (2, .int (iI (((k + 1 : Nat) : Int) + 1))), (3, .int (iI (low ((k + 1 : Nat) : Int)))), (4, .int (iI (gm (x 17) (mT x k) (low ((k + 1 : Nat) : Int)) (clr ((k + 1 : Nat) : Int) (low ((k + 1 : Nat) : Int))) ((x 1 0).toNat)))), (5, .int (iI ((x 1 0).toNat : Int)))]) d_Tw_exactly_133 rfl (by decide) rfl rfl ?_
      refine g_goto C (tgt := 9) d_Tw_exactly_136 rfl ?_
      refine g_lv (lv' := [(0, .ref (ad 0)), (1, .int (iI q0)), (2, .int (iI (((k + 1 : Nat) : Int) + 1)))]) [0, 1, 2] rfl ?_
      refine g_eq (ws' := mw ad cI cZ (bu x 18 (mT x (k + 1)))) (lv' := [(0, .ref (ad 0)), (1, .int (iI q0)), (2, .int (iI ((k + 1 + 1 : Nat) : Int)))]) (pc' := 9) (st' := []) rfl (by rw [show ((k + 1 + 1 : Nat) : Int) = ((k + 1 : Nat) : Int) + 1 by omega]) rfl rfl ?_
      exact ih (k + 1) (by omega)
set_option maxRecDepth 100000 in
set_option maxHeartbeats 4000000 in
theorem lp_Tw_ex3 {p : Program} {l : Launch} {e : Env} {s : State} {m : MethodId} {args : Array Value} {below : List Frame} {meth : Method} {c : Code} {D : va_G} {cI cZ cJ : ClassId} {base : Nat} {ad : Nat → Nat} {A : Nat → Prop} {Q : State → Prop} (C : gC p s m args meth c D cls9 (tyl cI cZ cJ) A c_Tw_exactly 7 "BatchSavingsModel" (wz y_Tw_exactly c_Tw_exactly 7 none) base (zz base)) (x : Bk) (q0 q : Int) (hq : 0 ≤ q ∧ q < 1024) (hq1 : ¬ q = 0) (p9 : Int → Int) (hp9 : ∀ i, 0 ≤ i → i < 10 → -1 ≤ p9 i ∧ p9 i ≤ 9) (htb : tb (x 18)) (hok : Ok x) (hs : sym x) (h17 : g17 x) (hg : rng x 17 100 0 20000)
    (K : ∀ k : Nat, (k : Int) = low q → gW p l e ({ frames := 3, cells := 0, slots := 0, locals := 69 } : Room) s m args below meth c D cls9 A 7 0 0 Q (mw ad cI cZ (bu x 16 p9)) [(0, .ref (ad 0)), (1, .int (iI q0)), (2, .int (iI q)), (3, .int (iI (low q))), (4, .int (iI (fnd (fpP x (low q) (clr q (low q)) (x 18 q)) (k + 1) ((x 1 0).toNat - (k + 1))))), (5, .int (iI (k : Int)))] 233 []) : ∀ (d k : Nat), (k : Int) = low q + (d : Int) → (k : Int) < x 1 0 → gW p l e ({ frames := 3, cells := 0, slots := 0, locals := 69 } : Room) s m args below meth c D cls9 A 7 0 0 Q (mw ad cI cZ (bu x 16 p9)) [(0, .ref (ad 0)), (1, .int (iI q0)), (2, .int (iI q)), (3, .int (iI (low q))), (4, .int (iI (fnd (fpP x (low q) (clr q (low q)) (x 18 q)) (k + 1) ((x 1 0).toNat - (k + 1))))), (5, .int (iI (k : Int)))] 161 [] := by
  intro d
  induction d with
  | zero =>
    intro k hk hkn
    have hn := hok.n
    have hL := low_ok hq hq1
    refine g_iload C (q := 5) d_Tw_exactly_161 rfl ?_
    refine g_iload_n C (q := 3) d_Tw_exactly_163 rfl rfl ?_
    refine g_icmp_le C (tgt := 233) d_Tw_exactly_164 rfl (by omega) (by omega) (fun h164_1 => ?_) (fun h164_1 => ?_)
    · exact K k (by omega)
    · exfalso
      omega
  | succ d ih =>
    intro k hk hkn
    have hn := hok.n
    have hL := low_ok hq hq1
    have hc := clr_in hq hL.1
    have g1 := hg (low q * 10 + (k : Int)) (by omega) (by omega)
    have hbc := bt_low (i := (k : Int)) hq (by omega) hq1
    have h17k := h17 (low q) (k : Int) (by omega) (by omega) (by omega)
    have hbo := bit_or q (k : Int)
    have h9 := hok.r9 (low q * 10 + (k : Int)) (by omega) (by omega)
    have svb := sv_bd hok (a := low q) (b := (k : Int)) hL.1 (by omega)
    have hcc := clr_in (q := clr q (low q)) (o := (k : Int)) (by omega) (by omega)
    have htc := tb_in htb (clr (clr q (low q)) (k : Int)) (by omega) (by omega)
    have htq := tb_in htb q hq.1 hq.2
    refine g_iload C (q := 5) d_Tw_exactly_161 rfl ?_
    refine g_iload_n C (q := 3) d_Tw_exactly_163 rfl rfl ?_
    refine g_icmp_le C (tgt := 233) d_Tw_exactly_164 rfl (by omega) (by omega) (fun h164_1 => ?_) (fun h164_1 => ?_)
    · exfalso
      omega
    · refine g_iload_n C (q := 2) d_Tw_exactly_167 rfl rfl ?_
      refine g_iload C (q := 5) d_Tw_exactly_168 rfl ?_
      refine g_ishrv C d_Tw_exactly_170 (i_shr (by omega) (by omega)) ?_
      refine g_iconst C d_Tw_exactly_171 ?_
      refine g_iandv C d_Tw_exactly_172 (i_and1 (shr_in _ (by omega))) ?_
      refine g_iconst C d_Tw_exactly_173 ?_
      refine g_icmp_ne C (tgt := 227) d_Tw_exactly_174 rfl (by omega) (by omega) (fun h174_2 => ?_) (fun h174_2 => ?_)
      · refine g_lve (lv' := [(0, .ref (ad 0)), (1, .int (iI q0)), (2, .int (iI q)), (3, .int (iI (low q))), (4, .int (iI (fnd (fpP x (low q) (clr q (low q)) (x 18 q)) k ((x 1 0).toNat - k)))), (5, .int (iI (k : Int)))]) (by rw [show (x 1 0).toNat - k = ((x 1 0).toNat - (k + 1)) + 1 by omega]; first | (rw [fnd_t (P := (fpP x (low q) (clr q (low q)) (x 18 q))) ⟨HM, by omega⟩]; done) | (rw [fnd_f (P := (fpP x (low q) (clr q (low q)) (x 18 q))) (fun z => by have z1 := z.2; omega)]; done) | (rw [fnd_f (P := (fpP x (low q) (clr q (low q)) (x 18 q))) HN]; done) | (rw [fnd_f (P := (fpP x (low q) (clr q (low q)) (x 18 q))) (fun z => by have z1 := hbc.mp z.1.1; unfold bt at z1; omega)]; done)) ?_
        refine g_iinc C (q := 5) (lv' := [(0, .ref (ad 0)), (1, .int (iI q0)), (2, .int (iI q)), (3, .int (iI (low q))), (4, .int (iI (fnd (fpP x (low q) (clr q (low q)) (x 18 q)) k ((x 1 0).toNat - k)))), (5, .int (iI ((k : Int) + (-1))))]) d_Tw_exactly_227 rfl (by decide) rfl rfl ?_
        refine g_goto C (tgt := 161) d_Tw_exactly_230 rfl ?_
        refine g_lve (lv' := [(0, .ref (ad 0)), (1, .int (iI q0)), (2, .int (iI q)), (3, .int (iI (low q))), (4, .int (iI (fnd (fpP x (low q) (clr q (low q)) (x 18 q)) (k - 1 + 1) ((x 1 0).toNat - (k - 1 + 1))))), (5, .int (iI ((k - 1 : Nat) : Int)))]) (by rw [show k - 1 + 1 = k by omega, show ((k - 1 : Nat) : Int) = (k : Int) + -1 by omega]) ?_
        exact ih (k - 1) (by omega) (by omega)
      · refine g_aload_n C (q := 0) d_Tw_exactly_177 rfl rfl ?_
        refine g_iload_n C (q := 3) d_Tw_exactly_178 rfl rfl ?_
        refine g_iload C (q := 5) d_Tw_exactly_179 rfl ?_
        refine gV C (st := []) (m_Tw_mayMatch (bu x 16 p9) (low q) (k : Int) (show 0 ≤ low q ∧ low q < x 1 0 by omega) (show 0 ≤ (k : Int) ∧ (k : Int) < x 1 0 by omega) (by omega) (show sym (bu x 16 p9) from hs) (hok.p16 hp9)) k_776 k_773 k_775 kp_52 k_7 rfl ho_Tw_mayMatch rfl rfl ⟨by decide, by decide⟩ 0 (mwo_0 _) rfl rfl rfl (Nat.le_of_ble_eq_true rfl) d_Tw_exactly_181 ⟨by decide, by decide⟩ (fun r w hq => ?_)
        obtain ⟨rfl, rfl⟩ := hq
        refine g_eq (ws' := mw ad cI cZ (bu x 16 p9)) (lv' := [(0, .ref (ad 0)), (1, .int (iI q0)), (2, .int (iI q)), (3, .int (iI (low q))), (4, .int (iI (fnd (fpP x (low q) (clr q (low q)) (x 18 q)) (k + 1) ((x 1 0).toNat - (k + 1))))), (5, .int (iI (k : Int)))]) (pc' := 184) (st' := [.int (iI (c01 (0 < sv x (low q) (k : Int) ∧ okP x (low q) (k : Int))))]) rfl rfl rfl rfl ?_
        by_cases hb181_3 : (0 < sv x (low q) (k : Int) ∧ okP x (low q) (k : Int))
        · refine g_st (st' := [.int (iI 1)]) (by rw [c01_t hb181_3]) ?_
          have e17 := h17k.trans (mgv_t (by assumption))
          have hsv : 0 < sv x (low q) (k : Int) := And.left (b := okP x (low q) (k : Int)) (by assumption)
          have HM : mtk x (low q) (k : Int) (clr q (low q)) := ⟨hbc.mpr (by unfold bt; omega), by omega⟩
          refine g_if_eq C (tgt := 227) d_Tw_exactly_184 rfl (by omega) (fun h184_4 => ?_) (fun h184_4 => ?_)
          · exfalso
            omega
          · refine g_aload_n C (q := 0) d_Tw_exactly_187 rfl rfl ?_
            refine g_iload_n C (q := 3) d_Tw_exactly_188 rfl rfl ?_
            refine g_iload C (q := 5) d_Tw_exactly_189 rfl ?_
            refine gV C (st := []) (m_Tw_save (bu x 16 p9) (low q) (k : Int) (by omega) (by omega) (show InR (x 9 (low q * 10 + (k : Int))) by omega)) k_725 k_722 k_724 kp_46 k_7 rfl ho_Tw_save rfl rfl ⟨by decide, by decide⟩ 0 (mwo_0 _) rfl rfl rfl (Nat.le_of_ble_eq_true rfl) d_Tw_exactly_191 ⟨by decide, by decide⟩ (fun r w hq => ?_)
            obtain ⟨rfl, rfl⟩ := hq
            refine g_eq (ws' := mw ad cI cZ (bu x 16 p9)) (lv' := [(0, .ref (ad 0)), (1, .int (iI q0)), (2, .int (iI q)), (3, .int (iI (low q))), (4, .int (iI (fnd (fpP x (low q) (clr q (low q)) (x 18 q)) (k + 1) ((x 1 0).toNat - (k + 1))))), (5, .int (iI (k : Int)))]) (pc' := 194) (st' := [.int (iI (sv x (low q) (k : Int)))]) rfl rfl rfl rfl ?_
            refine g_aload_n C (q := 0) d_Tw_exactly_194 rfl rfl ?_
            refine gG C (v := .ref (ad 12)) 0 17 u_Tw k_665 (mwo_0 _) rfl (by decide) rfl rfl d_Tw_exactly_195 ?_
            refine g_iload_n C (q := 2) d_Tw_exactly_198 rfl rfl ?_
            refine g_iconst C d_Tw_exactly_199 ?_
            refine g_iload_n C (q := 3) d_Tw_exactly_200 rfl rfl ?_
            refine g_ishl C d_Tw_exactly_201 (by omega) (by omega) (by have := pw_le (o := (low q)) (by omega); omega) ?_
            refine g_iconst C d_Tw_exactly_202 ?_
            refine g_ixorv C d_Tw_exactly_203 (i_xor (by omega)) ?_
            refine g_iandv C d_Tw_exactly_204 (i_clr (by omega) (by omega)) ?_
            refine g_iconst C d_Tw_exactly_205 ?_
            refine g_iload C (q := 5) d_Tw_exactly_206 rfl ?_
            refine g_ishl C d_Tw_exactly_208 (by omega) (by omega) (by have := pw_le (o := (k : Int)) (by omega); omega) ?_
            refine g_iconst C d_Tw_exactly_209 ?_
            refine g_ixorv C d_Tw_exactly_210 (i_xor (by omega)) ?_
            refine g_iandv C d_Tw_exactly_211 (i_clr (clr_b (by omega) (by omega)) (by omega)) ?_
            refine g_iald C 12 0 (mwa_12 _) rfl (by decide) (by omega) d_Tw_exactly_212 ?_
            refine g_st (st' := [.int (iI (x 18 (clr (clr q (low q)) (k : Int)))), .int (iI (sv x (low q) (k : Int)))]) rfl ?_
            refine g_iadd C d_Tw_exactly_213 ?_
            refine g_aload_n C (q := 0) d_Tw_exactly_214 rfl rfl ?_
            refine gG C (v := .ref (ad 12)) 0 17 u_Tw k_665 (mwo_0 _) rfl (by decide) rfl rfl d_Tw_exactly_215 ?_
            refine g_iload_n C (q := 2) d_Tw_exactly_218 rfl rfl ?_
            refine g_iald C 12 0 (mwa_12 _) rfl (by decide) (by omega) d_Tw_exactly_219 ?_
            refine g_st (st' := [.int (iI (x 18 q)), .int (iI ((sv x (low q) (k : Int)) + (x 18 (clr (clr q (low q)) (k : Int)))))]) rfl ?_
            refine g_icmp_ne C (tgt := 227) d_Tw_exactly_220 rfl (by omega) (by omega) (fun h220_5 => ?_) (fun h220_5 => ?_)
            · refine g_lve (lv' := [(0, .ref (ad 0)), (1, .int (iI q0)), (2, .int (iI q)), (3, .int (iI (low q))), (4, .int (iI (fnd (fpP x (low q) (clr q (low q)) (x 18 q)) k ((x 1 0).toNat - k)))), (5, .int (iI (k : Int)))]) (by rw [show (x 1 0).toNat - k = ((x 1 0).toNat - (k + 1)) + 1 by omega]; first | (rw [fnd_t (P := (fpP x (low q) (clr q (low q)) (x 18 q))) ⟨HM, by omega⟩]; done) | (rw [fnd_f (P := (fpP x (low q) (clr q (low q)) (x 18 q))) (fun z => by have z1 := z.2; omega)]; done) | (rw [fnd_f (P := (fpP x (low q) (clr q (low q)) (x 18 q))) HN]; done) | (rw [fnd_f (P := (fpP x (low q) (clr q (low q)) (x 18 q))) (fun z => by have z1 := hbc.mp z.1.1; unfold bt at z1; omega)]; done)) ?_
              refine g_iinc C (q := 5) (lv' := [(0, .ref (ad 0)), (1, .int (iI q0)), (2, .int (iI q)), (3, .int (iI (low q))), (4, .int (iI (fnd (fpP x (low q) (clr q (low q)) (x 18 q)) k ((x 1 0).toNat - k)))), (5, .int (iI ((k : Int) + (-1))))]) d_Tw_exactly_227 rfl (by decide) rfl rfl ?_
              refine g_goto C (tgt := 161) d_Tw_exactly_230 rfl ?_
              refine g_lve (lv' := [(0, .ref (ad 0)), (1, .int (iI q0)), (2, .int (iI q)), (3, .int (iI (low q))), (4, .int (iI (fnd (fpP x (low q) (clr q (low q)) (x 18 q)) (k - 1 + 1) ((x 1 0).toNat - (k - 1 + 1))))), (5, .int (iI ((k - 1 : Nat) : Int)))]) (by rw [show k - 1 + 1 = k by omega, show ((k - 1 : Nat) : Int) = (k : Int) + -1 by omega]) ?_
              exact ih (k - 1) (by omega) (by omega)
            · refine g_iload C (q := 5) d_Tw_exactly_223 rfl ?_
              refine g_istore C (lv' := [(0, .ref (ad 0)), (1, .int (iI q0)), (2, .int (iI q)), (3, .int (iI (low q))), (4, .int (iI (k : Int))), (5, .int (iI (k : Int)))]) d_Tw_exactly_225 (by decide) rfl rfl ?_
              refine g_lve (lv' := [(0, .ref (ad 0)), (1, .int (iI q0)), (2, .int (iI q)), (3, .int (iI (low q))), (4, .int (iI (fnd (fpP x (low q) (clr q (low q)) (x 18 q)) k ((x 1 0).toNat - k)))), (5, .int (iI (k : Int)))]) (by rw [show (x 1 0).toNat - k = ((x 1 0).toNat - (k + 1)) + 1 by omega]; first | (rw [fnd_t (P := (fpP x (low q) (clr q (low q)) (x 18 q))) ⟨HM, by omega⟩]; done) | (rw [fnd_f (P := (fpP x (low q) (clr q (low q)) (x 18 q))) (fun z => by have z1 := z.2; omega)]; done) | (rw [fnd_f (P := (fpP x (low q) (clr q (low q)) (x 18 q))) HN]; done) | (rw [fnd_f (P := (fpP x (low q) (clr q (low q)) (x 18 q))) (fun z => by have z1 := hbc.mp z.1.1; unfold bt at z1; omega)]; done)) ?_
              refine g_iinc C (q := 5) (lv' := [(0, .ref (ad 0)), (1, .int (iI q0)), (2, .int (iI q)), (3, .int (iI (low q))), (4, .int (iI (fnd (fpP x (low q) (clr q (low q)) (x 18 q)) k ((x 1 0).toNat - k)))), (5, .int (iI ((k : Int) + (-1))))]) d_Tw_exactly_227 rfl (by decide) rfl rfl ?_
              refine g_goto C (tgt := 161) d_Tw_exactly_230 rfl ?_
              refine g_lve (lv' := [(0, .ref (ad 0)), (1, .int (iI q0)), (2, .int (iI q)), (3, .int (iI (low q))), (4, .int (iI (fnd (fpP x (low q) (clr q (low q)) (x 18 q)) (k - 1 + 1) ((x 1 0).toNat - (k - 1 + 1))))), (5, .int (iI ((k - 1 : Nat) : Int)))]) (by rw [show k - 1 + 1 = k by omega, show ((k - 1 : Nat) : Int) = (k : Int) + -1 by omega]) ?_
              exact ih (k - 1) (by omega) (by omega)
        · refine g_st (st' := [.int (iI 0)]) (by rw [c01_f hb181_3]) ?_
          have e17 := h17k.trans (mgv_f (by assumption))
          have HN : ¬ (fpP x (low q) (clr q (low q)) (x 18 q)) (k : Int) := fun z => by have z1 := z.1.2; omega
          refine g_if_eq C (tgt := 227) d_Tw_exactly_184 rfl (by omega) (fun h184_6 => ?_) (fun h184_6 => ?_)
          · refine g_lve (lv' := [(0, .ref (ad 0)), (1, .int (iI q0)), (2, .int (iI q)), (3, .int (iI (low q))), (4, .int (iI (fnd (fpP x (low q) (clr q (low q)) (x 18 q)) k ((x 1 0).toNat - k)))), (5, .int (iI (k : Int)))]) (by rw [show (x 1 0).toNat - k = ((x 1 0).toNat - (k + 1)) + 1 by omega]; first | (rw [fnd_t (P := (fpP x (low q) (clr q (low q)) (x 18 q))) ⟨HM, by omega⟩]; done) | (rw [fnd_f (P := (fpP x (low q) (clr q (low q)) (x 18 q))) (fun z => by have z1 := z.2; omega)]; done) | (rw [fnd_f (P := (fpP x (low q) (clr q (low q)) (x 18 q))) HN]; done) | (rw [fnd_f (P := (fpP x (low q) (clr q (low q)) (x 18 q))) (fun z => by have z1 := hbc.mp z.1.1; unfold bt at z1; omega)]; done)) ?_
            refine g_iinc C (q := 5) (lv' := [(0, .ref (ad 0)), (1, .int (iI q0)), (2, .int (iI q)), (3, .int (iI (low q))), (4, .int (iI (fnd (fpP x (low q) (clr q (low q)) (x 18 q)) k ((x 1 0).toNat - k)))), (5, .int (iI ((k : Int) + (-1))))]) d_Tw_exactly_227 rfl (by decide) rfl rfl ?_
            refine g_goto C (tgt := 161) d_Tw_exactly_230 rfl ?_
            refine g_lve (lv' := [(0, .ref (ad 0)), (1, .int (iI q0)), (2, .int (iI q)), (3, .int (iI (low q))), (4, .int (iI (fnd (fpP x (low q) (clr q (low q)) (x 18 q)) (k - 1 + 1) ((x 1 0).toNat - (k - 1 + 1))))), (5, .int (iI ((k - 1 : Nat) : Int)))]) (by rw [show k - 1 + 1 = k by omega, show ((k - 1 : Nat) : Int) = (k : Int) + -1 by omega]) ?_
            exact ih (k - 1) (by omega) (by omega)
          · exfalso
            omega
set_option maxRecDepth 100000 in
set_option maxHeartbeats 4000000 in
theorem lp_Tw_ex4 {p : Program} {l : Launch} {e : Env} {s : State} {m : MethodId} {args : Array Value} {below : List Frame} {meth : Method} {c : Code} {D : va_G} {cI cZ cJ : ClassId} {base : Nat} {ad : Nat → Nat} {A : Nat → Prop} {Q : State → Prop} (C : gC p s m args meth c D cls9 (tyl cI cZ cJ) A c_Tw_exactly 7 "BatchSavingsModel" (wz y_Tw_exactly c_Tw_exactly 7 none) base (zz base)) (x : Bk) (q0 : Int) (htb : tb (x 18)) (hok : Ok x) (hs : sym x) (h17 : g17 x) (hg : rng x 17 100 0 20000) : ∀ (f : Nat) (q : Int) (p9 : Int → Int), 0 ≤ q → q < 1024 → (∀ i, 0 ≤ i → bt q i → i < x 1 0) → q ≤ (f : Int) → (∀ i, 0 ≤ i → i < 10 → -1 ≤ p9 i ∧ p9 i ≤ 9) → (∀ q2 : Int, gW p l e ({ frames := 3, cells := 0, slots := 0, locals := 69 } : Room) s m args below meth c D cls9 A 7 0 0 Q (mw ad cI cZ (bu x 16 (mex x f q p9))) [(0, .ref (ad 0)), (1, .int (iI q0)), (2, .int (iI q2))] 269 []) → gW p l e ({ frames := 3, cells := 0, slots := 0, locals := 69 } : Room) s m args below meth c D cls9 A 7 0 0 Q (mw ad cI cZ (bu x 16 p9)) [(0, .ref (ad 0)), (1, .int (iI q0)), (2, .int (iI q))] 141 [] := by
  intro f
  induction f with
  | zero =>
    intro q p9 hq0 hq1 hbits hqf hp9 K
    refine g_iload_n C (q := 2) d_Tw_exactly_141 rfl rfl ?_
    refine g_if_eq C (tgt := 269) d_Tw_exactly_142 rfl (by omega) (fun h142_1 => ?_) (fun h142_1 => ?_)
    · have K1 := K q
      rw [show q = 0 by omega] at K1 ⊢
      exact K1
    · exfalso
      omega
  | succ f ih =>
    intro q p9 hq0 hq1 hbits hqf hp9 K
    have hn := hok.n
    refine g_iload_n C (q := 2) d_Tw_exactly_141 rfl rfl ?_
    refine g_if_eq C (tgt := 269) d_Tw_exactly_142 rfl (by omega) (fun h142_1 => ?_) (fun h142_1 => ?_)
    · have K1 := K q
      rw [show q = 0 by omega, mex_0] at K1
      rw [show q = 0 by omega]
      exact K1
    · have hq : 0 ≤ q ∧ q < 1024 := ⟨hq0, hq1⟩
      have hqz : ¬ q = 0 := by omega
      have hL := low_ok hq hqz
      have hlow := hbits (low q) (by omega) hL.2.1
      have hc := clr_in hq hL.1
      have hcl := clr_lt hq hL.1 hL.2.1
      refine g_iload_n C (q := 2) d_Tw_exactly_145 rfl rfl ?_
      refine gS0 C (st := []) (m_Tw_lowest q (by omega) (by omega)) k_772 k_770 k_771 k_7 rfl ho_Tw_lowest rfl rfl ⟨by decide, by decide⟩ rfl rfl (Nat.le_of_ble_eq_true rfl) d_Tw_exactly_146 ⟨by decide, by decide⟩ (fun r w hq => ?_)
      obtain ⟨rfl, rfl⟩ := hq
      refine g_eq (ws' := mw ad cI cZ (bu x 16 p9)) (lv' := [(0, .ref (ad 0)), (1, .int (iI q0)), (2, .int (iI q))]) (pc' := 149) (st' := [.int (iI (low q))]) rfl rfl rfl rfl ?_
      refine g_istore_n C (lv' := [(0, .ref (ad 0)), (1, .int (iI q0)), (2, .int (iI q)), (3, .int (iI (low q)))]) d_Tw_exactly_149 rfl (by decide) rfl rfl ?_
      refine g_iconst C d_Tw_exactly_150 ?_
      refine g_istore C (lv' := [(0, .ref (ad 0)), (1, .int (iI q0)), (2, .int (iI q)), (3, .int (iI (low q))), (4, .int (iI (-1)))]) d_Tw_exactly_151 (by decide) rfl rfl ?_
      refine g_aload_n C (q := 0) d_Tw_exactly_153 rfl rfl ?_
      refine gG C (v := .int (iI (x 1 0))) 0 1 u_Tw k_649 (mwo_0 _) rfl (by decide) rfl rfl d_Tw_exactly_154 ?_
      refine g_iconst C d_Tw_exactly_157 ?_
      refine g_isub C d_Tw_exactly_158 ?_
      refine g_istore C (lv' := [(0, .ref (ad 0)), (1, .int (iI q0)), (2, .int (iI q)), (3, .int (iI (low q))), (4, .int (iI (-1))), (5, .int (iI ((x 1 0) - 1)))]) d_Tw_exactly_159 (by decide) rfl rfl ?_
      refine g_lve (lv' := [(0, .ref (ad 0)), (1, .int (iI q0)), (2, .int (iI q)), (3, .int (iI (low q))), (4, .int (iI (fnd (fpP x (low q) (clr q (low q)) (x 18 q)) ((x 1 0).toNat - 1 + 1) ((x 1 0).toNat - ((x 1 0).toNat - 1 + 1))))), (5, .int (iI (((x 1 0).toNat - 1 : Nat) : Int)))]) (by rw [show (x 1 0).toNat - ((x 1 0).toNat - 1 + 1) = 0 by omega, show (((x 1 0).toNat - 1 : Nat) : Int) = x 1 0 - 1 by omega]; rfl) ?_
      refine lp_Tw_ex3 C x q0 q hq hqz p9 hp9 htb hok hs h17 hg (fun k hk => ?_) ((x 1 0).toNat - 1 - (low q).toNat) ((x 1 0).toNat - 1) (by omega) (by omega)
      refine g_lve (lv' := [(0, .ref (ad 0)), (1, .int (iI q0)), (2, .int (iI q)), (3, .int (iI (low q))), (4, .int (iI (mxu x q))), (5, .int (iI (low q)))]) (by unfold mxu; rw [show (low q + 1).toNat = k + 1 by omega, hk]) ?_
      have hu := fnd_in (fpP x (low q) (clr q (low q)) (x 18 q)) ((x 1 0).toNat - (low q + 1).toNat) (low q + 1).toNat
      have hu : mxu x q = -1 ∨ (low q < mxu x q ∧ mxu x q < x 1 0 ∧ bt (clr q (low q)) (mxu x q)) := by
        rcases hu with hu | hu
        · exact Or.inl hu
        · refine Or.inr ⟨?_, ?_, hu.2.2.1.1⟩
          · have := hu.1; show low q < fnd _ _ _; omega
          · have := hu.2.1; show fnd _ _ _ < x 1 0; omega
      refine g_iload_n C (q := 2) d_Tw_exactly_233 rfl rfl ?_
      refine g_iconst C d_Tw_exactly_234 ?_
      refine g_iload_n C (q := 3) d_Tw_exactly_235 rfl rfl ?_
      refine g_ishl C d_Tw_exactly_236 (by omega) (by omega) (by have := pw_le (o := (low q)) (by omega); omega) ?_
      refine g_iconst C d_Tw_exactly_237 ?_
      refine g_ixorv C d_Tw_exactly_238 (i_xor (by omega)) ?_
      refine g_iandv C d_Tw_exactly_239 (i_clr (by omega) (by omega)) ?_
      refine g_istore_n C (lv' := [(0, .ref (ad 0)), (1, .int (iI q0)), (2, .int (iI (clr q (low q)))), (3, .int (iI (low q))), (4, .int (iI (mxu x q))), (5, .int (iI (low q)))]) d_Tw_exactly_240 rfl (by decide) rfl rfl ?_
      refine g_iload C (q := 4) d_Tw_exactly_241 rfl ?_
      refine g_iconst C d_Tw_exactly_243 ?_
      refine g_icmp_ne C (tgt := 250) d_Tw_exactly_244 rfl (by omega) (by omega) (fun h244_1 => ?_) (fun h244_1 => ?_)
      · refine g_aload_n C (q := 0) d_Tw_exactly_250 rfl rfl ?_
        refine g_iload_n C (q := 3) d_Tw_exactly_251 rfl rfl ?_
        refine g_iload C (q := 4) d_Tw_exactly_252 rfl ?_
        refine gV C (st := []) (m_Tw_pair (bu x 16 p9) (low q) (mxu x q) (by omega) (by omega)) k_780 k_777 k_779 kp_53 k_7 rfl ho_Tw_pair rfl rfl ⟨by decide, by decide⟩ 0 (mwo_0 _) rfl rfl rfl (Nat.le_of_ble_eq_true rfl) d_Tw_exactly_254 ⟨by decide, by decide⟩ (fun r w hq => ?_)
        obtain ⟨rfl, rfl⟩ := hq
        refine g_eq (ws' := mw ad cI cZ (bu (bu (bu x 16 p9) 16 (updI p9 (low q) (mxu x q))) 16 (updI (updI p9 (low q) (mxu x q)) (mxu x q) (low q)))) (lv' := [(0, .ref (ad 0)), (1, .int (iI q0)), (2, .int (iI (clr q (low q)))), (3, .int (iI (low q))), (4, .int (iI (mxu x q))), (5, .int (iI (low q)))]) (pc' := 257) (st' := []) rfl rfl rfl rfl ?_
        refine g_iload_n C (q := 2) d_Tw_exactly_257 rfl rfl ?_
        refine g_iconst C d_Tw_exactly_258 ?_
        refine g_iload C (q := 4) d_Tw_exactly_259 rfl ?_
        refine g_ishl C d_Tw_exactly_261 (by omega) (by omega) (by have := pw_le (o := (mxu x q)) (by omega); omega) ?_
        refine g_iconst C d_Tw_exactly_262 ?_
        refine g_ixorv C d_Tw_exactly_263 (i_xor (by omega)) ?_
        refine g_iandv C d_Tw_exactly_264 (i_clr (clr_b (by omega) (by omega)) (by omega)) ?_
        refine g_istore_n C (lv' := [(0, .ref (ad 0)), (1, .int (iI q0)), (2, .int (iI (clr (clr q (low q)) (mxu x q)))), (3, .int (iI (low q))), (4, .int (iI (mxu x q))), (5, .int (iI (low q)))]) d_Tw_exactly_265 rfl (by decide) rfl rfl ?_
        refine g_goto C (tgt := 141) d_Tw_exactly_266 rfl ?_
        refine g_lv (lv' := [(0, .ref (ad 0)), (1, .int (iI q0)), (2, .int (iI (clr (clr q (low q)) (mxu x q))))]) [0, 1, 2] rfl ?_
        have hu1 : low q < mxu x q ∧ mxu x q < x 1 0 ∧ bt (clr q (low q)) (mxu x q) := by
            rcases hu with hu | hu
            · exact absurd hu (by assumption)
            · exact hu
        have hcc := clr_in (q := clr q (low q)) (o := mxu x q) (by omega) (by omega)
        refine ih (clr (clr q (low q)) (mxu x q)) _ (by omega) (by omega) (fun i i0 ib => hbits i i0 ((bt_clr hq hL.1 i0).mp ((bt_clr (by omega) (by omega) i0).mp ib).1).1) (by omega) (p_bind hp9 hL.1 (by omega)) (fun q2 => ?_)
        have K1 := K q2
        rw [mex_y hqz (by assumption)] at K1
        exact K1
      · refine g_goto C (tgt := 141) d_Tw_exactly_247 rfl ?_
        refine g_lv (lv' := [(0, .ref (ad 0)), (1, .int (iI q0)), (2, .int (iI (clr q (low q))))]) [0, 1, 2] rfl ?_
        refine ih (clr q (low q)) p9 (by omega) (by omega) (fun i i0 ib => hbits i i0 ((bt_clr hq hL.1 i0).mp ib).1) (by omega) hp9 (fun q2 => ?_)
        have K1 := K q2
        rw [mex_n hqz (by omega)] at K1
        exact K1
set_option maxRecDepth 100000 in
set_option maxHeartbeats 4000000 in
theorem m_Tw_exactly {l : Launch} {D : va_G} {cI cZ cJ : ClassId} {base : Nat} {ad : Nat → Nat} (x : Bk) (q : Int) (hq : 0 ≤ q ∧ q < 1024) (hbits : ∀ i, 0 ≤ i → bt q i → i < x 1 0) (htb : tb (x 18)) (hok : Ok x) (hs : sym x) (h17 : g17 x) (hg : rng x 17 100 0 20000) : Cn l D cls9 (tyl cI cZ cJ) base (zz base) y_Tw_exactly (wz y_Tw_exactly c_Tw_exactly 7 none) ({ frames := 3, cells := 0, slots := 0, locals := 69 } : Room) [.ref (ad 0), .int (iI q)] (mw ad cI cZ x) (fun r w => r = none ∧ w = mw ad cI cZ (bu (bu x 18 (mT x (pw (x 1 0) - 1).toNat)) 16 (mex (bu x 18 (mT x (pw (x 1 0) - 1).toNat)) 1024 q (x 16)))) 0 0 := by
  refine Cn_of (zzG base) (by decide) rfl (Nat.le_of_ble_eq_true rfl) ?_
  intro p e s m args below meth c A C hr hA hnm
  have C : gC p s m args meth c D cls9 (tyl cI cZ cJ) A c_Tw_exactly 7 "BatchSavingsModel" (wz y_Tw_exactly c_Tw_exactly 7 none) base (zz base) := C
  refine g_lve (lv' := [(0, .ref (ad 0)), (1, .int (iI q))]) rfl ?_
  have hn := hok.n
  refine g_aload_n C (q := 0) d_Tw_exactly_0 rfl rfl ?_
  refine gG C (v := .ref (ad 12)) 0 17 u_Tw k_665 (mwo_0 _) rfl (by decide) rfl rfl d_Tw_exactly_1 ?_
  refine g_iconst C d_Tw_exactly_4 ?_
  refine g_iconst C d_Tw_exactly_5 ?_
  refine g_iast C 12 0 (mwa_12 _) rfl (by decide) (by omega) d_Tw_exactly_6 (mws_12 _ _) ?_
  refine g_ws (ws' := mw ad cI cZ (bu x 18 (updI (x 18) 0 0))) rfl ?_
  refine g_iconst C d_Tw_exactly_7 ?_
  refine g_istore_n C (lv' := [(0, .ref (ad 0)), (1, .int (iI q)), (2, .int (iI 1))]) d_Tw_exactly_8 rfl (by decide) rfl rfl ?_
  refine g_eq (ws' := mw ad cI cZ (bu x 18 (mT x 0))) (lv' := [(0, .ref (ad 0)), (1, .int (iI q)), (2, .int (iI ((0 + 1 : Nat) : Int)))]) (pc' := 9) (st' := []) rfl rfl rfl rfl ?_
  have hpp := pw_pos (x 1 0)
  have hpl := pw_le (o := x 1 0) hn
  refine lp_Tw_ex2 C x q htb hok hs h17 hg ?_ (pw (x 1 0) - 1).toNat 0 (by omega)
  refine g_iload_n C (q := 1) d_Tw_exactly_139 rfl rfl ?_
  refine g_istore_n C (lv' := [(0, .ref (ad 0)), (1, .int (iI q)), (2, .int (iI q))]) d_Tw_exactly_140 rfl (by decide) rfl rfl ?_
  have hTT := mT_tb hn hg htb (pw (x 1 0) - 1).toNat (by omega)
  refine g_ws (ws' := mw ad cI cZ (bu (bu x 18 (mT x (pw (x 1 0) - 1).toNat)) 16 (x 16))) rfl ?_
  refine lp_Tw_ex4 C (bu x 18 (mT x (pw (x 1 0) - 1).toNat)) q hTT (show Ok (bu x 18 _) from hok) (show sym (bu x 18 _) from hs) (show g17 (bu x 18 _) from h17) hg 1024 q (x 16) (by omega) (by omega) hbits (by omega) hok.r16 (fun q2 => ?_)
  exact g_vret C hA hr d_Tw_exactly_269 (by decide) (by decide) ⟨rfl, rfl⟩
