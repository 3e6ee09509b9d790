set_option maxRecDepth 100000 in
set_option maxHeartbeats 4000000 in
theorem lp_Tw_br2 {p : Program} {l : Launch} {e : Env} {s : State} {m : MethodId} {args : Array Value} {below : List Frame} {meth : Method} {c : Code} {D : va_G} {cI cZ cJ : ClassId} {base : Nat} {ad : Nat → Nat} {A : Nat → Prop} {Q : State → Prop} (C : gC p s m args meth c D cls9 (tyl cI cZ cJ) A c_Tw_byRule 8 "BatchSavingsModel" (wz y_Tw_byRule c_Tw_byRule 8 none) base (zz base)) (x : Bk) (q0 q : Int) (hq : 0 ≤ q ∧ q < 1024) (p9 : Int → Int) (hp9 : ∀ i, 0 ≤ i → i < 10 → -1 ≤ p9 i ∧ p9 i ≤ 9) (fi : Int) (s0 : Int × Int × Int) (hf : 0 ≤ fi ∧ fi < x 1 0) (hs0 : rgi x q s0) (hok : Ok x) (hs : sym x) (h17 : g17 x)
    (K : gW p l e ({ frames := 3, cells := 0, slots := 0, locals := 69 } : Room) s m args below meth c D cls9 A 8 0 0 Q (mw ad cI cZ (bu x 16 p9)) [(0, .ref (ad 0)), (1, .int (iI q0)), (2, .int (iI q)), (3, .int (iI 1)), (4, .int (iI ((r2 (x 17) (pq q) fi s0 ((x 1 0).toNat)).1))), (5, .int (iI ((r2 (x 17) (pq q) fi s0 ((x 1 0).toNat)).2.1))), (6, .int (iI fi)), (7, .int (iI ((x 1 0).toNat : Int)))] 115 []) : ∀ (d k : Nat), fi < (k : Int) → (k : Int) + (d : Int) = x 1 0 → gW p l e ({ frames := 3, cells := 0, slots := 0, locals := 69 } : Room) s m args below meth c D cls9 A 8 0 0 Q (mw ad cI cZ (bu x 16 p9)) [(0, .ref (ad 0)), (1, .int (iI q0)), (2, .int (iI q)), (3, .int (iI 1)), (4, .int (iI ((r2 (x 17) (pq q) fi s0 k).1))), (5, .int (iI ((r2 (x 17) (pq q) fi s0 k).2.1))), (6, .int (iI fi)), (7, .int (iI (k : Int)))] 32 [] := by
  intro d
  induction d with
  | zero =>
    intro k hfk hk
    have hn := hok.n
    refine g_iload C (q := 7) d_Tw_byRule_32 rfl ?_
    refine g_aload_n C (q := 0) d_Tw_byRule_34 rfl rfl ?_
    refine gG C (v := .int (iI (x 1 0))) 0 1 u_Tw k_649 (mwo_0 _) rfl (by decide) rfl rfl d_Tw_byRule_35 ?_
    refine g_icmp_ge C (tgt := 115) d_Tw_byRule_38 rfl (by omega) (by omega) (fun h38_1 => ?_) (fun h38_1 => ?_)
    · obtain rfl : k = (x 1 0).toNat := by omega
      exact K
    · exfalso
      omega
  | succ d ih =>
    intro k hfk hk
    have hn := hok.n
    have hri := rgi_2 h17 hf.1 hs0 k (by omega)
    have hrd : ((r2 (x 17) (pq q) fi s0 k).1 = -1) ∨ (0 ≤ (r2 (x 17) (pq q) fi s0 k).1 ∧ (r2 (x 17) (pq q) fi s0 k).1 < (r2 (x 17) (pq q) fi s0 k).2.1 ∧ (r2 (x 17) (pq q) fi s0 k).2.1 < x 1 0) := by rcases hri with h | h <;> omega
    have hbo := bit_or q fi
    have hbo2 := bit_or q (k : Int)
    have h9 := hok.r9 (fi * 10 + (k : Int)) (by omega) (by omega)
    have svb := sv_bd hok (a := fi) (b := (k : Int)) (by omega) (by omega)
    refine g_iload C (q := 7) d_Tw_byRule_32 rfl ?_
    refine g_aload_n C (q := 0) d_Tw_byRule_34 rfl rfl ?_
    refine gG C (v := .int (iI (x 1 0))) 0 1 u_Tw k_649 (mwo_0 _) rfl (by decide) rfl rfl d_Tw_byRule_35 ?_
    refine g_icmp_ge C (tgt := 115) d_Tw_byRule_38 rfl (by omega) (by omega) (fun h38_1 => ?_) (fun h38_1 => ?_)
    · exfalso
      omega
    · refine g_iload_n C (q := 2) d_Tw_byRule_41 rfl rfl ?_
      refine g_iload C (q := 6) d_Tw_byRule_42 rfl ?_
      refine g_ishrv C d_Tw_byRule_44 (i_shr (by omega) (by omega)) ?_
      refine g_iconst C d_Tw_byRule_45 ?_
      refine g_iandv C d_Tw_byRule_46 (i_and1 (shr_in _ (by omega))) ?_
      refine g_if_eq C (tgt := 109) d_Tw_byRule_47 rfl (by omega) (fun h47_2 => ?_) (fun h47_2 => ?_)
      · refine g_lve (lv' := [(0, .ref (ad 0)), (1, .int (iI q0)), (2, .int (iI q)), (3, .int (iI 1)), (4, .int (iI ((r2 (x 17) (pq q) fi s0 (k + 1)).1))), (5, .int (iI ((r2 (x 17) (pq q) fi s0 (k + 1)).2.1))), (6, .int (iI fi)), (7, .int (iI (k : Int)))]) (by first | (rw [r2_t (rg_t h17 hri ⟨by omega, by omega, by omega⟩ (by unfold bt; omega) (by unfold bt; omega) (by assumption) (by omega))]; done) | (rw [r2_f (rg_f h17 hri ⟨by omega, by omega, by omega⟩ (by first | exact Or.inl (by unfold bt; omega) | exact Or.inr (Or.inl (by unfold bt; omega)) | exact Or.inr (Or.inr (Or.inl (by assumption))) | exact Or.inr (Or.inr (Or.inr ⟨by omega, by omega⟩))))]; done)) ?_
        refine g_iinc C (q := 7) (lv' := [(0, .ref (ad 0)), (1, .int (iI q0)), (2, .int (iI q)), (3, .int (iI 1)), (4, .int (iI ((r2 (x 17) (pq q) fi s0 (k + 1)).1))), (5, .int (iI ((r2 (x 17) (pq q) fi s0 (k + 1)).2.1))), (6, .int (iI fi)), (7, .int (iI ((k : Int) + 1)))]) d_Tw_byRule_109 rfl (by decide) rfl rfl ?_
        refine g_goto C (tgt := 32) d_Tw_byRule_112 rfl ?_
        exact ih (k + 1) (by omega) (by omega)
      · refine g_iload_n C (q := 2) d_Tw_byRule_50 rfl rfl ?_
        refine g_iload C (q := 7) d_Tw_byRule_51 rfl ?_
        refine g_ishrv C d_Tw_byRule_53 (i_shr (by omega) (by omega)) ?_
        refine g_iconst C d_Tw_byRule_54 ?_
        refine g_iandv C d_Tw_byRule_55 (i_and1 (shr_in _ (by omega))) ?_
        refine g_if_eq C (tgt := 109) d_Tw_byRule_56 rfl (by omega) (fun h56_3 => ?_) (fun h56_3 => ?_)
        · refine g_lve (lv' := [(0, .ref (ad 0)), (1, .int (iI q0)), (2, .int (iI q)), (3, .int (iI 1)), (4, .int (iI ((r2 (x 17) (pq q) fi s0 (k + 1)).1))), (5, .int (iI ((r2 (x 17) (pq q) fi s0 (k + 1)).2.1))), (6, .int (iI fi)), (7, .int (iI (k : Int)))]) (by first | (rw [r2_t (rg_t h17 hri ⟨by omega, by omega, by omega⟩ (by unfold bt; omega) (by unfold bt; omega) (by assumption) (by omega))]; done) | (rw [r2_f (rg_f h17 hri ⟨by omega, by omega, by omega⟩ (by first | exact Or.inl (by unfold bt; omega) | exact Or.inr (Or.inl (by unfold bt; omega)) | exact Or.inr (Or.inr (Or.inl (by assumption))) | exact Or.inr (Or.inr (Or.inr ⟨by omega, by omega⟩))))]; done)) ?_
          refine g_iinc C (q := 7) (lv' := [(0, .ref (ad 0)), (1, .int (iI q0)), (2, .int (iI q)), (3, .int (iI 1)), (4, .int (iI ((r2 (x 17) (pq q) fi s0 (k + 1)).1))), (5, .int (iI ((r2 (x 17) (pq q) fi s0 (k + 1)).2.1))), (6, .int (iI fi)), (7, .int (iI ((k : Int) + 1)))]) d_Tw_byRule_109 rfl (by decide) rfl rfl ?_
          refine g_goto C (tgt := 32) d_Tw_byRule_112 rfl ?_
          exact ih (k + 1) (by omega) (by omega)
        · refine g_aload_n C (q := 0) d_Tw_byRule_59 rfl rfl ?_
          refine g_iload C (q := 6) d_Tw_byRule_60 rfl ?_
          refine g_iload C (q := 7) d_Tw_byRule_62 rfl ?_
          refine gV C (st := []) (m_Tw_mayMatch (bu x 16 p9) fi (k : Int) (show 0 ≤ fi ∧ fi < x 1 0 by omega) (show 0 ≤ (k : Int) ∧ (k : Int) < x 1 0 by omega) (by omega) (show sym (bu x 16 p9) from hs) (hok.p16 hp9)) k_776 k_773 k_775 kp_52 k_7 rfl ho_Tw_mayMatch rfl rfl ⟨by decide, by decide⟩ 0 (mwo_0 _) rfl rfl rfl (Nat.le_of_ble_eq_true rfl) d_Tw_byRule_64 ⟨by decide, by decide⟩ (fun r w hq => ?_)
          obtain ⟨rfl, rfl⟩ := hq
          refine g_eq (ws' := mw ad cI cZ (bu x 16 p9)) (lv' := [(0, .ref (ad 0)), (1, .int (iI q0)), (2, .int (iI q)), (3, .int (iI 1)), (4, .int (iI ((r2 (x 17) (pq q) fi s0 k).1))), (5, .int (iI ((r2 (x 17) (pq q) fi s0 k).2.1))), (6, .int (iI fi)), (7, .int (iI (k : Int)))]) (pc' := 67) (st' := [.int (iI (c01 (0 < sv x fi (k : Int) ∧ okP x fi (k : Int))))]) rfl rfl rfl rfl ?_
          by_cases hb64_4 : (0 < sv x fi (k : Int) ∧ okP x fi (k : Int))
          · refine g_st (st' := [.int (iI 1)]) (by rw [c01_t hb64_4]) ?_
            refine g_if_ne C (tgt := 73) d_Tw_byRule_67 rfl (by omega) (fun h67_5 => ?_) (fun h67_5 => ?_)
            · refine g_iload C (q := 4) d_Tw_byRule_73 rfl ?_
              refine g_iconst C d_Tw_byRule_75 ?_
              refine g_icmp_eq C (tgt := 101) d_Tw_byRule_76 rfl (by omega) (by omega) (fun h76_6 => ?_) (fun h76_6 => ?_)
              · refine g_iload C (q := 6) d_Tw_byRule_101 rfl ?_
                refine g_istore C (lv' := [(0, .ref (ad 0)), (1, .int (iI q0)), (2, .int (iI q)), (3, .int (iI 1)), (4, .int (iI fi)), (5, .int (iI ((r2 (x 17) (pq q) fi s0 k).2.1))), (6, .int (iI fi)), (7, .int (iI (k : Int)))]) d_Tw_byRule_103 (by decide) rfl rfl ?_
                refine g_iload C (q := 7) d_Tw_byRule_105 rfl ?_
                refine g_istore C (lv' := [(0, .ref (ad 0)), (1, .int (iI q0)), (2, .int (iI q)), (3, .int (iI 1)), (4, .int (iI fi)), (5, .int (iI (k : Int))), (6, .int (iI fi)), (7, .int (iI (k : Int)))]) d_Tw_byRule_107 (by decide) rfl rfl ?_
                refine g_lve (lv' := [(0, .ref (ad 0)), (1, .int (iI q0)), (2, .int (iI q)), (3, .int (iI 1)), (4, .int (iI ((r2 (x 17) (pq q) fi s0 (k + 1)).1))), (5, .int (iI ((r2 (x 17) (pq q) fi s0 (k + 1)).2.1))), (6, .int (iI fi)), (7, .int (iI (k : Int)))]) (by first | (rw [r2_t (rg_t h17 hri ⟨by omega, by omega, by omega⟩ (by unfold bt; omega) (by unfold bt; omega) (by assumption) (by omega))]; done) | (rw [r2_f (rg_f h17 hri ⟨by omega, by omega, by omega⟩ (by first | exact Or.inl (by unfold bt; omega) | exact Or.inr (Or.inl (by unfold bt; omega)) | exact Or.inr (Or.inr (Or.inl (by assumption))) | exact Or.inr (Or.inr (Or.inr ⟨by omega, by omega⟩))))]; done)) ?_
                refine g_iinc C (q := 7) (lv' := [(0, .ref (ad 0)), (1, .int (iI q0)), (2, .int (iI q)), (3, .int (iI 1)), (4, .int (iI ((r2 (x 17) (pq q) fi s0 (k + 1)).1))), (5, .int (iI ((r2 (x 17) (pq q) fi s0 (k + 1)).2.1))), (6, .int (iI fi)), (7, .int (iI ((k : Int) + 1)))]) d_Tw_byRule_109 rfl (by decide) rfl rfl ?_
                refine g_goto C (tgt := 32) d_Tw_byRule_112 rfl ?_
                exact ih (k + 1) (by omega) (by omega)
              · refine g_aload_n C (q := 0) d_Tw_byRule_79 rfl rfl ?_
                refine g_iload C (q := 6) d_Tw_byRule_80 rfl ?_
                refine g_iload C (q := 7) d_Tw_byRule_82 rfl ?_
                refine gV C (st := []) (m_Tw_save (bu x 16 p9) fi (k : Int) (by omega) (by omega) (show InR (x 9 (fi * 10 + (k : Int))) by omega)) k_725 k_722 k_724 kp_46 k_7 rfl ho_Tw_save rfl rfl ⟨by decide, by decide⟩ 0 (mwo_0 _) rfl rfl rfl (Nat.le_of_ble_eq_true rfl) d_Tw_byRule_84 ⟨by decide, by decide⟩ (fun r w hq => ?_)
                obtain ⟨rfl, rfl⟩ := hq
                refine g_eq (ws' := mw ad cI cZ (bu x 16 p9)) (lv' := [(0, .ref (ad 0)), (1, .int (iI q0)), (2, .int (iI q)), (3, .int (iI 1)), (4, .int (iI ((r2 (x 17) (pq q) fi s0 k).1))), (5, .int (iI ((r2 (x 17) (pq q) fi s0 k).2.1))), (6, .int (iI fi)), (7, .int (iI (k : Int)))]) (pc' := 87) (st' := [.int (iI (sv x fi (k : Int)))]) rfl rfl rfl rfl ?_
                refine g_aload_n C (q := 0) d_Tw_byRule_87 rfl rfl ?_
                refine g_iload C (q := 4) d_Tw_byRule_88 rfl ?_
                refine g_iload C (q := 5) d_Tw_byRule_90 rfl ?_
                have h9b := hok.r9 ((r2 (x 17) (pq q) fi s0 k).1 * 10 + (r2 (x 17) (pq q) fi s0 k).2.1) (by omega) (by omega)
                have svb2 := sv_bd hok (a := (r2 (x 17) (pq q) fi s0 k).1) (b := (r2 (x 17) (pq q) fi s0 k).2.1) (by omega) (by omega)
                refine gV C (st := [.int (iI (sv x fi (k : Int)))]) (m_Tw_save (bu x 16 p9) ((r2 (x 17) (pq q) fi s0 k).1) ((r2 (x 17) (pq q) fi s0 k).2.1) (by omega) (by omega) (show InR (x 9 ((r2 (x 17) (pq q) fi s0 k).1 * 10 + (r2 (x 17) (pq q) fi s0 k).2.1)) by omega)) k_725 k_722 k_724 kp_46 k_7 rfl ho_Tw_save rfl rfl ⟨by decide, by decide⟩ 0 (mwo_0 _) rfl rfl rfl (Nat.le_of_ble_eq_true rfl) d_Tw_byRule_92 ⟨by decide, by decide⟩ (fun r w hq => ?_)
                obtain ⟨rfl, rfl⟩ := hq
                refine g_eq (ws' := mw ad cI cZ (bu x 16 p9)) (lv' := [(0, .ref (ad 0)), (1, .int (iI q0)), (2, .int (iI q)), (3, .int (iI 1)), (4, .int (iI ((r2 (x 17) (pq q) fi s0 k).1))), (5, .int (iI ((r2 (x 17) (pq q) fi s0 k).2.1))), (6, .int (iI fi)), (7, .int (iI (k : Int)))]) (pc' := 95) (st' := [.int (iI (sv x ((r2 (x 17) (pq q) fi s0 k).1) ((r2 (x 17) (pq q) fi s0 k).2.1))), .int (iI (sv x fi (k : Int)))]) rfl rfl rfl rfl ?_
                refine g_icmp_gt C (tgt := 101) d_Tw_byRule_95 rfl (by omega) (by omega) (fun h95_7 => ?_) (fun h95_7 => ?_)
                · refine g_iload C (q := 6) d_Tw_byRule_101 rfl ?_
                  refine g_istore C (lv' := [(0, .ref (ad 0)), (1, .int (iI q0)), (2, .int (iI q)), (3, .int (iI 1)), (4, .int (iI fi)), (5, .int (iI ((r2 (x 17) (pq q) fi s0 k).2.1))), (6, .int (iI fi)), (7, .int (iI (k : Int)))]) d_Tw_byRule_103 (by decide) rfl rfl ?_
                  refine g_iload C (q := 7) d_Tw_byRule_105 rfl ?_
                  refine g_istore C (lv' := [(0, .ref (ad 0)), (1, .int (iI q0)), (2, .int (iI q)), (3, .int (iI 1)), (4, .int (iI fi)), (5, .int (iI (k : Int))), (6, .int (iI fi)), (7, .int (iI (k : Int)))]) d_Tw_byRule_107 (by decide) rfl rfl ?_
                  refine g_lve (lv' := [(0, .ref (ad 0)), (1, .int (iI q0)), (2, .int (iI q)), (3, .int (iI 1)), (4, .int (iI ((r2 (x 17) (pq q) fi s0 (k + 1)).1))), (5, .int (iI ((r2 (x 17) (pq q) fi s0 (k + 1)).2.1))), (6, .int (iI fi)), (7, .int (iI (k : Int)))]) (by first | (rw [r2_t (rg_t h17 hri ⟨by omega, by omega, by omega⟩ (by unfold bt; omega) (by unfold bt; omega) (by assumption) (by omega))]; done) | (rw [r2_f (rg_f h17 hri ⟨by omega, by omega, by omega⟩ (by first | exact Or.inl (by unfold bt; omega) | exact Or.inr (Or.inl (by unfold bt; omega)) | exact Or.inr (Or.inr (Or.inl (by assumption))) | exact Or.inr (Or.inr (Or.inr ⟨by omega, by omega⟩))))]; done)) ?_
                  refine g_iinc C (q := 7) (lv' := [(0, .ref (ad 0)), (1, .int (iI q0)), (2, .int (iI q)), (3, .int (iI 1)), (4, .int (iI ((r2 (x 17) (pq q) fi s0 (k + 1)).1))), (5, .int (iI ((r2 (x 17) (pq q) fi s0 (k + 1)).2.1))), (6, .int (iI fi)), (7, .int (iI ((k : Int) + 1)))]) d_Tw_byRule_109 rfl (by decide) rfl rfl ?_
                  refine g_goto C (tgt := 32) d_Tw_byRule_112 rfl ?_
                  exact ih (k + 1) (by omega) (by omega)
                · refine g_goto C (tgt := 109) d_Tw_byRule_98 rfl ?_
                  refine g_lve (lv' := [(0, .ref (ad 0)), (1, .int (iI q0)), (2, .int (iI q)), (3, .int (iI 1)), (4, .int (iI ((r2 (x 17) (pq q) fi s0 (k + 1)).1))), (5, .int (iI ((r2 (x 17) (pq q) fi s0 (k + 1)).2.1))), (6, .int (iI fi)), (7, .int (iI (k : Int)))]) (by first | (rw [r2_t (rg_t h17 hri ⟨by omega, by omega, by omega⟩ (by unfold bt; omega) (by unfold bt; omega) (by assumption) (by omega))]; done) | (rw [r2_f (rg_f h17 hri ⟨by omega, by omega, by omega⟩ (by first | exact Or.inl (by unfold bt; omega) | exact Or.inr (Or.inl (by unfold bt; omega)) | exact Or.inr (Or.inr (Or.inl (by assumption))) | exact Or.inr (Or.inr (Or.inr ⟨by omega, by omega⟩))))]; done)) ?_
                  refine g_iinc C (q := 7) (lv' := [(0, .ref (ad 0)), (1, .int (iI q0)), (2, .int (iI q)), (3, .int (iI 1)), (4, .int (iI ((r2 (x 17) (pq q) fi s0 (k + 1)).1))), (5, .int (iI ((r2 (x 17) (pq q) fi s0 (k + 1)).2.1))), (6, .int (iI fi)), (7, .int (iI ((k : Int) + 1)))]) d_Tw_byRule_109 rfl (by decide) rfl rfl ?_
                  refine g_goto C (tgt := 32) d_Tw_byRule_112 rfl ?_
                  exact ih (k + 1) (by omega) (by omega)
            · exfalso
              omega
          · refine g_st (st' := [.int (iI 0)]) (by rw [c01_f hb64_4]) ?_
            refine g_if_ne C (tgt := 73) d_Tw_byRule_67 rfl (by omega) (fun h67_8 => ?_) (fun h67_8 => ?_)
            · exfalso
              omega
            · refine g_goto C (tgt := 109) d_Tw_byRule_70 rfl ?_
              refine g_lve (lv' := [(0, .ref (ad 0)), (1, .int (iI q0)), (2, .int (iI q)), (3, .int (iI 1)), (4, .int (iI ((r2 (x 17) (pq q) fi s0 (k + 1)).1))), (5, .int (iI ((r2 (x 17) (pq q) fi s0 (k + 1)).2.1))), (6, .int (iI fi)), (7, .int (iI (k : Int)))]) (by first | (rw [r2_t (rg_t h17 hri ⟨by omega, by omega, by omega⟩ (by unfold bt; omega) (by unfold bt; omega) (by assumption) (by omega))]; done) | (rw [r2_f (rg_f h17 hri ⟨by omega, by omega, by omega⟩ (by first | exact Or.inl (by unfold bt; omega) | exact Or.inr (Or.inl (by unfold bt; omega)) | exact Or.inr (Or.inr (Or.inl (by assumption))) | exact Or.inr (Or.inr (Or.inr ⟨by omega, by omega⟩))))]; done)) ?_
              refine g_iinc C (q := 7) (lv' := [(0, .ref (ad 0)), (1, .int (iI q0)), (2, .int (iI q)), (3, .int (iI 1)), (4, .int (iI ((r2 (x 17) (pq q) fi s0 (k + 1)).1))), (5, .int (iI ((r2 (x 17) (pq q) fi s0 (k + 1)).2.1))), (6, .int (iI fi)), (7, .int (iI ((k : Int) + 1)))]) d_Tw_byRule_109 rfl (by decide) rfl rfl ?_
              refine g_goto C (tgt := 32) d_Tw_byRule_112 rfl ?_
              exact ih (k + 1) (by omega) (by omega)
set_option maxRecDepth 100000 in
set_option maxHeartbeats 4000000 in
theorem lp_Tw_br1 {p : Program} {l : Launch} {e : Env} {s : State} {m : MethodId} {args : Array Value} {below : List Frame} {meth : Method} {c : Code} {D : va_G} {cI cZ cJ : ClassId} {base : Nat} {ad : Nat → Nat} {A : Nat → Prop} {Q : State → Prop} (C : gC p s m args meth c D cls9 (tyl cI cZ cJ) A c_Tw_byRule 8 "BatchSavingsModel" (wz y_Tw_byRule c_Tw_byRule 8 none) base (zz base)) (x : Bk) (q0 q : Int) (hq : 0 ≤ q ∧ q < 1024) (p9 : Int → Int) (hp9 : ∀ i, 0 ≤ i → i < 10 → -1 ≤ p9 i ∧ p9 i ≤ 9) (hok : Ok x) (hs : sym x) (h17 : g17 x)
    (K : gW p l e ({ frames := 3, cells := 0, slots := 0, locals := 69 } : Room) s m args below meth c D cls9 A 8 0 0 Q (mw ad cI cZ (bu x 16 p9)) [(0, .ref (ad 0)), (1, .int (iI q0)), (2, .int (iI q)), (3, .int (iI 1)), (4, .int (iI ((r1 (x 17) (pq q) (x 1 0).toNat ((x 1 0).toNat)).1))), (5, .int (iI ((r1 (x 17) (pq q) (x 1 0).toNat ((x 1 0).toNat)).2.1))), (6, .int (iI ((x 1 0).toNat : Int)))] 121 []) : ∀ (d k : Nat), (k : Int) + (d : Int) = x 1 0 → gW p l e ({ frames := 3, cells := 0, slots := 0, locals := 69 } : Room) s m args below meth c D cls9 A 8 0 0 Q (mw ad cI cZ (bu x 16 p9)) [(0, .ref (ad 0)), (1, .int (iI q0)), (2, .int (iI q)), (3, .int (iI 1)), (4, .int (iI ((r1 (x 17) (pq q) (x 1 0).toNat k).1))), (5, .int (iI ((r1 (x 17) (pq q) (x 1 0).toNat k).2.1))), (6, .int (iI (k : Int)))] 17 [] := by
  intro d
  induction d with
  | zero =>
    intro k hk
    have hn := hok.n
    refine g_iload C (q := 6) d_Tw_byRule_17 rfl ?_
    refine g_aload_n C (q := 0) d_Tw_byRule_19 rfl rfl ?_
    refine gG C (v := .int (iI (x 1 0))) 0 1 u_Tw k_649 (mwo_0 _) rfl (by decide) rfl rfl d_Tw_byRule_20 ?_
    refine g_icmp_ge C (tgt := 121) d_Tw_byRule_23 rfl (by omega) (by omega) (fun h23_1 => ?_) (fun h23_1 => ?_)
    · obtain rfl : k = (x 1 0).toNat := by omega
      exact K
    · exfalso
      omega
  | succ d ih =>
    intro k hk
    have hn := hok.n
    refine g_iload C (q := 6) d_Tw_byRule_17 rfl ?_
    refine g_aload_n C (q := 0) d_Tw_byRule_19 rfl rfl ?_
    refine gG C (v := .int (iI (x 1 0))) 0 1 u_Tw k_649 (mwo_0 _) rfl (by decide) rfl rfl d_Tw_byRule_20 ?_
    refine g_icmp_ge C (tgt := 121) d_Tw_byRule_23 rfl (by omega) (by omega) (fun h23_1 => ?_) (fun h23_1 => ?_)
    · exfalso
      omega
    · refine g_iload C (q := 6) d_Tw_byRule_26 rfl ?_
      refine g_iconst C d_Tw_byRule_28 ?_
      refine g_iadd C d_Tw_byRule_29 ?_
      refine g_istore C (lv' := [(0, .ref (ad 0)), (1, .int (iI q0)), (2, .int (iI q)), (3, .int (iI 1)), (4, .int (iI ((r1 (x 17) (pq q) (x 1 0).toNat k).1))), (5, .int (iI ((r1 (x 17) (pq q) (x 1 0).toNat k).2.1))), (6, .int (iI (k : Int))), (7, .int (iI ((k : Int) + 1)))]) d_Tw_byRule_30 (by decide) rfl rfl ?_
      refine g_lve (lv' := [(0, .ref (ad 0)), (1, .int (iI q0)), (2, .int (iI q)), (3, .int (iI 1)), (4, .int (iI ((r2 (x 17) (pq q) (k : Int) (r1 (x 17) (pq q) (x 1 0).toNat k) (k + 1)).1))), (5, .int (iI ((r2 (x 17) (pq q) (k : Int) (r1 (x 17) (pq q) (x 1 0).toNat k) (k + 1)).2.1))), (6, .int (iI (k : Int))), (7, .int (iI ((k + 1 : Nat) : Int)))]) (by rw [r2_lo _ _ _ _ _ (by omega)]; rfl) ?_
      refine lp_Tw_br2 C x q0 q hq p9 hp9 (k : Int) (r1 (x 17) (pq q) (x 1 0).toNat k) (by omega) (rgi_1 h17 hn.1 k (by omega)) hok hs h17 ?_ ((x 1 0).toNat - (k + 1)) (k + 1) (by omega) (by omega)
      refine g_iinc C (q := 6) (lv' := [(0, .ref (ad 0)), (1, .int (iI q0)), (2, .int (iI q)), (3, .int (iI 1)), (4, .int (iI ((r2 (x 17) (pq q) (k : Int) (r1 (x 17) (pq q) (x 1 0).toNat k) (x 1 0).toNat).1))), (5, .int (iI ((r2 (x 17) (pq q) (k : Int) (r1 (x 17) (pq q) (x 1 0).toNat k) (x 1 0).toNat).2.1))), (6, .int (iI ((k : Int) + 1))), (7, .int (iI ((x 1 0).toNat : Int)))]) d_Tw_byRule_115 rfl (by decide) rfl rfl ?_
      refine g_goto C (tgt := 17) d_Tw_byRule_118 rfl ?_
      refine g_lv [0, 1, 2, 3, 4, 5, 6] rfl ?_
      exact ih (k + 1) (by omega)
set_option maxRecDepth 100000 in
set_option maxHeartbeats 4000000 in
theorem lp_Tw_br0 {p : Program} {l : Launch} {e : Env} {s : State} {m : MethodId} {args : Array Value} {below : List Frame} {meth : Method} {c : Code} {D : va_G} {cI cZ cJ : ClassId} {base : Nat} {ad : Nat → Nat} {A : Nat → Prop} {Q : State → Prop} (C : gC p s m args meth c D cls9 (tyl cI cZ cJ) A c_Tw_byRule 8 "BatchSavingsModel" (wz y_Tw_byRule c_Tw_byRule 8 none) base (zz base)) (x : Bk) (q0 : Int) (hok : Ok x) (hs : sym x) (h17 : g17 x) : ∀ (f : Nat) (q : Int) (p9 : Int → Int), 0 ≤ q → q < 1024 → q < (f : Int) → (∀ i, 0 ≤ i → i < 10 → -1 ≤ p9 i ∧ p9 i ≤ 9) → (∀ lv' : List (Nat × Value), gW p l e ({ frames := 3, cells := 0, slots := 0, locals := 69 } : Room) s m args below meth c D cls9 A 8 0 0 Q (mw ad cI cZ (bu x 16 (mbr x f q p9))) lv' 167 []) → gW p l e ({ frames := 3, cells := 0, slots := 0, locals := 69 } : Room) s m args below meth c D cls9 A 8 0 0 Q (mw ad cI cZ (bu x 16 p9)) [(0, .ref (ad 0)), (1, .int (iI q0)), (2, .int (iI q)), (3, .int (iI 1))] 4 [] := by
  intro f
  induction f with
  | zero =>
    intro q p9 hq0 hq1 hqf hp9 K
    exfalso
    omega
  | succ f ih =>
    intro q p9 hq0 hq1 hqf hp9 K
    have hn := hok.n
    have hq : 0 ≤ q ∧ q < 1024 := ⟨hq0, hq1⟩
    have hri := rgi_1 h17 (q := q) hn.1 (x 1 0).toNat (by omega)
    refine g_iload_n C (q := 3) d_Tw_byRule_4 rfl rfl ?_
    refine g_if_eq C (tgt := 167) d_Tw_byRule_5 rfl (by omega) (fun h5_1 => ?_) (fun h5_1 => ?_)
    · exfalso
      omega
    · refine g_iconst C d_Tw_byRule_8 ?_
      refine g_istore C (lv' := [(0, .ref (ad 0)), (1, .int (iI q0)), (2, .int (iI q)), (3, .int (iI 1)), (4, .int (iI (-1)))]) d_Tw_byRule_9 (by decide) rfl rfl ?_
      refine g_iconst C d_Tw_byRule_11 ?_
      refine g_istore C (lv' := [(0, .ref (ad 0)), (1, .int (iI q0)), (2, .int (iI q)), (3, .int (iI 1)), (4, .int (iI (-1))), (5, .int (iI (-1)))]) d_Tw_byRule_12 (by decide) rfl rfl ?_
      refine g_iconst C d_Tw_byRule_14 ?_
      refine g_istore C (lv' := [(0, .ref (ad 0)), (1, .int (iI q0)), (2, .int (iI q)), (3, .int (iI 1)), (4, .int (iI (-1))), (5, .int (iI (-1))), (6, .int (iI 0))]) d_Tw_byRule_15 (by decide) rfl rfl ?_
      refine g_lve (lv' := [(0, .ref (ad 0)), (1, .int (iI q0)), (2, .int (iI q)), (3, .int (iI 1)), (4, .int (iI ((r1 (x 17) (pq q) (x 1 0).toNat 0).1))), (5, .int (iI ((r1 (x 17) (pq q) (x 1 0).toNat 0).2.1))), (6, .int (iI ((0 : Nat) : Int)))]) rfl ?_
      refine lp_Tw_br1 C x q0 q hq p9 hp9 hok hs h17 ?_ (x 1 0).toNat 0 (by omega)
      refine g_lve (lv' := [(0, .ref (ad 0)), (1, .int (iI q0)), (2, .int (iI q)), (3, .int (iI 1)), (4, .int (iI ((mr x q).1))), (5, .int (iI ((mr x q).2.1))), (6, .int (iI ((x 1 0).toNat : Int)))]) rfl ?_
      have hmd : (mr x q).1 = -1 ∨ 0 ≤ (mr x q).1 := by
          rcases hri with h | h
          · exact Or.inl h.1
          · exact Or.inr h.1.1
      have hmd2 : (mr x q).1 < 10 := by
          rcases hri with h | h
          · have := h.1; show (r1 _ _ _ _).1 < 10; omega
          · have := h.1; show (r1 _ _ _ _).1 < 10; omega
      refine g_iload C (q := 4) d_Tw_byRule_121 rfl ?_
      refine g_iconst C d_Tw_byRule_123 ?_
      refine g_icmp_eq C (tgt := 131) d_Tw_byRule_124 rfl (by omega) (by omega) (fun h124_1 => ?_) (fun h124_1 => ?_)
      · refine g_iconst C d_Tw_byRule_131 ?_
        refine g_istore_n C (lv' := [(0, .ref (ad 0)), (1, .int (iI q0)), (2, .int (iI q)), (3, .int (iI 0)), (4, .int (iI ((mr x q).1))), (5, .int (iI ((mr x q).2.1))), (6, .int (iI ((x 1 0).toNat : Int)))]) d_Tw_byRule_132 rfl (by decide) rfl rfl ?_
        refine g_iload_n C (q := 3) d_Tw_byRule_133 rfl rfl ?_
        refine g_if_ne C (tgt := 140) d_Tw_byRule_134 rfl (by omega) (fun h134_2 => ?_) (fun h134_2 => ?_)
        · exfalso
          omega
        · refine g_goto C (tgt := 4) d_Tw_byRule_137 rfl ?_
          refine g_iload_n C (q := 3) d_Tw_byRule_4 rfl rfl ?_
          refine g_if_eq C (tgt := 167) d_Tw_byRule_5 rfl (by omega) (fun h5_1 => ?_) (fun h5_1 => ?_)
          · have e := mbr_n (f := f) (p := p9) (show (mr x q).1 = -1 by assumption)
            refine g_ws (ws' := mw ad cI cZ (bu x 16 (mbr x (f + 1) q p9))) (by rw [e]) ?_
            exact K _
          · exfalso
            omega
      · refine g_iconst C d_Tw_byRule_127 ?_
        refine g_goto C (tgt := 132) d_Tw_byRule_128 rfl ?_
        refine g_istore_n C (lv' := [(0, .ref (ad 0)), (1, .int (iI q0)), (2, .int (iI q)), (3, .int (iI 1)), (4, .int (iI ((mr x q).1))), (5, .int (iI ((mr x q).2.1))), (6, .int (iI ((x 1 0).toNat : Int)))]) d_Tw_byRule_132 rfl (by decide) rfl rfl ?_
        refine g_iload_n C (q := 3) d_Tw_byRule_133 rfl rfl ?_
        refine g_if_ne C (tgt := 140) d_Tw_byRule_134 rfl (by omega) (fun h134_3 => ?_) (fun h134_3 => ?_)
        · have hrd : (0 ≤ (mr x q).1 ∧ (mr x q).1 < (mr x q).2.1 ∧ (mr x q).2.1 < x 1 0) ∧ bt q (mr x q).1 := by
            rcases hri with h | h
            · exact absurd h.1 (by assumption)
            · exact ⟨h.1, h.2.1⟩
          have hc := clr_in (q := q) (o := (mr x q).1) hq (by omega)
          have hcl := clr_lt (q := q) (o := (mr x q).1) hq (by omega) hrd.2
          have hcc := clr_in (q := clr q (mr x q).1) (o := (mr x q).2.1) (by omega) (by omega)
          refine g_aload_n C (q := 0) d_Tw_byRule_140 rfl rfl ?_
          refine g_iload C (q := 4) d_Tw_byRule_141 rfl ?_
          refine g_iload C (q := 5) d_Tw_byRule_143 rfl ?_
          refine gV C (st := []) (m_Tw_pair (bu x 16 p9) ((mr x q).1) ((mr x q).2.1) (by omega) (by omega)) k_780 k_777 k_779 kp_53 k_7 rfl ho_Tw_pair rfl rfl ⟨by decide, by decide⟩ 0 (mwo_0 _) rfl rfl rfl (Nat.le_of_ble_eq_true rfl) d_Tw_byRule_145 ⟨by decide, by decide⟩ (fun r w hq => ?_)
          obtain ⟨rfl, rfl⟩ := hq
          refine g_eq (ws' := mw ad cI cZ (bu (bu (bu x 16 p9) 16 (updI p9 ((mr x q).1) ((mr x q).2.1))) 16 (updI (updI p9 ((mr x q).1) ((mr x q).2.1)) ((mr x q).2.1) ((mr x q).1)))) (lv' := [(0, .ref (ad 0)), (1, .int (iI q0)), (2, .int (iI q)), (3, .int (iI 1)), (4, .int (iI ((mr x q).1))), (5, .int (iI ((mr x q).2.1))), (6, .int (iI ((x 1 0).toNat : Int)))]) (pc' := 148) (st' := []) rfl rfl rfl rfl ?_
          refine g_iload_n C (q := 2) d_Tw_byRule_148 rfl rfl ?_
          refine g_iconst C d_Tw_byRule_149 ?_
          refine g_iload C (q := 4) d_Tw_byRule_150 rfl ?_
          refine g_ishl C d_Tw_byRule_152 (by omega) (by omega) (by have := pw_le (o := (mr x q).1) (by omega); omega) ?_
          refine g_iconst C d_Tw_byRule_153 ?_
          refine g_ixorv C d_Tw_byRule_154 (i_xor (by omega)) ?_
          refine g_iconst C d_Tw_byRule_155 ?_
          refine g_iload C (q := 5) d_Tw_byRule_156 rfl ?_
          refine g_ishl C d_Tw_byRule_158 (by omega) (by omega) (by have := pw_le (o := (mr x q).2.1) (by omega); omega) ?_
          refine g_iconst C d_Tw_byRule_159 ?_
          refine g_ixorv C d_Tw_byRule_160 (i_xor (by omega)) ?_
          refine gr_iand C d_Tw_byRule_161 ?_
          refine gr_iand C d_Tw_byRule_162 ?_
          refine gr_top (b := iI (clr (clr q ((mr x q).1)) ((mr x q).2.1))) (i_clr2 (by omega) (by omega) (by omega)) ?_
          refine g_istore_n C (lv' := [(0, .ref (ad 0)), (1, .int (iI q0)), (2, .int (iI (clr (clr q ((mr x q).1)) ((mr x q).2.1)))), (3, .int (iI 1)), (4, .int (iI ((mr x q).1))), (5, .int (iI ((mr x q).2.1))), (6, .int (iI ((x 1 0).toNat : Int)))]) d_Tw_byRule_163 rfl (by decide) rfl rfl ?_
          refine g_goto C (tgt := 4) d_Tw_byRule_164 rfl ?_
          refine g_lv (lv' := [(0, .ref (ad 0)), (1, .int (iI q0)), (2, .int (iI (clr (clr q ((mr x q).1)) ((mr x q).2.1)))), (3, .int (iI 1))]) [0, 1, 2, 3] rfl ?_
          refine ih (clr (clr q (mr x q).1) (mr x q).2.1) _ (by omega) (by omega) (by omega) (p_bind hp9 (by omega) (by omega)) (fun lv2 => ?_)
          have e := mbr_y (f := f) (p := p9) (show ¬ (mr x q).1 = -1 by assumption)
          refine g_ws (ws' := mw ad cI cZ (bu x 16 (mbr x (f + 1) q p9))) (by rw [e]) ?_
          exact K _
        · exfalso
          omega
set_option maxRecDepth 100000 in
set_option maxHeartbeats 4000000 in
theorem m_Tw_byRule {l : Launch} {D : va_G} {cI cZ cJ : ClassId} {base : Nat} {ad : Nat → Nat} (x : Bk) (q : Int) (hq : 0 ≤ q ∧ q < 1024) (hok : Ok x) (hs : sym x) (h17 : g17 x) : Cn l D cls9 (tyl cI cZ cJ) base (zz base) y_Tw_byRule (wz y_Tw_byRule c_Tw_byRule 8 none) ({ frames := 3, cells := 0, slots := 0, locals := 69 } : Room) [.ref (ad 0), .int (iI q)] (mw ad cI cZ x) (fun r w => r = none ∧ w = mw ad cI cZ (bu x 16 (mbr x 1024 q (x 16)))) 0 0 := by
  refine Cn_of (zzG base) (by decide) rfl (Nat.le_of_ble_eq_true rfl) ?_
  intro p e s m args below meth c A C hr hA hnm
  have C : gC p s m args meth c D cls9 (tyl cI cZ cJ) A c_Tw_byRule 8 "BatchSavingsModel" (wz y_Tw_byRule c_Tw_byRule 8 none) base (zz base) := C
  refine g_lve (lv' := [(0, .ref (ad 0)), (1, .int (iI q))]) rfl ?_
  refine g_iload_n C (q := 1) d_Tw_byRule_0 rfl rfl ?_
  refine g_istore_n C (lv' := [(0, .ref (ad 0)), (1, .int (iI q)), (2, .int (iI q))]) d_Tw_byRule_1 rfl (by decide) rfl rfl ?_
  refine g_iconst C d_Tw_byRule_2 ?_
  refine g_istore_n C (lv' := [(0, .ref (ad 0)), (1, .int (iI q)), (2, .int (iI q)), (3, .int (iI 1))]) d_Tw_byRule_3 rfl (by decide) rfl rfl ?_
  refine g_ws (ws' := mw ad cI cZ (bu x 16 (x 16))) rfl ?_
  refine lp_Tw_br0 C x q hok hs h17 1024 q (x 16) (by omega) (by omega) (by omega) hok.r16 (fun lv' => ?_)
  exact g_vret C hA hr d_Tw_byRule_167 (by decide) (by decide) ⟨rfl, rfl⟩
set_option maxRecDepth 100000 in
set_option maxHeartbeats 4000000 in
theorem lp_Tw_match {p : Program} {l : Launch} {e : Env} {s : State} {m : MethodId} {args : Array Value} {below : List Frame} {meth : Method} {c : Code} {D : va_G} {cI cZ cJ : ClassId} {base : Nat} {ad : Nat → Nat} {A : Nat → Prop} {Q : State → Prop} (C : gC p s m args meth c D cls9 (tyl cI cZ cJ) A c_Tw_match 4 "BatchSavingsModel" (wz y_Tw_match c_Tw_match 4 (some FieldType.int)) base (zz base)) (x : Bk) (v : Int) (hok : Ok x)
    (K : gW p l e ({ frames := 4, cells := 0, slots := 0, locals := 96 } : Room) s m args below meth c D cls9 A 4 0 0 Q (mw ad cI cZ (bu x 16 (fl (x 16) (-1) ((x 1 0).toNat)))) [(0, .ref (ad 0)), (1, .int (iI v)), (2, .int (iI (frq x ((x 1 0).toNat)))), (3, .int (iI ((x 1 0).toNat : Int)))] 71 []) : ∀ (d k : Nat), (k : Int) + (d : Int) = x 1 0 → gW p l e ({ frames := 4, cells := 0, slots := 0, locals := 96 } : Room) s m args below meth c D cls9 A 4 0 0 Q (mw ad cI cZ (bu x 16 (fl (x 16) (-1) k))) [(0, .ref (ad 0)), (1, .int (iI v)), (2, .int (iI (frq x k))), (3, .int (iI (k : Int)))] 32 [] := by
  intro d
  induction d with
  | zero =>
    intro k hk
    have hn := hok.n
    refine g_iload_n C (q := 3) d_Tw_match_32 rfl rfl ?_
    refine g_aload_n C (q := 0) d_Tw_match_33 rfl rfl ?_
    refine gG C (v := .int (iI (x 1 0))) 0 1 u_Tw k_649 (mwo_0 _) rfl (by decide) rfl rfl d_Tw_match_34 ?_
    refine g_icmp_ge C (tgt := 71) d_Tw_match_37 rfl (by omega) (by omega) (fun h37_1 => ?_) (fun h37_1 => ?_)
    · obtain rfl : k = (x 1 0).toNat := by omega
      exact K
    · exfalso
      omega
  | succ d ih =>
    intro k hk
    have hn := hok.n
    have h15 := hok.r15 (k : Int) (by omega) (by omega)
    have hfq := frq_in (x := x) k (by omega)
    refine g_iload_n C (q := 3) d_Tw_match_32 rfl rfl ?_
    refine g_aload_n C (q := 0) d_Tw_match_33 rfl rfl ?_
    refine gG C (v := .int (iI (x 1 0))) 0 1 u_Tw k_649 (mwo_0 _) rfl (by decide) rfl rfl d_Tw_match_34 ?_
    refine g_icmp_ge C (tgt := 71) d_Tw_match_37 rfl (by omega) (by omega) (fun h37_1 => ?_) (fun h37_1 => ?_)
    · exfalso
      omega
    · refine g_aload_n C (q := 0) d_Tw_match_40 rfl rfl ?_
      refine gG C (v := .ref (ad 8)) 0 11 u_Tw k_659 (mwo_0 _) rfl (by decide) rfl rfl d_Tw_match_41 ?_
      refine g_iload_n C (q := 3) d_Tw_match_44 rfl rfl ?_
      refine g_iconst C d_Tw_match_45 ?_
      refine g_iast C 8 0 (mwa_8 _) rfl (by decide) (by omega) d_Tw_match_46 (mws_8 _ _) ?_
      refine g_ws (ws' := mw ad cI cZ (bu (bu x 16 (fl (x 16) (-1) k)) 16 (updI (fl (x 16) (-1) k) (k : Int) (-1)))) rfl ?_
      refine g_iload_n C (q := 2) d_Tw_match_47 rfl rfl ?_
      refine g_aload_n C (q := 0) d_Tw_match_48 rfl rfl ?_
      refine g_iload_n C (q := 3) d_Tw_match_49 rfl rfl ?_
      refine gV C (st := [.int (iI (frq x k))]) (m_Tw_isFree (bu (bu x 16 (fl (x 16) (-1) k)) 16 (updI (fl (x 16) (-1) k) (k : Int) (-1))) (k : Int) (by omega) (show InR (x 15 (k : Int)) by omega)) k_749 k_746 k_748 kp_49 k_7 rfl ho_Tw_isFree rfl rfl ⟨by decide, by decide⟩ 0 (mwo_0 _) rfl rfl rfl (Nat.le_of_ble_eq_true rfl) d_Tw_match_50 ⟨by decide, by decide⟩ (fun r w hq => ?_)
      obtain ⟨rfl, rfl⟩ := hq
      refine g_eq (ws' := mw ad cI cZ (bu (bu x 16 (fl (x 16) (-1) k)) 16 (updI (fl (x 16) (-1) k) (k : Int) (-1)))) (lv' := [(0, .ref (ad 0)), (1, .int (iI v)), (2, .int (iI (frq x k))), (3, .int (iI (k : Int)))]) (pc' := 53) (st' := [.int (iI (b01 ((x 15 (k : Int)) = -1))), .int (iI (frq x k))]) rfl rfl rfl rfl ?_
      by_cases hb50_2 : ((x 15 (k : Int)) = -1)
      · refine g_st (st' := [.int (iI 1), .int (iI (frq x k))]) (by rw [b01_t hb50_2]) ?_
        refine g_if_eq C (tgt := 62) d_Tw_match_53 rfl (by omega) (fun h53_3 => ?_) (fun h53_3 => ?_)
        · exfalso
          omega
        · refine g_iconst C d_Tw_match_56 ?_
          refine g_iload_n C (q := 3) d_Tw_match_57 rfl rfl ?_
          refine g_ishl C d_Tw_match_58 (by omega) (by omega) (by have := pw_le (o := (k : Int)) (by omega); omega) ?_
          refine g_goto C (tgt := 63) d_Tw_match_59 rfl ?_
          refine g_iorv C d_Tw_match_63 (i_ior (by omega) (by omega)) ?_
          refine g_st (st' := [.int (iI (frq x (k + 1)))]) (by first | (rw [frq_t (by omega)]; done) | (rw [frq_f (by omega)]; done)) ?_
          refine g_istore_n C (lv' := [(0, .ref (ad 0)), (1, .int (iI v)), (2, .int (iI (frq x (k + 1)))), (3, .int (iI (k : Int)))]) d_Tw_match_64 rfl (by decide) rfl rfl ?_
          refine g_iinc C (q := 3) (lv' := [(0, .ref (ad 0)), (1, .int (iI v)), (2, .int (iI (frq x (k + 1)))), (3, .int (iI ((k : Int) + 1)))]) d_Tw_match_65 rfl (by decide) rfl rfl ?_
          refine g_goto C (tgt := 32) d_Tw_match_68 rfl ?_
          refine g_ws (ws' := mw ad cI cZ (bu x 16 (fl (x 16) (-1) (k + 1)))) (by rw [← fl_s]; rfl) ?_
          exact ih (k + 1) (by omega)
      · refine g_st (st' := [.int (iI 0), .int (iI (frq x k))]) (by rw [b01_f hb50_2]) ?_
        refine g_if_eq C (tgt := 62) d_Tw_match_53 rfl (by omega) (fun h53_4 => ?_) (fun h53_4 => ?_)
        · refine g_iconst C d_Tw_match_62 ?_
          refine g_iorv C d_Tw_match_63 (i_or0 (by omega)) ?_
          refine g_st (st' := [.int (iI (frq x (k + 1)))]) (by first | (rw [frq_t (by omega)]; done) | (rw [frq_f (by omega)]; done)) ?_
          refine g_istore_n C (lv' := [(0, .ref (ad 0)), (1, .int (iI v)), (2, .int (iI (frq x (k + 1)))), (3, .int (iI (k : Int)))]) d_Tw_match_64 rfl (by decide) rfl rfl ?_
          refine g_iinc C (q := 3) (lv' := [(0, .ref (ad 0)), (1, .int (iI v)), (2, .int (iI (frq x (k + 1)))), (3, .int (iI ((k : Int) + 1)))]) d_Tw_match_65 rfl (by decide) rfl rfl ?_
          refine g_goto C (tgt := 32) d_Tw_match_68 rfl ?_
          refine g_ws (ws' := mw ad cI cZ (bu x 16 (fl (x 16) (-1) (k + 1)))) (by rw [← fl_s]; rfl) ?_
          exact ih (k + 1) (by omega)
        · exfalso
          omega
set_option maxRecDepth 100000 in
set_option maxHeartbeats 4000000 in
theorem m_Tw_match {l : Launch} {D : va_G} {cI cZ cJ : ClassId} {base : Nat} {ad : Nat → Nat} (x : Bk) (v : Int) (hv : InR v) (hok : Ok x) (hs : sym x) (htb : tb (x 18)) : Cn l D cls9 (tyl cI cZ cJ) base (zz base) y_Tw_match (wz y_Tw_match c_Tw_match 4 (some FieldType.int)) ({ frames := 4, cells := 0, slots := 0, locals := 96 } : Room) [.ref (ad 0), .int (iI v)] (mw ad cI cZ x) (fun r w => ∃ z : Bk, w = mw ad cI cZ z ∧ ((z 0 0 = 1 ∧ (¬ (0 ≤ v ∧ v ≤ 10)) ∧ r = some (0) ∧ e0 z x) ∨ (z 0 0 = 0 ∧ (0 ≤ v ∧ v ≤ 10) ∧ r = some (svd z) ∧ (∀ j, j ≠ 0 → j ≠ 4 → j ≠ 16 → j ≠ 17 → j ≠ 18 → z j = x j) ∧ z 4 = updI (x 4) 0 (c01 (frees x ≤ v)) ∧ tb (z 18) ∧ z 16 = mpt x v))) 0 0 := by
  refine Cn_of (zzG base) (by decide) rfl (Nat.le_of_ble_eq_true rfl) ?_
  intro p e s m args below meth c A C hr hA hnm
  have C : gC p s m args meth c D cls9 (tyl cI cZ cJ) A c_Tw_match 4 "BatchSavingsModel" (wz y_Tw_match c_Tw_match 4 (some FieldType.int)) base (zz base) := C
  refine g_lve (lv' := [(0, .ref (ad 0)), (1, .int (iI v))]) rfl ?_
  have hn := hok.n
  refine g_aload_n C (q := 0) d_Tw_match_0 rfl rfl ?_
  refine g_iload_n C (q := 1) d_Tw_match_1 rfl rfl ?_
  refine g_iconst C d_Tw_match_2 ?_
  refine g_bipush C d_Tw_match_3 rfl ?_
  refine gS0 C (st := [.ref (ad 0)]) (m_Tw_in v 0 10 (by omega) (by omega) (by omega)) k_713 k_711 k_712 k_7 rfl ho_Tw_in rfl rfl ⟨by decide, by decide⟩ rfl rfl (Nat.le_of_ble_eq_true rfl) d_Tw_match_5 ⟨by decide, by decide⟩ (fun r w hq => ?_)
  obtain ⟨rfl, rfl⟩ := hq
  refine g_eq (ws' := mw ad cI cZ x) (lv' := [(0, .ref (ad 0)), (1, .int (iI v))]) (pc' := 8) (st' := [.int (iI (b01 (0 ≤ v ∧ v ≤ 10))), .ref (ad 0)]) rfl rfl rfl rfl ?_
  by_cases hb5_1 : (0 ≤ v ∧ v ≤ 10)
  · refine g_st (st' := [.int (iI 1), .ref (ad 0)]) (by rw [b01_t hb5_1]) ?_
    refine g_if_eq C (tgt := 15) d_Tw_match_8 rfl (by omega) (fun h8_2 => ?_) (fun h8_2 => ?_)
    · exfalso
      omega
    · refine g_iconst C d_Tw_match_11 ?_
      refine g_goto C (tgt := 16) d_Tw_match_12 rfl ?_
      refine gP C 0 0 t_Tw to_Tw n_Tw u_Tw k_648 (mwo_0 _) rfl (by decide) rfl rfl rfl rfl rfl (Nat.le_of_ble_eq_true rfl) d_Tw_match_16 (mwf_0_0 _ _) ?_
      refine g_ws (ws' := mw ad cI cZ (bu x 0 (updI (x 0) 0 0))) rfl ?_
      refine g_aload_n C (q := 0) d_Tw_match_19 rfl rfl ?_
      refine gG C (v := .int (iI 0)) 0 0 u_Tw k_648 (mwo_0 _) rfl (by decide) rfl rfl d_Tw_match_20 ?_
      refine g_if_le C (tgt := 28) d_Tw_match_23 rfl (by omega) (fun h23_3 => ?_) (fun h23_3 => ?_)
      · refine g_iconst C d_Tw_match_28 ?_
        refine g_istore_n C (lv' := [(0, .ref (ad 0)), (1, .int (iI v)), (2, .int (iI 0))]) d_Tw_match_29 rfl (by decide) rfl rfl ?_
        refine g_iconst C d_Tw_match_30 ?_
        refine g_istore_n C (lv' := [(0, .ref (ad 0)), (1, .int (iI v)), (2, .int (iI 0)), (3, .int (iI 0))]) d_Tw_match_31 rfl (by decide) rfl rfl ?_
        refine g_ws (ws' := mw ad cI cZ (bu (bu x 0 (updI (x 0) 0 0)) 16 (fl ((bu x 0 (updI (x 0) 0 0)) 16) (-1) 0))) (by rw [fl_0]; rfl) ?_
        refine g_lve (lv' := [(0, .ref (ad 0)), (1, .int (iI v)), (2, .int (iI (frq (bu x 0 (updI (x 0) 0 0)) 0))), (3, .int (iI ((0 : Nat) : Int)))]) rfl ?_
        refine lp_Tw_match C (bu x 0 (updI (x 0) 0 0)) v (hok.e0 (e0.sc (e0.rf x) _)) ?_ (x 1 0).toNat 0 (show ((0 : Nat) : Int) + (((x 1 0).toNat : Nat) : Int) = x 1 0 by omega)
        refine g_eq (ws' := mw ad cI cZ (bu (bu x 0 (updI (x 0) 0 0)) 16 (fl (x 16) (-1) (x 1 0).toNat))) (lv' := [(0, .ref (ad 0)), (1, .int (iI v)), (2, .int (iI (frq x (x 1 0).toNat))), (3, .int (iI ((x 1 0).toNat : Int)))]) (pc' := 71) (st' := []) rfl (by rw [frq_e0 (e0.sc (e0.rf x) _)]; rfl) rfl rfl ?_
        have hfq := frq_in (x := x) (x 1 0).toNat (by omega)
        have hbits : ∀ i, 0 ≤ i → bt (frq x (x 1 0).toNat) i → i < x 1 0 := fun i i0 ib => by have := (bt_frq (x := x) (x 1 0).toNat (by omega) i0).mp ib; omega
        have hfr := frees_bd hok
        refine g_aload_n C (q := 0) d_Tw_match_71 rfl rfl ?_
        refine g_aload_n C (q := 0) d_Tw_match_72 rfl rfl ?_
        refine gV C (st := [.ref (ad 0)]) (m_Tw_freeOnes (bu (bu x 0 (updI (x 0) 0 0)) 16 (fl (x 16) (-1) (x 1 0).toNat)) ((hok.e0 (e0.sc (e0.rf x) _)).p16 (fl_in2 hok.r16 (x 1 0).toNat))) k_765 k_762 k_764 kp_50 k_7 rfl ho_Tw_freeOnes rfl rfl ⟨by decide, by decide⟩ 0 (mwo_0 _) rfl rfl rfl (Nat.le_of_ble_eq_true rfl) d_Tw_match_73 ⟨by decide, by decide⟩ (fun r w hq => ?_)
        obtain ⟨rfl, rfl⟩ := hq
        refine g_eq (ws' := mw ad cI cZ (bu (bu x 0 (updI (x 0) 0 0)) 16 (fl (x 16) (-1) (x 1 0).toNat))) (lv' := [(0, .ref (ad 0)), (1, .int (iI v)), (2, .int (iI (frq x (x 1 0).toNat))), (3, .int (iI ((x 1 0).toNat : Int)))]) (pc' := 76) (st' := [.int (iI (frees (bu (bu x 0 (updI (x 0) 0 0)) 16 (fl (x 16) (-1) (x 1 0).toNat)))), .ref (ad 0)]) rfl rfl rfl rfl ?_
        refine g_st (st' := [.int (iI (frees x)), .ref (ad 0)]) rfl ?_
        refine g_iload_n C (q := 1) d_Tw_match_76 rfl rfl ?_
        refine g_icmp_gt C (tgt := 84) d_Tw_match_77 rfl (by omega) (by omega) (fun h77_1 => ?_) (fun h77_1 => ?_)
        · refine g_iconst C d_Tw_match_84 ?_
          refine gP C 0 12 t_Tw to_Tw n_Tw u_Tw k_660 (mwo_0 _) rfl (by decide) rfl rfl rfl (nar_zb (by omega)) (fit_z (by omega)) (Nat.le_of_ble_eq_true rfl) d_Tw_match_85 (mwf_0_12 _ _) ?_
          refine g_ws (ws' := mw ad cI cZ (bu (bu (bu x 0 (updI (x 0) 0 0)) 16 (fl (x 16) (-1) (x 1 0).toNat)) 4 (updI (x 4) 0 0))) rfl ?_
          refine g_aload_n C (q := 0) d_Tw_match_88 rfl rfl ?_
          refine gG C (v := .int (iI 0)) 0 12 u_Tw k_660 (mwo_0 _) rfl (by decide) rfl rfl d_Tw_match_89 ?_
          refine g_if_eq C (tgt := 103) d_Tw_match_92 rfl (by omega) (fun h92_2 => ?_) (fun h92_2 => ?_)
          · refine g_aload_n C (q := 0) d_Tw_match_103 rfl rfl ?_
            refine g_iload_n C (q := 2) d_Tw_match_104 rfl rfl ?_
            obtain ⟨X, hX⟩ : ∃ X : Bk, X = (bu (bu (bu (bu x 0 (updI (x 0) 0 0)) 16 (fl (x 16) (-1) (x 1 0).toNat)) 4 (updI (x 4) 0 0)) 17 (gmt x)) := ⟨_, rfl⟩
            refine g_ws (ws' := mw ad cI cZ X) (by rw [hX]; rfl) ?_
            have x1 : X 1 = x 1 := by rw [hX]; rfl
            have x16 : X 16 = (fl (x 16) (-1) (x 1 0).toNat) := by rw [hX]; rfl
            have x17 : X 17 = gmt x := by rw [hX]; rfl
            have x18 : X 18 = x 18 := by rw [hX]; rfl
            have x4 : X 4 = updI (x 4) 0 0 := by rw [hX]; rfl
            have x0 : X 0 0 = 0 := by rw [hX]; rfl
            have xj : ∀ j, j ≠ 0 → j ≠ 4 → j ≠ 16 → j ≠ 17 → j ≠ 18 → X j = x j := fun j j0 j4 j16 j17 j18 => by
              rw [hX, bu_n j17, bu_n j4, bu_n j16, bu_n j0]
            clear hX
            have okX : Ok X := hok.mm xj (by rw [x4, updI_s]; omega) (fun i h0 h1 => by rw [x16]; exact fl_in2 hok.r16 _ i h0 h1)
            have gX : g17 X := g17_mm hok xj x17
            have rX : rng X 17 100 0 20000 := fun i h0 h1 => by rw [x17]; exact xR_rng hok i h0 h1
            have tX : tb (X 18) := by rw [x18]; exact htb
            have bX : ∀ i, 0 ≤ i → bt (frq x (x 1 0).toNat) i → i < X 1 0 := by rw [x1]; exact hbits
            have nX : 0 ≤ X 1 0 ∧ X 1 0 ≤ 10 := by rw [x1]; exact hn
            refine gV C (st := []) (m_Tw_byRule X (frq x (x 1 0).toNat) hfq okX (sym_mm hs xj) gX) k_784 k_781 k_783 kp_54 k_7 rfl ho_Tw_byRule rfl rfl ⟨by decide, by decide⟩ 0 (mwo_0 _) rfl rfl rfl (Nat.le_of_ble_eq_true rfl) d_Tw_match_105 ⟨by decide, by decide⟩ (fun r w hq => ?_)
            obtain ⟨rfl, rfl⟩ := hq
            have hP := mpt_br (X := X) (v := v) (by omega) x1 x16 x17
            have hI : ∀ i, 0 ≤ i → i < 10 → -1 ≤ mpt x v i ∧ mpt x v i ≤ 9 := by rw [← hP]; exact mbr_in gX nX 1024 _ _ hfq (by rw [x16]; exact fl_in2 hok.r16 _)
            rw [hP]
            obtain ⟨z9, hz9⟩ : ∃ z9 : Bk, z9 = bu X 16 (mpt x v) := ⟨_, rfl⟩
            refine g_eq (ws' := mw ad cI cZ z9) (lv' := [(0, .ref (ad 0)), (1, .int (iI v)), (2, .int (iI (frq x (x 1 0).toNat))), (3, .int (iI ((x 1 0).toNat : Int)))]) (pc' := 108) (st' := []) (by rw [hz9]) rfl rfl rfl ?_
            have e16 : z9 16 = mpt x v := by rw [hz9, bu_s]
            have e18 : tb (z9 18) := by rw [hz9, bu_n (by decide)]; exact tX
            have e4 : z9 4 = updI (x 4) 0 (c01 (frees x ≤ v)) := by rw [hz9, bu_n (by decide), x4, c01_f (by omega)]
            have e00 : z9 0 0 = 0 := by rw [hz9, bu_n (by decide)]; exact x0
            have ej : ∀ j, j ≠ 0 → j ≠ 4 → j ≠ 16 → j ≠ 17 → j ≠ 18 → z9 j = x j := fun j j0 j4 j16 j17 j18 => by rw [hz9, bu_n j16]; exact xj j j0 j4 j16 j17 j18
            have ok9 : Ok z9 := hok.mm ej (by rw [e4, updI_s]; exact c01_b _) (fun i h0 h1 => by rw [e16]; exact hI i h0 h1)
            refine g_aload_n C (q := 0) d_Tw_match_108 rfl rfl ?_
            refine gV C (st := []) (m_Tw_pairSavings z9 ok9) k_788 k_785 k_787 kp_55 k_7 rfl ho_Tw_pairSavings rfl rfl ⟨by decide, by decide⟩ 0 (mwo_0 _) rfl rfl rfl (Nat.le_of_ble_eq_true rfl) d_Tw_match_109 ⟨by decide, by decide⟩ (fun r w hq => ?_)
            obtain ⟨rfl, rfl⟩ := hq
            refine g_eq (ws' := mw ad cI cZ z9) (lv' := [(0, .ref (ad 0)), (1, .int (iI v)), (2, .int (iI (frq x (x 1 0).toNat))), (3, .int (iI ((x 1 0).toNat : Int)))]) (pc' := 112) (st' := [.int (iI (svd z9))]) rfl rfl rfl rfl ?_
            exact g_iret C hA hr d_Tw_match_112 (by decide) (by decide) ⟨_, rfl, Or.inr ⟨e00, by omega, rfl, ej, e4, e18, e16⟩⟩
          · exfalso
            omega
        · refine g_iconst C d_Tw_match_80 ?_
          refine g_goto C (tgt := 85) d_Tw_match_81 rfl ?_
          refine gP C 0 12 t_Tw to_Tw n_Tw u_Tw k_660 (mwo_0 _) rfl (by decide) rfl rfl rfl (nar_zb (by omega)) (fit_z (by omega)) (Nat.le_of_ble_eq_true rfl) d_Tw_match_85 (mwf_0_12 _ _) ?_
          refine g_ws (ws' := mw ad cI cZ (bu (bu (bu x 0 (updI (x 0) 0 0)) 16 (fl (x 16) (-1) (x 1 0).toNat)) 4 (updI (x 4) 0 1))) rfl ?_
          refine g_aload_n C (q := 0) d_Tw_match_88 rfl rfl ?_
          refine gG C (v := .int (iI 1)) 0 12 u_Tw k_660 (mwo_0 _) rfl (by decide) rfl rfl d_Tw_match_89 ?_
          refine g_if_eq C (tgt := 103) d_Tw_match_92 rfl (by omega) (fun h92_3 => ?_) (fun h92_3 => ?_)
          · exfalso
            omega
          · refine g_aload_n C (q := 0) d_Tw_match_95 rfl rfl ?_
            refine g_iload_n C (q := 2) d_Tw_match_96 rfl rfl ?_
            obtain ⟨X, hX⟩ : ∃ X : Bk, X = (bu (bu (bu (bu x 0 (updI (x 0) 0 0)) 16 (fl (x 16) (-1) (x 1 0).toNat)) 4 (updI (x 4) 0 1)) 17 (gmt x)) := ⟨_, rfl⟩
            refine g_ws (ws' := mw ad cI cZ X) (by rw [hX]; rfl) ?_
            have x1 : X 1 = x 1 := by rw [hX]; rfl
            have x16 : X 16 = (fl (x 16) (-1) (x 1 0).toNat) := by rw [hX]; rfl
            have x17 : X 17 = gmt x := by rw [hX]; rfl
            have x18 : X 18 = x 18 := by rw [hX]; rfl
            have x4 : X 4 = updI (x 4) 0 1 := by rw [hX]; rfl
            have x0 : X 0 0 = 0 := by rw [hX]; rfl
            have xj : ∀ j, j ≠ 0 → j ≠ 4 → j ≠ 16 → j ≠ 17 → j ≠ 18 → X j = x j := fun j j0 j4 j16 j17 j18 => by
              rw [hX, bu_n j17, bu_n j4, bu_n j16, bu_n j0]
            clear hX
            have okX : Ok X := hok.mm xj (by rw [x4, updI_s]; omega) (fun i h0 h1 => by rw [x16]; exact fl_in2 hok.r16 _ i h0 h1)
            have gX : g17 X := g17_mm hok xj x17
            have rX : rng X 17 100 0 20000 := fun i h0 h1 => by rw [x17]; exact xR_rng hok i h0 h1
            have tX : tb (X 18) := by rw [x18]; exact htb
            have bX : ∀ i, 0 ≤ i → bt (frq x (x 1 0).toNat) i → i < X 1 0 := by rw [x1]; exact hbits
            have nX : 0 ≤ X 1 0 ∧ X 1 0 ≤ 10 := by rw [x1]; exact hn
            refine gV C (st := []) (m_Tw_exactly X (frq x (x 1 0).toNat) hfq bX tX okX (sym_mm hs xj) gX rX) k_769 k_766 k_768 kp_51 k_7 rfl ho_Tw_exactly rfl rfl ⟨by decide, by decide⟩ 0 (mwo_0 _) rfl rfl rfl (Nat.le_of_ble_eq_true rfl) d_Tw_match_97 ⟨by decide, by decide⟩ (fun r w hq => ?_)
            obtain ⟨rfl, rfl⟩ := hq
            have hP := mpt_ex (X := X) (v := v) (by omega) x1 x16 x17 x18
            have hI : ∀ i, 0 ≤ i → i < 10 → -1 ≤ mpt x v i ∧ mpt x v i ≤ 9 := by rw [← hP]; exact mex_in (by rw [bu_n (by decide)]; exact nX) 1024 _ _ hfq (by rw [x16]; exact fl_in2 hok.r16 _)
            rw [hP]
            obtain ⟨z9, hz9⟩ : ∃ z9 : Bk, z9 = bu (bu X 18 (mT X (pw (X 1 0) - 1).toNat)) 16 (mpt x v) := ⟨_, rfl⟩
            refine g_eq (ws' := mw ad cI cZ z9) (lv' := [(0, .ref (ad 0)), (1, .int (iI v)), (2, .int (iI (frq x (x 1 0).toNat))), (3, .int (iI ((x 1 0).toNat : Int)))]) (pc' := 100) (st' := []) (by rw [hz9]) rfl rfl rfl ?_
            have e16 : z9 16 = mpt x v := by rw [hz9, bu_s]
            have e18 : tb (z9 18) := by rw [hz9, bu_n (by decide), bu_s]; exact mT_tb nX rX tX _ (by have := pw_le (o := X 1 0) nX; omega)
            have e4 : z9 4 = updI (x 4) 0 (c01 (frees x ≤ v)) := by rw [hz9, bu_n (by decide), bu_n (by decide), x4, c01_t (by omega)]
            have e00 : z9 0 0 = 0 := by rw [hz9, bu_n (by decide), bu_n (by decide)]; exact x0
            have ej : ∀ j, j ≠ 0 → j ≠ 4 → j ≠ 16 → j ≠ 17 → j ≠ 18 → z9 j = x j := fun j j0 j4 j16 j17 j18 => by rw [hz9, bu_n j16, bu_n j18]; exact xj j j0 j4 j16 j17 j18
            have ok9 : Ok z9 := hok.mm ej (by rw [e4, updI_s]; exact c01_b _) (fun i h0 h1 => by rw [e16]; exact hI i h0 h1)
            refine g_goto C (tgt := 108) d_Tw_match_100 rfl ?_
            refine g_aload_n C (q := 0) d_Tw_match_108 rfl rfl ?_
            refine gV C (st := []) (m_Tw_pairSavings z9 ok9) k_788 k_785 k_787 kp_55 k_7 rfl ho_Tw_pairSavings rfl rfl ⟨by decide, by decide⟩ 0 (mwo_0 _) rfl rfl rfl (Nat.le_of_ble_eq_true rfl) d_Tw_match_109 ⟨by decide, by decide⟩ (fun r w hq => ?_)
            obtain ⟨rfl, rfl⟩ := hq
            refine g_eq (ws' := mw ad cI cZ z9) (lv' := [(0, .ref (ad 0)), (1, .int (iI v)), (2, .int (iI (frq x (x 1 0).toNat))), (3, .int (iI ((x 1 0).toNat : Int)))]) (pc' := 112) (st' := [.int (iI (svd z9))]) rfl rfl rfl rfl ?_
            exact g_iret C hA hr d_Tw_match_112 (by decide) (by decide) ⟨_, rfl, Or.inr ⟨e00, by omega, rfl, ej, e4, e18, e16⟩⟩
      · exfalso
        omega
  · refine g_st (st' := [.int (iI 0), .ref (ad 0)]) (by rw [b01_f hb5_1]) ?_
    refine g_if_eq C (tgt := 15) d_Tw_match_8 rfl (by omega) (fun h8_4 => ?_) (fun h8_4 => ?_)
    · refine g_iconst C d_Tw_match_15 ?_
      refine gP C 0 0 t_Tw to_Tw n_Tw u_Tw k_648 (mwo_0 _) rfl (by decide) rfl rfl rfl rfl rfl (Nat.le_of_ble_eq_true rfl) d_Tw_match_16 (mwf_0_0 _ _) ?_
      refine g_ws (ws' := mw ad cI cZ (bu x 0 (updI (x 0) 0 1))) rfl ?_
      refine g_aload_n C (q := 0) d_Tw_match_19 rfl rfl ?_
      refine gG C (v := .int (iI 1)) 0 0 u_Tw k_648 (mwo_0 _) rfl (by decide) rfl rfl d_Tw_match_20 ?_
      refine g_if_le C (tgt := 28) d_Tw_match_23 rfl (by omega) (fun h23_5 => ?_) (fun h23_5 => ?_)
      · exfalso
        omega
      · refine g_iconst C d_Tw_match_26 ?_
        exact g_iret C hA hr d_Tw_match_27 (by decide) (by decide) ⟨_, rfl, Or.inl ⟨rfl, by omega, rfl, (e0.sc (e0.rf x) _)⟩⟩
    · exfalso
      omega
