theorem x00_iv : Iv x00 := by
  have c0 : ∀ hi : Int, 0 ≤ hi → (0 : Int) ≤ 0 ∧ (0 : Int) ≤ hi := fun hi h => ⟨Int.le_refl 0, h⟩
  have f9 : ∀ (n : Nat) (hi : Int), 0 ≤ hi → ∀ i : Int, -1 ≤ fl (fun _ => 0) (-1) n i ∧ fl (fun _ => 0) (-1) n i ≤ hi := fun n hi h i => by
    unfold fl
    split
    · omega
    · exact ⟨(by decide : (-1 : Int) ≤ 0), h⟩
  have hu : ∀ (f : Int → Int) (k : Int), (∀ i, 0 ≤ f i ∧ f i ≤ 1) → ∀ i, 0 ≤ updI f k 1 i ∧ updI f k 1 i ≤ 1 := fun f k h i => by
    unfold updI
    split
    · omega
    · exact h i
  have f11 : ∀ (n : Nat) (i : Int), 0 ≤ dg (fun _ => 0) n i ∧ dg (fun _ => 0) n i ≤ 1 := fun n => by
    induction n with
    | zero => exact fun i => c0 1 (by omega)
    | succ n ih => exact fun i => hu _ _ ih i
  have hok : Ok x00 := ⟨by decide, by decide, by decide, by decide, by decide, fun i _ _ => c0 10000 (by omega), fun i _ _ => c0 100 (by omega), fun i _ _ => c0 3 (by omega), fun i _ _ => c0 1000 (by omega), fun i _ _ => f9 100 20000 (by omega) i, fun i _ _ => c0 1 (by omega), fun i _ _ => f11 4 i, fun i _ _ => c0 9 (by omega), fun i _ _ => c0 4 (by omega), fun i _ _ => f9 10 9 (by omega) i, fun i _ _ => f9 10 9 (by omega) i⟩
  refine ⟨hok, ⟨fun a b _ _ _ _ => rfl, fun a b a0 a1 b0 b1 => ?_⟩, fun b h0 h1 => ?_, fun _ _ _ => rfl, fun i i0 i1 => Or.inl ?_, fun i _ _ => c0 20000 (by omega), fun q h0 h1 => ?_⟩
  · rcases (show a = 0 ∨ a = 1 ∨ a = 2 ∨ a = 3 by omega) with rfl | rfl | rfl | rfl <;> rcases (show b = 0 ∨ b = 1 ∨ b = 2 ∨ b = 3 by omega) with rfl | rfl | rfl | rfl <;> first | rfl | decide
  · exact absurd h1 (Int.not_lt.mpr h0)
  · show fl (fun _ => 0) (-1) 10 i = -1
    unfold fl
    exact if_pos ⟨i0, by omega⟩
  · have h3 := pop_in ⟨h0, h1⟩
    exact ⟨Int.le_refl 0, show (0 : Int) ≤ 20000 * popc q by omega⟩
theorem x00_i2 : I2 x00 x00 := ⟨x00_iv, ⟨fun _ _ _ _ _ _ => rfl, rfl, rfl⟩, x00_iv.t⟩
set_option maxRecDepth 100000 in
set_option maxHeartbeats 4000000 in
theorem law_loop {p : Program} {l : Launch} {e : Env} {s : State} {m : MethodId} {args : Array Value} {below : List Frame} {meth : Method} {c : Code} {D : va_G} {cI cZ cJ : ClassId} {base : Nat} {A : Nat → Prop} {Q : State → Prop} {b L : Nat} {xs : Nat → Int32} {ad md : Nat → Nat} {qo : Nat} (C : gC p s m args meth c D cls9 (tyl cI cZ cJ) A code 7 "BatchSavingsLaw" lw_tbl base (zz base)) (hX : va_X b L xs s s.heap) (hbl : b < s.heap.size) (hbA : ¬ A b) (hl : l.stackTraces = false) (hL : L ≤ 2048)
    (hend : ∀ (cells slots : Nat) (x y : Bk) (jf : Nat → Int64) (j : Nat), cells ≤ 1071 → slots ≤ 11127 → gW p l e room_1 s m args below meth c D cls9 A 7 cells slots Q (lbw ad md cI cZ cJ qo jf x y) [(0, .ref b), (1, .ref (ad 0)), (2, .ref (md 0)), (3, .ref qo), (4, .int (iI (4 * (j : Int))))] 1318 []) :
    ∀ (n j : Nat), L < 4 * j + 4 * n + 4 → 4 * j ≤ 2048 → ∀ (x y : Bk) (jf : Nat → Int64), I2 x y → gW p l e room_1 s m args below meth c D cls9 A 7 (33 + j) (2851 + 6 * j) Q (lbw ad md cI cZ cJ qo jf x y) [(0, .ref b), (1, .ref (ad 0)), (2, .ref (md 0)), (3, .ref qo), (4, .int (iI (4 * (j : Int))))] 23 [] := by
  intro n
  induction n with
  | zero =>
    intro j hn hj x y jf hI
    refine g_iload C (q := 4) d_law_23 rfl ?_
    refine g_aload_n C (q := 0) d_law_25 rfl rfl ?_
    refine g_slen C hX hbl hbA d_law_26 ?_
    refine g_iconst C d_law_27 ?_
    refine g_isub C d_law_28 ?_
    refine g_icmp_gt C (tgt := 1318) d_law_29 rfl (by omega) (by omega) (fun h29_1 => ?_) (fun h29_1 => ?_)
    · exact hend _ _ _ _ _ _ (by omega) (by omega)
    · exfalso
      omega
  | succ n ih =>
    intro j hn hj x y jf hI
    have K : ∀ (x' y' : Bk) (jf' : Nat → Int64), I2 x' y' → 4 * j + 4 ≤ L → gW p l e room_1 s m args below meth c D cls9 A 7 (33 + j + 1) (2851 + 6 * j + 6) Q (lbw ad md cI cZ cJ qo jf' x' y') [(0, .ref b), (1, .ref (ad 0)), (2, .ref (md 0)), (3, .ref qo), (4, .int (iI (4 * (j : Int))))] 1312 [] := by
      intro x' y' jf' hI' hj4
      refine g_iinc C (q := 4) (lv' := [(0, .ref b), (1, .ref (ad 0)), (2, .ref (md 0)), (3, .ref qo), (4, .int (iI ((4 * (j : Int)) + 4)))]) d_law_1312 rfl (by decide) rfl rfl ?_
      refine g_goto C (tgt := 23) d_law_1315 rfl ?_
      refine g_lve (lv' := [(0, .ref b), (1, .ref (ad 0)), (2, .ref (md 0)), (3, .ref qo), (4, .int (iI (4 * ((j + 1 : Nat) : Int))))]) (by rw [show (4 * (j : Int)) + 4 = 4 * ((j + 1 : Nat) : Int) by omega]) ?_
      refine g_widen (k := 33 + (j + 1)) (n := 2851 + 6 * (j + 1)) (by omega) (by omega) ?_
      exact ih (j + 1) (by omega) (by omega) x' y' jf' hI'
    refine g_iload C (q := 4) d_law_23 rfl ?_
    refine g_aload_n C (q := 0) d_law_25 rfl rfl ?_
    refine g_slen C hX hbl hbA d_law_26 ?_
    refine g_iconst C d_law_27 ?_
    refine g_isub C d_law_28 ?_
    refine g_icmp_gt C (tgt := 1318) d_law_29 rfl (by omega) (by omega) (fun h29_1 => ?_) (fun h29_1 => ?_)
    · exact hend _ _ _ _ _ _ (by omega) (by omega)
    · have hj4 : 4 * j + 4 ≤ L := by omega
      have K := fun x' y' jf' h => K x' y' jf' h hj4
      refine g_aload_n C (q := 0) d_law_32 rfl rfl ?_
      refine g_iload C (q := 4) d_law_33 rfl ?_
      refine g_sld C hX hbl hbA (n := 4 * j + 0) (by omega) (by omega) hL d_law_35 ?_
      refine g_bipush C d_law_36 rfl ?_
      obtain ⟨z, hz, hz0, hz1⟩ := and31 (iI ((xs (4 * j + 0)).toInt))
      refine g_iandv C d_law_38 hz ?_
      by_cases h18 : 18 < z
      · refine g_tout C (tgt := 1312) d_law_39 (by omega) (Or.inr h18) rfl ?_
        refine g_widen (k := 33 + j + 1) (n := 2851 + 6 * j + 6) (by omega) (by omega) ?_
        exact K _ _ _ hI
      · obtain hs | hs | hs | hs | hs | hs | hs | hs | hs | hs | hs | hs | hs | hs | hs | hs | hs | hs | hs : z = 0 ∨ z = 1 ∨ z = 2 ∨ z = 3 ∨ z = 4 ∨ z = 5 ∨ z = 6 ∨ z = 7 ∨ z = 8 ∨ z = 9 ∨ z = 10 ∨ z = 11 ∨ z = 12 ∨ z = 13 ∨ z = 14 ∨ z = 15 ∨ z = 16 ∨ z = 17 ∨ z = 18 := by omega
        · refine g_tin C (tgt := 128) (off := 89) d_law_39 (by omega) (by omega) (by rw [hs]; rfl) rfl ?_
          exact lw_order C hX hbl hbA hl hL ⟨by omega, by omega⟩ x y jf j (by omega) hI K
        · refine g_tin C (tgt := 208) (off := 169) d_law_39 (by omega) (by omega) (by rw [hs]; rfl) rfl ?_
          exact lw_joined C hX hbl hbA hl hL ⟨by omega, by omega⟩ x y jf j (by omega) hI K
        · refine g_tin C (tgt := 288) (off := 249) d_law_39 (by omega) (by omega) (by rw [hs]; rfl) rfl ?_
          exact lw_saving C hX hbl hbA hl hL ⟨by omega, by omega⟩ x y jf j (by omega) hI K
        · refine g_tin C (tgt := 356) (off := 317) d_law_39 (by omega) (by omega) (by rw [hs]; rfl) rfl ?_
          exact lw_rule C hX hbl hbA hl hL ⟨by omega, by omega⟩ x y jf j (by omega) hI K
        · refine g_tin C (tgt := 459) (off := 420) d_law_39 (by omega) (by omega) (by rw [hs]; rfl) rfl ?_
          exact lw_weight C hX hbl hbA hl hL ⟨by omega, by omega⟩ x y jf j (by omega) hI K
        · refine g_tin C (tgt := 534) (off := 495) d_law_39 (by omega) (by omega) (by rw [hs]; rfl) rfl ?_
          exact lw_near C hX hbl hbA hl hL ⟨by omega, by omega⟩ x y jf j (by omega) hI K
        · refine g_tin C (tgt := 610) (off := 571) d_law_39 (by omega) (by omega) (by rw [hs]; rfl) rfl ?_
          exact lw_limit C hX hbl hbA hl hL ⟨by omega, by omega⟩ x y jf j (by omega) hI K
        · refine g_tin C (tgt := 678) (off := 639) d_law_39 (by omega) (by omega) (by rw [hs]; rfl) rfl ?_
          exact lw_match C hX hbl hbA hl hL ⟨by omega, by omega⟩ x y jf j (by omega) hI K
        · refine g_tin C (tgt := 734) (off := 695) d_law_39 (by omega) (by omega) (by rw [hs]; rfl) rfl ?_
          exact lw_exact C hX hbl hbA hl hL ⟨by omega, by omega⟩ x y jf j (by omega) hI K
        · refine g_tin C (tgt := 747) (off := 708) d_law_39 (by omega) (by omega) (by rw [hs]; rfl) rfl ?_
          exact lw_with C hX hbl hbA hl hL ⟨by omega, by omega⟩ x y jf j (by omega) hI K
        · refine g_tin C (tgt := 803) (off := 764) d_law_39 (by omega) (by omega) (by rw [hs]; rfl) rfl ?_
          exact lw_open C hX hbl hbA hl hL ⟨by omega, by omega⟩ x y jf j (by omega) hI K
        · refine g_tin C (tgt := 859) (off := 820) d_law_39 (by omega) (by omega) (by rw [hs]; rfl) rfl ?_
          exact lw_join C hX hbl hbA hl hL ⟨by omega, by omega⟩ x y jf j (by omega) hI K
        · refine g_tin C (tgt := 927) (off := 888) d_law_39 (by omega) (by omega) (by rw [hs]; rfl) rfl ?_
          exact lw_leave C hX hbl hbA hl hL ⟨by omega, by omega⟩ x y jf j (by omega) hI K
        · refine g_tin C (tgt := 983) (off := 944) d_law_39 (by omega) (by omega) (by rw [hs]; rfl) rfl ?_
          exact lw_batch C hX hbl hbA hl hL ⟨by omega, by omega⟩ x y jf j (by omega) hI K
        · refine g_tin C (tgt := 1039) (off := 1000) d_law_39 (by omega) (by omega) (by rw [hs]; rfl) rfl ?_
          exact lw_told C hX hbl hbA hl hL ⟨by omega, by omega⟩ x y jf j (by omega) hI K
        · refine g_tin C (tgt := 1119) (off := 1080) d_law_39 (by omega) (by omega) (by rw [hs]; rfl) rfl ?_
          exact lw_best C hX hbl hbA hl hL ⟨by omega, by omega⟩ x y jf j (by omega) hI K
        · refine g_tin C (tgt := 1175) (off := 1136) d_law_39 (by omega) (by omega) (by rw [hs]; rfl) rfl ?_
          exact lw_share C hX hbl hbA hl hL ⟨by omega, by omega⟩ x y jf j (by omega) hI K
        · refine g_tin C (tgt := 1243) (off := 1204) d_law_39 (by omega) (by omega) (by rw [hs]; rfl) rfl ?_
          exact lw_mean C hX hbl hbA hl hL ⟨by omega, by omega⟩ x y jf j (by omega) hI K
        · refine g_tin C (tgt := 1287) (off := 1248) d_law_39 (by omega) (by omega) (by rw [hs]; rfl) rfl ?_
          exact lw_count C hX hbl hbA hl hL ⟨by omega, by omega⟩ x y jf j (by omega) hI K
set_option maxRecDepth 100000 in
set_option maxHeartbeats 4000000 in
theorem law_entry {p : Program} {l : Launch} {e : Env} {s : State} {m : MethodId} {args : Array Value} {below : List Frame} {meth : Method} {c : Code} {D : va_G} {cI cZ cJ : ClassId} {base : Nat} {A : Nat → Prop} {Q : State → Prop} {b L : Nat} {xs : Nat → Int32} (C : gC p s m args meth c D cls9 (tyl cI cZ cJ) A code 7 "BatchSavingsLaw" lw_tbl base (zz base)) (hX : va_X b L xs s s.heap) (hbl : b < s.heap.size) (hbA : ¬ A b) (hl : l.stackTraces = false) (hL : L ≤ 2048)
    (hend : ∀ (ad md : Nat → Nat) (qo cells slots : Nat) (x y : Bk) (jf : Nat → Int64) (j : Nat), cells ≤ 1071 → slots ≤ 11127 → gW p l e room_1 s m args below meth c D cls9 A 7 cells slots Q (lbw ad md cI cZ cJ qo jf x y) [(0, .ref b), (1, .ref (ad 0)), (2, .ref (md 0)), (3, .ref qo), (4, .int (iI (4 * (j : Int))))] 1318 []) : gW p l e room_1 s m args below meth c D cls9 A 7 0 0 Q [] [(0, .ref b)] 0 [] := by
  refine g_newF C lw_in (ci := 0) (fs := [.null, .null, .null, .null]) t_S to_S u_S k_18 k_19 k_1 rfl (fun j hj => by rcases (show j = 0 ∨ j = 1 ∨ j = 2 ∨ j = 3 by omega) with rfl | rfl | rfl | rfl <;> rfl) (by decide) (by decide) d_law_0 (fun q => ?_)
  refine g_eq (ws' := [(q, .inr (0, [.null, .null, .null, .null]))]) (lv' := [(0, .ref b)]) (pc' := 3) (st' := [.ref q]) rfl rfl rfl rfl ?_
  refine g_widen (k := 1) (n := 4) (by decide) (by decide) ?_
  refine g_dup C d_law_3 rfl ?_
  refine gIF C lw_in (st := [.ref q]) (wr := []) (m_S_init q) [0] [] rfl rfl rfl rfl rfl (by decide) k_22 k_20 k_21 k_1 rfl ho_S_init rfl rfl ⟨by decide, by decide⟩ rfl rfl (Nat.le_of_ble_eq_true rfl) d_law_4 ⟨by decide, by decide⟩ (fun r w hq => ?_)
  obtain ⟨rfl, ad, rfl, rfl⟩ := hq
  refine g_eq (ws' := cw ad cI cZ x00) (lv' := [(0, .ref b)]) (pc' := 7) (st' := [.ref (ad 0)]) rfl rfl rfl rfl ?_
  refine g_widen (k := 19) (n := 1482) (by decide) (by decide) ?_
  refine g_astore_n C (lv' := [(0, .ref b), (1, .ref (ad 0))]) d_law_7 rfl (by decide) rfl rfl ?_
  refine g_newF C lw_in (ci := 5) (fs := [.int (iI 0), .int (iI 0), .null, .null, .null, .null, .null, .null, .null, .int (iI 0), .int (iI 0), .null, .int (iI 0), .int (iI 0), .null, .null, .null, .null]) t_Tw to_Tw u_Tw k_642 k_643 k_7 rfl (fun j hj => by rcases (show j = 0 ∨ j = 1 ∨ j = 2 ∨ j = 3 ∨ j = 4 ∨ j = 5 ∨ j = 6 ∨ j = 7 ∨ j = 8 ∨ j = 9 ∨ j = 10 ∨ j = 11 ∨ j = 12 ∨ j = 13 ∨ j = 14 ∨ j = 15 ∨ j = 16 ∨ j = 17 by omega) with rfl | rfl | rfl | rfl | rfl | rfl | rfl | rfl | rfl | rfl | rfl | rfl | rfl | rfl | rfl | rfl | rfl | rfl <;> rfl) (by decide) (by decide) d_law_8 (fun q => ?_)
  refine g_eq (ws' := cw ad cI cZ x00 ++ [(q, .inr (5, [.int (iI 0), .int (iI 0), .null, .null, .null, .null, .null, .null, .null, .int (iI 0), .int (iI 0), .null, .int (iI 0), .int (iI 0), .null, .null, .null, .null]))]) (lv' := [(0, .ref b), (1, .ref (ad 0))]) (pc' := 11) (st' := [.ref q]) rfl rfl rfl rfl ?_
  refine g_widen (k := 20) (n := 1500) (by decide) (by decide) ?_
  refine g_dup C d_law_11 rfl ?_
  refine gIF C lw_in (st := [.ref q]) (wr := cw ad cI cZ x00) (m_Tw_init q) [19] [0, 1, 2, 3, 4, 5, 6, 7, 8, 9, 10, 11, 12, 13, 14, 15, 16, 17, 18] rfl rfl rfl rfl rfl (by decide) k_646 k_644 k_645 k_7 rfl ho_Tw_init rfl rfl ⟨by decide, by decide⟩ rfl rfl (Nat.le_of_ble_eq_true rfl) d_law_12 ⟨by decide, by decide⟩ (fun r w hq => ?_)
  obtain ⟨rfl, md, rfl, rfl⟩ := hq
  refine g_eq (ws' := cw ad cI cZ x00 ++ mw md cI cZ x00) (lv' := [(0, .ref b), (1, .ref (ad 0))]) (pc' := 15) (st' := [.ref (md 0)]) rfl rfl rfl rfl ?_
  refine g_widen (k := 32) (n := 2850) (by decide) (by decide) ?_
  refine g_astore_n C (lv' := [(0, .ref b), (1, .ref (ad 0)), (2, .ref (md 0))]) d_law_15 rfl (by decide) rfl rfl ?_
  refine g_iconst C d_law_16 ?_
  refine g_newaJ C (N := 1) (t0 := 2) (lw_in _ k_870) rfl rfl (by decide) (by decide) (by decide) d_law_17 (fun qo => ?_)
  refine g_perm (ws' := lbw ad md cI cZ cJ qo (fun _ => 0) x00 x00) [32, 0, 1, 2, 3, 4, 5, 6, 7, 8, 9, 10, 11, 12, 13, 14, 15, 16, 17, 18, 19, 20, 21, 22, 23, 24, 25, 26, 27, 28, 29, 30, 31] rfl rfl rfl ?_
  refine g_eq (ws' := lbw ad md cI cZ cJ qo (fun _ => 0) x00 x00) (lv' := [(0, .ref b), (1, .ref (ad 0)), (2, .ref (md 0))]) (pc' := 19) (st' := [.ref qo]) rfl rfl rfl rfl ?_
  refine g_widen (k := 33) (n := 2851) (by decide) (by decide) ?_
  refine g_astore_n C (lv' := [(0, .ref b), (1, .ref (ad 0)), (2, .ref (md 0)), (3, .ref qo)]) d_law_19 rfl (by decide) rfl rfl ?_
  refine g_iconst C d_law_20 ?_
  refine g_istore C (lv' := [(0, .ref b), (1, .ref (ad 0)), (2, .ref (md 0)), (3, .ref qo), (4, .int (iI 0))]) d_law_21 (by decide) rfl rfl ?_
  exact law_loop C hX hbl hbA hl hL (hend ad md qo) L 0 (by omega) (by omega) x00 x00 (fun _ => 0) x00_i2
