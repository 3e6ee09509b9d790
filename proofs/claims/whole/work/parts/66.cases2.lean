set_option maxRecDepth 100000 in
set_option maxHeartbeats 4000000 in
theorem lw_open {p : Program} {l : Launch} {e : Env} {s : State} {m : MethodId} {args : Array Value} {below : List Frame} {meth : Method} {c : Code} {D : va_G} {cI cZ cJ : ClassId} {base : Nat} {ad md : Nat → Nat} {A : Nat → Prop} {Q : State → Prop} {b L qo : Nat} {xs : Nat → Int32} {cells slots : Nat} (C : gC p s m args meth c D cls9 (tyl cI cZ cJ) A code 7 "BatchSavingsLaw" lw_tbl base (zz base)) (hX : va_X b L xs s s.heap) (hbl : b < s.heap.size) (hbA : ¬ A b) (hl : l.stackTraces = false) (hL : L ≤ 2048) (hcs : cells + 1 ≤ 1071 ∧ slots + 6 ≤ 11127) (x y : Bk) (jf : Nat → Int64) (j : Nat) (hj4 : 4 * j + 4 ≤ L) (hI : I2 x y)
    (K : ∀ (x' y' : Bk) (jf' : Nat → Int64), I2 x' y' → gW p l e room_1 s m args below meth c D cls9 A 7 (cells + 1) (slots + 6) Q (lbw ad md cI cZ cJ qo jf' x' y') [(0, .ref b), (1, .ref (ad 0)), (2, .ref (md 0)), (3, .ref qo), (4, .int (iI (4 * (j : Int))))] 1312 []) : gW p l e room_1 s m args below meth c D cls9 A 7 cells slots Q (lbw ad md cI cZ cJ qo jf x y) [(0, .ref b), (1, .ref (ad 0)), (2, .ref (md 0)), (3, .ref qo), (4, .int (iI (4 * (j : Int))))] 803 [] := by
  refine g_aload_n C (q := 1) d_law_803 rfl rfl ?_
  refine g_aload_n C (q := 0) d_law_804 rfl rfl ?_
  refine g_iload C (q := 4) d_law_805 rfl ?_
  refine g_iconst C d_law_807 ?_
  refine g_iadd C d_law_808 ?_
  refine g_sld C hX hbl hbA (n := 4 * j + 1) (by omega) (by omega) hL d_law_809 ?_
  refine g_aload_n C (q := 3) d_law_810 rfl rfl ?_
  refine gSWF C lw_in (st := []) (wr := mw md cI cZ y) (m_L_open hl x qo jf ((xs (4 * j + 1)).toInt) (InR_x (xs (4 * j + 1))) hI.1.ok hI.zx) i020 i2033 lbw_c lbw_c1 lbw_r rfl rfl (by decide) k_499 k_497 k_498 k_0 ho_L_open rfl rfl ⟨by decide, by decide⟩ rfl rfl (Nat.le_of_ble_eq_true rfl) d_law_811 ⟨hcs.1, hcs.2⟩ (fun r w hq => ?_)
  obtain ⟨k, o, x', jf', rfl, rfl, hj, hc⟩ := hq
  have hk3 := k_open hc
  refine g_eq (ws' := (lbm ad md cI cZ cJ qo jf' x' y)) (lv' := [(0, .ref b), (1, .ref (ad 0)), (2, .ref (md 0)), (3, .ref qo), (4, .int (iI (4 * (j : Int))))]) (pc' := 814) (st' := [.int (iI k)]) rfl rfl rfl rfl ?_
  refine g_istore C (lv' := [(0, .ref b), (1, .ref (ad 0)), (2, .ref (md 0)), (3, .ref qo), (4, .int (iI (4 * (j : Int)))), (5, .int (iI k))]) d_law_814 (by decide) rfl rfl ?_
  refine g_aload_n C (q := 2) d_law_816 rfl rfl ?_
  refine g_aload_n C (q := 0) d_law_817 rfl rfl ?_
  refine g_iload C (q := 4) d_law_818 rfl ?_
  refine g_iconst C d_law_820 ?_
  refine g_iadd C d_law_821 ?_
  refine g_sld C hX hbl hbA (n := 4 * j + 1) (by omega) (by omega) hL d_law_822 ?_
  refine gVF C lw_in (st := []) (wr := lwd ad cI cZ cJ qo jf' x') (m_Tw_open y ((xs (4 * j + 1)).toInt) (InR_x (xs (4 * j + 1))) hI.oky hI.zy) i013 i1333 lbm_c lbm_c1 lbm_r rfl rfl (by decide) k_800 k_797 k_798 k_799 k_7 rfl ho_Tw_open rfl rfl ⟨by decide, by decide⟩ 0 (lbm_0.trans (mwo_0 _)) rfl rfl rfl (Nat.le_of_ble_eq_true rfl) d_law_823 ⟨hcs.1, hcs.2⟩ (fun r w hq => ?_)
  obtain ⟨z, rfl, hm⟩ := hq
  obtain ⟨e1, e2, ⟨u, rfl⟩, e3⟩ := P_open hI hc hm
  clear hm
  refine g_eq (ws' := (lbw ad md cI cZ cJ qo jf' x' z)) (lv' := [(0, .ref b), (1, .ref (ad 0)), (2, .ref (md 0)), (3, .ref qo), (4, .int (iI (4 * (j : Int)))), (5, .int (iI k))]) (pc' := 826) (st' := [.int (iI u)]) rfl rfl rfl rfl ?_
  refine g_widen (k := cells + 1) (n := slots + 6) (by omega) (by omega) ?_
  refine g_istore C (lv' := [(0, .ref b), (1, .ref (ad 0)), (2, .ref (md 0)), (3, .ref qo), (4, .int (iI (4 * (j : Int)))), (5, .int (iI k)), (6, .int (iI u))]) d_law_826 (by decide) rfl rfl ?_
  refine g_aload_n C (q := 2) d_law_828 rfl rfl ?_
  refine gVF C lw_in (st := []) (wr := lwd ad cI cZ cJ qo jf' x') (m_Tw_thrown z) i2033 i020 lbw_d lbw_d1 lbw_e rfl rfl (by decide) k_706 k_703 k_704 k_705 k_7 rfl ho_Tw_thrown rfl rfl ⟨by decide, by decide⟩ 20 (lbw_20.trans (mwo_0 _)) rfl rfl rfl (Nat.le_of_ble_eq_true rfl) d_law_829 ⟨hcs.1, hcs.2⟩ (fun r w hq => ?_)
  obtain ⟨rfl, rfl⟩ := hq
  refine g_eq (ws' := (lbw ad md cI cZ cJ qo jf' x' z)) (lv' := [(0, .ref b), (1, .ref (ad 0)), (2, .ref (md 0)), (3, .ref qo), (4, .int (iI (4 * (j : Int)))), (5, .int (iI k)), (6, .int (iI u))]) (pc' := 832) (st' := [.int (iI k)]) rfl rfl rfl (by rw [← e1] <;> rfl) ?_
  refine g_widen (k := cells + 1) (n := slots + 6) (by omega) (by omega) ?_
  refine g_iload C (q := 5) d_law_832 rfl ?_
  refine g_same C (tgt := 839) d_law_834 rfl ?_
  refine g_iload C (q := 5) d_law_839 rfl ?_
  refine g_if_ne C (tgt := 856) d_law_841 rfl (by omega) (fun h841_2 => ?_) (fun h841_2 => ?_)
  · refine g_goto C (tgt := 1312) d_law_856 rfl ?_
    refine g_lv (lv' := [(0, .ref b), (1, .ref (ad 0)), (2, .ref (md 0)), (3, .ref qo), (4, .int (iI (4 * (j : Int))))]) [0, 1, 2, 3, 4] rfl ?_
    exact K _ _ _ e3
  · refine g_aload_n C (q := 3) d_law_844 rfl rfl ?_
    refine g_iconst C d_law_845 ?_
    refine g_lald C 0 2 lbw_0 rfl (by decide) (by decide) d_law_846 ?_
    have hu : u = o := Option.some.inj (e2 h841_2)
    refine g_long (z := (iI u).toInt64) ((hj h841_2).trans (by rw [hu])) ?_
    refine g_iload C (q := 6) d_law_847 rfl ?_
    refine g_i2l C d_law_849 ?_
    refine g_lcmp0 C d_law_850 ?_
    refine g_if_eq C (tgt := 856) d_law_851 rfl (by omega) (fun h851_3 => ?_) (fun h851_3 => ?_)
    · refine g_goto C (tgt := 1312) d_law_856 rfl ?_
      refine g_lv (lv' := [(0, .ref b), (1, .ref (ad 0)), (2, .ref (md 0)), (3, .ref qo), (4, .int (iI (4 * (j : Int))))]) [0, 1, 2, 3, 4] rfl ?_
      exact K _ _ _ e3
    · exfalso
      omega
set_option maxRecDepth 100000 in
set_option maxHeartbeats 4000000 in
theorem lw_join {p : Program} {l : Launch} {e : Env} {s : State} {m : MethodId} {args : Array Value} {below : List Frame} {meth : Method} {c : Code} {D : va_G} {cI cZ cJ : ClassId} {base : Nat} {ad md : Nat → Nat} {A : Nat → Prop} {Q : State → Prop} {b L qo : Nat} {xs : Nat → Int32} {cells slots : Nat} (C : gC p s m args meth c D cls9 (tyl cI cZ cJ) A code 7 "BatchSavingsLaw" lw_tbl base (zz base)) (hX : va_X b L xs s s.heap) (hbl : b < s.heap.size) (hbA : ¬ A b) (hl : l.stackTraces = false) (hL : L ≤ 2048) (hcs : cells + 1 ≤ 1071 ∧ slots + 6 ≤ 11127) (x y : Bk) (jf : Nat → Int64) (j : Nat) (hj4 : 4 * j + 4 ≤ L) (hI : I2 x y)
    (K : ∀ (x' y' : Bk) (jf' : Nat → Int64), I2 x' y' → gW p l e room_1 s m args below meth c D cls9 A 7 (cells + 1) (slots + 6) Q (lbw ad md cI cZ cJ qo jf' x' y') [(0, .ref b), (1, .ref (ad 0)), (2, .ref (md 0)), (3, .ref qo), (4, .int (iI (4 * (j : Int))))] 1312 []) : gW p l e room_1 s m args below meth c D cls9 A 7 cells slots Q (lbw ad md cI cZ cJ qo jf x y) [(0, .ref b), (1, .ref (ad 0)), (2, .ref (md 0)), (3, .ref qo), (4, .int (iI (4 * (j : Int))))] 859 [] := by
  refine g_aload_n C (q := 1) d_law_859 rfl rfl ?_
  refine g_aload_n C (q := 0) d_law_860 rfl rfl ?_
  refine g_iload C (q := 4) d_law_861 rfl ?_
  refine g_iconst C d_law_863 ?_
  refine g_iadd C d_law_864 ?_
  refine g_sld C hX hbl hbA (n := 4 * j + 1) (by omega) (by omega) hL d_law_865 ?_
  refine g_aload_n C (q := 0) d_law_866 rfl rfl ?_
  refine g_iload C (q := 4) d_law_867 rfl ?_
  refine g_iconst C d_law_869 ?_
  refine g_iadd C d_law_870 ?_
  refine g_sld C hX hbl hbA (n := 4 * j + 2) (by omega) (by omega) hL d_law_871 ?_
  refine g_aload_n C (q := 3) d_law_872 rfl rfl ?_
  refine gSWF C lw_in (st := []) (wr := mw md cI cZ y) (m_L_join hl x qo jf ((xs (4 * j + 1)).toInt) ((xs (4 * j + 2)).toInt) (InR_x (xs (4 * j + 1))) (InR_x (xs (4 * j + 2))) hI.1.ok) i020 i2033 lbw_c lbw_c1 lbw_r rfl rfl (by decide) k_519 k_517 k_518 k_0 ho_L_join rfl rfl ⟨by decide, by decide⟩ rfl rfl (Nat.le_of_ble_eq_true rfl) d_law_873 ⟨hcs.1, hcs.2⟩ (fun r w hq => ?_)
  obtain ⟨k, o, x', jf', rfl, rfl, hj, hc⟩ := hq
  have hk3 := k_join hc
  refine g_eq (ws' := (lbm ad md cI cZ cJ qo jf' x' y)) (lv' := [(0, .ref b), (1, .ref (ad 0)), (2, .ref (md 0)), (3, .ref qo), (4, .int (iI (4 * (j : Int))))]) (pc' := 876) (st' := [.int (iI k)]) rfl rfl rfl rfl ?_
  refine g_istore C (lv' := [(0, .ref b), (1, .ref (ad 0)), (2, .ref (md 0)), (3, .ref qo), (4, .int (iI (4 * (j : Int)))), (5, .int (iI k))]) d_law_876 (by decide) rfl rfl ?_
  refine g_aload_n C (q := 2) d_law_878 rfl rfl ?_
  refine g_aload_n C (q := 0) d_law_879 rfl rfl ?_
  refine g_iload C (q := 4) d_law_880 rfl ?_
  refine g_iconst C d_law_882 ?_
  refine g_iadd C d_law_883 ?_
  refine g_sld C hX hbl hbA (n := 4 * j + 1) (by omega) (by omega) hL d_law_884 ?_
  refine g_aload_n C (q := 0) d_law_885 rfl rfl ?_
  refine g_iload C (q := 4) d_law_886 rfl ?_
  refine g_iconst C d_law_888 ?_
  refine g_iadd C d_law_889 ?_
  refine g_sld C hX hbl hbA (n := 4 * j + 2) (by omega) (by omega) hL d_law_890 ?_
  refine gVF C lw_in (st := []) (wr := lwd ad cI cZ cJ qo jf' x') (m_Tw_join y ((xs (4 * j + 1)).toInt) ((xs (4 * j + 2)).toInt) (InR_x (xs (4 * j + 1))) (InR_x (xs (4 * j + 2))) hI.oky hI.syy hI.rwy) i013 i1333 lbm_c lbm_c1 lbm_r rfl rfl (by decide) k_812 k_809 k_810 k_811 k_7 rfl ho_Tw_join rfl rfl ⟨by decide, by decide⟩ 0 (lbm_0.trans (mwo_0 _)) rfl rfl rfl (Nat.le_of_ble_eq_true rfl) d_law_891 ⟨hcs.1, hcs.2⟩ (fun r w hq => ?_)
  obtain ⟨z, rfl, hm⟩ := hq
  obtain ⟨e1, e2, ⟨u, rfl⟩, e3⟩ := P_join hI hc hm
  clear hm
  refine g_eq (ws' := (lbw ad md cI cZ cJ qo jf' x' z)) (lv' := [(0, .ref b), (1, .ref (ad 0)), (2, .ref (md 0)), (3, .ref qo), (4, .int (iI (4 * (j : Int)))), (5, .int (iI k))]) (pc' := 894) (st' := [.int (iI u)]) rfl rfl rfl rfl ?_
  refine g_widen (k := cells + 1) (n := slots + 6) (by omega) (by omega) ?_
  refine g_istore C (lv' := [(0, .ref b), (1, .ref (ad 0)), (2, .ref (md 0)), (3, .ref qo), (4, .int (iI (4 * (j : Int)))), (5, .int (iI k)), (6, .int (iI u))]) d_law_894 (by decide) rfl rfl ?_
  refine g_aload_n C (q := 2) d_law_896 rfl rfl ?_
  refine gVF C lw_in (st := []) (wr := lwd ad cI cZ cJ qo jf' x') (m_Tw_thrown z) i2033 i020 lbw_d lbw_d1 lbw_e rfl rfl (by decide) k_706 k_703 k_704 k_705 k_7 rfl ho_Tw_thrown rfl rfl ⟨by decide, by decide⟩ 20 (lbw_20.trans (mwo_0 _)) rfl rfl rfl (Nat.le_of_ble_eq_true rfl) d_law_897 ⟨hcs.1, hcs.2⟩ (fun r w hq => ?_)
  obtain ⟨rfl, rfl⟩ := hq
  refine g_eq (ws' := (lbw ad md cI cZ cJ qo jf' x' z)) (lv' := [(0, .ref b), (1, .ref (ad 0)), (2, .ref (md 0)), (3, .ref qo), (4, .int (iI (4 * (j : Int)))), (5, .int (iI k)), (6, .int (iI u))]) (pc' := 900) (st' := [.int (iI k)]) rfl rfl rfl (by rw [← e1] <;> rfl) ?_
  refine g_widen (k := cells + 1) (n := slots + 6) (by omega) (by omega) ?_
  refine g_iload C (q := 5) d_law_900 rfl ?_
  refine g_same C (tgt := 907) d_law_902 rfl ?_
  refine g_iload C (q := 5) d_law_907 rfl ?_
  refine g_if_ne C (tgt := 924) d_law_909 rfl (by omega) (fun h909_2 => ?_) (fun h909_2 => ?_)
  · refine g_goto C (tgt := 1312) d_law_924 rfl ?_
    refine g_lv (lv' := [(0, .ref b), (1, .ref (ad 0)), (2, .ref (md 0)), (3, .ref qo), (4, .int (iI (4 * (j : Int))))]) [0, 1, 2, 3, 4] rfl ?_
    exact K _ _ _ e3
  · refine g_aload_n C (q := 3) d_law_912 rfl rfl ?_
    refine g_iconst C d_law_913 ?_
    refine g_lald C 0 2 lbw_0 rfl (by decide) (by decide) d_law_914 ?_
    have hu : u = o := Option.some.inj (e2 h909_2)
    refine g_long (z := (iI u).toInt64) ((hj h909_2).trans (by rw [hu])) ?_
    refine g_iload C (q := 6) d_law_915 rfl ?_
    refine g_i2l C d_law_917 ?_
    refine g_lcmp0 C d_law_918 ?_
    refine g_if_eq C (tgt := 924) d_law_919 rfl (by omega) (fun h919_3 => ?_) (fun h919_3 => ?_)
    · refine g_goto C (tgt := 1312) d_law_924 rfl ?_
      refine g_lv (lv' := [(0, .ref b), (1, .ref (ad 0)), (2, .ref (md 0)), (3, .ref qo), (4, .int (iI (4 * (j : Int))))]) [0, 1, 2, 3, 4] rfl ?_
      exact K _ _ _ e3
    · exfalso
      omega
set_option maxRecDepth 100000 in
set_option maxHeartbeats 4000000 in
theorem lw_leave {p : Program} {l : Launch} {e : Env} {s : State} {m : MethodId} {args : Array Value} {below : List Frame} {meth : Method} {c : Code} {D : va_G} {cI cZ cJ : ClassId} {base : Nat} {ad md : Nat → Nat} {A : Nat → Prop} {Q : State → Prop} {b L qo : Nat} {xs : Nat → Int32} {cells slots : Nat} (C : gC p s m args meth c D cls9 (tyl cI cZ cJ) A code 7 "BatchSavingsLaw" lw_tbl base (zz base)) (hX : va_X b L xs s s.heap) (hbl : b < s.heap.size) (hbA : ¬ A b) (hl : l.stackTraces = false) (hL : L ≤ 2048) (hcs : cells + 1 ≤ 1071 ∧ slots + 6 ≤ 11127) (x y : Bk) (jf : Nat → Int64) (j : Nat) (hj4 : 4 * j + 4 ≤ L) (hI : I2 x y)
    (K : ∀ (x' y' : Bk) (jf' : Nat → Int64), I2 x' y' → gW p l e room_1 s m args below meth c D cls9 A 7 (cells + 1) (slots + 6) Q (lbw ad md cI cZ cJ qo jf' x' y') [(0, .ref b), (1, .ref (ad 0)), (2, .ref (md 0)), (3, .ref qo), (4, .int (iI (4 * (j : Int))))] 1312 []) : gW p l e room_1 s m args below meth c D cls9 A 7 cells slots Q (lbw ad md cI cZ cJ qo jf x y) [(0, .ref b), (1, .ref (ad 0)), (2, .ref (md 0)), (3, .ref qo), (4, .int (iI (4 * (j : Int))))] 927 [] := by
  refine g_aload_n C (q := 1) d_law_927 rfl rfl ?_
  refine g_aload_n C (q := 0) d_law_928 rfl rfl ?_
  refine g_iload C (q := 4) d_law_929 rfl ?_
  refine g_iconst C d_law_931 ?_
  refine g_iadd C d_law_932 ?_
  refine g_sld C hX hbl hbA (n := 4 * j + 1) (by omega) (by omega) hL d_law_933 ?_
  refine g_aload_n C (q := 3) d_law_934 rfl rfl ?_
  refine gSWF C lw_in (st := []) (wr := mw md cI cZ y) (m_L_leave hl x qo jf ((xs (4 * j + 1)).toInt) (InR_x (xs (4 * j + 1))) hI.1.ok) i020 i2033 lbw_c lbw_c1 lbw_r rfl rfl (by decide) k_570 k_568 k_569 k_0 ho_L_leave rfl rfl ⟨by decide, by decide⟩ rfl rfl (Nat.le_of_ble_eq_true rfl) d_law_935 ⟨hcs.1, hcs.2⟩ (fun r w hq => ?_)
  obtain ⟨k, o, x', jf', rfl, rfl, hj, hc⟩ := hq
  have hk3 := k_leave hc
  refine g_eq (ws' := (lbm ad md cI cZ cJ qo jf' x' y)) (lv' := [(0, .ref b), (1, .ref (ad 0)), (2, .ref (md 0)), (3, .ref qo), (4, .int (iI (4 * (j : Int))))]) (pc' := 938) (st' := [.int (iI k)]) rfl rfl rfl rfl ?_
  refine g_istore C (lv' := [(0, .ref b), (1, .ref (ad 0)), (2, .ref (md 0)), (3, .ref qo), (4, .int (iI (4 * (j : Int)))), (5, .int (iI k))]) d_law_938 (by decide) rfl rfl ?_
  refine g_aload_n C (q := 2) d_law_940 rfl rfl ?_
  refine g_aload_n C (q := 0) d_law_941 rfl rfl ?_
  refine g_iload C (q := 4) d_law_942 rfl ?_
  refine g_iconst C d_law_944 ?_
  refine g_iadd C d_law_945 ?_
  refine g_sld C hX hbl hbA (n := 4 * j + 1) (by omega) (by omega) hL d_law_946 ?_
  refine gVF C lw_in (st := []) (wr := lwd ad cI cZ cJ qo jf' x') (m_Tw_leave y ((xs (4 * j + 1)).toInt) (InR_x (xs (4 * j + 1))) hI.oky) i013 i1333 lbm_c lbm_c1 lbm_r rfl rfl (by decide) k_836 k_833 k_834 k_835 k_7 rfl ho_Tw_leave rfl rfl ⟨by decide, by decide⟩ 0 (lbm_0.trans (mwo_0 _)) rfl rfl rfl (Nat.le_of_ble_eq_true rfl) d_law_947 ⟨hcs.1, hcs.2⟩ (fun r w hq => ?_)
  obtain ⟨z, rfl, hm⟩ := hq
  obtain ⟨e1, e2, ⟨u, rfl⟩, e3⟩ := P_leave hI hc hm
  clear hm
  refine g_eq (ws' := (lbw ad md cI cZ cJ qo jf' x' z)) (lv' := [(0, .ref b), (1, .ref (ad 0)), (2, .ref (md 0)), (3, .ref qo), (4, .int (iI (4 * (j : Int)))), (5, .int (iI k))]) (pc' := 950) (st' := [.int (iI u)]) rfl rfl rfl rfl ?_
  refine g_widen (k := cells + 1) (n := slots + 6) (by omega) (by omega) ?_
  refine g_istore C (lv' := [(0, .ref b), (1, .ref (ad 0)), (2, .ref (md 0)), (3, .ref qo), (4, .int (iI (4 * (j : Int)))), (5, .int (iI k)), (6, .int (iI u))]) d_law_950 (by decide) rfl rfl ?_
  refine g_aload_n C (q := 2) d_law_952 rfl rfl ?_
  refine gVF C lw_in (st := []) (wr := lwd ad cI cZ cJ qo jf' x') (m_Tw_thrown z) i2033 i020 lbw_d lbw_d1 lbw_e rfl rfl (by decide) k_706 k_703 k_704 k_705 k_7 rfl ho_Tw_thrown rfl rfl ⟨by decide, by decide⟩ 20 (lbw_20.trans (mwo_0 _)) rfl rfl rfl (Nat.le_of_ble_eq_true rfl) d_law_953 ⟨hcs.1, hcs.2⟩ (fun r w hq => ?_)
  obtain ⟨rfl, rfl⟩ := hq
  refine g_eq (ws' := (lbw ad md cI cZ cJ qo jf' x' z)) (lv' := [(0, .ref b), (1, .ref (ad 0)), (2, .ref (md 0)), (3, .ref qo), (4, .int (iI (4 * (j : Int)))), (5, .int (iI k)), (6, .int (iI u))]) (pc' := 956) (st' := [.int (iI k)]) rfl rfl rfl (by rw [← e1] <;> rfl) ?_
  refine g_widen (k := cells + 1) (n := slots + 6) (by omega) (by omega) ?_
  refine g_iload C (q := 5) d_law_956 rfl ?_
  refine g_same C (tgt := 963) d_law_958 rfl ?_
  refine g_iload C (q := 5) d_law_963 rfl ?_
  refine g_if_ne C (tgt := 980) d_law_965 rfl (by omega) (fun h965_2 => ?_) (fun h965_2 => ?_)
  · refine g_goto C (tgt := 1312) d_law_980 rfl ?_
    refine g_lv (lv' := [(0, .ref b), (1, .ref (ad 0)), (2, .ref (md 0)), (3, .ref qo), (4, .int (iI (4 * (j : Int))))]) [0, 1, 2, 3, 4] rfl ?_
    exact K _ _ _ e3
  · refine g_aload_n C (q := 3) d_law_968 rfl rfl ?_
    refine g_iconst C d_law_969 ?_
    refine g_lald C 0 2 lbw_0 rfl (by decide) (by decide) d_law_970 ?_
    have hu : u = o := Option.some.inj (e2 h965_2)
    refine g_long (z := (iI u).toInt64) ((hj h965_2).trans (by rw [hu])) ?_
    refine g_iload C (q := 6) d_law_971 rfl ?_
    refine g_i2l C d_law_973 ?_
    refine g_lcmp0 C d_law_974 ?_
    refine g_if_eq C (tgt := 980) d_law_975 rfl (by omega) (fun h975_3 => ?_) (fun h975_3 => ?_)
    · refine g_goto C (tgt := 1312) d_law_980 rfl ?_
      refine g_lv (lv' := [(0, .ref b), (1, .ref (ad 0)), (2, .ref (md 0)), (3, .ref qo), (4, .int (iI (4 * (j : Int))))]) [0, 1, 2, 3, 4] rfl ?_
      exact K _ _ _ e3
    · exfalso
      omega
set_option maxRecDepth 100000 in
set_option maxHeartbeats 4000000 in
theorem lw_batch {p : Program} {l : Launch} {e : Env} {s : State} {m : MethodId} {args : Array Value} {below : List Frame} {meth : Method} {c : Code} {D : va_G} {cI cZ cJ : ClassId} {base : Nat} {ad md : Nat → Nat} {A : Nat → Prop} {Q : State → Prop} {b L qo : Nat} {xs : Nat → Int32} {cells slots : Nat} (C : gC p s m args meth c D cls9 (tyl cI cZ cJ) A code 7 "BatchSavingsLaw" lw_tbl base (zz base)) (hX : va_X b L xs s s.heap) (hbl : b < s.heap.size) (hbA : ¬ A b) (hl : l.stackTraces = false) (hL : L ≤ 2048) (hcs : cells + 1 ≤ 1071 ∧ slots + 6 ≤ 11127) (x y : Bk) (jf : Nat → Int64) (j : Nat) (hj4 : 4 * j + 4 ≤ L) (hI : I2 x y)
    (K : ∀ (x' y' : Bk) (jf' : Nat → Int64), I2 x' y' → gW p l e room_1 s m args below meth c D cls9 A 7 (cells + 1) (slots + 6) Q (lbw ad md cI cZ cJ qo jf' x' y') [(0, .ref b), (1, .ref (ad 0)), (2, .ref (md 0)), (3, .ref qo), (4, .int (iI (4 * (j : Int))))] 1312 []) : gW p l e room_1 s m args below meth c D cls9 A 7 cells slots Q (lbw ad md cI cZ cJ qo jf x y) [(0, .ref b), (1, .ref (ad 0)), (2, .ref (md 0)), (3, .ref qo), (4, .int (iI (4 * (j : Int))))] 983 [] := by
  refine g_aload_n C (q := 1) d_law_983 rfl rfl ?_
  refine g_aload_n C (q := 0) d_law_984 rfl rfl ?_
  refine g_iload C (q := 4) d_law_985 rfl ?_
  refine g_iconst C d_law_987 ?_
  refine g_iadd C d_law_988 ?_
  refine g_sld C hX hbl hbA (n := 4 * j + 1) (by omega) (by omega) hL d_law_989 ?_
  refine g_aload_n C (q := 3) d_law_990 rfl rfl ?_
  refine gSWF C lw_in (st := []) (wr := mw md cI cZ y) (m_L_batch hl x qo jf ((xs (4 * j + 1)).toInt) (InR_x (xs (4 * j + 1))) hI.1.ok) i020 i2033 lbw_c lbw_c1 lbw_r rfl rfl (by decide) k_582 k_580 k_581 k_0 ho_L_batch rfl rfl ⟨by decide, by decide⟩ rfl rfl (Nat.le_of_ble_eq_true rfl) d_law_991 ⟨hcs.1, hcs.2⟩ (fun r w hq => ?_)
  obtain ⟨k, o, x', jf', rfl, rfl, hj, hc⟩ := hq
  have hk3 := k_batch hc
  refine g_eq (ws' := (lbm ad md cI cZ cJ qo jf' x' y)) (lv' := [(0, .ref b), (1, .ref (ad 0)), (2, .ref (md 0)), (3, .ref qo), (4, .int (iI (4 * (j : Int))))]) (pc' := 994) (st' := [.int (iI k)]) rfl rfl rfl rfl ?_
  refine g_istore C (lv' := [(0, .ref b), (1, .ref (ad 0)), (2, .ref (md 0)), (3, .ref qo), (4, .int (iI (4 * (j : Int)))), (5, .int (iI k))]) d_law_994 (by decide) rfl rfl ?_
  refine g_aload_n C (q := 2) d_law_996 rfl rfl ?_
  refine g_aload_n C (q := 0) d_law_997 rfl rfl ?_
  refine g_iload C (q := 4) d_law_998 rfl ?_
  refine g_iconst C d_law_1000 ?_
  refine g_iadd C d_law_1001 ?_
  refine g_sld C hX hbl hbA (n := 4 * j + 1) (by omega) (by omega) hL d_law_1002 ?_
  refine gVF C lw_in (st := []) (wr := lwd ad cI cZ cJ qo jf' x') (m_Tw_batch y ((xs (4 * j + 1)).toInt) (InR_x (xs (4 * j + 1))) hI.oky) i013 i1333 lbm_c lbm_c1 lbm_r rfl rfl (by decide) k_840 k_837 k_838 k_839 k_7 rfl ho_Tw_batch rfl rfl ⟨by decide, by decide⟩ 0 (lbm_0.trans (mwo_0 _)) rfl rfl rfl (Nat.le_of_ble_eq_true rfl) d_law_1003 ⟨hcs.1, hcs.2⟩ (fun r w hq => ?_)
  obtain ⟨z, rfl, hm⟩ := hq
  obtain ⟨e1, e2, ⟨u, rfl⟩, e3⟩ := P_batch hI hc hm
  clear hm
  refine g_eq (ws' := (lbw ad md cI cZ cJ qo jf' x' z)) (lv' := [(0, .ref b), (1, .ref (ad 0)), (2, .ref (md 0)), (3, .ref qo), (4, .int (iI (4 * (j : Int)))), (5, .int (iI k))]) (pc' := 1006) (st' := [.int (iI u)]) rfl rfl rfl rfl ?_
  refine g_widen (k := cells + 1) (n := slots + 6) (by omega) (by omega) ?_
  refine g_istore C (lv' := [(0, .ref b), (1, .ref (ad 0)), (2, .ref (md 0)), (3, .ref qo), (4, .int (iI (4 * (j : Int)))), (5, .int (iI k)), (6, .int (iI u))]) d_law_1006 (by decide) rfl rfl ?_
  refine g_aload_n C (q := 2) d_law_1008 rfl rfl ?_
  refine gVF C lw_in (st := []) (wr := lwd ad cI cZ cJ qo jf' x') (m_Tw_thrown z) i2033 i020 lbw_d lbw_d1 lbw_e rfl rfl (by decide) k_706 k_703 k_704 k_705 k_7 rfl ho_Tw_thrown rfl rfl ⟨by decide, by decide⟩ 20 (lbw_20.trans (mwo_0 _)) rfl rfl rfl (Nat.le_of_ble_eq_true rfl) d_law_1009 ⟨hcs.1, hcs.2⟩ (fun r w hq => ?_)
  obtain ⟨rfl, rfl⟩ := hq
  refine g_eq (ws' := (lbw ad md cI cZ cJ qo jf' x' z)) (lv' := [(0, .ref b), (1, .ref (ad 0)), (2, .ref (md 0)), (3, .ref qo), (4, .int (iI (4 * (j : Int)))), (5, .int (iI k)), (6, .int (iI u))]) (pc' := 1012) (st' := [.int (iI k)]) rfl rfl rfl (by rw [← e1] <;> rfl) ?_
  refine g_widen (k := cells + 1) (n := slots + 6) (by omega) (by omega) ?_
  refine g_iload C (q := 5) d_law_1012 rfl ?_
  refine g_same C (tgt := 1019) d_law_1014 rfl ?_
  refine g_iload C (q := 5) d_law_1019 rfl ?_
  refine g_if_ne C (tgt := 1036) d_law_1021 rfl (by omega) (fun h1021_2 => ?_) (fun h1021_2 => ?_)
  · refine g_goto C (tgt := 1312) d_law_1036 rfl ?_
    refine g_lv (lv' := [(0, .ref b), (1, .ref (ad 0)), (2, .ref (md 0)), (3, .ref qo), (4, .int (iI (4 * (j : Int))))]) [0, 1, 2, 3, 4] rfl ?_
    exact K _ _ _ e3
  · refine g_aload_n C (q := 3) d_law_1024 rfl rfl ?_
    refine g_iconst C d_law_1025 ?_
    refine g_lald C 0 2 lbw_0 rfl (by decide) (by decide) d_law_1026 ?_
    have hu : u = o := Option.some.inj (e2 h1021_2)
    refine g_long (z := (iI u).toInt64) ((hj h1021_2).trans (by rw [hu])) ?_
    refine g_iload C (q := 6) d_law_1027 rfl ?_
    refine g_i2l C d_law_1029 ?_
    refine g_lcmp0 C d_law_1030 ?_
    refine g_if_eq C (tgt := 1036) d_law_1031 rfl (by omega) (fun h1031_3 => ?_) (fun h1031_3 => ?_)
    · refine g_goto C (tgt := 1312) d_law_1036 rfl ?_
      refine g_lv (lv' := [(0, .ref b), (1, .ref (ad 0)), (2, .ref (md 0)), (3, .ref qo), (4, .int (iI (4 * (j : Int))))]) [0, 1, 2, 3, 4] rfl ?_
      exact K _ _ _ e3
    · exfalso
      omega
set_option maxRecDepth 100000 in
set_option maxHeartbeats 4000000 in
theorem lw_told {p : Program} {l : Launch} {e : Env} {s : State} {m : MethodId} {args : Array Value} {below : List Frame} {meth : Method} {c : Code} {D : va_G} {cI cZ cJ : ClassId} {base : Nat} {ad md : Nat → Nat} {A : Nat → Prop} {Q : State → Prop} {b L qo : Nat} {xs : Nat → Int32} {cells slots : Nat} (C : gC p s m args meth c D cls9 (tyl cI cZ cJ) A code 7 "BatchSavingsLaw" lw_tbl base (zz base)) (hX : va_X b L xs s s.heap) (hbl : b < s.heap.size) (hbA : ¬ A b) (hl : l.stackTraces = false) (hL : L ≤ 2048) (hcs : cells + 1 ≤ 1071 ∧ slots + 6 ≤ 11127) (x y : Bk) (jf : Nat → Int64) (j : Nat) (hj4 : 4 * j + 4 ≤ L) (hI : I2 x y)
    (K : ∀ (x' y' : Bk) (jf' : Nat → Int64), I2 x' y' → gW p l e room_1 s m args below meth c D cls9 A 7 (cells + 1) (slots + 6) Q (lbw ad md cI cZ cJ qo jf' x' y') [(0, .ref b), (1, .ref (ad 0)), (2, .ref (md 0)), (3, .ref qo), (4, .int (iI (4 * (j : Int))))] 1312 []) : gW p l e room_1 s m args below meth c D cls9 A 7 cells slots Q (lbw ad md cI cZ cJ qo jf x y) [(0, .ref b), (1, .ref (ad 0)), (2, .ref (md 0)), (3, .ref qo), (4, .int (iI (4 * (j : Int))))] 1039 [] := by
  refine g_aload_n C (q := 1) d_law_1039 rfl rfl ?_
  refine g_aload_n C (q := 0) d_law_1040 rfl rfl ?_
  refine g_iload C (q := 4) d_law_1041 rfl ?_
  refine g_iconst C d_law_1043 ?_
  refine g_iadd C d_law_1044 ?_
  refine g_sld C hX hbl hbA (n := 4 * j + 1) (by omega) (by omega) hL d_law_1045 ?_
  refine g_aload_n C (q := 0) d_law_1046 rfl rfl ?_
  refine g_iload C (q := 4) d_law_1047 rfl ?_
  refine g_iconst C d_law_1049 ?_
  refine g_iadd C d_law_1050 ?_
  refine g_sld C hX hbl hbA (n := 4 * j + 2) (by omega) (by omega) hL d_law_1051 ?_
  refine g_aload_n C (q := 0) d_law_1052 rfl rfl ?_
  refine g_iload C (q := 4) d_law_1053 rfl ?_
  refine g_iconst C d_law_1055 ?_
  refine g_iadd C d_law_1056 ?_
  refine g_sld C hX hbl hbA (n := 4 * j + 3) (by omega) (by omega) hL d_law_1057 ?_
  refine g_aload_n C (q := 3) d_law_1058 rfl rfl ?_
  refine gSWF C lw_in (st := []) (wr := mw md cI cZ y) (m_L_told hl x qo jf ((xs (4 * j + 1)).toInt) ((xs (4 * j + 2)).toInt) ((xs (4 * j + 3)).toInt) (InR_x (xs (4 * j + 1))) (InR_x (xs (4 * j + 2))) (InR_x (xs (4 * j + 3))) hI.1.ok) i020 i2033 lbw_c lbw_c1 lbw_r rfl rfl (by decide) k_589 k_587 k_588 k_0 ho_L_told rfl rfl ⟨by decide, by decide⟩ rfl rfl (Nat.le_of_ble_eq_true rfl) d_law_1059 ⟨hcs.1, hcs.2⟩ (fun r w hq => ?_)
  obtain ⟨k, o, x', jf', rfl, rfl, hj, hc⟩ := hq
  have hk3 := k_told hc
  refine g_eq (ws' := (lbm ad md cI cZ cJ qo jf' x' y)) (lv' := [(0, .ref b), (1, .ref (ad 0)), (2, .ref (md 0)), (3, .ref qo), (4, .int (iI (4 * (j : Int))))]) (pc' := 1062) (st' := [.int (iI k)]) rfl rfl rfl rfl ?_
  refine g_istore C (lv' := [(0, .ref b), (1, .ref (ad 0)), (2, .ref (md 0)), (3, .ref qo), (4, .int (iI (4 * (j : Int)))), (5, .int (iI k))]) d_law_1062 (by decide) rfl rfl ?_
  refine g_aload_n C (q := 2) d_law_1064 rfl rfl ?_
  refine g_aload_n C (q := 0) d_law_1065 rfl rfl ?_
  refine g_iload C (q := 4) d_law_1066 rfl ?_
  refine g_iconst C d_law_1068 ?_
  refine g_iadd C d_law_1069 ?_
  refine g_sld C hX hbl hbA (n := 4 * j + 1) (by omega) (by omega) hL d_law_1070 ?_
  refine g_aload_n C (q := 0) d_law_1071 rfl rfl ?_
  refine g_iload C (q := 4) d_law_1072 rfl ?_
  refine g_iconst C d_law_1074 ?_
  refine g_iadd C d_law_1075 ?_
  refine g_sld C hX hbl hbA (n := 4 * j + 2) (by omega) (by omega) hL d_law_1076 ?_
  refine g_aload_n C (q := 0) d_law_1077 rfl rfl ?_
  refine g_iload C (q := 4) d_law_1078 rfl ?_
  refine g_iconst C d_law_1080 ?_
  refine g_iadd C d_law_1081 ?_
  refine g_sld C hX hbl hbA (n := 4 * j + 3) (by omega) (by omega) hL d_law_1082 ?_
  refine gVF C lw_in (st := []) (wr := lwd ad cI cZ cJ qo jf' x') (m_Tw_told y ((xs (4 * j + 1)).toInt) ((xs (4 * j + 2)).toInt) ((xs (4 * j + 3)).toInt) (InR_x (xs (4 * j + 1))) (InR_x (xs (4 * j + 2))) (InR_x (xs (4 * j + 3))) hI.oky) i013 i1333 lbm_c lbm_c1 lbm_r rfl rfl (by decide) k_844 k_841 k_842 k_843 k_7 rfl ho_Tw_told rfl rfl ⟨by decide, by decide⟩ 0 (lbm_0.trans (mwo_0 _)) rfl rfl rfl (Nat.le_of_ble_eq_true rfl) d_law_1083 ⟨hcs.1, hcs.2⟩ (fun r w hq => ?_)
  obtain ⟨z, rfl, hm⟩ := hq
  obtain ⟨e1, e2, ⟨u, rfl⟩, e3⟩ := P_told hI hc hm
  clear hm
  refine g_eq (ws' := (lbw ad md cI cZ cJ qo jf' x' z)) (lv' := [(0, .ref b), (1, .ref (ad 0)), (2, .ref (md 0)), (3, .ref qo), (4, .int (iI (4 * (j : Int)))), (5, .int (iI k))]) (pc' := 1086) (st' := [.int (iI u)]) rfl rfl rfl rfl ?_
  refine g_widen (k := cells + 1) (n := slots + 6) (by omega) (by omega) ?_
  refine g_istore C (lv' := [(0, .ref b), (1, .ref (ad 0)), (2, .ref (md 0)), (3, .ref qo), (4, .int (iI (4 * (j : Int)))), (5, .int (iI k)), (6, .int (iI u))]) d_law_1086 (by decide) rfl rfl ?_
  refine g_aload_n C (q := 2) d_law_1088 rfl rfl ?_
  refine gVF C lw_in (st := []) (wr := lwd ad cI cZ cJ qo jf' x') (m_Tw_thrown z) i2033 i020 lbw_d lbw_d1 lbw_e rfl rfl (by decide) k_706 k_703 k_704 k_705 k_7 rfl ho_Tw_thrown rfl rfl ⟨by decide, by decide⟩ 20 (lbw_20.trans (mwo_0 _)) rfl rfl rfl (Nat.le_of_ble_eq_true rfl) d_law_1089 ⟨hcs.1, hcs.2⟩ (fun r w hq => ?_)
  obtain ⟨rfl, rfl⟩ := hq
  refine g_eq (ws' := (lbw ad md cI cZ cJ qo jf' x' z)) (lv' := [(0, .ref b), (1, .ref (ad 0)), (2, .ref (md 0)), (3, .ref qo), (4, .int (iI (4 * (j : Int)))), (5, .int (iI k)), (6, .int (iI u))]) (pc' := 1092) (st' := [.int (iI k)]) rfl rfl rfl (by rw [← e1] <;> rfl) ?_
  refine g_widen (k := cells + 1) (n := slots + 6) (by omega) (by omega) ?_
  refine g_iload C (q := 5) d_law_1092 rfl ?_
  refine g_same C (tgt := 1099) d_law_1094 rfl ?_
  refine g_iload C (q := 5) d_law_1099 rfl ?_
  refine g_if_ne C (tgt := 1116) d_law_1101 rfl (by omega) (fun h1101_2 => ?_) (fun h1101_2 => ?_)
  · refine g_goto C (tgt := 1312) d_law_1116 rfl ?_
    refine g_lv (lv' := [(0, .ref b), (1, .ref (ad 0)), (2, .ref (md 0)), (3, .ref qo), (4, .int (iI (4 * (j : Int))))]) [0, 1, 2, 3, 4] rfl ?_
    exact K _ _ _ e3
  · refine g_aload_n C (q := 3) d_law_1104 rfl rfl ?_
    refine g_iconst C d_law_1105 ?_
    refine g_lald C 0 2 lbw_0 rfl (by decide) (by decide) d_law_1106 ?_
    have hu : u = o := Option.some.inj (e2 h1101_2)
    refine g_long (z := (iI u).toInt64) ((hj h1101_2).trans (by rw [hu])) ?_
    refine g_iload C (q := 6) d_law_1107 rfl ?_
    refine g_i2l C d_law_1109 ?_
    refine g_lcmp0 C d_law_1110 ?_
    refine g_if_eq C (tgt := 1116) d_law_1111 rfl (by omega) (fun h1111_3 => ?_) (fun h1111_3 => ?_)
    · refine g_goto C (tgt := 1312) d_law_1116 rfl ?_
      refine g_lv (lv' := [(0, .ref b), (1, .ref (ad 0)), (2, .ref (md 0)), (3, .ref qo), (4, .int (iI (4 * (j : Int))))]) [0, 1, 2, 3, 4] rfl ?_
      exact K _ _ _ e3
    · exfalso
      omega
set_option maxRecDepth 100000 in
set_option maxHeartbeats 4000000 in
theorem lw_best {p : Program} {l : Launch} {e : Env} {s : State} {m : MethodId} {args : Array Value} {below : List Frame} {meth : Method} {c : Code} {D : va_G} {cI cZ cJ : ClassId} {base : Nat} {ad md : Nat → Nat} {A : Nat → Prop} {Q : State → Prop} {b L qo : Nat} {xs : Nat → Int32} {cells slots : Nat} (C : gC p s m args meth c D cls9 (tyl cI cZ cJ) A code 7 "BatchSavingsLaw" lw_tbl base (zz base)) (hX : va_X b L xs s s.heap) (hbl : b < s.heap.size) (hbA : ¬ A b) (hl : l.stackTraces = false) (hL : L ≤ 2048) (hcs : cells + 1 ≤ 1071 ∧ slots + 6 ≤ 11127) (x y : Bk) (jf : Nat → Int64) (j : Nat) (hj4 : 4 * j + 4 ≤ L) (hI : I2 x y)
    (K : ∀ (x' y' : Bk) (jf' : Nat → Int64), I2 x' y' → gW p l e room_1 s m args below meth c D cls9 A 7 (cells + 1) (slots + 6) Q (lbw ad md cI cZ cJ qo jf' x' y') [(0, .ref b), (1, .ref (ad 0)), (2, .ref (md 0)), (3, .ref qo), (4, .int (iI (4 * (j : Int))))] 1312 []) : gW p l e room_1 s m args below meth c D cls9 A 7 cells slots Q (lbw ad md cI cZ cJ qo jf x y) [(0, .ref b), (1, .ref (ad 0)), (2, .ref (md 0)), (3, .ref qo), (4, .int (iI (4 * (j : Int))))] 1119 [] := by
  refine g_aload_n C (q := 1) d_law_1119 rfl rfl ?_
  refine g_aload_n C (q := 0) d_law_1120 rfl rfl ?_
  refine g_iload C (q := 4) d_law_1121 rfl ?_
  refine g_iconst C d_law_1123 ?_
  refine g_iadd C d_law_1124 ?_
  refine g_sld C hX hbl hbA (n := 4 * j + 1) (by omega) (by omega) hL d_law_1125 ?_
  refine g_aload_n C (q := 3) d_law_1126 rfl rfl ?_
  refine gSWF C lw_in (st := []) (wr := mw md cI cZ y) (m_L_best hl x qo jf ((xs (4 * j + 1)).toInt) (InR_x (xs (4 * j + 1))) hI.1.ok) i020 i2033 lbw_c lbw_c1 lbw_r rfl rfl (by decide) k_599 k_597 k_598 k_0 ho_L_best rfl rfl ⟨by decide, by decide⟩ rfl rfl (Nat.le_of_ble_eq_true rfl) d_law_1127 ⟨hcs.1, hcs.2⟩ (fun r w hq => ?_)
  obtain ⟨k, o, x', jf', rfl, rfl, hj, hc⟩ := hq
  have hk3 := k_best hc
  refine g_eq (ws' := (lbm ad md cI cZ cJ qo jf' x' y)) (lv' := [(0, .ref b), (1, .ref (ad 0)), (2, .ref (md 0)), (3, .ref qo), (4, .int (iI (4 * (j : Int))))]) (pc' := 1130) (st' := [.int (iI k)]) rfl rfl rfl rfl ?_
  refine g_istore C (lv' := [(0, .ref b), (1, .ref (ad 0)), (2, .ref (md 0)), (3, .ref qo), (4, .int (iI (4 * (j : Int)))), (5, .int (iI k))]) d_law_1130 (by decide) rfl rfl ?_
  refine g_aload_n C (q := 2) d_law_1132 rfl rfl ?_
  refine g_aload_n C (q := 0) d_law_1133 rfl rfl ?_
  refine g_iload C (q := 4) d_law_1134 rfl ?_
  refine g_iconst C d_law_1136 ?_
  refine g_iadd C d_law_1137 ?_
  refine g_sld C hX hbl hbA (n := 4 * j + 1) (by omega) (by omega) hL d_law_1138 ?_
  refine gVF C lw_in (st := []) (wr := lwd ad cI cZ cJ qo jf' x') (m_Tw_best y ((xs (4 * j + 1)).toInt) (InR_x (xs (4 * j + 1))) hI.oky hI.syy hI.rwy) i013 i1333 lbm_c lbm_c1 lbm_r rfl rfl (by decide) k_852 k_849 k_850 k_851 k_7 rfl ho_Tw_best rfl rfl ⟨by decide, by decide⟩ 0 (lbm_0.trans (mwo_0 _)) rfl rfl rfl (Nat.le_of_ble_eq_true rfl) d_law_1139 ⟨hcs.1, hcs.2⟩ (fun r w hq => ?_)
  obtain ⟨z, rfl, hm⟩ := hq
  obtain ⟨e1, e2, ⟨u, rfl⟩, e3⟩ := P_best hI hc hm
  clear hm
  refine g_eq (ws' := (lbw ad md cI cZ cJ qo jf' x' z)) (lv' := [(0, .ref b), (1, .ref (ad 0)), (2, .ref (md 0)), (3, .ref qo), (4, .int (iI (4 * (j : Int)))), (5, .int (iI k))]) (pc' := 1142) (st' := [.int (iI u)]) rfl rfl rfl rfl ?_
  refine g_widen (k := cells + 1) (n := slots + 6) (by omega) (by omega) ?_
  refine g_istore C (lv' := [(0, .ref b), (1, .ref (ad 0)), (2, .ref (md 0)), (3, .ref qo), (4, .int (iI (4 * (j : Int)))), (5, .int (iI k)), (6, .int (iI u))]) d_law_1142 (by decide) rfl rfl ?_
  refine g_aload_n C (q := 2) d_law_1144 rfl rfl ?_
  refine gVF C lw_in (st := []) (wr := lwd ad cI cZ cJ qo jf' x') (m_Tw_thrown z) i2033 i020 lbw_d lbw_d1 lbw_e rfl rfl (by decide) k_706 k_703 k_704 k_705 k_7 rfl ho_Tw_thrown rfl rfl ⟨by decide, by decide⟩ 20 (lbw_20.trans (mwo_0 _)) rfl rfl rfl (Nat.le_of_ble_eq_true rfl) d_law_1145 ⟨hcs.1, hcs.2⟩ (fun r w hq => ?_)
  obtain ⟨rfl, rfl⟩ := hq
  refine g_eq (ws' := (lbw ad md cI cZ cJ qo jf' x' z)) (lv' := [(0, .ref b), (1, .ref (ad 0)), (2, .ref (md 0)), (3, .ref qo), (4, .int (iI (4 * (j : Int)))), (5, .int (iI k)), (6, .int (iI u))]) (pc' := 1148) (st' := [.int (iI k)]) rfl rfl rfl (by rw [← e1] <;> rfl) ?_
  refine g_widen (k := cells + 1) (n := slots + 6) (by omega) (by omega) ?_
  refine g_iload C (q := 5) d_law_1148 rfl ?_
  refine g_same C (tgt := 1155) d_law_1150 rfl ?_
  refine g_iload C (q := 5) d_law_1155 rfl ?_
  refine g_if_ne C (tgt := 1172) d_law_1157 rfl (by omega) (fun h1157_2 => ?_) (fun h1157_2 => ?_)
  · refine g_goto C (tgt := 1312) d_law_1172 rfl ?_
    refine g_lv (lv' := [(0, .ref b), (1, .ref (ad 0)), (2, .ref (md 0)), (3, .ref qo), (4, .int (iI (4 * (j : Int))))]) [0, 1, 2, 3, 4] rfl ?_
    exact K _ _ _ e3
  · refine g_aload_n C (q := 3) d_law_1160 rfl rfl ?_
    refine g_iconst C d_law_1161 ?_
    refine g_lald C 0 2 lbw_0 rfl (by decide) (by decide) d_law_1162 ?_
    have hu : u = o := Option.some.inj (e2 h1157_2)
    refine g_long (z := (iI u).toInt64) ((hj h1157_2).trans (by rw [hu])) ?_
    refine g_iload C (q := 6) d_law_1163 rfl ?_
    refine g_i2l C d_law_1165 ?_
    refine g_lcmp0 C d_law_1166 ?_
    refine g_if_eq C (tgt := 1172) d_law_1167 rfl (by omega) (fun h1167_3 => ?_) (fun h1167_3 => ?_)
    · refine g_goto C (tgt := 1312) d_law_1172 rfl ?_
      refine g_lv (lv' := [(0, .ref b), (1, .ref (ad 0)), (2, .ref (md 0)), (3, .ref qo), (4, .int (iI (4 * (j : Int))))]) [0, 1, 2, 3, 4] rfl ?_
      exact K _ _ _ e3
    · exfalso
      omega
set_option maxRecDepth 100000 in
set_option maxHeartbeats 4000000 in
theorem lw_share {p : Program} {l : Launch} {e : Env} {s : State} {m : MethodId} {args : Array Value} {below : List Frame} {meth : Method} {c : Code} {D : va_G} {cI cZ cJ : ClassId} {base : Nat} {ad md : Nat → Nat} {A : Nat → Prop} {Q : State → Prop} {b L qo : Nat} {xs : Nat → Int32} {cells slots : Nat} (C : gC p s m args meth c D cls9 (tyl cI cZ cJ) A code 7 "BatchSavingsLaw" lw_tbl base (zz base)) (hX : va_X b L xs s s.heap) (hbl : b < s.heap.size) (hbA : ¬ A b) (hl : l.stackTraces = false) (hL : L ≤ 2048) (hcs : cells + 1 ≤ 1071 ∧ slots + 6 ≤ 11127) (x y : Bk) (jf : Nat → Int64) (j : Nat) (hj4 : 4 * j + 4 ≤ L) (hI : I2 x y)
    (K : ∀ (x' y' : Bk) (jf' : Nat → Int64), I2 x' y' → gW p l e room_1 s m args below meth c D cls9 A 7 (cells + 1) (slots + 6) Q (lbw ad md cI cZ cJ qo jf' x' y') [(0, .ref b), (1, .ref (ad 0)), (2, .ref (md 0)), (3, .ref qo), (4, .int (iI (4 * (j : Int))))] 1312 []) : gW p l e room_1 s m args below meth c D cls9 A 7 cells slots Q (lbw ad md cI cZ cJ qo jf x y) [(0, .ref b), (1, .ref (ad 0)), (2, .ref (md 0)), (3, .ref qo), (4, .int (iI (4 * (j : Int))))] 1175 [] := by
  refine g_aload_n C (q := 1) d_law_1175 rfl rfl ?_
  refine g_aload_n C (q := 0) d_law_1176 rfl rfl ?_
  refine g_iload C (q := 4) d_law_1177 rfl ?_
  refine g_iconst C d_law_1179 ?_
  refine g_iadd C d_law_1180 ?_
  refine g_sld C hX hbl hbA (n := 4 * j + 1) (by omega) (by omega) hL d_law_1181 ?_
  refine g_aload_n C (q := 0) d_law_1182 rfl rfl ?_
  refine g_iload C (q := 4) d_law_1183 rfl ?_
  refine g_iconst C d_law_1185 ?_
  refine g_iadd C d_law_1186 ?_
  refine g_sld C hX hbl hbA (n := 4 * j + 2) (by omega) (by omega) hL d_law_1187 ?_
  refine g_aload_n C (q := 3) d_law_1188 rfl rfl ?_
  refine gSWF C lw_in (st := []) (wr := mw md cI cZ y) (m_L_share hl x qo jf ((xs (4 * j + 1)).toInt) ((xs (4 * j + 2)).toInt) (InR_x (xs (4 * j + 1))) (InR_x (xs (4 * j + 2))) hI.1.ok) i020 i2033 lbw_c lbw_c1 lbw_r rfl rfl (by decide) k_606 k_604 k_605 k_0 ho_L_share rfl rfl ⟨by decide, by decide⟩ rfl rfl (Nat.le_of_ble_eq_true rfl) d_law_1189 ⟨hcs.1, hcs.2⟩ (fun r w hq => ?_)
  obtain ⟨k, o, x', jf', rfl, rfl, hj, hc⟩ := hq
  have hk3 := k_share hc
  refine g_eq (ws' := (lbm ad md cI cZ cJ qo jf' x' y)) (lv' := [(0, .ref b), (1, .ref (ad 0)), (2, .ref (md 0)), (3, .ref qo), (4, .int (iI (4 * (j : Int))))]) (pc' := 1192) (st' := [.int (iI k)]) rfl rfl rfl rfl ?_
  refine g_istore C (lv' := [(0, .ref b), (1, .ref (ad 0)), (2, .ref (md 0)), (3, .ref qo), (4, .int (iI (4 * (j : Int)))), (5, .int (iI k))]) d_law_1192 (by decide) rfl rfl ?_
  refine g_aload_n C (q := 2) d_law_1194 rfl rfl ?_
  refine g_aload_n C (q := 0) d_law_1195 rfl rfl ?_
  refine g_iload C (q := 4) d_law_1196 rfl ?_
  refine g_iconst C d_law_1198 ?_
  refine g_iadd C d_law_1199 ?_
  refine g_sld C hX hbl hbA (n := 4 * j + 1) (by omega) (by omega) hL d_law_1200 ?_
  refine g_aload_n C (q := 0) d_law_1201 rfl rfl ?_
  refine g_iload C (q := 4) d_law_1202 rfl ?_
  refine g_iconst C d_law_1204 ?_
  refine g_iadd C d_law_1205 ?_
  refine g_sld C hX hbl hbA (n := 4 * j + 2) (by omega) (by omega) hL d_law_1206 ?_
  refine gVF C lw_in (st := []) (wr := lwd ad cI cZ cJ qo jf' x') (m_Tw_share y ((xs (4 * j + 1)).toInt) ((xs (4 * j + 2)).toInt) (InR_x (xs (4 * j + 1))) (InR_x (xs (4 * j + 2))) hI.oky) i013 i1333 lbm_c lbm_c1 lbm_r rfl rfl (by decide) k_856 k_853 k_854 k_855 k_7 rfl ho_Tw_share rfl rfl ⟨by decide, by decide⟩ 0 (lbm_0.trans (mwo_0 _)) rfl rfl rfl (Nat.le_of_ble_eq_true rfl) d_law_1207 ⟨hcs.1, hcs.2⟩ (fun r w hq => ?_)
  obtain ⟨z, rfl, hm⟩ := hq
  obtain ⟨e1, e2, ⟨u, rfl⟩, e3⟩ := P_share hI hc hm
  clear hm
  refine g_eq (ws' := (lbw ad md cI cZ cJ qo jf' x' z)) (lv' := [(0, .ref b), (1, .ref (ad 0)), (2, .ref (md 0)), (3, .ref qo), (4, .int (iI (4 * (j : Int)))), (5, .int (iI k))]) (pc' := 1210) (st' := [.int (iI u)]) rfl rfl rfl rfl ?_
  refine g_widen (k := cells + 1) (n := slots + 6) (by omega) (by omega) ?_
  refine g_istore C (lv' := [(0, .ref b), (1, .ref (ad 0)), (2, .ref (md 0)), (3, .ref qo), (4, .int (iI (4 * (j : Int)))), (5, .int (iI k)), (6, .int (iI u))]) d_law_1210 (by decide) rfl rfl ?_
  refine g_aload_n C (q := 2) d_law_1212 rfl rfl ?_
  refine gVF C lw_in (st := []) (wr := lwd ad cI cZ cJ qo jf' x') (m_Tw_thrown z) i2033 i020 lbw_d lbw_d1 lbw_e rfl rfl (by decide) k_706 k_703 k_704 k_705 k_7 rfl ho_Tw_thrown rfl rfl ⟨by decide, by decide⟩ 20 (lbw_20.trans (mwo_0 _)) rfl rfl rfl (Nat.le_of_ble_eq_true rfl) d_law_1213 ⟨hcs.1, hcs.2⟩ (fun r w hq => ?_)
  obtain ⟨rfl, rfl⟩ := hq
  refine g_eq (ws' := (lbw ad md cI cZ cJ qo jf' x' z)) (lv' := [(0, .ref b), (1, .ref (ad 0)), (2, .ref (md 0)), (3, .ref qo), (4, .int (iI (4 * (j : Int)))), (5, .int (iI k)), (6, .int (iI u))]) (pc' := 1216) (st' := [.int (iI k)]) rfl rfl rfl (by rw [← e1] <;> rfl) ?_
  refine g_widen (k := cells + 1) (n := slots + 6) (by omega) (by omega) ?_
  refine g_iload C (q := 5) d_law_1216 rfl ?_
  refine g_same C (tgt := 1223) d_law_1218 rfl ?_
  refine g_iload C (q := 5) d_law_1223 rfl ?_
  refine g_if_ne C (tgt := 1240) d_law_1225 rfl (by omega) (fun h1225_2 => ?_) (fun h1225_2 => ?_)
  · refine g_goto C (tgt := 1312) d_law_1240 rfl ?_
    refine g_lv (lv' := [(0, .ref b), (1, .ref (ad 0)), (2, .ref (md 0)), (3, .ref qo), (4, .int (iI (4 * (j : Int))))]) [0, 1, 2, 3, 4] rfl ?_
    exact K _ _ _ e3
  · refine g_aload_n C (q := 3) d_law_1228 rfl rfl ?_
    refine g_iconst C d_law_1229 ?_
    refine g_lald C 0 2 lbw_0 rfl (by decide) (by decide) d_law_1230 ?_
    have hu : u = o := Option.some.inj (e2 h1225_2)
    refine g_long (z := (iI u).toInt64) ((hj h1225_2).trans (by rw [hu])) ?_
    refine g_iload C (q := 6) d_law_1231 rfl ?_
    refine g_i2l C d_law_1233 ?_
    refine g_lcmp0 C d_law_1234 ?_
    refine g_if_eq C (tgt := 1240) d_law_1235 rfl (by omega) (fun h1235_3 => ?_) (fun h1235_3 => ?_)
    · refine g_goto C (tgt := 1312) d_law_1240 rfl ?_
      refine g_lv (lv' := [(0, .ref b), (1, .ref (ad 0)), (2, .ref (md 0)), (3, .ref qo), (4, .int (iI (4 * (j : Int))))]) [0, 1, 2, 3, 4] rfl ?_
      exact K _ _ _ e3
    · exfalso
      omega
set_option maxRecDepth 100000 in
set_option maxHeartbeats 4000000 in
theorem lw_mean {p : Program} {l : Launch} {e : Env} {s : State} {m : MethodId} {args : Array Value} {below : List Frame} {meth : Method} {c : Code} {D : va_G} {cI cZ cJ : ClassId} {base : Nat} {ad md : Nat → Nat} {A : Nat → Prop} {Q : State → Prop} {b L qo : Nat} {xs : Nat → Int32} {cells slots : Nat} (C : gC p s m args meth c D cls9 (tyl cI cZ cJ) A code 7 "BatchSavingsLaw" lw_tbl base (zz base)) (hX : va_X b L xs s s.heap) (hbl : b < s.heap.size) (hbA : ¬ A b) (hl : l.stackTraces = false) (hL : L ≤ 2048) (hcs : cells + 1 ≤ 1071 ∧ slots + 6 ≤ 11127) (x y : Bk) (jf : Nat → Int64) (j : Nat) (hj4 : 4 * j + 4 ≤ L) (hI : I2 x y)
    (K : ∀ (x' y' : Bk) (jf' : Nat → Int64), I2 x' y' → gW p l e room_1 s m args below meth c D cls9 A 7 (cells + 1) (slots + 6) Q (lbw ad md cI cZ cJ qo jf' x' y') [(0, .ref b), (1, .ref (ad 0)), (2, .ref (md 0)), (3, .ref qo), (4, .int (iI (4 * (j : Int))))] 1312 []) : gW p l e room_1 s m args below meth c D cls9 A 7 cells slots Q (lbw ad md cI cZ cJ qo jf x y) [(0, .ref b), (1, .ref (ad 0)), (2, .ref (md 0)), (3, .ref qo), (4, .int (iI (4 * (j : Int))))] 1243 [] := by
  refine g_aload_n C (q := 1) d_law_1243 rfl rfl ?_
  refine g_aload_n C (q := 3) d_law_1244 rfl rfl ?_
  refine gSWF C lw_in (st := []) (wr := mw md cI cZ y) (m_L_mean hl x qo jf hI.1.ok) i020 i2033 lbw_c lbw_c1 lbw_r rfl rfl (by decide) k_632 k_630 k_631 k_0 ho_L_mean rfl rfl ⟨by decide, by decide⟩ rfl rfl (Nat.le_of_ble_eq_true rfl) d_law_1245 ⟨hcs.1, hcs.2⟩ (fun r w hq => ?_)
  obtain ⟨k, o, x', jf', rfl, rfl, hj, hc⟩ := hq
  have hk3 := k_mean hc
  refine g_eq (ws' := (lbm ad md cI cZ cJ qo jf' x' y)) (lv' := [(0, .ref b), (1, .ref (ad 0)), (2, .ref (md 0)), (3, .ref qo), (4, .int (iI (4 * (j : Int))))]) (pc' := 1248) (st' := [.int (iI k)]) rfl rfl rfl rfl ?_
  refine g_istore C (lv' := [(0, .ref b), (1, .ref (ad 0)), (2, .ref (md 0)), (3, .ref qo), (4, .int (iI (4 * (j : Int)))), (5, .int (iI k))]) d_law_1248 (by decide) rfl rfl ?_
  refine g_aload_n C (q := 2) d_law_1250 rfl rfl ?_
  refine gVF C lw_in (st := []) (wr := lwd ad cI cZ cJ qo jf' x') (m_Tw_mean y hI.oky) i013 i1333 lbm_c lbm_c1 lbm_r rfl rfl (by decide) k_861 k_858 k_859 k_860 k_7 rfl ho_Tw_mean rfl rfl ⟨by decide, by decide⟩ 0 (lbm_0.trans (mwo_0 _)) rfl rfl rfl (Nat.le_of_ble_eq_true rfl) d_law_1251 ⟨hcs.1, hcs.2⟩ (fun r w hq => ?_)
  obtain ⟨z, rfl, hm⟩ := hq
  obtain ⟨e1, e2, ⟨u, rfl⟩, e3⟩ := P_mean hI hc hm
  clear hm
  refine g_eq (ws' := (lbw ad md cI cZ cJ qo jf' x' z)) (lv' := [(0, .ref b), (1, .ref (ad 0)), (2, .ref (md 0)), (3, .ref qo), (4, .int (iI (4 * (j : Int)))), (5, .int (iI k))]) (pc' := 1254) (st' := [.int (iI u)]) rfl rfl rfl rfl ?_
  refine g_widen (k := cells + 1) (n := slots + 6) (by omega) (by omega) ?_
  refine g_istore C (lv' := [(0, .ref b), (1, .ref (ad 0)), (2, .ref (md 0)), (3, .ref qo), (4, .int (iI (4 * (j : Int)))), (5, .int (iI k)), (6, .int (iI u))]) d_law_1254 (by decide) rfl rfl ?_
  refine g_aload_n C (q := 2) d_law_1256 rfl rfl ?_
  refine gVF C lw_in (st := []) (wr := lwd ad cI cZ cJ qo jf' x') (m_Tw_thrown z) i2033 i020 lbw_d lbw_d1 lbw_e rfl rfl (by decide) k_706 k_703 k_704 k_705 k_7 rfl ho_Tw_thrown rfl rfl ⟨by decide, by decide⟩ 20 (lbw_20.trans (mwo_0 _)) rfl rfl rfl (Nat.le_of_ble_eq_true rfl) d_law_1257 ⟨hcs.1, hcs.2⟩ (fun r w hq => ?_)
  obtain ⟨rfl, rfl⟩ := hq
  refine g_eq (ws' := (lbw ad md cI cZ cJ qo jf' x' z)) (lv' := [(0, .ref b), (1, .ref (ad 0)), (2, .ref (md 0)), (3, .ref qo), (4, .int (iI (4 * (j : Int)))), (5, .int (iI k)), (6, .int (iI u))]) (pc' := 1260) (st' := [.int (iI k)]) rfl rfl rfl (by rw [← e1] <;> rfl) ?_
  refine g_widen (k := cells + 1) (n := slots + 6) (by omega) (by omega) ?_
  refine g_iload C (q := 5) d_law_1260 rfl ?_
  refine g_same C (tgt := 1267) d_law_1262 rfl ?_
  refine g_iload C (q := 5) d_law_1267 rfl ?_
  refine g_if_ne C (tgt := 1284) d_law_1269 rfl (by omega) (fun h1269_2 => ?_) (fun h1269_2 => ?_)
  · refine g_goto C (tgt := 1312) d_law_1284 rfl ?_
    refine g_lv (lv' := [(0, .ref b), (1, .ref (ad 0)), (2, .ref (md 0)), (3, .ref qo), (4, .int (iI (4 * (j : Int))))]) [0, 1, 2, 3, 4] rfl ?_
    exact K _ _ _ e3
  · refine g_aload_n C (q := 3) d_law_1272 rfl rfl ?_
    refine g_iconst C d_law_1273 ?_
    refine g_lald C 0 2 lbw_0 rfl (by decide) (by decide) d_law_1274 ?_
    have hu : u = o := Option.some.inj (e2 h1269_2)
    refine g_long (z := (iI u).toInt64) ((hj h1269_2).trans (by rw [hu])) ?_
    refine g_iload C (q := 6) d_law_1275 rfl ?_
    refine g_i2l C d_law_1277 ?_
    refine g_lcmp0 C d_law_1278 ?_
    refine g_if_eq C (tgt := 1284) d_law_1279 rfl (by omega) (fun h1279_3 => ?_) (fun h1279_3 => ?_)
    · refine g_goto C (tgt := 1312) d_law_1284 rfl ?_
      refine g_lv (lv' := [(0, .ref b), (1, .ref (ad 0)), (2, .ref (md 0)), (3, .ref qo), (4, .int (iI (4 * (j : Int))))]) [0, 1, 2, 3, 4] rfl ?_
      exact K _ _ _ e3
    · exfalso
      omega
set_option maxRecDepth 100000 in
set_option maxHeartbeats 4000000 in
theorem lw_count {p : Program} {l : Launch} {e : Env} {s : State} {m : MethodId} {args : Array Value} {below : List Frame} {meth : Method} {c : Code} {D : va_G} {cI cZ cJ : ClassId} {base : Nat} {ad md : Nat → Nat} {A : Nat → Prop} {Q : State → Prop} {b L qo : Nat} {xs : Nat → Int32} {cells slots : Nat} (C : gC p s m args meth c D cls9 (tyl cI cZ cJ) A code 7 "BatchSavingsLaw" lw_tbl base (zz base)) (hX : va_X b L xs s s.heap) (hbl : b < s.heap.size) (hbA : ¬ A b) (hl : l.stackTraces = false) (hL : L ≤ 2048) (hcs : cells + 1 ≤ 1071 ∧ slots + 6 ≤ 11127) (x y : Bk) (jf : Nat → Int64) (j : Nat) (hj4 : 4 * j + 4 ≤ L) (hI : I2 x y)
    (K : ∀ (x' y' : Bk) (jf' : Nat → Int64), I2 x' y' → gW p l e room_1 s m args below meth c D cls9 A 7 (cells + 1) (slots + 6) Q (lbw ad md cI cZ cJ qo jf' x' y') [(0, .ref b), (1, .ref (ad 0)), (2, .ref (md 0)), (3, .ref qo), (4, .int (iI (4 * (j : Int))))] 1312 []) : gW p l e room_1 s m args below meth c D cls9 A 7 cells slots Q (lbw ad md cI cZ cJ qo jf x y) [(0, .ref b), (1, .ref (ad 0)), (2, .ref (md 0)), (3, .ref qo), (4, .int (iI (4 * (j : Int))))] 1287 [] := by
  have hc0 : cells ≤ 1071 ∧ slots ≤ 11127 := by omega
  refine g_aload_n C (q := 1) d_law_1287 rfl rfl ?_
  refine g_aload_n C (q := 0) d_law_1288 rfl rfl ?_
  refine g_iload C (q := 4) d_law_1289 rfl ?_
  refine g_iconst C d_law_1291 ?_
  refine g_iadd C d_law_1292 ?_
  refine g_sld C hX hbl hbA (n := 4 * j + 1) (by omega) (by omega) hL d_law_1293 ?_
  refine gVF C lw_in (st := []) (wr := (qo, .inl (cJ, 1, .inr (.inl jf))) :: mw md cI cZ y) (m_S_count x ((xs (4 * j + 1)).toInt) (InR_x (xs (4 * j + 1))) hI.1.ok) i120 i02033 lbw_k lbw_k1 lbw_kr rfl rfl (by decide) k_167 k_164 k_165 k_166 k_1 rfl ho_S_count rfl rfl ⟨by decide, by decide⟩ 1 lbw_1 rfl rfl rfl (Nat.le_of_ble_eq_true rfl) d_law_1294 ⟨hc0.1, hc0.2⟩ (fun r w hq => ?_)
  obtain ⟨rfl, rfl⟩ := hq
  refine g_eq (ws' := (lbe ad md cI cZ cJ qo jf x y)) (lv' := [(0, .ref b), (1, .ref (ad 0)), (2, .ref (md 0)), (3, .ref qo), (4, .int (iI (4 * (j : Int))))]) (pc' := 1297) (st' := [.int (iI (cnt x ((xs (4 * j + 1)).toInt)))]) rfl rfl rfl rfl ?_
  refine g_widen (k := cells) (n := slots) (by omega) (by omega) ?_
  refine g_aload_n C (q := 2) d_law_1297 rfl rfl ?_
  refine g_aload_n C (q := 0) d_law_1298 rfl rfl ?_
  refine g_iload C (q := 4) d_law_1299 rfl ?_
  refine g_iconst C d_law_1301 ?_
  refine g_iadd C d_law_1302 ?_
  refine g_sld C hX hbl hbA (n := 4 * j + 1) (by omega) (by omega) hL d_law_1303 ?_
  refine gVF C lw_in (st := [.int (iI (cnt x ((xs (4 * j + 1)).toInt)))]) (wr := lwd ad cI cZ cJ qo jf x) (m_Tw_count y ((xs (4 * j + 1)).toInt) (InR_x (xs (4 * j + 1))) hI.oky) i114 i01433 lbe_c lbe_c1 lbe_r rfl rfl (by decide) k_865 k_862 k_863 k_864 k_7 rfl ho_Tw_count rfl rfl ⟨by decide, by decide⟩ 1 (lbe_1.trans (mwo_0 _)) rfl rfl rfl (Nat.le_of_ble_eq_true rfl) d_law_1304 ⟨hc0.1, hc0.2⟩ (fun r w hq => ?_)
  obtain ⟨z, rfl, m0, m1, rfl, m3⟩ := hq
  have e1 : cnt y ((xs (4 * j + 1)).toInt) = cnt x ((xs (4 * j + 1)).toInt) := hI.2.1.fn (fun z => cnt z ((xs (4 * j + 1)).toInt)) (fun _ => rfl)
  refine g_eq (ws' := (lbw ad md cI cZ cJ qo jf x z)) (lv' := [(0, .ref b), (1, .ref (ad 0)), (2, .ref (md 0)), (3, .ref qo), (4, .int (iI (4 * (j : Int))))]) (pc' := 1307) (st' := [.int (iI (cnt x ((xs (4 * j + 1)).toInt))), .int (iI (cnt x ((xs (4 * j + 1)).toInt)))]) rfl rfl rfl (by rw [← e1] <;> rfl) ?_
  refine g_widen (k := cells + 1) (n := slots + 6) (by omega) (by omega) ?_
  refine g_same C (tgt := 1312) d_law_1307 rfl ?_
  refine g_lv (lv' := [(0, .ref b), (1, .ref (ad 0)), (2, .ref (md 0)), (3, .ref qo), (4, .int (iI (4 * (j : Int))))]) [0, 1, 2, 3, 4] rfl ?_
  exact K _ _ _ (hI.thr (scr.rf x) m3)
