theorem bsf_mc {y x : Bk} (h : mc y x) (a : Int) (k : Nat) : bsf y a k = bsf x a k := by
  induction k with
  | zero => rfl
  | succ k ih =>
    have e1 : mayC y a (k : Int) = mayC x a (k : Int) := h.fn (fun z => mayC z a (k : Int)) (fun _ => rfl)
    have e2 : swl y a (k : Int) = swl x a (k : Int) := h.fn (fun z => swl z a (k : Int)) (fun _ => rfl)
    have e14 := h.k 14 (by decide)
    by_cases hc : ¬ 4 ≤ x 14 (k : Int) ∧ mayC x a (k : Int) ∧ ((bsf x a k).1 = -1 ∨ (bsf x a k).2 < swl x a (k : Int))
    · rw [bsf_t hc, bsf_t (by rw [e14, e1, ih, e2]; exact hc), e2]
    · rw [bsf_f hc, bsf_f (by rw [e14, e1, ih, e2]; exact hc), ih]
set_option maxHeartbeats 4000000 in
theorem P_order {x y x' z : Bk} {a b v : Int} {k o : Int} {r : Option Int} (hI : I2 x y) (hc : S_order x a b v k o x') (hm : (z 0 0 = 1 ∧ (¬ ((1 ≤ a ∧ a ≤ 10000) ∧ (1 ≤ b ∧ b ≤ 100) ∧ (0 ≤ v ∧ v ≤ 3))) ∧ r = some (0) ∧ e0 z y) ∨ (z 0 0 = 2 ∧ (((1 ≤ a ∧ a ≤ 10000) ∧ (1 ≤ b ∧ b ≤ 100) ∧ (0 ≤ v ∧ v ≤ 3)) ∧ ¬ y 1 0 < 10) ∧ r = some (0) ∧ e0 z y) ∨ (z 0 0 = 0 ∧ (((1 ≤ a ∧ a ≤ 10000) ∧ (1 ≤ b ∧ b ≤ 100) ∧ (0 ≤ v ∧ v ≤ 3)) ∧ y 1 0 < 10) ∧ r = some (y 1 0) ∧ e0 z (ordX y a b v))) : z 0 0 = k ∧ (k = 0 → r = some o) ∧ (∃ u, r = some u) ∧ I2 x' z := by
  have hn := hI.1.ok.n
  have hb3 := hI.1.ok.b
  have e1 : y 1 0 = x 1 0 := by rw [hI.2.1.k 1 (by decide)]
  have e3 : y 3 0 = x 3 0 := by rw [hI.2.1.k 3 (by decide)]
  have e21 : y 2 1 = x 2 1 := hI.2.1.2.1
  have e15 : y 15 a = x 15 a := by rw [hI.2.1.k 15 (by decide)]
  have e14 : y 14 b = x 14 b := by rw [hI.2.1.k 14 (by decide)]
  unfold S_order at hc
  rcases hc with ⟨rfl, c1, c2⟩ | ⟨rfl, c1, c2⟩ | ⟨rfl, c1, c2⟩
  · rcases hm with ⟨m0, m1, m2, m3⟩ | ⟨m0, m1, m2, m3⟩ | ⟨m0, m1, m2, m3⟩
    · exact ⟨m0, fun h => by omega, ⟨_, m2⟩, hI.thr c2 m3⟩
    · exfalso
      omega
    · exfalso
      omega
  · rcases hm with ⟨m0, m1, m2, m3⟩ | ⟨m0, m1, m2, m3⟩ | ⟨m0, m1, m2, m3⟩
    · exfalso
      omega
    · exact ⟨m0, fun h => by omega, ⟨_, m2⟩, hI.thr c2 m3⟩
    · exfalso
      omega
  · rcases hm with ⟨m0, m1, m2, m3⟩ | ⟨m0, m1, m2, m3⟩ | ⟨m0, m1, m2, m3⟩
    · exfalso
      omega
    · exfalso
      omega
    · obtain ⟨rfl, rfl⟩ := c2
      exact ⟨m0, fun _ => by rw [m2]; exact congrArg some e1, ⟨_, m2⟩, hI.1.ord c1.1 c1.2, (hI.2.1.ord a b v).e0 m3, by rw [m3 18 (by decide)]; exact hI.2.2⟩
set_option maxHeartbeats 4000000 in
theorem P_joined {x y x' z : Bk} {a b v : Int} {k o : Int} {r : Option Int} (hI : I2 x y) (hc : S_joined x a b v k o x') (hm : (z 0 0 = 1 ∧ (¬ ((0 ≤ a ∧ a < y 1 0) ∧ (0 ≤ b ∧ b < y 1 0))) ∧ r = some (0) ∧ e0 z y) ∨ (z 0 0 = 2 ∧ (((0 ≤ a ∧ a < y 1 0) ∧ (0 ≤ b ∧ b < y 1 0)) ∧ (a = b ∨ ¬ (0 ≤ v ∧ v ≤ 20000))) ∧ r = some (0) ∧ e0 z y) ∨ (z 0 0 = 0 ∧ (((0 ≤ a ∧ a < y 1 0) ∧ (0 ≤ b ∧ b < y 1 0)) ∧ ¬ a = b ∧ 0 ≤ v ∧ v ≤ 20000) ∧ r = some (sv (joiX y a b v) a b) ∧ e0 z (joiX y a b v))) : z 0 0 = k ∧ (k = 0 → r = some o) ∧ (∃ u, r = some u) ∧ I2 x' z := by
  have hn := hI.1.ok.n
  have hb3 := hI.1.ok.b
  have e1 : y 1 0 = x 1 0 := by rw [hI.2.1.k 1 (by decide)]
  have e3 : y 3 0 = x 3 0 := by rw [hI.2.1.k 3 (by decide)]
  have e21 : y 2 1 = x 2 1 := hI.2.1.2.1
  have e15 : y 15 a = x 15 a := by rw [hI.2.1.k 15 (by decide)]
  have e14 : y 14 b = x 14 b := by rw [hI.2.1.k 14 (by decide)]
  unfold S_joined at hc
  rcases hc with ⟨rfl, c1, c2⟩ | ⟨rfl, c1, c2⟩ | ⟨rfl, c1, c2⟩
  · rcases hm with ⟨m0, m1, m2, m3⟩ | ⟨m0, m1, m2, m3⟩ | ⟨m0, m1, m2, m3⟩
    · exact ⟨m0, fun h => by omega, ⟨_, m2⟩, hI.thr c2 m3⟩
    · exfalso
      omega
    · exfalso
      omega
  · rcases hm with ⟨m0, m1, m2, m3⟩ | ⟨m0, m1, m2, m3⟩ | ⟨m0, m1, m2, m3⟩
    · exfalso
      omega
    · exact ⟨m0, fun h => by omega, ⟨_, m2⟩, hI.thr c2 m3⟩
    · exfalso
      omega
  · rcases hm with ⟨m0, m1, m2, m3⟩ | ⟨m0, m1, m2, m3⟩ | ⟨m0, m1, m2, m3⟩
    · exfalso
      omega
    · exfalso
      omega
    · obtain ⟨rfl, rfl⟩ := c2
      exact ⟨m0, fun _ => by rw [m2]; exact congrArg some ((hI.2.1.joi a b v).fn (fun z => sv z a b) (fun _ => rfl)), ⟨_, m2⟩, hI.1.joi c1.2.2, (hI.2.1.joi a b v).e0 m3, by rw [m3 18 (by decide)]; exact hI.2.2⟩
set_option maxHeartbeats 4000000 in
theorem P_saving {x y x' z : Bk} {a b : Int} {k o : Int} {r : Option Int} (hI : I2 x y) (hc : S_saving x a b k o x') (hm : (z 0 0 = 1 ∧ (¬ ((0 ≤ a ∧ a < y 1 0) ∧ (0 ≤ b ∧ b < y 1 0))) ∧ r = some (0) ∧ e0 z y) ∨ (z 0 0 = 2 ∧ (((0 ≤ a ∧ a < y 1 0) ∧ (0 ≤ b ∧ b < y 1 0)) ∧ a = b) ∧ r = some (0) ∧ e0 z y) ∨ (z 0 0 = 0 ∧ (((0 ≤ a ∧ a < y 1 0) ∧ (0 ≤ b ∧ b < y 1 0)) ∧ ¬ a = b) ∧ r = some (sv y a b) ∧ e0 z y)) : z 0 0 = k ∧ (k = 0 → r = some o) ∧ (∃ u, r = some u) ∧ I2 x' z := by
  have hn := hI.1.ok.n
  have hb3 := hI.1.ok.b
  have e1 : y 1 0 = x 1 0 := by rw [hI.2.1.k 1 (by decide)]
  have e3 : y 3 0 = x 3 0 := by rw [hI.2.1.k 3 (by decide)]
  have e21 : y 2 1 = x 2 1 := hI.2.1.2.1
  have e15 : y 15 a = x 15 a := by rw [hI.2.1.k 15 (by decide)]
  have e14 : y 14 b = x 14 b := by rw [hI.2.1.k 14 (by decide)]
  unfold S_saving at hc
  rcases hc with ⟨rfl, c1, c2⟩ | ⟨rfl, c1, c2⟩ | ⟨rfl, c1, c2⟩
  · rcases hm with ⟨m0, m1, m2, m3⟩ | ⟨m0, m1, m2, m3⟩ | ⟨m0, m1, m2, m3⟩
    · exact ⟨m0, fun h => by omega, ⟨_, m2⟩, hI.thr c2 m3⟩
    · exfalso
      omega
    · exfalso
      omega
  · rcases hm with ⟨m0, m1, m2, m3⟩ | ⟨m0, m1, m2, m3⟩ | ⟨m0, m1, m2, m3⟩
    · exfalso
      omega
    · exact ⟨m0, fun h => by omega, ⟨_, m2⟩, hI.thr c2 m3⟩
    · exfalso
      omega
  · rcases hm with ⟨m0, m1, m2, m3⟩ | ⟨m0, m1, m2, m3⟩ | ⟨m0, m1, m2, m3⟩
    · exfalso
      omega
    · exfalso
      omega
    · obtain ⟨rfl, rfl⟩ := c2
      exact ⟨m0, fun _ => by rw [m2]; exact congrArg some (hI.2.1.fn (fun z => sv z a b) (fun _ => rfl)), ⟨_, m2⟩, hI.1, (hI.2.1).e0 m3, by rw [m3 18 (by decide)]; exact hI.2.2⟩
set_option maxHeartbeats 4000000 in
theorem P_rule {x y x' z : Bk} {a b v : Int} {k o : Int} {r : Option Int} (hI : I2 x y) (hv : v = 0 ∨ v = 1) (hc : S_rule x a b v k o x') (hm : (z 0 0 = 1 ∧ (¬ ((0 ≤ a ∧ a < y 1 0) ∧ (0 ≤ b ∧ b < y 1 0))) ∧ r = some (0) ∧ e0 z y) ∨ (z 0 0 = 2 ∧ (((0 ≤ a ∧ a < y 1 0) ∧ (0 ≤ b ∧ b < y 1 0)) ∧ a = b) ∧ r = some (0) ∧ e0 z y) ∨ (z 0 0 = 0 ∧ (((0 ≤ a ∧ a < y 1 0) ∧ (0 ≤ b ∧ b < y 1 0)) ∧ ¬ a = b) ∧ r = some (c01 (okP (rulX y a b v) a b)) ∧ e0 z (rulX y a b v))) : z 0 0 = k ∧ (k = 0 → r = some o) ∧ (∃ u, r = some u) ∧ I2 x' z := by
  have hn := hI.1.ok.n
  have hb3 := hI.1.ok.b
  have e1 : y 1 0 = x 1 0 := by rw [hI.2.1.k 1 (by decide)]
  have e3 : y 3 0 = x 3 0 := by rw [hI.2.1.k 3 (by decide)]
  have e21 : y 2 1 = x 2 1 := hI.2.1.2.1
  have e15 : y 15 a = x 15 a := by rw [hI.2.1.k 15 (by decide)]
  have e14 : y 14 b = x 14 b := by rw [hI.2.1.k 14 (by decide)]
  unfold S_rule at hc
  rcases hc with ⟨rfl, c1, c2⟩ | ⟨rfl, c1, c2⟩ | ⟨rfl, c1, c2⟩
  · rcases hm with ⟨m0, m1, m2, m3⟩ | ⟨m0, m1, m2, m3⟩ | ⟨m0, m1, m2, m3⟩
    · exact ⟨m0, fun h => by omega, ⟨_, m2⟩, hI.thr c2 m3⟩
    · exfalso
      omega
    · exfalso
      omega
  · rcases hm with ⟨m0, m1, m2, m3⟩ | ⟨m0, m1, m2, m3⟩ | ⟨m0, m1, m2, m3⟩
    · exfalso
      omega
    · exact ⟨m0, fun h => by omega, ⟨_, m2⟩, hI.thr c2 m3⟩
    · exfalso
      omega
  · rcases hm with ⟨m0, m1, m2, m3⟩ | ⟨m0, m1, m2, m3⟩ | ⟨m0, m1, m2, m3⟩
    · exfalso
      omega
    · exfalso
      omega
    · obtain ⟨rfl, hsc⟩ := c2
      exact ⟨m0, fun _ => by rw [m2]; exact congrArg some ((hI.2.1.rul a b v).fn (fun z => c01 (okP z a b)) (fun _ => rfl)), ⟨_, m2⟩, (hI.1.rul hv (by omega) (by omega)).scr hsc, ((hI.2.1.rul a b v).cor hsc.cor).e0 m3, by rw [m3 18 (by decide)]; exact hI.2.2⟩
set_option maxHeartbeats 4000000 in
theorem P_weight {x y x' z : Bk} {a v : Int} {k o : Int} {r : Option Int} (hI : I2 x y) (hc : S_weight x a v k o x') (hm : (z 0 0 = 1 ∧ (¬ (0 ≤ a ∧ a < y 1 0)) ∧ r = some (0) ∧ e0 z y) ∨ (z 0 0 = 2 ∧ ((0 ≤ a ∧ a < y 1 0) ∧ ¬ (0 ≤ v ∧ v ≤ 1000)) ∧ r = some (0) ∧ e0 z y) ∨ (z 0 0 = 3 ∧ (((0 ≤ a ∧ a < y 1 0) ∧ (0 ≤ v ∧ v ≤ 1000)) ∧ ¬ y 15 a = -1) ∧ r = some (0) ∧ e0 z y) ∨ (z 0 0 = 0 ∧ (((0 ≤ a ∧ a < y 1 0) ∧ (0 ≤ v ∧ v ≤ 1000) ∧ y 15 a = -1) ∧ y 2 1 < v) ∧ r = some (0) ∧ e0 z y) ∨ (z 0 0 = 0 ∧ (((0 ≤ a ∧ a < y 1 0) ∧ (0 ≤ v ∧ v ≤ 1000) ∧ y 15 a = -1) ∧ v ≤ y 2 1) ∧ r = some (1) ∧ e0 z (bu y 8 (updI (y 8) a v)))) : z 0 0 = k ∧ (k = 0 → r = some o) ∧ (∃ u, r = some u) ∧ I2 x' z := by
  have hn := hI.1.ok.n
  have hb3 := hI.1.ok.b
  have e1 : y 1 0 = x 1 0 := by rw [hI.2.1.k 1 (by decide)]
  have e3 : y 3 0 = x 3 0 := by rw [hI.2.1.k 3 (by decide)]
  have e21 : y 2 1 = x 2 1 := hI.2.1.2.1
  have e15 : y 15 a = x 15 a := by rw [hI.2.1.k 15 (by decide)]
  unfold S_weight at hc
  rcases hc with ⟨rfl, c1, c2⟩ | ⟨rfl, c1, c2⟩ | ⟨rfl, c1, c2⟩ | ⟨rfl, c1, c2⟩
  · rcases hm with ⟨m0, m1, m2, m3⟩ | ⟨m0, m1, m2, m3⟩ | ⟨m0, m1, m2, m3⟩ | ⟨m0, m1, m2, m3⟩ | ⟨m0, m1, m2, m3⟩
    · exact ⟨m0, fun h => by omega, ⟨_, m2⟩, hI.thr c2 m3⟩
    · exfalso
      omega
    · exfalso
      omega
    · exfalso
      omega
    · exfalso
      omega
  · rcases hm with ⟨m0, m1, m2, m3⟩ | ⟨m0, m1, m2, m3⟩ | ⟨m0, m1, m2, m3⟩ | ⟨m0, m1, m2, m3⟩ | ⟨m0, m1, m2, m3⟩
    · exfalso
      omega
    · exact ⟨m0, fun h => by omega, ⟨_, m2⟩, hI.thr c2 m3⟩
    · exfalso
      omega
    · exfalso
      omega
    · exfalso
      omega
  · rcases hm with ⟨m0, m1, m2, m3⟩ | ⟨m0, m1, m2, m3⟩ | ⟨m0, m1, m2, m3⟩ | ⟨m0, m1, m2, m3⟩ | ⟨m0, m1, m2, m3⟩
    · exfalso
      omega
    · exfalso
      omega
    · exact ⟨m0, fun h => by omega, ⟨_, m2⟩, hI.thr c2 m3⟩
    · exfalso
      omega
    · exfalso
      omega
  · rcases hm with ⟨m0, m1, m2, m3⟩ | ⟨m0, m1, m2, m3⟩ | ⟨m0, m1, m2, m3⟩ | ⟨m0, m1, m2, m3⟩ | ⟨m0, m1, m2, m3⟩
    · exfalso
      omega
    · exfalso
      omega
    · exfalso
      omega
    · rcases c2 with ⟨c2, rfl, rfl⟩ | ⟨c2, rfl, rfl⟩
      · exact ⟨m0, fun _ => m2, ⟨_, m2⟩, hI.1, hI.2.1.e0 m3, by rw [m3 18 (by decide)]; exact hI.2.2⟩
      · exfalso
        omega
    · rcases c2 with ⟨c2, rfl, rfl⟩ | ⟨c2, rfl, rfl⟩
      · exfalso
        omega
      · exact ⟨m0, fun _ => m2, ⟨_, m2⟩, hI.1.wei c1.2.1, (hI.2.1.wei a v).e0 m3, by rw [m3 18 (by decide)]; exact hI.2.2⟩
set_option maxHeartbeats 4000000 in
theorem P_near {x y x' z : Bk} {a b v : Int} {k o : Int} {r : Option Int} (hI : I2 x y) (hv : v = 0 ∨ v = 1) (hc : S_near x a b v k o x') (hm : (z 0 0 = 1 ∧ (¬ ((0 ≤ a ∧ a ≤ 3) ∧ (0 ≤ b ∧ b ≤ 3) ∧ ¬ a = b)) ∧ r = none ∧ e0 z y) ∨ (z 0 0 = 0 ∧ (((0 ≤ a ∧ a ≤ 3) ∧ (0 ≤ b ∧ b ≤ 3) ∧ ¬ a = b)) ∧ r = none ∧ e0 z (bu y 11 (updI (updI (y 11) (a * 4 + b) v) (b * 4 + a) v)))) : z 0 0 = k ∧ I2 x' z := by
  have hn := hI.1.ok.n
  have hb3 := hI.1.ok.b
  have e1 : y 1 0 = x 1 0 := by rw [hI.2.1.k 1 (by decide)]
  have e3 : y 3 0 = x 3 0 := by rw [hI.2.1.k 3 (by decide)]
  have e21 : y 2 1 = x 2 1 := hI.2.1.2.1
  have e15 : y 15 a = x 15 a := by rw [hI.2.1.k 15 (by decide)]
  have e14 : y 14 b = x 14 b := by rw [hI.2.1.k 14 (by decide)]
  unfold S_near at hc
  rcases hc with ⟨rfl, c1, c2⟩ | ⟨rfl, c1, c2⟩
  · rcases hm with ⟨m0, m1, m2, m3⟩ | ⟨m0, m1, m2, m3⟩
    · exact ⟨m0, hI.thr c2 m3⟩
    · exfalso
      omega
  · rcases hm with ⟨m0, m1, m2, m3⟩ | ⟨m0, m1, m2, m3⟩
    · exfalso
      omega
    · subst c2
      exact ⟨m0, hI.1.nea hv c1.1 c1.2.1, (hI.2.1.nea a b v).e0 m3, by rw [m3 18 (by decide)]; exact hI.2.2⟩
set_option maxHeartbeats 4000000 in
theorem P_limit {x y x' z : Bk} {a b : Int} {k o : Int} {r : Option Int} (hI : I2 x y) (hc : S_limit x a b k o x') (hm : (z 0 0 = 1 ∧ (¬ ((0 ≤ a ∧ a ≤ 4000) ∧ (1 ≤ b ∧ b ≤ 400))) ∧ r = some (0) ∧ e0 z y) ∨ (z 0 0 = 0 ∧ (((0 ≤ a ∧ a ≤ 4000) ∧ (1 ≤ b ∧ b ≤ 400))) ∧ r = some (above (limX y a b)) ∧ e0 z (limX y a b))) : z 0 0 = k ∧ (k = 0 → r = some o) ∧ (∃ u, r = some u) ∧ I2 x' z := by
  have hn := hI.1.ok.n
  have hb3 := hI.1.ok.b
  have e1 : y 1 0 = x 1 0 := by rw [hI.2.1.k 1 (by decide)]
  have e3 : y 3 0 = x 3 0 := by rw [hI.2.1.k 3 (by decide)]
  have e21 : y 2 1 = x 2 1 := hI.2.1.2.1
  have e15 : y 15 a = x 15 a := by rw [hI.2.1.k 15 (by decide)]
  have e14 : y 14 b = x 14 b := by rw [hI.2.1.k 14 (by decide)]
  unfold S_limit at hc
  rcases hc with ⟨rfl, c1, c2⟩ | ⟨rfl, c1, c2⟩
  · rcases hm with ⟨m0, m1, m2, m3⟩ | ⟨m0, m1, m2, m3⟩
    · exact ⟨m0, fun h => by omega, ⟨_, m2⟩, hI.thr c2 m3⟩
    · exfalso
      omega
  · rcases hm with ⟨m0, m1, m2, m3⟩ | ⟨m0, m1, m2, m3⟩
    · exfalso
      omega
    · obtain ⟨rfl, rfl⟩ := c2
      exact ⟨m0, fun _ => by rw [m2]; exact congrArg some ((hI.2.1.lim a b).fn above (fun _ => rfl)), ⟨_, m2⟩, hI.1.lim c1.1 c1.2, (hI.2.1.lim a b).e0 m3, by rw [m3 18 (by decide)]; exact hI.2.2⟩
set_option maxHeartbeats 4000000 in
theorem P_match {x y x' z : Bk} {v : Int} {k o : Int} {r : Option Int} (hI : I2 x y) (hc : S_match x v k o x') (hm : (z 0 0 = 1 ∧ (¬ (0 ≤ v ∧ v ≤ 10)) ∧ r = some (0) ∧ e0 z y) ∨ (z 0 0 = 0 ∧ (0 ≤ v ∧ v ≤ 10) ∧ r = some (svd z) ∧ (∀ j, j ≠ 0 → j ≠ 4 → j ≠ 16 → j ≠ 17 → j ≠ 18 → z j = y j) ∧ z 4 = updI (y 4) 0 (c01 (frees y ≤ v)) ∧ tb (z 18) ∧ z 16 = mpt y v)) : z 0 0 = k ∧ (k = 0 → r = some o) ∧ (∃ u, r = some u) ∧ I2 x' z := by
  have hn := hI.1.ok.n
  have hb3 := hI.1.ok.b
  have e1 : y 1 0 = x 1 0 := by rw [hI.2.1.k 1 (by decide)]
  have e3 : y 3 0 = x 3 0 := by rw [hI.2.1.k 3 (by decide)]
  have e21 : y 2 1 = x 2 1 := hI.2.1.2.1
  unfold S_match at hc
  rcases hc with ⟨rfl, c1, c2⟩ | ⟨rfl, c1, c2⟩
  · rcases hm with ⟨m0, m1, m2, m3⟩ | ⟨m0, m1, m2, m3⟩
    · exact ⟨m0, fun h => by omega, ⟨_, m2⟩, hI.thr c2 m3⟩
    · exfalso
      omega
  · rcases hm with ⟨m0, m1, m2, m3⟩ | ⟨m0, m1, m2, m3⟩
    · exfalso
      omega
    · obtain ⟨xg, u, hgk, hu, rfl, rfl⟩ := c2
      obtain ⟨m4, m5, m6, m7⟩ := m3
      have hk := match_ok hI hgk hu m4 m5 m6 m7
      exact ⟨m0, fun _ => by rw [m2, hk.2], ⟨_, m2⟩, hk.1⟩
set_option maxHeartbeats 4000000 in
theorem P_with {x y x' z : Bk} {a : Int} {k o : Int} {r : Option Int} (hI : I2 x y) (hc : S_with x a k o x') (hm : (z 0 0 = 1 ∧ (¬ (0 ≤ a ∧ a < y 1 0)) ∧ r = some (0) ∧ e0 z y) ∨ (z 0 0 = 0 ∧ ((0 ≤ a ∧ a < y 1 0)) ∧ r = some (y 16 a) ∧ e0 z y)) : z 0 0 = k ∧ (k = 0 → r = some o) ∧ (∃ u, r = some u) ∧ I2 x' z := by
  have hn := hI.1.ok.n
  have hb3 := hI.1.ok.b
  have e1 : y 1 0 = x 1 0 := by rw [hI.2.1.k 1 (by decide)]
  have e3 : y 3 0 = x 3 0 := by rw [hI.2.1.k 3 (by decide)]
  have e21 : y 2 1 = x 2 1 := hI.2.1.2.1
  have e15 : y 15 a = x 15 a := by rw [hI.2.1.k 15 (by decide)]
  unfold S_with at hc
  rcases hc with ⟨rfl, c1, c2⟩ | ⟨rfl, c1, c2⟩
  · rcases hm with ⟨m0, m1, m2, m3⟩ | ⟨m0, m1, m2, m3⟩
    · exact ⟨m0, fun h => by omega, ⟨_, m2⟩, hI.thr c2 m3⟩
    · exfalso
      omega
  · rcases hm with ⟨m0, m1, m2, m3⟩ | ⟨m0, m1, m2, m3⟩
    · exfalso
      omega
    · obtain ⟨rfl, rfl⟩ := c2
      exact ⟨m0, fun _ => by rw [m2]; exact congrArg some (congrFun (hI.2.1.k 16 (by decide)) a), ⟨_, m2⟩, hI.1, (hI.2.1).e0 m3, by rw [m3 18 (by decide)]; exact hI.2.2⟩
set_option maxHeartbeats 4000000 in
theorem P_open {x y x' z : Bk} {a : Int} {k o : Int} {r : Option Int} (hI : I2 x y) (hc : S_open x a k o x') (hm : (z 0 0 = 1 ∧ (¬ (0 ≤ a ∧ a < y 1 0)) ∧ r = some (0) ∧ e0 z y) ∨ (z 0 0 = 2 ∧ ((0 ≤ a ∧ a < y 1 0) ∧ ¬ y 15 a = -1) ∧ r = some (0) ∧ e0 z y) ∨ (z 0 0 = 3 ∧ (((0 ≤ a ∧ a < y 1 0) ∧ y 15 a = -1) ∧ ¬ y 3 0 < 10) ∧ r = some (0) ∧ e0 z y) ∨ (z 0 0 = 0 ∧ ((0 ≤ a ∧ a < y 1 0) ∧ y 15 a = -1 ∧ y 3 0 < 10) ∧ r = some (y 3 0) ∧ e0 z (opX y a))) : z 0 0 = k ∧ (k = 0 → r = some o) ∧ (∃ u, r = some u) ∧ I2 x' z := by
  have hn := hI.1.ok.n
  have hb3 := hI.1.ok.b
  have e1 : y 1 0 = x 1 0 := by rw [hI.2.1.k 1 (by decide)]
  have e3 : y 3 0 = x 3 0 := by rw [hI.2.1.k 3 (by decide)]
  have e21 : y 2 1 = x 2 1 := hI.2.1.2.1
  have e15 : y 15 a = x 15 a := by rw [hI.2.1.k 15 (by decide)]
  unfold S_open at hc
  rcases hc with ⟨rfl, c1, c2⟩ | ⟨rfl, c1, c2⟩ | ⟨rfl, c1, c2⟩ | ⟨rfl, c1, c2⟩
  · rcases hm with ⟨m0, m1, m2, m3⟩ | ⟨m0, m1, m2, m3⟩ | ⟨m0, m1, m2, m3⟩ | ⟨m0, m1, m2, m3⟩
    · exact ⟨m0, fun h => by omega, ⟨_, m2⟩, hI.thr c2 m3⟩
    · exfalso
      omega
    · exfalso
      omega
    · exfalso
      omega
  · rcases hm with ⟨m0, m1, m2, m3⟩ | ⟨m0, m1, m2, m3⟩ | ⟨m0, m1, m2, m3⟩ | ⟨m0, m1, m2, m3⟩
    · exfalso
      omega
    · exact ⟨m0, fun h => by omega, ⟨_, m2⟩, hI.thr c2 m3⟩
    · exfalso
      omega
    · exfalso
      omega
  · rcases hm with ⟨m0, m1, m2, m3⟩ | ⟨m0, m1, m2, m3⟩ | ⟨m0, m1, m2, m3⟩ | ⟨m0, m1, m2, m3⟩
    · exfalso
      omega
    · exfalso
      omega
    · exact ⟨m0, fun h => by omega, ⟨_, m2⟩, hI.thr c2 m3⟩
    · exfalso
      omega
  · rcases hm with ⟨m0, m1, m2, m3⟩ | ⟨m0, m1, m2, m3⟩ | ⟨m0, m1, m2, m3⟩ | ⟨m0, m1, m2, m3⟩
    · exfalso
      omega
    · exfalso
      omega
    · exfalso
      omega
    · obtain ⟨rfl, rfl⟩ := c2
      have e18 : opX y a 18 = y 18 := by unfold opX; split <;> rfl
      exact ⟨m0, fun _ => by rw [m2]; exact congrArg some e3, ⟨_, m2⟩, hI.1.opn c1.1 c1.2.1 c1.2.2, (mc_opX hI.2.1 a).e0 m3, by rw [m3 18 (by decide), e18]; exact hI.2.2⟩
set_option maxHeartbeats 4000000 in
theorem P_join {x y x' z : Bk} {a b : Int} {k o : Int} {r : Option Int} (hI : I2 x y) (hc : S_join x a b k o x') (hm : (z 0 0 = 1 ∧ (¬ ((0 ≤ a ∧ a < y 1 0) ∧ (0 ≤ b ∧ b < y 3 0))) ∧ r = some (0) ∧ e0 z y) ∨ (z 0 0 = 2 ∧ (((0 ≤ a ∧ a < y 1 0) ∧ (0 ≤ b ∧ b < y 3 0)) ∧ (¬ y 15 a = -1 ∨ ¬ mayC y a b)) ∧ r = some (0) ∧ e0 z y) ∨ (z 0 0 = 3 ∧ ((((0 ≤ a ∧ a < y 1 0) ∧ (0 ≤ b ∧ b < y 3 0)) ∧ y 15 a = -1 ∧ mayC y a b) ∧ 4 ≤ y 14 b) ∧ r = some (0) ∧ e0 z y) ∨ (z 0 0 = 0 ∧ (((0 ≤ a ∧ a < y 1 0) ∧ (0 ≤ b ∧ b < y 3 0)) ∧ y 15 a = -1 ∧ mayC y a b ∧ ¬ 4 ≤ y 14 b) ∧ r = some (wayB (ptB (unX y a) a b) b) ∧ e0 z (ptB (unX y a) a b))) : z 0 0 = k ∧ (k = 0 → r = some o) ∧ (∃ u, r = some u) ∧ I2 x' z := by
  have hn := hI.1.ok.n
  have hb3 := hI.1.ok.b
  have e1 : y 1 0 = x 1 0 := by rw [hI.2.1.k 1 (by decide)]
  have e3 : y 3 0 = x 3 0 := by rw [hI.2.1.k 3 (by decide)]
  have e21 : y 2 1 = x 2 1 := hI.2.1.2.1
  have e15 : y 15 a = x 15 a := by rw [hI.2.1.k 15 (by decide)]
  have e14 : y 14 b = x 14 b := by rw [hI.2.1.k 14 (by decide)]
  unfold S_join at hc
  have hmay : mayC y a b = mayC x a b := hI.2.1.fn (fun z => mayC z a b) (fun _ => rfl)
  obtain ⟨t, ht⟩ : ∃ t : Int, mayC x a b = (t = 1) := ⟨c01 (mayC x a b), propext ⟨fun h => c01_t h, fun h => Classical.byContradiction fun z => by rw [c01_f z] at h; omega⟩⟩
  rw [hmay] at hm
  rw [ht] at hm hc
  rcases hc with ⟨rfl, c1, c2⟩ | ⟨rfl, c1, c2⟩ | ⟨rfl, c1, c2⟩ | ⟨rfl, c1, c2⟩
  · rcases hm with ⟨m0, m1, m2, m3⟩ | ⟨m0, m1, m2, m3⟩ | ⟨m0, m1, m2, m3⟩ | ⟨m0, m1, m2, m3⟩
    · exact ⟨m0, fun h => by omega, ⟨_, m2⟩, hI.thr c2 m3⟩
    · exfalso
      omega
    · exfalso
      omega
    · exfalso
      omega
  · rcases hm with ⟨m0, m1, m2, m3⟩ | ⟨m0, m1, m2, m3⟩ | ⟨m0, m1, m2, m3⟩ | ⟨m0, m1, m2, m3⟩
    · exfalso
      omega
    · exact ⟨m0, fun h => by omega, ⟨_, m2⟩, hI.thr c2 m3⟩
    · exfalso
      omega
    · exfalso
      omega
  · rcases hm with ⟨m0, m1, m2, m3⟩ | ⟨m0, m1, m2, m3⟩ | ⟨m0, m1, m2, m3⟩ | ⟨m0, m1, m2, m3⟩
    · exfalso
      omega
    · exfalso
      omega
    · exact ⟨m0, fun h => by omega, ⟨_, m2⟩, hI.thr c2 m3⟩
    · exfalso
      omega
  · rcases hm with ⟨m0, m1, m2, m3⟩ | ⟨m0, m1, m2, m3⟩ | ⟨m0, m1, m2, m3⟩ | ⟨m0, m1, m2, m3⟩
    · exfalso
      omega
    · exfalso
      omega
    · exfalso
      omega
    · obtain ⟨yy, hsc, rfl, rfl⟩ := c2
      have hI2 : I2 yy y := hI.thr hsc (e0.rf y)
      have f1 : yy 1 0 = x 1 0 := by rw [hsc.1 1 (by decide) (by decide)]
      have f3 : yy 3 0 = x 3 0 := by rw [hsc.1 3 (by decide) (by decide)]
      have f15 : yy 15 a = x 15 a := by rw [hsc.1 15 (by decide) (by decide)]
      have f14 : yy 14 b = x 14 b := by rw [hsc.1 14 (by decide) (by decide)]
      have hM := (hI2.2.1.unX a).ptB a b
      exact ⟨m0, fun _ => by rw [m2]; exact congrArg some (hM.fn (fun z => wayB z b) (fun _ => rfl)), ⟨_, m2⟩, hI2.1.join (by omega) (by omega) (by omega) (by omega), hM.e0 m3, by rw [m3 18 (by decide)]; exact hI.2.2⟩
set_option maxHeartbeats 4000000 in
theorem P_leave {x y x' z : Bk} {a : Int} {k o : Int} {r : Option Int} (hI : I2 x y) (hc : S_leave x a k o x') (hm : (z 0 0 = 1 ∧ (¬ (0 ≤ a ∧ a < y 1 0)) ∧ r = some (0) ∧ e0 z y) ∨ (z 0 0 = 2 ∧ ((0 ≤ a ∧ a < y 1 0) ∧ y 15 a = -1) ∧ r = some (0) ∧ e0 z y) ∨ (z 0 0 = 0 ∧ ((0 ≤ a ∧ a < y 1 0) ∧ ¬ y 15 a = -1) ∧ r = some ((tk (y 15 a) a (y 13) (y 14 (y 15 a)).toNat).2) ∧ e0 z (leX y a))) : z 0 0 = k ∧ (k = 0 → r = some o) ∧ (∃ u, r = some u) ∧ I2 x' z := by
  have hn := hI.1.ok.n
  have hb3 := hI.1.ok.b
  have e1 : y 1 0 = x 1 0 := by rw [hI.2.1.k 1 (by decide)]
  have e3 : y 3 0 = x 3 0 := by rw [hI.2.1.k 3 (by decide)]
  have e21 : y 2 1 = x 2 1 := hI.2.1.2.1
  have e15 : y 15 a = x 15 a := by rw [hI.2.1.k 15 (by decide)]
  unfold S_leave at hc
  rcases hc with ⟨rfl, c1, c2⟩ | ⟨rfl, c1, c2⟩ | ⟨rfl, c1, c2⟩
  · rcases hm with ⟨m0, m1, m2, m3⟩ | ⟨m0, m1, m2, m3⟩ | ⟨m0, m1, m2, m3⟩
    · exact ⟨m0, fun h => by omega, ⟨_, m2⟩, hI.thr c2 m3⟩
    · exfalso
      omega
    · exfalso
      omega
  · rcases hm with ⟨m0, m1, m2, m3⟩ | ⟨m0, m1, m2, m3⟩ | ⟨m0, m1, m2, m3⟩
    · exfalso
      omega
    · exact ⟨m0, fun h => by omega, ⟨_, m2⟩, hI.thr c2 m3⟩
    · exfalso
      omega
  · rcases hm with ⟨m0, m1, m2, m3⟩ | ⟨m0, m1, m2, m3⟩ | ⟨m0, m1, m2, m3⟩
    · exfalso
      omega
    · exfalso
      omega
    · obtain ⟨rfl, rfl⟩ := c2
      exact ⟨m0, fun _ => by rw [m2]; exact congrArg some (hI.2.1.fn (fun z => (tk (z 15 a) a (z 13) (z 14 (z 15 a)).toNat).2) (fun _ => rfl)), ⟨_, m2⟩, hI.1.lea c1.1 c1.2, (hI.2.1.lea a).e0 m3, by rw [m3 18 (by decide)]; exact hI.2.2⟩
set_option maxHeartbeats 4000000 in
theorem P_batch {x y x' z : Bk} {a : Int} {k o : Int} {r : Option Int} (hI : I2 x y) (hc : S_batch x a k o x') (hm : (z 0 0 = 1 ∧ (¬ (0 ≤ a ∧ a < y 1 0)) ∧ r = some (0) ∧ e0 z y) ∨ (z 0 0 = 0 ∧ ((0 ≤ a ∧ a < y 1 0)) ∧ r = some (y 15 a) ∧ e0 z y)) : z 0 0 = k ∧ (k = 0 → r = some o) ∧ (∃ u, r = some u) ∧ I2 x' z := by
  have hn := hI.1.ok.n
  have hb3 := hI.1.ok.b
  have e1 : y 1 0 = x 1 0 := by rw [hI.2.1.k 1 (by decide)]
  have e3 : y 3 0 = x 3 0 := by rw [hI.2.1.k 3 (by decide)]
  have e21 : y 2 1 = x 2 1 := hI.2.1.2.1
  have e15 : y 15 a = x 15 a := by rw [hI.2.1.k 15 (by decide)]
  unfold S_batch at hc
  rcases hc with ⟨rfl, c1, c2⟩ | ⟨rfl, c1, c2⟩
  · rcases hm with ⟨m0, m1, m2, m3⟩ | ⟨m0, m1, m2, m3⟩
    · exact ⟨m0, fun h => by omega, ⟨_, m2⟩, hI.thr c2 m3⟩
    · exfalso
      omega
  · rcases hm with ⟨m0, m1, m2, m3⟩ | ⟨m0, m1, m2, m3⟩
    · exfalso
      omega
    · obtain ⟨rfl, rfl⟩ := c2
      exact ⟨m0, fun _ => by rw [m2]; exact congrArg some (congrFun (hI.2.1.k 15 (by decide)) a), ⟨_, m2⟩, hI.1, (hI.2.1).e0 m3, by rw [m3 18 (by decide)]; exact hI.2.2⟩
set_option maxHeartbeats 4000000 in
theorem P_told {x y x' z : Bk} {b a v : Int} {k o : Int} {r : Option Int} (hI : I2 x y) (hc : S_told x b a v k o x') (hm : (z 0 0 = 1 ∧ (¬ (0 ≤ b ∧ b < y 3 0)) ∧ r = some (0) ∧ e0 z y) ∨ (z 0 0 = 2 ∧ ((0 ≤ b ∧ b < y 3 0) ∧ ¬ ((0 ≤ v ∧ v ≤ 4) ∧ (v = 0 → 0 ≤ a ∧ a ≤ y 14 b - 1))) ∧ r = some (0) ∧ e0 z y) ∨ (z 0 0 = 0 ∧ (((0 ≤ b ∧ b < y 3 0) ∧ ((0 ≤ v ∧ v ≤ 4) ∧ (v = 0 → 0 ≤ a ∧ a ≤ y 14 b - 1))) ∧ v = 0) ∧ r = some (y 13 (b * 4 + a)) ∧ e0 z y) ∨ (z 0 0 = 0 ∧ (((0 ≤ b ∧ b < y 3 0) ∧ ((0 ≤ v ∧ v ≤ 4) ∧ (v = 0 → 0 ≤ a ∧ a ≤ y 14 b - 1))) ∧ v = 1) ∧ r = some (wayB y b) ∧ e0 z y) ∨ (z 0 0 = 0 ∧ (((0 ≤ b ∧ b < y 3 0) ∧ ((0 ≤ v ∧ v ≤ 4) ∧ (v = 0 → 0 ≤ a ∧ a ≤ y 14 b - 1))) ∧ v = 2) ∧ r = some (sby y b) ∧ e0 z y) ∨ (z 0 0 = 0 ∧ (((0 ≤ b ∧ b < y 3 0) ∧ ((0 ≤ v ∧ v ≤ 4) ∧ (v = 0 → 0 ≤ a ∧ a ≤ y 14 b - 1))) ∧ v = 3) ∧ r = some (sumB y (y 6) b) ∧ e0 z y) ∨ (z 0 0 = 0 ∧ (((0 ≤ b ∧ b < y 3 0) ∧ ((0 ≤ v ∧ v ≤ 4) ∧ (v = 0 → 0 ≤ a ∧ a ≤ y 14 b - 1))) ∧ v = 4) ∧ r = some (sumB y (y 8) b) ∧ e0 z y)) : z 0 0 = k ∧ (k = 0 → r = some o) ∧ (∃ u, r = some u) ∧ I2 x' z := by
  have hn := hI.1.ok.n
  have hb3 := hI.1.ok.b
  have e1 : y 1 0 = x 1 0 := by rw [hI.2.1.k 1 (by decide)]
  have e3 : y 3 0 = x 3 0 := by rw [hI.2.1.k 3 (by decide)]
  have e21 : y 2 1 = x 2 1 := hI.2.1.2.1
  have e15 : y 15 a = x 15 a := by rw [hI.2.1.k 15 (by decide)]
  have e14 : y 14 b = x 14 b := by rw [hI.2.1.k 14 (by decide)]
  unfold S_told at hc
  rcases hc with ⟨rfl, c1, c2⟩ | ⟨rfl, c1, c2⟩ | ⟨rfl, c1, c2⟩
  · rcases hm with ⟨m0, m1, m2, m3⟩ | ⟨m0, m1, m2, m3⟩ | ⟨m0, m1, m2, m3⟩ | ⟨m0, m1, m2, m3⟩ | ⟨m0, m1, m2, m3⟩ | ⟨m0, m1, m2, m3⟩ | ⟨m0, m1, m2, m3⟩
    · exact ⟨m0, fun h => by omega, ⟨_, m2⟩, hI.thr c2 m3⟩
    · exfalso
      omega
    · exfalso
      omega
    · exfalso
      omega
    · exfalso
      omega
    · exfalso
      omega
    · exfalso
      omega
  · rcases hm with ⟨m0, m1, m2, m3⟩ | ⟨m0, m1, m2, m3⟩ | ⟨m0, m1, m2, m3⟩ | ⟨m0, m1, m2, m3⟩ | ⟨m0, m1, m2, m3⟩ | ⟨m0, m1, m2, m3⟩ | ⟨m0, m1, m2, m3⟩
    · exfalso
      omega
    · exact ⟨m0, fun h => by omega, ⟨_, m2⟩, hI.thr c2 m3⟩
    · exfalso
      omega
    · exfalso
      omega
    · exfalso
      omega
    · exfalso
      omega
    · exfalso
      omega
  · rcases hm with ⟨m0, m1, m2, m3⟩ | ⟨m0, m1, m2, m3⟩ | ⟨m0, m1, m2, m3⟩ | ⟨m0, m1, m2, m3⟩ | ⟨m0, m1, m2, m3⟩ | ⟨m0, m1, m2, m3⟩ | ⟨m0, m1, m2, m3⟩
    · exfalso
      omega
    · exfalso
      omega
    · obtain ⟨c2, rfl⟩ := c2
      rcases c2 with ⟨c2, rfl⟩ | ⟨c2, rfl⟩ | ⟨c2, rfl⟩ | ⟨c2, rfl⟩ | ⟨c2, rfl⟩
      · exact ⟨m0, fun _ => by rw [m2]; exact congrArg some (hI.2.1.fn (fun z => z 13 (b * 4 + a)) (fun _ => rfl)), ⟨_, m2⟩, hI.1, hI.2.1.e0 m3, by rw [m3 18 (by decide)]; exact hI.2.2⟩
      · exfalso
        omega
      · exfalso
        omega
      · exfalso
        omega
      · exfalso
        omega
    · obtain ⟨c2, rfl⟩ := c2
      rcases c2 with ⟨c2, rfl⟩ | ⟨c2, rfl⟩ | ⟨c2, rfl⟩ | ⟨c2, rfl⟩ | ⟨c2, rfl⟩
      · exfalso
        omega
      · exact ⟨m0, fun _ => by rw [m2]; exact congrArg some (hI.2.1.fn (fun z => wayB z b) (fun _ => rfl)), ⟨_, m2⟩, hI.1, hI.2.1.e0 m3, by rw [m3 18 (by decide)]; exact hI.2.2⟩
      · exfalso
        omega
      · exfalso
        omega
      · exfalso
        omega
    · obtain ⟨c2, rfl⟩ := c2
      rcases c2 with ⟨c2, rfl⟩ | ⟨c2, rfl⟩ | ⟨c2, rfl⟩ | ⟨c2, rfl⟩ | ⟨c2, rfl⟩
      · exfalso
        omega
      · exfalso
        omega
      · exact ⟨m0, fun _ => by rw [m2]; exact congrArg some (hI.2.1.fn (fun z => sby z b) (fun _ => rfl)), ⟨_, m2⟩, hI.1, hI.2.1.e0 m3, by rw [m3 18 (by decide)]; exact hI.2.2⟩
      · exfalso
        omega
      · exfalso
        omega
    · obtain ⟨c2, rfl⟩ := c2
      rcases c2 with ⟨c2, rfl⟩ | ⟨c2, rfl⟩ | ⟨c2, rfl⟩ | ⟨c2, rfl⟩ | ⟨c2, rfl⟩
      · exfalso
        omega
      · exfalso
        omega
      · exfalso
        omega
      · exact ⟨m0, fun _ => by rw [m2]; exact congrArg some (hI.2.1.fn (fun z => sumB z (z 6) b) (fun _ => rfl)), ⟨_, m2⟩, hI.1, hI.2.1.e0 m3, by rw [m3 18 (by decide)]; exact hI.2.2⟩
      · exfalso
        omega
    · obtain ⟨c2, rfl⟩ := c2
      rcases c2 with ⟨c2, rfl⟩ | ⟨c2, rfl⟩ | ⟨c2, rfl⟩ | ⟨c2, rfl⟩ | ⟨c2, rfl⟩
      · exfalso
        omega
      · exfalso
        omega
      · exfalso
        omega
      · exfalso
        omega
      · exact ⟨m0, fun _ => by rw [m2]; exact congrArg some (hI.2.1.fn (fun z => sumB z (z 8) b) (fun _ => rfl)), ⟨_, m2⟩, hI.1, hI.2.1.e0 m3, by rw [m3 18 (by decide)]; exact hI.2.2⟩
set_option maxHeartbeats 4000000 in
theorem P_best {x y x' z : Bk} {a : Int} {k o : Int} {r : Option Int} (hI : I2 x y) (hc : S_best x a k o x') (hm : (z 0 0 = 1 ∧ (¬ (0 ≤ a ∧ a < y 1 0)) ∧ r = some (0) ∧ e0 z y) ∨ (z 0 0 = 2 ∧ ((0 ≤ a ∧ a < y 1 0) ∧ ¬ y 15 a = -1) ∧ r = some (0) ∧ e0 z y) ∨ (z 0 0 = 0 ∧ ((0 ≤ a ∧ a < y 1 0) ∧ y 15 a = -1) ∧ r = some ((bsf y a (y 3 0).toNat).1) ∧ e0 z y)) : z 0 0 = k ∧ (k = 0 → r = some o) ∧ (∃ u, r = some u) ∧ I2 x' z := by
  have hn := hI.1.ok.n
  have hb3 := hI.1.ok.b
  have e1 : y 1 0 = x 1 0 := by rw [hI.2.1.k 1 (by decide)]
  have e3 : y 3 0 = x 3 0 := by rw [hI.2.1.k 3 (by decide)]
  have e21 : y 2 1 = x 2 1 := hI.2.1.2.1
  have e15 : y 15 a = x 15 a := by rw [hI.2.1.k 15 (by decide)]
  unfold S_best at hc
  rcases hc with ⟨rfl, c1, c2⟩ | ⟨rfl, c1, c2⟩ | ⟨rfl, c1, c2⟩
  · rcases hm with ⟨m0, m1, m2, m3⟩ | ⟨m0, m1, m2, m3⟩ | ⟨m0, m1, m2, m3⟩
    · exact ⟨m0, fun h => by omega, ⟨_, m2⟩, hI.thr c2 m3⟩
    · exfalso
      omega
    · exfalso
      omega
  · rcases hm with ⟨m0, m1, m2, m3⟩ | ⟨m0, m1, m2, m3⟩ | ⟨m0, m1, m2, m3⟩
    · exfalso
      omega
    · exact ⟨m0, fun h => by omega, ⟨_, m2⟩, hI.thr c2 m3⟩
    · exfalso
      omega
  · rcases hm with ⟨m0, m1, m2, m3⟩ | ⟨m0, m1, m2, m3⟩ | ⟨m0, m1, m2, m3⟩
    · exfalso
      omega
    · exfalso
      omega
    · obtain ⟨rfl, hsc⟩ := c2
      exact ⟨m0, fun _ => by rw [m2, bsf_mc hI.2.1, e3], ⟨_, m2⟩, hI.thr hsc m3⟩
set_option maxHeartbeats 4000000 in
theorem P_share {x y x' z : Bk} {a b : Int} {k o : Int} {r : Option Int} (hI : I2 x y) (hc : S_share x a b k o x') (hm : (z 0 0 = 1 ∧ (¬ ((0 ≤ a ∧ a ≤ 1000000) ∧ 0 ≤ b)) ∧ r = some (0) ∧ e0 z y) ∨ (z 0 0 = 2 ∧ (((0 ≤ a ∧ a ≤ 1000000) ∧ 0 ≤ b) ∧ b = 0) ∧ r = some (0) ∧ e0 z y) ∨ (z 0 0 = 0 ∧ (((0 ≤ a ∧ a ≤ 1000000) ∧ 0 ≤ b) ∧ ¬ b = 0) ∧ r = some ((100 * a).tdiv b) ∧ e0 z y)) : z 0 0 = k ∧ (k = 0 → r = some o) ∧ (∃ u, r = some u) ∧ I2 x' z := by
  have hn := hI.1.ok.n
  have hb3 := hI.1.ok.b
  have e1 : y 1 0 = x 1 0 := by rw [hI.2.1.k 1 (by decide)]
  have e3 : y 3 0 = x 3 0 := by rw [hI.2.1.k 3 (by decide)]
  have e21 : y 2 1 = x 2 1 := hI.2.1.2.1
  have e15 : y 15 a = x 15 a := by rw [hI.2.1.k 15 (by decide)]
  have e14 : y 14 b = x 14 b := by rw [hI.2.1.k 14 (by decide)]
  unfold S_share at hc
  rcases hc with ⟨rfl, c1, c2⟩ | ⟨rfl, c1, c2⟩ | ⟨rfl, c1, c2⟩
  · rcases hm with ⟨m0, m1, m2, m3⟩ | ⟨m0, m1, m2, m3⟩ | ⟨m0, m1, m2, m3⟩
    · exact ⟨m0, fun h => by omega, ⟨_, m2⟩, hI.thr c2 m3⟩
    · exfalso
      omega
    · exfalso
      omega
  · rcases hm with ⟨m0, m1, m2, m3⟩ | ⟨m0, m1, m2, m3⟩ | ⟨m0, m1, m2, m3⟩
    · exfalso
      omega
    · exact ⟨m0, fun h => by omega, ⟨_, m2⟩, hI.thr c2 m3⟩
    · exfalso
      omega
  · rcases hm with ⟨m0, m1, m2, m3⟩ | ⟨m0, m1, m2, m3⟩ | ⟨m0, m1, m2, m3⟩
    · exfalso
      omega
    · exfalso
      omega
    · obtain ⟨rfl, rfl⟩ := c2
      exact ⟨m0, fun _ => m2, ⟨_, m2⟩, hI.1, hI.2.1.e0 m3, by rw [m3 18 (by decide)]; exact hI.2.2⟩
set_option maxHeartbeats 4000000 in
theorem P_mean {x y x' z : Bk} {k o : Int} {r : Option Int} (hI : I2 x y) (hc : S_mean x k o x') (hm : (z 0 0 = 1 ∧ (y 1 0 = 0) ∧ r = some (0) ∧ e0 z y) ∨ (z 0 0 = 0 ∧ (¬ y 1 0 = 0) ∧ r = some ((sg (sby y) (y 3 0).toNat + svd y).tdiv (y 1 0)) ∧ e0 z y)) : z 0 0 = k ∧ (k = 0 → r = some o) ∧ (∃ u, r = some u) ∧ I2 x' z := by
  have hn := hI.1.ok.n
  have hb3 := hI.1.ok.b
  have e1 : y 1 0 = x 1 0 := by rw [hI.2.1.k 1 (by decide)]
  have e3 : y 3 0 = x 3 0 := by rw [hI.2.1.k 3 (by decide)]
  have e21 : y 2 1 = x 2 1 := hI.2.1.2.1
  unfold S_mean at hc
  rcases hc with ⟨rfl, c1, c2⟩ | ⟨rfl, c1, c2⟩
  · rcases hm with ⟨m0, m1, m2, m3⟩ | ⟨m0, m1, m2, m3⟩
    · exact ⟨m0, fun h => by omega, ⟨_, m2⟩, hI.thr c2 m3⟩
    · exfalso
      omega
  · rcases hm with ⟨m0, m1, m2, m3⟩ | ⟨m0, m1, m2, m3⟩
    · exfalso
      omega
    · obtain ⟨rfl, rfl⟩ := c2
      exact ⟨m0, fun _ => by rw [m2]; exact congrArg some (hI.2.1.fn (fun z => (sg (sby z) (z 3 0).toNat + svd z).tdiv (z 1 0)) (fun _ => rfl)), ⟨_, m2⟩, hI.1, (hI.2.1).e0 m3, by rw [m3 18 (by decide)]; exact hI.2.2⟩
