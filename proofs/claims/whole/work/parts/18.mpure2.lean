theorem pw_add {a b : Int} (ha : 0 ≤ a) (hb : 0 ≤ b) : pw a * pw b = pw (a + b) := by
  unfold pw
  rw [← Int.natCast_mul, ← Nat.pow_add, Int.toNat_add ha hb]
theorem pw_mono {a b : Int} (h : a ≤ b) : pw a ≤ pw b := by
  unfold pw
  exact Int.ofNat_le.mpr (Nat.pow_le_pow_right (by omega) (by omega))
theorem ix_bd {k later lo n : Int} (hk : 0 ≤ k ∧ k < pw later) (hl : 0 ≤ later) (hlo : 0 ≤ lo) (he : later + (lo + 1) = n) (hn : n ≤ 10) : k * pw (lo + 1) + pw (lo + 1) ≤ 1024 ∧ 0 ≤ k * pw (lo + 1) := by
  have h1 : (k + 1) * pw (lo + 1) ≤ pw later * pw (lo + 1) := Int.mul_le_mul_of_nonneg_right (by omega) (by have := pw_pos (lo + 1); omega)
  rw [pw_add hl (by omega), he] at h1
  have h2 := pw_le (o := n) (by omega)
  have h3 : (k + 1) * pw (lo + 1) = k * pw (lo + 1) + pw (lo + 1) := by rw [Int.add_mul, Int.one_mul]
  have h4 : 0 ≤ k * pw (lo + 1) := Int.mul_nonneg hk.1 (by have := pw_pos (lo + 1); omega)
  omega
theorem pw_two {lo : Int} (h : 0 ≤ lo) : pw (lo + 1) = 2 * pw lo := by
  rw [← pw_add h (by omega), Int.mul_comm]
  rfl
theorem i_or {k lo : Int} (hlo : 0 ≤ lo ∧ lo < 10) (hk : 0 ≤ k ∧ k < pw (9 - lo)) : iI (k * pw (lo + 1)) ||| iI (1 * pw lo) = iI (k * pw (lo + 1) + pw lo) := by
  obtain ⟨n, rfl⟩ := Int.eq_ofNat_of_zero_le hk.1
  obtain ⟨j, rfl⟩ := Int.eq_ofNat_of_zero_le hlo.1
  have h1 : pw (9 - (j : Int)) = ((2 ^ (9 - j) : Nat) : Int) := by rw [show (9 : Int) - (j : Int) = ((9 - j : Nat) : Int) by omega, pw_nat]
  have h2 : pw ((j : Int) + 1) = ((2 ^ (j + 1) : Nat) : Int) := by rw [show (j : Int) + 1 = ((j + 1 : Nat) : Int) by omega, pw_nat]
  rw [h1] at hk
  rw [h2, pw_nat]
  have h3 := bits_or j (by omega) n (by omega)
  rw [show ((n : Int) * ((2 ^ (j + 1) : Nat) : Int)) = ((n * 2 ^ (j + 1) : Nat) : Int) by rw [Int.natCast_mul], h3]
  rw [Int.natCast_add]
theorem pop_bits : ∀ o : Nat, o < 10 → ∀ q : Nat, q < 1024 → (0 ≤ popc (q : Int) ∧ popc (q : Int) ≤ 10) ∧ ((q / 2 ^ o % 2 = 1) → popc ((q - 2 ^ o : Nat) : Int) = popc (q : Int) - 1) := by decide +kernel
theorem pop_up : ∀ o : Nat, o < 10 → ∀ q : Nat, q < 2 ^ (9 - o) → popc ((q * 2 ^ (o + 1) : Nat) : Int) ≤ popc ((q * 2 ^ (o + 1) + 2 ^ o : Nat) : Int) := by decide +kernel
theorem pop_in {q : Int} (hq : 0 ≤ q ∧ q < 1024) : 0 ≤ popc q ∧ popc q ≤ 10 := by
  obtain ⟨n, rfl⟩ := Int.eq_ofNat_of_zero_le hq.1
  exact (pop_bits 0 (by decide) n (by omega)).1
theorem clr_bt {q o : Int} (h : bt q o) : clr q o = q - pw o := by
  unfold clr
  rw [show q / pw o % 2 = 1 from h, Int.one_mul]
theorem pop_clr {q o : Int} (hq : 0 ≤ q ∧ q < 1024) (ho : 0 ≤ o ∧ o < 10) (h : bt q o) : popc (clr q o) = popc q - 1 := by
  rw [clr_bt h]
  have hc := clr_in hq ho
  rw [clr_bt h] at hc
  obtain ⟨n, rfl⟩ := Int.eq_ofNat_of_zero_le hq.1
  obtain ⟨j, rfl⟩ := Int.eq_ofNat_of_zero_le ho.1
  have hb : (n : Int) / pw (j : Int) % 2 = 1 := h
  rw [pw_nat] at hb hc ⊢
  have h1 := (pop_bits j (by omega) n (by omega)).2 (by
    have e : ((n : Int) / ((2 ^ j : Nat) : Int) % 2) = ((n / 2 ^ j % 2 : Nat) : Int) := by simp
    rw [e] at hb
    omega)
  rw [← h1]
  congr 1
  omega
/-- tables of sums: no set saves more than 20000 for each of its orders -/
def tb (t : Int → Int) : Prop := ∀ q, 0 ≤ q → q < 1024 → 0 ≤ t q ∧ t q ≤ 20000 * popc q
theorem tb_in {t : Int → Int} (h : tb t) : ∀ i, 0 ≤ i → i < 1024 → 0 ≤ t i ∧ t i ≤ 400000 := by
  intro i h0 h1
  have h2 := h i h0 h1
  have h3 := pop_in ⟨h0, h1⟩
  omega
theorem gm_tb {g t : Int → Int} {lo q : Int} (hlo : 0 ≤ lo ∧ lo < 10) (hq : 0 ≤ q ∧ q < 1024) (ht : tb t) (hg : ∀ i, 0 ≤ i → i < 100 → 0 ≤ g i ∧ g i ≤ 20000) (k : Nat) (hk : k ≤ 10) : 0 ≤ gm g t lo q k ∧ gm g t lo q k ≤ 20000 * popc q := by
  induction k with
  | zero => exact ht q hq.1 hq.2
  | succ k ih =>
    have ih := ih (by omega)
    by_cases h : lo < (k : Int) ∧ bt q (k : Int) ∧ 0 < g (lo * 10 + (k : Int))
    · rw [gm_t h]
      have h1 := clr_in (q := q) (o := (k : Int)) hq (by omega)
      have h2 := ht (clr q (k : Int)) (by omega) (by omega)
      have h3 := hg (lo * 10 + (k : Int)) (by omega) (by omega)
      rw [pop_clr hq (by omega) h.2.1] at h2
      split <;> omega
    · rw [gm_f h]; exact ih
theorem tb_set {t : Int → Int} {q v : Int} (ht : tb t) (hv : 0 ≤ v ∧ v ≤ 20000 * popc q) : tb (updI t q v) := by
  intro i h0 h1
  by_cases h : i = q
  · subst h
    rw [updI_s]
    exact hv
  · rw [updI_n h]
    exact ht i h0 h1
theorem fsI_tb {g t : Int → Int} {n lo : Int} (hn : n ≤ 10) (hlo : 0 ≤ lo ∧ lo < n) (ht : tb t) (hg : ∀ i, 0 ≤ i → i < 100 → 0 ≤ g i ∧ g i ≤ 20000) (k : Nat) (hk : (k : Int) ≤ pw (n - 1 - lo)) : tb (fsI g n lo t k) := by
  induction k with
  | zero => exact ht
  | succ k ih =>
    have ih := ih (by omega)
    by_cases h : n - 1 - lo - popc (k : Int) ≤ lo
    · rw [fsI_t h]
      have h1 := ix_bd (k := (k : Int)) (later := n - 1 - lo) (lo := lo) (n := n) ⟨by omega, by omega⟩ (by omega) (by omega) (by omega) hn
      have h2 := pw_pos (lo + 1)
      have h3 := gm_tb (q := (k : Int) * pw (lo + 1)) (lo := lo) (by omega) (by omega) ih hg n.toNat (by omega)
      have h4 : popc ((k : Int) * pw (lo + 1)) ≤ popc ((k : Int) * pw (lo + 1) + pw lo) := by
        obtain ⟨j, rfl⟩ := Int.eq_ofNat_of_zero_le hlo.1
        have e2 : pw ((j : Int) + 1) = ((2 ^ (j + 1) : Nat) : Int) := by rw [show (j : Int) + 1 = ((j + 1 : Nat) : Int) by omega, pw_nat]
        rw [e2, pw_nat, ← Int.natCast_mul, ← Int.natCast_add]
        refine pop_up j (by omega) k ?_
        have h5 : pw (n - 1 - (j : Int)) ≤ pw (9 - (j : Int)) := pw_mono (by omega)
        have h6 : pw (9 - (j : Int)) = ((2 ^ (9 - j) : Nat) : Int) := by rw [show (9 : Int) - (j : Int) = ((9 - j : Nat) : Int) by omega, pw_nat]
        omega
      exact tb_set ih (by omega)
    · rw [fsI_f h]; exact ih
theorem fsO_tb {g t : Int → Int} {n : Int} (hn : n ≤ 10) (ht : tb t) (hg : ∀ i, 0 ≤ i → i < 100 → 0 ≤ g i ∧ g i ≤ 20000) (j : Nat) (hj : (j : Int) ≤ n) : tb (fsO g n t j) := by
  induction j with
  | zero => exact ht
  | succ j ih =>
    have := pw_pos (j : Int)
    exact fsI_tb hn (by omega) (ih (by omega)) hg _ (by rw [show n - 1 - (n - 1 - (j : Int)) = (j : Int) by omega]; omega)
