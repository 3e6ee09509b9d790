/-! more on sets as numbers -/
def sett (q o : Int) : Int := clr q o + pw o
theorem nb_clr : ∀ o : Nat, o < 10 → ∀ q : Nat, q < 1024 → q - q / 2 ^ o % 2 * 2 ^ o = q ^^^ (q &&& 2 ^ o) := by decide +kernel
theorem nb_set : ∀ o : Nat, o < 10 → ∀ q : Nat, q < 1024 → q - q / 2 ^ o % 2 * 2 ^ o + 2 ^ o = q ||| 2 ^ o := by decide +kernel
theorem nb_shr : ∀ o : Nat, o < 10 → ∀ q : Nat, q < 1024 → iI (q : Int) >>> (iI (o : Int) &&& 31) = iI ((q / 2 ^ o : Nat) : Int) := fun o ho q hq => pk_shrN (by omega) _ o (sh_amt o (by omega))
theorem nb_and1 : ∀ q : Nat, q < 1024 → iI (q : Int) &&& iI 1 = iI ((q % 2 : Nat) : Int) := fun q hq => pk_andN (by omega) 1 (by decide)
theorem nI_or (a b : Nat) : nI a ||| nI b = nI (a ||| b) := by
  refine Int32.toBitVec_inj.mp ?_
  rw [Int32.toBitVec_or]
  exact (BitVec.ofNat_or (w := 32)).symm
theorem nb_or : ∀ o : Nat, o < 10 → ∀ q : Nat, q < 1024 → iI (q : Int) ||| iI (1 * ((2 ^ o : Nat) : Int)) = iI ((q - q / 2 ^ o % 2 * 2 ^ o + 2 ^ o : Nat) : Int) := fun o ho q hq => by
  rw [nb_set o ho q hq, Int.one_mul]
  exact nI_or q (2 ^ o)
theorem nb_or0 : ∀ q : Nat, q < 1024 → iI (q : Int) ||| iI 0 = iI (q : Int) := fun q _ => (nI_or q 0).trans (by rw [Nat.or_zero]; rfl)
theorem clr_nat {q o : Nat} (hq : q < 1024) (ho : o < 10) : clr (q : Int) (o : Int) = ((q ^^^ (q &&& 2 ^ o) : Nat) : Int) := by
  unfold clr
  rw [← nb_clr o ho q hq, pw_nat, Int.natCast_sub (bits_clr_le o ho q hq)]
  simp
theorem sett_nat {q o : Nat} (hq : q < 1024) (ho : o < 10) : sett (q : Int) (o : Int) = ((q ||| 2 ^ o : Nat) : Int) := by
  unfold sett clr
  rw [← nb_set o ho q hq, pw_nat, Int.natCast_add, Int.natCast_sub (bits_clr_le o ho q hq)]
  simp
theorem i_shr {q o : Int} (hq : 0 ≤ q ∧ q < 1024) (ho : 0 ≤ o ∧ o < 10) : iI q >>> (iI o &&& 31) = iI (q / pw o) := by
  obtain ⟨n, rfl⟩ := Int.eq_ofNat_of_zero_le hq.1
  obtain ⟨k, rfl⟩ := Int.eq_ofNat_of_zero_le ho.1
  rw [nb_shr k (by omega) n (by omega), pw_nat]
  simp
theorem shr_in {q : Int} (o : Int) (hq : 0 ≤ q ∧ q < 1024) : 0 ≤ q / pw o ∧ q / pw o < 1024 := by
  have h1 := pw_pos o
  have h2 := Int.ediv_nonneg hq.1 (by omega : 0 ≤ pw o)
  have h3 := Int.ediv_le_self (pw o) hq.1
  omega
theorem i_and1 {q : Int} (hq : 0 ≤ q ∧ q < 1024) : iI q &&& iI 1 = iI (q % 2) := by
  obtain ⟨n, rfl⟩ := Int.eq_ofNat_of_zero_le hq.1
  rw [nb_and1 n (by omega)]
  simp
theorem i_ior {q o : Int} (hq : 0 ≤ q ∧ q < 1024) (ho : 0 ≤ o ∧ o < 10) : iI q ||| iI (1 * pw o) = iI (sett q o) := by
  obtain ⟨n, rfl⟩ := Int.eq_ofNat_of_zero_le hq.1
  obtain ⟨k, rfl⟩ := Int.eq_ofNat_of_zero_le ho.1
  rw [pw_nat, nb_or k (by omega) n (by omega), sett_nat (by omega) (by omega), nb_set k (by omega) n (by omega)]
theorem i_or0 {q : Int} (hq : 0 ≤ q ∧ q < 1024) : iI q ||| iI 0 = iI q := by
  obtain ⟨n, rfl⟩ := Int.eq_ofNat_of_zero_le hq.1
  exact nb_or0 n (by omega)
theorem i_clr2 {q a b : Int} (hq : 0 ≤ q ∧ q < 1024) (ha : 0 ≤ a ∧ a < 10) (hb : 0 ≤ b ∧ b < 10) : iI q &&& (iI (-1 - 1 * pw a) &&& iI (-1 - 1 * pw b)) = iI (clr (clr q a) b) := by
  have h := clr_in hq ha
  rw [← Int32.and_assoc, i_clr hq ha, i_clr (by omega) hb]
theorem bt_nat {q i : Nat} : bt (q : Int) (i : Int) ↔ q.testBit i = true := by
  unfold bt
  rw [pw_nat, Nat.testBit_eq_decide_div_mod_eq, decide_eq_true_iff]
  omega
theorem bt_clr {q o i : Int} (hq : 0 ≤ q ∧ q < 1024) (ho : 0 ≤ o ∧ o < 10) (hi : 0 ≤ i) : bt (clr q o) i ↔ bt q i ∧ ¬ i = o := by
  obtain ⟨n, rfl⟩ := Int.eq_ofNat_of_zero_le hq.1
  obtain ⟨k, rfl⟩ := Int.eq_ofNat_of_zero_le ho.1
  obtain ⟨j, rfl⟩ := Int.eq_ofNat_of_zero_le hi
  rw [clr_nat (by omega) (by omega), bt_nat, bt_nat, Nat.testBit_xor, Nat.testBit_and, Nat.testBit_two_pow]
  by_cases h : k = j
  · subst h
    simp
  · have h2 : ¬ (j : Int) = (k : Int) := by omega
    simp [h, h2]
theorem sett_in {q o : Int} (hq : 0 ≤ q ∧ q < 1024) (ho : 0 ≤ o ∧ o < 10) : 0 ≤ sett q o ∧ sett q o < 1024 := by
  obtain ⟨n, rfl⟩ := Int.eq_ofNat_of_zero_le hq.1
  obtain ⟨k, rfl⟩ := Int.eq_ofNat_of_zero_le ho.1
  rw [sett_nat (by omega) (by omega)]
  have h := Nat.or_lt_two_pow (n := 10) (show n < 2 ^ 10 by omega) (show 2 ^ k < 2 ^ 10 from Nat.pow_lt_pow_right (by omega) (by omega))
  omega
theorem bt_set {q o i : Int} (hq : 0 ≤ q ∧ q < 1024) (ho : 0 ≤ o ∧ o < 10) (hi : 0 ≤ i) : bt (sett q o) i ↔ bt q i ∨ i = o := by
  obtain ⟨n, rfl⟩ := Int.eq_ofNat_of_zero_le hq.1
  obtain ⟨k, rfl⟩ := Int.eq_ofNat_of_zero_le ho.1
  obtain ⟨j, rfl⟩ := Int.eq_ofNat_of_zero_le hi
  rw [sett_nat (by omega) (by omega), bt_nat, bt_nat, Nat.testBit_or, Nat.testBit_two_pow]
  by_cases h : k = j
  · subst h
    simp
  · have h2 : ¬ (j : Int) = (k : Int) := by omega
    simp [h, h2]
theorem bt_0 (i : Int) : ¬ bt 0 i := by
  unfold bt
  rw [Int.zero_ediv]
  omega
theorem bt_lt {q i : Int} (hq : 0 ≤ q ∧ q < 1024) (hi : 0 ≤ i) (h : bt q i) : i < 10 := by
  obtain ⟨n, rfl⟩ := Int.eq_ofNat_of_zero_le hq.1
  obtain ⟨j, rfl⟩ := Int.eq_ofNat_of_zero_le hi
  rw [bt_nat] at h
  have h2 := Nat.ge_two_pow_of_testBit h
  have h3 : j < 10 := by
    refine Classical.byContradiction fun h4 => ?_
    have h5 : 2 ^ 10 ≤ 2 ^ j := Nat.pow_le_pow_right (by omega) (by omega)
    omega
  omega
theorem bt_ext {q r : Int} (hq : 0 ≤ q ∧ q < 1024) (hr : 0 ≤ r ∧ r < 1024) (h : ∀ i, 0 ≤ i → i < 10 → (bt q i ↔ bt r i)) : q = r := by
  obtain ⟨n, rfl⟩ := Int.eq_ofNat_of_zero_le hq.1
  obtain ⟨k, rfl⟩ := Int.eq_ofNat_of_zero_le hr.1
  have e : n = k := Nat.eq_of_testBit_eq fun i => by
    by_cases hi : i < 10
    · have := h (i : Int) (by omega) (by omega)
      rw [bt_nat, bt_nat] at this
      exact Bool.eq_iff_iff.mpr this
    · have f : ∀ m : Nat, m < 1024 → m.testBit i = false := fun m hm => Nat.testBit_lt_two_pow (Nat.lt_of_lt_of_le hm (show 2 ^ 10 ≤ 2 ^ i from Nat.pow_le_pow_right (by omega) (by omega)))
      rw [f n (by omega), f k (by omega)]
  rw [e]
theorem bt_ne0 {q : Int} (hq : 0 ≤ q ∧ q < 1024) (h : ¬ q = 0) : ∃ i, 0 ≤ i ∧ i < 10 ∧ bt q i := by
  refine Classical.byContradiction fun z => h (bt_ext hq (by omega) fun i h0 h1 => ⟨fun b => absurd ⟨i, h0, h1, b⟩ z, fun b => absurd b (bt_0 i)⟩)
theorem bt_full {n i : Int} (hn : 0 ≤ n ∧ n ≤ 10) (hi : 0 ≤ i) : bt (pw n - 1) i ↔ i < n := by
  obtain ⟨k, rfl⟩ := Int.eq_ofNat_of_zero_le hn.1
  obtain ⟨j, rfl⟩ := Int.eq_ofNat_of_zero_le hi
  have h := Nat.two_pow_pos k
  rw [pw_nat, show ((2 ^ k : Nat) : Int) - 1 = ((2 ^ k - 1 : Nat) : Int) by omega, bt_nat, Nat.testBit_two_pow_sub_one, decide_eq_true_iff]
  omega
theorem clr_lt {q o : Int} (hq : 0 ≤ q ∧ q < 1024) (ho : 0 ≤ o ∧ o < 10) (h : bt q o) : clr q o < q := by
  unfold clr
  rw [show q / pw o % 2 = 1 from h]
  have := pw_pos o
  omega
/-- the lowest one of a set -/
def low (q : Int) : Int := fnd (fun i => bt q i) 0 10
theorem fnd_lo (P : Int → Prop) [DecidablePred P] (d k : Nat) : ∀ j : Int, (k : Int) ≤ j → j < (k : Int) + (d : Int) → P j → (fnd P k d ≤ j ∧ ¬ fnd P k d = -1) := by
  induction d generalizing k with
  | zero => intro j h0 h1; omega
  | succ d ih =>
    intro j h0 h1 hp
    show (if _ then _ else _) ≤ j ∧ ¬ (if _ then _ else _) = -1
    by_cases h : P (k : Int)
    · rw [if_pos h]
      omega
    · rw [if_neg h]
      have h2 : ¬ j = (k : Int) := fun z => h (z ▸ hp)
      exact ih (k + 1) j (by omega) (by omega) hp
theorem low_ok {q : Int} (hq : 0 ≤ q ∧ q < 1024) (h : ¬ q = 0) : (0 ≤ low q ∧ low q < 10) ∧ bt q (low q) ∧ ∀ i, 0 ≤ i → i < low q → ¬ bt q i := by
  obtain ⟨i, h0, h1, hb⟩ := bt_ne0 hq h
  have h2 := fnd_lo (fun i => bt q i) 10 0 i (by omega) (by omega) hb
  have h3 := fnd_in (fun i => bt q i) 10 0
  unfold low
  rcases h3 with h3 | h3
  · exact absurd h3 h2.2
  · refine ⟨by omega, h3.2.2, fun j hj0 hj1 hj => ?_⟩
    have h4 := fnd_lo (fun i => bt q i) 10 0 j (by omega) (by omega) hj
    omega
/-- a sentence as a number -/
noncomputable def c01 (P : Prop) : Int := cif P 1 0
theorem c01_t {P : Prop} (h : P) : c01 P = 1 := cif_t h
theorem c01_f {P : Prop} (h : ¬ P) : c01 P = 0 := cif_f h
theorem c01_or (P : Prop) : (c01 P = 0 ∧ ¬ P) ∨ (c01 P = 1 ∧ P) := by
  by_cases h : P
  · exact Or.inr ⟨c01_t h, h⟩
  · exact Or.inl ⟨c01_f h, h⟩
theorem c01_b (P : Prop) : c01 P = 0 ∨ c01 P = 1 := by
  rcases c01_or P with h | h
  · exact Or.inl h.1
  · exact Or.inr h.1
theorem c01_iff {P : Prop} {v : Int} (h0 : v = 0 ∨ v = 1) (h : v = 1 ↔ P) : c01 P = v := by
  rcases h0 with h1 | h1
  · rw [c01_f (fun p => by have := h.mpr p; omega), h1]
  · rw [c01_t (h.mp h1), h1]
