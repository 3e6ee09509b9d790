/-! sets of orders as numbers below 1024: bits -/
abbrev bt (q o : Int) : Prop := q / pw o % 2 = 1
def clr (q o : Int) : Int := q - q / pw o % 2 * pw o
theorem pw_l : ∀ o : Nat, o < 11 → pw (o : Int) = ((2 ^ o : Nat) : Int) := fun o _ => pw_nat o
theorem pw_pos (o : Int) : 1 ≤ pw o := by
  unfold pw
  have := Nat.two_pow_pos o.toNat
  omega
theorem pw_le {o : Int} (h : 0 ≤ o ∧ o ≤ 10) : pw o ≤ 1024 := by
  obtain ⟨n, rfl⟩ := Int.eq_ofNat_of_zero_le h.1
  rw [pw_nat]
  have : ∀ n : Nat, n ≤ 10 → 2 ^ n ≤ 1024 := by decide +kernel
  have := this n (by omega)
  omega
theorem bits_and : ∀ o : Nat, o < 10 → ∀ q : Nat, q < 1024 → iI (q : Int) &&& iI (1 * ((2 ^ o : Nat) : Int)) = iI ((q / 2 ^ o % 2 * 2 ^ o : Nat) : Int) := by decide +kernel
theorem bits_xor : ∀ o : Nat, o < 10 → iI (1 * ((2 ^ o : Nat) : Int)) ^^^ iI (-1) = iI (-1 - 1 * ((2 ^ o : Nat) : Int)) := by decide +kernel
theorem bits_clr : ∀ o : Nat, o < 10 → ∀ q : Nat, q < 1024 → iI (q : Int) &&& iI (-1 - 1 * ((2 ^ o : Nat) : Int)) = iI ((q - q / 2 ^ o % 2 * 2 ^ o : Nat) : Int) := by decide +kernel
theorem bits_clr_le : ∀ o : Nat, o < 10 → ∀ q : Nat, q < 1024 → q / 2 ^ o % 2 * 2 ^ o ≤ q := by decide +kernel
theorem bits_or : ∀ o : Nat, o < 10 → ∀ q : Nat, q < 2 ^ (9 - o) → iI ((q * 2 ^ (o + 1) : Nat) : Int) ||| iI (1 * ((2 ^ o : Nat) : Int)) = iI ((q * 2 ^ (o + 1) + 2 ^ o : Nat) : Int) := by decide +kernel
theorem i_and {q o : Int} (hq : 0 ≤ q ∧ q < 1024) (ho : 0 ≤ o ∧ o < 10) : iI q &&& iI (1 * pw o) = iI (q / pw o % 2 * pw o) := by
  obtain ⟨n, rfl⟩ := Int.eq_ofNat_of_zero_le hq.1
  obtain ⟨k, rfl⟩ := Int.eq_ofNat_of_zero_le ho.1
  rw [pw_nat, bits_and k (by omega) n (by omega)]
  simp
theorem i_xor {o : Int} (ho : 0 ≤ o ∧ o < 10) : iI (1 * pw o) ^^^ iI (-1) = iI (-1 - 1 * pw o) := by
  obtain ⟨k, rfl⟩ := Int.eq_ofNat_of_zero_le ho.1
  rw [pw_nat, bits_xor k (by omega)]
theorem i_clr {q o : Int} (hq : 0 ≤ q ∧ q < 1024) (ho : 0 ≤ o ∧ o < 10) : iI q &&& iI (-1 - 1 * pw o) = iI (clr q o) := by
  obtain ⟨n, rfl⟩ := Int.eq_ofNat_of_zero_le hq.1
  obtain ⟨k, rfl⟩ := Int.eq_ofNat_of_zero_le ho.1
  unfold clr
  rw [pw_nat, bits_clr k (by omega) n (by omega), Int.natCast_sub (bits_clr_le k (by omega) n (by omega))]
  simp
theorem bit_or (q o : Int) : q / pw o % 2 = 0 ∨ q / pw o % 2 = 1 := by omega
theorem clr_in {q o : Int} (hq : 0 ≤ q ∧ q < 1024) (ho : 0 ≤ o ∧ o < 10) : 0 ≤ clr q o ∧ clr q o ≤ q := by
  obtain ⟨n, rfl⟩ := Int.eq_ofNat_of_zero_le hq.1
  obtain ⟨k, rfl⟩ := Int.eq_ofNat_of_zero_le ho.1
  unfold clr
  rw [pw_nat]
  have h := bits_clr_le k (by omega) n (by omega)
  have e : ((n : Int) / ((2 ^ k : Nat) : Int) % 2 * ((2 ^ k : Nat) : Int)) = ((n / 2 ^ k % 2 * 2 ^ k : Nat) : Int) := by simp
  rw [e]
  omega
theorem bit_ne {q o : Int} (h : q / pw o % 2 * pw o = 0) : ¬ bt q o := by
  intro hb
  have := pw_pos o
  rw [show q / pw o % 2 = 1 from hb] at h
  omega
theorem bit_eq {q o : Int} (h : ¬ q / pw o % 2 * pw o = 0) : bt q o := by
  rcases bit_or q o with h1 | h1
  · rw [h1] at h; exact absurd (Int.zero_mul _) h
  · exact h1
theorem bit_in {q o : Int} (hq : 0 ≤ q ∧ q < 1024) (ho : 0 ≤ o ∧ o < 10) : InR (q / pw o % 2 * pw o) := by
  have h1 := pw_pos o
  have h2 := pw_le (o := o) (by omega)
  rcases bit_or q o with h | h <;> rw [h] <;> omega
