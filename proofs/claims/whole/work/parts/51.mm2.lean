/-! the model's match: free ones, gains -/
def frq (x : Bk) : Nat → Int
  | 0 => 0
  | k + 1 => if x 15 (k : Int) = -1 then sett (frq x k) (k : Int) else frq x k
theorem frq_t {x : Bk} {k : Nat} (h : x 15 (k : Int) = -1) : frq x (k + 1) = sett (frq x k) (k : Int) := if_pos h
theorem frq_f {x : Bk} {k : Nat} (h : ¬ x 15 (k : Int) = -1) : frq x (k + 1) = frq x k := if_neg h
theorem frq_in {x : Bk} (k : Nat) (hk : k ≤ 10) : 0 ≤ frq x k ∧ frq x k < 1024 := by
  induction k with
  | zero => exact ⟨Int.le_refl _, by show (0 : Int) < 1024; omega⟩
  | succ k ih =>
    have ih := ih (by omega)
    by_cases h : x 15 (k : Int) = -1
    · rw [frq_t h]; exact sett_in ih (by omega)
    · rw [frq_f h]; exact ih
theorem bt_frq {x : Bk} (k : Nat) (hk : k ≤ 10) {i : Int} (hi : 0 ≤ i) : bt (frq x k) i ↔ i < (k : Int) ∧ x 15 i = -1 := by
  induction k with
  | zero => exact ⟨fun z => absurd z (bt_0 i), fun z => by omega⟩
  | succ k ih =>
    have ih := ih (by omega)
    by_cases h : x 15 (k : Int) = -1
    · rw [frq_t h, bt_set (frq_in k (by omega)) (by omega) hi, ih]
      constructor
      · rintro (z | z)
        · exact ⟨by omega, z.2⟩
        · exact ⟨by omega, by rw [z]; exact h⟩
      · intro z
        by_cases e : i = (k : Int)
        · exact Or.inr e
        · exact Or.inl ⟨by omega, z.2⟩
    · rw [frq_f h, ih]
      constructor
      · intro z; exact ⟨by omega, z.2⟩
      · intro z
        refine ⟨?_, z.2⟩
        by_cases e : i = (k : Int)
        · rw [e] at z; exact absurd z.2 h
        · omega
/-- the gains as an array's function -/
def gmt (x : Bk) (i : Int) : Int := mgv x (i / 10) (i % 10)
theorem gmt_at {x : Bk} {a b : Int} (hb : 0 ≤ b ∧ b < 10) : gmt x (a * 10 + b) = mgv x a b := by
  unfold gmt
  rw [show (a * 10 + b) / 10 = a by omega, show (a * 10 + b) % 10 = b by omega]
theorem mgv_bd {x : Bk} (hok : Ok x) {a b : Int} (ha : 0 ≤ a ∧ a < 10) (hb : 0 ≤ b ∧ b < 10) : 0 ≤ mgv x a b ∧ mgv x a b ≤ 20000 := by
  have := sv_bd hok ha hb
  unfold mgv
  split <;> omega
def xR (x : Bk) : Bk := bu x 17 (gmt x)
theorem xR_g17 {x : Bk} (hok : Ok x) : g17 (xR x) := fun a b h0 h1 h2 => by
  have hn := hok.n
  have h3 : b < x 1 0 := h2
  show gmt x (a * 10 + b) = mgv x a b
  exact gmt_at (by omega)
theorem xR_rng {x : Bk} (hok : Ok x) : rng (xR x) 17 100 0 20000 := fun i h0 h1 => mgv_bd hok (by omega) (by omega)
theorem mgv_mm {z x : Bk} (e : ∀ j, j ≠ 0 → j ≠ 4 → j ≠ 16 → j ≠ 17 → j ≠ 18 → z j = x j) (a b : Int) : mgv z a b = mgv x a b := by
  have e' : ∀ j, (j ≠ 0 ∧ j ≠ 4 ∧ j ≠ 16 ∧ j ≠ 17 ∧ j ≠ 18) → z j = x j := fun j h => e j h.1 h.2.1 h.2.2.1 h.2.2.2.1 h.2.2.2.2
  unfold mgv sv okP alg
  rw [e' 9 (by decide), e' 5 (by decide), e' 10 (by decide), e' 11 (by decide), e' 7 (by decide), e' 8 (by decide), e' 2 (by decide), e' 6 (by decide)]
theorem g17_mm {z x : Bk} (hok : Ok x) (e : ∀ j, j ≠ 0 → j ≠ 4 → j ≠ 16 → j ≠ 17 → j ≠ 18 → z j = x j) (h17 : z 17 = gmt x) : g17 z := fun a b h0 h1 h2 => by
  have hn := hok.n
  rw [e 1 (by decide) (by decide) (by decide) (by decide) (by decide)] at h2
  rw [h17, mgv_mm e, gmt_at (by omega)]
theorem sym_mm {z x : Bk} (hs : sym x) (e : ∀ j, j ≠ 0 → j ≠ 4 → j ≠ 16 → j ≠ 17 → j ≠ 18 → z j = x j) : sym z := by
  unfold sym
  rw [e 10 (by decide) (by decide) (by decide) (by decide) (by decide), e 11 (by decide) (by decide) (by decide) (by decide) (by decide)]
  exact hs
theorem fpP_congr {z y : Bk} (h17 : z 17 = y 17) (h18 : z 18 = y 18) (a q d : Int) : fpP z a q d = fpP y a q d := by
  unfold fpP mtk
  funext o
  rw [h17, h18]
theorem fnd_congr {P Q : Int → Prop} [DecidablePred P] [DecidablePred Q] (h : P = Q) (k d : Nat) : fnd P k d = fnd Q k d := by
  induction d generalizing k with
  | zero => rfl
  | succ d ih =>
    by_cases hp : P (k : Int)
    · rw [show fnd P k (d + 1) = (k : Int) from if_pos hp, show fnd Q k (d + 1) = (k : Int) from if_pos (h ▸ hp)]
    · rw [show fnd P k (d + 1) = fnd P (k + 1) d from if_neg hp, show fnd Q k (d + 1) = fnd Q (k + 1) d from if_neg (h ▸ hp), ih]
theorem mxu_congr {z y : Bk} (h1 : z 1 = y 1) (h17 : z 17 = y 17) (h18 : z 18 = y 18) (q : Int) : mxu z q = mxu y q := by
  unfold mxu
  rw [h1]
  exact fnd_congr ((fpP_congr h17 h18 _ _ _).trans (congrArg (fpP y (low q) (clr q (low q))) (by rw [h18]))) _ _
theorem mex_congr {z y : Bk} (h1 : z 1 = y 1) (h17 : z 17 = y 17) (h18 : z 18 = y 18) (f : Nat) : ∀ (q : Int) (p : Int → Int), mex z f q p = mex y f q p := by
  induction f with
  | zero => intro q p; rfl
  | succ f ih =>
    intro q p
    have e := mxu_congr h1 h17 h18 q
    by_cases h0 : q = 0
    · subst h0; rw [mex_0, mex_0]
    · by_cases hu : mxu y q = -1
      · rw [mex_n h0 hu, mex_n h0 (e.trans hu), ih]
      · rw [mex_y h0 hu, mex_y h0 (fun w => hu (e.symm.trans w)), e, ih]
theorem mT_congr {z y : Bk} (h1 : z 1 = y 1) (h17 : z 17 = y 17) (h18 : z 18 = y 18) (j : Nat) : mT z j = mT y j := by
  induction j with
  | zero => show updI (z 18) 0 0 = updI (y 18) 0 0; rw [h18]
  | succ j ih => rw [mT_s, mT_s, ih, h17, h1]
theorem mbr_congr {z y : Bk} (h1 : z 1 = y 1) (h17 : z 17 = y 17) (f : Nat) : ∀ (q : Int) (p : Int → Int), mbr z f q p = mbr y f q p := by
  induction f with
  | zero => intro q p; rfl
  | succ f ih =>
    intro q p
    have e : mr z q = mr y q := by unfold mr; rw [h1, h17]
    by_cases h : (mr y q).1 = -1
    · rw [mbr_n h, mbr_n (by rw [e]; exact h)]
    · rw [mbr_y h, mbr_y (by rw [e]; exact h), e, ih]
def xE (x : Bk) : Bk := bu (xR x) 18 (mT (xR x) (pw (x 1 0) - 1).toNat)
/-- the model's new partners -/
noncomputable def mpt (x : Bk) (v : Int) : Int → Int := cif (frees x ≤ v) (mex (xE x) 1024 (frq x (x 1 0).toNat) (fl (x 16) (-1) (x 1 0).toNat)) (mbr (xR x) 1024 (frq x (x 1 0).toNat) (fl (x 16) (-1) (x 1 0).toNat))
theorem fl_in2 {f : Int → Int} (hf : ∀ i, 0 ≤ i → i < 10 → -1 ≤ f i ∧ f i ≤ 9) (k : Nat) : ∀ i, 0 ≤ i → i < 10 → -1 ≤ fl f (-1) k i ∧ fl f (-1) k i ≤ 9 := fun i h0 h1 => by
  have := hf i h0 h1
  unfold fl
  split <;> omega
theorem mex_in {x : Bk} (hn : 0 ≤ x 1 0 ∧ x 1 0 ≤ 10) (f : Nat) : ∀ (q : Int) (p : Int → Int), 0 ≤ q ∧ q < 1024 → (∀ i, 0 ≤ i → i < 10 → -1 ≤ p i ∧ p i ≤ 9) → ∀ i, 0 ≤ i → i < 10 → -1 ≤ mex x f q p i ∧ mex x f q p i ≤ 9 := by
  induction f with
  | zero => intro q p _ hp; exact hp
  | succ f ih =>
    intro q p hq hp
    by_cases h0 : q = 0
    · subst h0; rw [mex_0]; exact hp
    · have hL := low_ok hq h0
      have hc := clr_in hq hL.1
      by_cases hu : mxu x q = -1
      · rw [mex_n h0 hu]; exact ih _ _ (by omega) hp
      · rw [mex_y h0 hu]
        have h2 : low q < mxu x q ∧ mxu x q < 10 := by
          rcases fnd_in (fpP x (low q) (clr q (low q)) (x 18 q)) ((x 1 0).toNat - (low q + 1).toNat) (low q + 1).toNat with h | h
          · exact absurd h hu
          · have h3 : ((low q + 1).toNat : Int) ≤ mxu x q := h.1
            have h4 : mxu x q < ((low q + 1).toNat : Int) + (((x 1 0).toNat - (low q + 1).toNat : Nat) : Int) := h.2.1
            omega
        have hcc := clr_in (q := clr q (low q)) (o := mxu x q) (by omega) (by omega)
        exact ih _ _ (by omega) (p_bind hp hL.1 (by omega))
theorem mbr_in {x : Bk} (h17 : g17 x) (hn : 0 ≤ x 1 0 ∧ x 1 0 ≤ 10) (f : Nat) : ∀ (q : Int) (p : Int → Int), 0 ≤ q ∧ q < 1024 → (∀ i, 0 ≤ i → i < 10 → -1 ≤ p i ∧ p i ≤ 9) → ∀ i, 0 ≤ i → i < 10 → -1 ≤ mbr x f q p i ∧ mbr x f q p i ≤ 9 := by
  induction f with
  | zero => intro q p _ hp; exact hp
  | succ f ih =>
    intro q p hq hp
    by_cases h : (mr x q).1 = -1
    · rw [mbr_n h]; exact hp
    · rw [mbr_y h]
      have hr := rgi_1 h17 (q := q) hn.1 (x 1 0).toNat (by omega)
      have h2 : 0 ≤ (mr x q).1 ∧ (mr x q).1 < (mr x q).2.1 ∧ (mr x q).2.1 < x 1 0 := by
        rcases hr with hr | hr
        · exact absurd hr.1 h
        · exact hr.1
      have hc := clr_in (q := q) (o := (mr x q).1) hq (by omega)
      have hcc := clr_in (q := clr q (mr x q).1) (o := (mr x q).2.1) (by omega) (by omega)
      exact ih _ _ (by omega) (p_bind hp (by omega) (by omega))
theorem frq_e0 {z x : Bk} (h : e0 z x) (k : Nat) : frq z k = frq x k := by
  induction k with
  | zero => rfl
  | succ k ih =>
    show (if z 15 _ = -1 then _ else _) = (if x 15 _ = -1 then _ else _)
    rw [h 15 (by decide), ih]
theorem frees_bd {x : Bk} (hok : Ok x) : 0 ≤ frees x ∧ frees x ≤ 10 := by
  have hn := hok.n
  have h := sg_bd (f := fun i => b01 (x 15 i = -1)) (n := (x 1 0).toNat) (lo := 0) (hi := 1) (fun k _ => by have := b01_or (p := x 15 (k : Int) = -1); omega)
  unfold frees
  omega
theorem Ok.mm {z x : Bk} (h : Ok x) (e : ∀ j, j ≠ 0 → j ≠ 4 → j ≠ 16 → j ≠ 17 → j ≠ 18 → z j = x j) (h4 : z 4 0 = 0 ∨ z 4 0 = 1) (h16 : rng z 16 10 (-1) 9) : Ok z := by
  have e' : ∀ j, (j ≠ 0 ∧ j ≠ 4 ∧ j ≠ 16 ∧ j ≠ 17 ∧ j ≠ 18) → z j = x j := fun j h => e j h.1 h.2.1 h.2.2.1 h.2.2.2.1 h.2.2.2.2
  refine ⟨?_, ?_, ?_, ?_, h4, rng_cor (e' 5 (by decide)) h.r5, rng_cor (e' 6 (by decide)) h.r6, rng_cor (e' 7 (by decide)) h.r7, rng_cor (e' 8 (by decide)) h.r8, rng_cor (e' 9 (by decide)) h.r9, rng_cor (e' 10 (by decide)) h.r10, rng_cor (e' 11 (by decide)) h.r11, rng_cor (e' 13 (by decide)) h.r13, rng_cor (e' 14 (by decide)) h.r14, rng_cor (e' 15 (by decide)) h.r15, h16⟩
  · rw [e' 1 (by decide)]; exact h.n
  · rw [e' 3 (by decide)]; exact h.b
  · rw [e' 2 (by decide)]; exact h.w
  · rw [e' 2 (by decide)]; exact h.s
theorem mpt_ex {x X : Bk} {v : Int} (hv : frees x ≤ v) (x1 : X 1 = x 1) (x16 : X 16 = fl (x 16) (-1) (x 1 0).toNat) (x17 : X 17 = gmt x) (x18 : X 18 = x 18) : mex (bu X 18 (mT X (pw (X 1 0) - 1).toNat)) 1024 (frq x (x 1 0).toNat) (X 16) = mpt x v := by
  unfold mpt
  rw [cif_t hv, x16]
  have e18 : (bu X 18 (mT X (pw (X 1 0) - 1).toNat)) 18 = xE x 18 := by
    unfold xE
    rw [bu_s, bu_s, x1]
    exact mT_congr (by rw [x1]; rfl) (by rw [x17]; rfl) (by rw [x18]; rfl) _
  have e1 : (bu X 18 (mT X (pw (X 1 0) - 1).toNat)) 1 = xE x 1 := by
    rw [bu_n (by decide), x1]; rfl
  have e17 : (bu X 18 (mT X (pw (X 1 0) - 1).toNat)) 17 = xE x 17 := by
    rw [bu_n (by decide), x17]; rfl
  exact mex_congr e1 e17 e18 _ _ _
theorem mpt_br {x X : Bk} {v : Int} (hv : ¬ frees x ≤ v) (x1 : X 1 = x 1) (x16 : X 16 = fl (x 16) (-1) (x 1 0).toNat) (x17 : X 17 = gmt x) : mbr X 1024 (frq x (x 1 0).toNat) (X 16) = mpt x v := by
  unfold mpt
  rw [cif_f hv, x16]
  exact mbr_congr (by rw [x1]; rfl) (by rw [x17]; rfl) _ _ _
