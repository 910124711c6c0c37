/-! the class's own state -/
def scC : List Nat := [102, 103, 104, 6, 7, 11, 12, 13, 14, 15, 16, 17, 18]
def ScC (σ : Sto) : Prop := Rng (σ 11) ∧ (∀ i : Nat, i < 343 → σ 16 i = 0) ∧ ∀ i : Nat, i < 3 → σ 13 i = 0 ∧ σ 14 i = 0 ∧ σ 15 i = 0
def IC (σ : Sto) : Prop := (5 ≤ σ 100 0 ∧ σ 100 0 ≤ 9) ∧ (4 ≤ σ 101 0 ∧ σ 101 0 ≤ 7) ∧ (0 ≤ σ 5 0 ∧ σ 5 0 ≤ 999) ∧ (0 ≤ σ 5 1 ∧ σ 5 1 ≤ 3) ∧ (1 ≤ σ 5 2 ∧ σ 5 2 ≤ 99) ∧ (1 ≤ σ 5 3 ∧ σ 5 3 ≤ 99) ∧ Rng (σ 8) ∧ Rng (σ 9) ∧ (∀ i, σ 10 i = 0 ∨ σ 10 i = 1) ∧ ScC σ
def SmC (σ σ' : Sto) : Prop := Fr scC σ σ' ∧ ScC σ'
theorem SmC_rf {σ : Sto} (h : ScC σ) : SmC σ σ := ⟨Fr_rf, h⟩
theorem SmC_tr {σ σ1 σ2 : Sto} (h : SmC σ σ1) (h2 : SmC σ1 σ2) : SmC σ σ2 := ⟨Fr_tr h.1 h2.1 (fun _ q => q), h2.2⟩
theorem IC_sc {σ : Sto} (h : IC σ) : ScC σ := h.2.2.2.2.2.2.2.2.2
theorem IC_sm {σ σ' : Sto} (h : IC σ) (h2 : SmC σ σ') : IC σ' := by
  obtain ⟨hS, hW, hB, hRe, hLo, hHi, hO, hPu, hHe, hSc⟩ := h
  have e := h2.1
  unfold IC
  rw [e 100 (by decide), e 101 (by decide), e 5 (by decide), e 8 (by decide), e 9 (by decide), e 10 (by decide)]
  exact ⟨hS, hW, hB, hRe, hLo, hHi, hO, hPu, hHe, h2.2⟩
theorem ScC_fr {σ σ' : Sto} {ks : List Nat} (h : ScC σ) (hF : Fr ks σ σ') (hk : 11 ∉ ks ∧ 16 ∉ ks ∧ 13 ∉ ks ∧ 14 ∉ ks ∧ 15 ∉ ks) : ScC σ' := by
  unfold ScC
  rw [hF 11 hk.1, hF 16 hk.2.1, hF 13 hk.2.2.1, hF 14 hk.2.2.2.1, hF 15 hk.2.2.2.2]
  exact h
def HullQC (σ : Sto) (s l : Int) (σ' : Sto) : Prop := Fr [100, 101, 8, 9, 10] σ σ' ∧ σ' 100 0 = s ∧ σ' 101 0 = l ∧ σ' 8 = lay0 63 (σ 8) (fun _ => 0) ∧ σ' 9 = lay0 63 (σ 9) (fun _ => 0) ∧ σ' 10 = lay0 63 (σ 10) (fun _ => 0)
def LayC (σ : Sto) (v k : Int) (σ' : Sto) : Prop := Fr [102, 11] σ σ' ∧ σ' 102 0 = (if v = 0 then σ 100 0 else σ 101 0) ∧ (∀ i : Nat, (i : Int) < (if v = 0 then σ 100 0 else σ 101 0) → σ' 11 i = lnf (σ 8) v k i) ∧ Rng (σ' 11)
theorem LayC_sm {σ σ' : Sto} {v k : Int} (hI : IC σ) (h : LayC σ v k σ') : SmC σ σ' := by
  refine ⟨Fr_sub h.1 (by decide), h.2.2.2, ?_⟩
  rw [h.1 16 (by decide), h.1 13 (by decide), h.1 14 (by decide), h.1 15 (by decide)]
  exact (IC_sc hI).2
def mxA (f : Nat → Int) : Nat → Int
  | 0 => 0
  | m + 1 => max (mxA f m) (f m)
theorem mxA_step (f : Nat → Int) {i : Int} (h : 0 ≤ i) : mxA f (i + 1).toNat = max (mxA f i.toNat) (f i.toNat) := by
  rw [show (i + 1).toNat = i.toNat + 1 by omega, mxA]
theorem mxA_rng {f : Nat → Int} (h : Rng f) (m : Nat) : 0 ≤ mxA f m ∧ mxA f m ≤ 999 := by
  induction m with
  | zero => simp [mxA]
  | succ m ih => have := h m; rw [mxA]; omega
theorem mxA_le (f : Nat → Int) (m : Nat) : ∀ i, i < m → f i ≤ mxA f m := by
  induction m with
  | zero => intro i hi; omega
  | succ m ih =>
    intro i hi
    rw [mxA]
    by_cases e : i = m
    · subst e; omega
    · have := ih i (by omega); omega
def fj (f : Nat → Int) : Nat → Int
  | 0 => 0
  | m + 1 => max (fj f m) ((jm f (m + 1)).natAbs : Nat)
theorem fj_step (f : Nat → Int) {i : Int} (h : 1 ≤ i) : fj f (i + 1 - 1).toNat = max (fj f (i - 1).toNat) ((jm f i).natAbs : Nat) := by
  rw [show (i + 1 - 1).toNat = (i - 1).toNat + 1 by omega, fj, show (((i - 1).toNat : Nat) : Int) + 1 = i by omega]
theorem fj_rng {f : Nat → Int} (h : Rng f) (m : Nat) : 0 ≤ fj f m ∧ fj f m ≤ 7992 := by
  induction m with
  | zero => simp [fj]
  | succ m ih => have := jm_rng h ((m : Int) + 1); rw [fj]; omega
theorem fj_congr {f g : Nat → Int} {n : Int} (h : ∀ i : Nat, (i : Int) < n → f i = g i) (m : Nat) (hm : (m : Int) ≤ n - 3) : fj f m = fj g m := by
  induction m with
  | zero => rfl
  | succ m ih => rw [fj, fj, ih (by omega), jm_congr h (by omega)]
/-- Euclid's way with a count of steps -/
def eu : Nat → Int → Int → Int
  | 0, a, _ => a
  | m + 1, a, b => if b = 0 then a else eu m b (a % b)
theorem eu_z (m : Nat) (a : Int) : eu m a 0 = a := by cases m <;> simp [eu]
theorem eu_gc : ∀ (j : Nat) (a b : Int), 0 ≤ a → 0 ≤ b → b < 2 ^ j → eu (2 * j) a b = gc a b
  | 0, a, b, ha, hb, h => by
    have e : b = 0 := by simp at h; omega
    subst e
    rw [eu_z, gc_zero ha]
  | j + 1, a, b, ha, hb, h => by
    by_cases e : b = 0
    · subst e; rw [eu_z, gc_zero ha]
    · have h1 := Int.emod_nonneg a e
      have h2 := Int.emod_lt_of_pos a (show 0 < b by omega)
      rw [show 2 * (j + 1) = (2 * j) + 1 + 1 by omega, eu, if_neg e, eu]
      by_cases e2 : a % b = 0
      · rw [if_pos e2, ← gc_step ha (by omega), e2, gc_zero hb]
      · rw [if_neg e2, ← gc_step ha (by omega), ← gc_step hb (by omega)]
        have h3 := Int.emod_nonneg b e2
        have h4 := Int.emod_lt_of_pos b (show 0 < a % b by omega)
        refine eu_gc j _ _ h1 h3 ?_
        have h5 : b % (a % b) + (a % b) ≤ b := by
          have h6 := Int.emod_add_mul_ediv b (a % b)
          have h7 : 1 ≤ b / (a % b) := by
            rw [Int.le_ediv_iff_mul_le (by omega)]
            omega
          have h8 : (a % b) * 1 ≤ (a % b) * (b / (a % b)) := Int.mul_le_mul_of_nonneg_left h7 h1
          omega
        have h9 : (2 : Int) ^ (j + 1) = 2 * 2 ^ j := by rw [Int.pow_succ]; omega
        omega
