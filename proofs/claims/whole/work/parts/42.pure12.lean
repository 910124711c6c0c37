def brW (u l : Nat → Int) (b s : Int) : Int := brS (u s.toNat) (l s.toNat) (u (s + 1).toNat) (l (s + 1).toNat) (u (s + 2).toNat) (l (s + 2).toNat) (u (s + 3).toNat) (l (s + 3).toNat) b
theorem brW_eq (u l : Nat → Int) (b : Int) {s : Int} (h : 0 ≤ s) : brW u l b s = brAt u l b s.toNat := by
  unfold brW brAt
  rw [show (s + 1).toNat = s.toNat + 1 by omega, show (s + 2).toNat = s.toNat + 2 by omega, show (s + 3).toNat = s.toNat + 3 by omega]
def MeasQ (σ : Sto) (s b : Int) (σ' : Sto) : Prop := Fr [17, 18] σ σ' ∧ (∀ j : Nat, σ' 17 j = if j = s.toNat then htU (lnf (σ 8) 1 s) b (σ 101 0) else σ 17 j) ∧ ∀ j : Nat, σ' 18 j = if j = s.toNat then htL (lnf (σ 8) 1 s) b (σ 101 0) else σ 18 j
theorem SmC_h {σ σ' : Sto} (hI : IC σ) (h : Fr [17, 18] σ σ') : SmC σ σ' := ⟨Fr_sub h (by decide), ScC_fr (IC_sc hI) h (by decide)⟩
theorem fj_rc (f : Nat → Int) {b : Int} (hb : 0 ≤ b) (m : Nat) : b < fj f m ↔ 0 < rc f b m := by
  induction m with
  | zero => simp [fj, rc]; omega
  | succ m ih =>
    have := rc_rng f b m
    rw [fj, rc]
    split <;> omega
theorem bkS_zero {o : Nat → Int} {S W bnd b : Int} (hS : 5 ≤ S ∧ S ≤ 9) (hW : 4 ≤ W ∧ W ≤ 7) (h : ∀ i : Nat, i < 63 → o i < b) : bkS o S W bnd b = 0 := by
  have key : ∀ s : Nat, (s : Int) < S → bkL o W b s = 0 := by
    intro s hs
    unfold bkL htL
    refine if_neg (fun hh => ?_)
    have h1 := fhA_hit (lnf o 1 s) b W.toNat 0
    have h2 : b ≤ lnf o 1 s (fh (lnf o 1 s) b W) := h1 (by unfold fh at hh; omega)
    have h3 := h (pt 1 s (fh (lnf o 1 s) b W)).toNat (by unfold pt; rw [if_neg (by decide)]; omega)
    unfold lnf at h2 h3
    omega
  have k2 : ∀ i, i < (S - 3).toNat → brAt (bkU o W b) (bkL o W b) bnd i = 0 := by
    intro i hi
    unfold brAt brS
    exact if_pos (Or.inl (key i (by omega)))
  unfold bkS
  rw [fsum_congr (g := fun _ => 0) _ k2]
  generalize (S - 3).toNat = m
  induction m with
  | zero => rfl
  | succ m ih => rw [fsum, ih]; rfl
def wcA (c : Int → Int) : Nat → Int × Int
  | 0 => (0, 1)
  | m + 1 => if (wcA c m).1 < c (m + 1) then (c (m + 1), (m : Int) + 1) else wcA c m
theorem wcA_step (c : Int → Int) {b : Int} (h : 1 ≤ b) : wcA c (b + 1 - 1).toNat = (if (wcA c (b - 1).toNat).1 < c b then (c b, b) else wcA c (b - 1).toNat) := by
  rw [show (b + 1 - 1).toNat = (b - 1).toNat + 1 by omega, wcA, show (((b - 1).toNat : Nat) : Int) + 1 = b by omega]
theorem wc_ws {c : Int → Int} (h0 : ∀ b, 0 ≤ c b) (m : Nat) : wsA c (m + 1) = ((wcA c (m + 1)).2, (wcA c (m + 1)).1) ∧ 0 ≤ (wcA c (m + 1)).1 := by
  induction m with
  | zero =>
    have h1 := h0 1
    have e1 : wsA c 1 = (1, c 1) := by
      show (if (-1 : Int) < c (0 + 1) then ((0 : Int) + 1, c (0 + 1)) else _) = _
      rw [if_pos (by rw [show (0 : Int) + 1 = 1 from rfl]; omega)]
      rfl
    have e2 : wcA c 1 = (if (0 : Int) < c (0 + 1) then (c (0 + 1), (0 : Int) + 1) else (0, 1)) := rfl
    rw [show (0 : Int) + 1 = 1 from rfl] at e2
    by_cases hc : 0 < c 1
    · rw [if_pos hc] at e2; rw [e1, e2]; exact ⟨rfl, h1⟩
    · rw [if_neg hc] at e2
      have e3 : c 1 = 0 := by omega
      rw [e1, e2, e3]
      exact ⟨rfl, by decide⟩
  | succ m ih =>
    obtain ⟨e1, e2⟩ := ih
    have e3 : wsA c (m + 1 + 1) = (if (wsA c (m + 1)).2 < c ((m + 1 : Nat) + 1) then (((m + 1 : Nat) : Int) + 1, c ((m + 1 : Nat) + 1)) else wsA c (m + 1)) := rfl
    have e4 : wcA c (m + 1 + 1) = (if (wcA c (m + 1)).1 < c ((m + 1 : Nat) + 1) then (c ((m + 1 : Nat) + 1), ((m + 1 : Nat) : Int) + 1) else wcA c (m + 1)) := rfl
    rw [e3, e4, e1]
    by_cases hc : (wcA c (m + 1)).1 < c ((m + 1 : Nat) + 1)
    · rw [if_pos hc, if_pos hc]; exact ⟨rfl, h0 _⟩
    · rw [if_neg hc, if_neg hc]; exact ⟨rfl, e2⟩
theorem wcA_stop {c : Int → Int} {m : Nat} (h0 : ∀ b, 0 ≤ c b) (h : ∀ b : Int, (m : Int) < b → c b = 0) : ∀ k : Nat, wcA c (m + k) = wcA c m ∧ 0 ≤ (wcA c m).1
  | 0 => by
    refine ⟨rfl, ?_⟩
    have : ∀ j : Nat, 0 ≤ (wcA c j).1 := by
      intro j
      induction j with
      | zero => exact Int.le_refl 0
      | succ j ih => rw [wcA]; split; exact h0 _; exact ih
    exact this m
  | k + 1 => by
    obtain ⟨h1, h2⟩ := wcA_stop h0 h k
    refine ⟨?_, h2⟩
    rw [show m + (k + 1) = m + k + 1 by omega, wcA, h1, if_neg (by rw [h _ (by omega)]; omega)]
theorem worst_eq {c : Int → Int} (h0 : ∀ b, 0 ≤ c b) {m : Nat} (hm : m ≤ 999) (h : ∀ b : Int, (m : Int) < b → c b = 0) : (wcA c m).2 = (wsA c 999).1 := by
  rw [(wc_ws h0 998).1, show (998 + 1 : Nat) = m + (999 - m) by omega, (wcA_stop h0 h (999 - m)).1]
theorem sx_mul (f : Nat → Int) (c : Int) {n : Int} (hn : 4 ≤ n ∧ n ≤ 9) : sx (fun k => f k * c) n = sx f n * c := by
  rcases n49 hn with rfl | rfl | rfl | rfl | rfl | rfl
  · rw [sx4, sx4]; grind
  · rw [sx5, sx5]; grind
  · rw [sx6, sx6]; grind
  · rw [sx7, sx7]; grind
  · rw [sx8, sx8]; grind
  · rw [sx9, sx9]; grind
