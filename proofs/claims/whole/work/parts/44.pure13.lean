/-! the farthest jump: the class goes by lines, the reference by jumps -/
def cgStep (o : Nat → Int) (S W v k : Int) (a : Int × Int × Int) : Int × Int × Int := if a.1 < fj (lnf o v k) ((if v = 0 then S else W) - 3).toNat then (fj (lnf o v k) ((if v = 0 then S else W) - 3).toNat, v, k) else a
def cgA (o : Nat → Int) (S W : Int) : Int × Int × Int := itL (cgStep o S W) 1 S.toNat (itL (cgStep o S W) 0 W.toNat (0, 0, 0))
abbrev jA (f : Nat → Int) (j : Int) : Int := ((jm f j).natAbs : Nat)
theorem rgI_spec (f : Nat → Int) (v k : Int) (m : Nat) (a : Int × Int) : (1 ≤ m → a.1 < fj f m → ∃ p : Int, (1 ≤ p ∧ p ≤ m) ∧ rgI f v k m a = (fj f m, 100 * v + 10 * k + p) ∧ jA f p = fj f m ∧ ∀ j : Int, 1 ≤ j → j < p → jA f j ≠ fj f m) ∧ (fj f m ≤ a.1 → rgI f v k m a = a) ∧ ∀ j : Int, 1 ≤ j → j ≤ m → jA f j ≤ fj f m := by
  induction m with
  | zero => exact ⟨fun h => by omega, fun _ => rfl, fun j h1 h2 => by omega⟩
  | succ m ih =>
    obtain ⟨ih1, ih2, ih3⟩ := ih
    have ef : fj f (m + 1) = max (fj f m) (jA f (m + 1)) := rfl
    have er : rgI f v k (m + 1) a = if (rgI f v k m a).1 < jA f (m + 1) then (jA f (m + 1), 100 * v + 10 * k + (m + 1)) else rgI f v k m a := rfl
    have h0 : 0 ≤ jA f (m + 1) := by show (0 : Int) ≤ ((jm f (m + 1)).natAbs : Nat); omega
    have h3 : ∀ j : Int, 1 ≤ j → j ≤ ((m + 1 : Nat) : Int) → jA f j ≤ fj f (m + 1) := by
      intro j h1 h2
      rw [ef]
      by_cases e : j = (m : Int) + 1
      · rw [e]; exact Int.le_max_right _ _
      · have := ih3 j h1 (by omega)
        exact Int.le_trans this (Int.le_max_left _ _)
    refine ⟨fun _ h => ?_, fun h => ?_, h3⟩
    · by_cases hm : m = 0
      · subst hm
        have e0 : rgI f v k 0 a = a := rfl
        have e1 : fj f 0 = 0 := rfl
        have e2 : fj f (0 + 1) = jA f ((0 : Nat) + 1) := by rw [ef, e1]; omega
        rw [er, e0, if_pos (by omega), e2]
        exact ⟨((0 : Nat) : Int) + 1, ⟨by omega, by omega⟩, rfl, rfl, fun j h1 h2 => by omega⟩
      · by_cases hc : a.1 < fj f m
        · obtain ⟨p, hp, e1, e2, e3⟩ := ih1 (by omega) hc
          rw [er, e1]
          by_cases hg : fj f m < jA f (m + 1)
          · have e4 : fj f (m + 1) = jA f (m + 1) := by omega
            rw [if_pos hg, e4]
            refine ⟨(m : Int) + 1, ⟨by omega, by omega⟩, rfl, rfl, fun j h1 h2 => ?_⟩
            have := ih3 j h1 (by omega)
            omega
          · have e4 : fj f (m + 1) = fj f m := by omega
            rw [if_neg hg, e4]
            exact ⟨p, ⟨by omega, by omega⟩, rfl, e2, e3⟩
        · have e1 := ih2 (by omega)
          have hg : a.1 < jA f (m + 1) := by omega
          have e4 : fj f (m + 1) = jA f (m + 1) := by omega
          rw [er, e1, if_pos hg, e4]
          refine ⟨(m : Int) + 1, ⟨by omega, by omega⟩, rfl, rfl, fun j h1 h2 => ?_⟩
          have := ih3 j h1 (by omega)
          omega
    · have h1 : fj f m ≤ a.1 := by omega
      rw [er, ih2 h1, if_neg (by omega)]
/-- how the two go together, once a line is behind them -/
def RgR (o : Nat → Int) (S W : Int) (c : Int × Int × Int) (g : Int × Int) : Prop := g.1 = c.1 ∧ 0 ≤ c.1 ∧ (c.2.1 = 0 ∨ c.2.1 = 1) ∧ (0 ≤ c.2.2 ∧ c.2.2 < (if c.2.1 = 0 then W else S)) ∧ ∃ p : Int, (1 ≤ p ∧ p ≤ (if c.2.1 = 0 then S else W) - 3) ∧ g.2 = 100 * c.2.1 + 10 * c.2.2 + p ∧ jA (lnf o c.2.1 c.2.2) p = c.1 ∧ ∀ j : Int, 1 ≤ j → j < p → jA (lnf o c.2.1 c.2.2) j ≠ c.1
theorem fj_nn (f : Nat → Int) (m : Nat) : 0 ≤ fj f m := by
  induction m with
  | zero => exact Int.le_refl 0
  | succ m ih => rw [fj]; omega
theorem RgR_step {o : Nat → Int} {S W v k : Int} (hS : 5 ≤ S ∧ S ≤ 9) (hW : 4 ≤ W ∧ W ≤ 7) (hv : v = 0 ∨ v = 1) (hk : 0 ≤ k ∧ k < (if v = 0 then W else S)) {c : Int × Int × Int} {g : Int × Int} (h : RgR o S W c g) : RgR o S W (cgStep o S W v k c) (rgStep o S W v k g) := by
  obtain ⟨h1, h2, h3, h4, p, hp⟩ := h
  obtain ⟨s1, s2, -⟩ := rgI_spec (lnf o v k) v k ((if v = 0 then S else W) - 3).toNat g
  unfold cgStep rgStep
  by_cases hc : c.1 < fj (lnf o v k) ((if v = 0 then S else W) - 3).toNat
  · rw [if_pos hc]
    obtain ⟨q, hq, e1, e2, e3⟩ := s1 (by omega) (by rw [h1]; exact hc)
    rw [e1]
    exact ⟨rfl, fj_nn _ _, hv, hk, q, ⟨hq.1, by show q ≤ (if v = 0 then S else W) - 3; omega⟩, rfl, e2, e3⟩
  · rw [if_neg hc, s2 (by rw [h1]; omega)]
    exact ⟨h1, h2, h3, h4, p, hp⟩
theorem RgR_first {o : Nat → Int} {S W : Int} (hS : 5 ≤ S ∧ S ≤ 9) (hW : 4 ≤ W ∧ W ≤ 7) : RgR o S W (cgStep o S W 0 0 (0, 0, 0)) (rgStep o S W 0 0 (-1, 0)) := by
  obtain ⟨s1, -, -⟩ := rgI_spec (lnf o 0 0) 0 0 ((if (0 : Int) = 0 then S else W) - 3).toNat (-1, 0)
  have hn := fj_nn (lnf o 0 0) ((if (0 : Int) = 0 then S else W) - 3).toNat
  rw [if_pos rfl] at s1 hn
  obtain ⟨q, hq, e1, e2, e3⟩ := s1 (by omega) (show (-1 : Int) < _ by omega)
  unfold cgStep rgStep
  rw [if_pos rfl, e1]
  by_cases hc : (0 : Int) < fj (lnf o 0 0) (S - 3).toNat
  · rw [if_pos hc]
    exact ⟨rfl, hn, Or.inl rfl, ⟨Int.le_refl 0, by show (0 : Int) < (if (0 : Int) = 0 then W else S); rw [if_pos rfl]; omega⟩, q, ⟨hq.1, by show q ≤ (if (0 : Int) = 0 then S else W) - 3; rw [if_pos rfl]; omega⟩, rfl, e2, e3⟩
  · have e0 : fj (lnf o 0 0) (S - 3).toNat = 0 := by omega
    rw [if_neg hc]
    refine ⟨e0, Int.le_refl 0, Or.inl rfl, ⟨Int.le_refl 0, by show (0 : Int) < (if (0 : Int) = 0 then W else S); rw [if_pos rfl]; omega⟩, q, ⟨hq.1, by show q ≤ (if (0 : Int) = 0 then S else W) - 3; rw [if_pos rfl]; omega⟩, rfl, by rw [e2]; exact e0, ?_⟩
    intro j h1 h2
    have := e3 j h1 h2
    rwa [e0] at this
theorem RgR_it {o : Nat → Int} {S W v : Int} (hS : 5 ≤ S ∧ S ≤ 9) (hW : 4 ≤ W ∧ W ≤ 7) (hv : v = 0 ∨ v = 1) {c : Int × Int × Int} {g : Int × Int} (h : RgR o S W c g) (m : Nat) : (m : Int) ≤ (if v = 0 then W else S) → RgR o S W (itL (cgStep o S W) v m c) (itL (rgStep o S W) v m g) := by
  induction m with
  | zero => intro _; exact h
  | succ m ih => intro hm; exact RgR_step hS hW hv (by omega) (ih (by omega))
theorem RgR_it0 {o : Nat → Int} {S W : Int} (hS : 5 ≤ S ∧ S ≤ 9) (hW : 4 ≤ W ∧ W ≤ 7) (m : Nat) : ((m + 1 : Nat) : Int) ≤ W → RgR o S W (itL (cgStep o S W) 0 (m + 1) (0, 0, 0)) (itL (rgStep o S W) 0 (m + 1) (-1, 0)) := by
  induction m with
  | zero => intro _; exact RgR_first hS hW
  | succ m ih => intro hm; exact RgR_step hS hW (Or.inl rfl) (by rw [if_pos rfl]; omega) (ih (by omega))
theorem RgR_all {o : Nat → Int} {S W : Int} (hS : 5 ≤ S ∧ S ≤ 9) (hW : 4 ≤ W ∧ W ≤ 7) : RgR o S W (cgA o S W) (rgA o S W) := by
  unfold cgA rgA
  refine RgR_it hS hW (Or.inr rfl) ?_ _ (by rw [if_neg (by decide)]; omega)
  obtain ⟨m, hm⟩ : ∃ m : Nat, W.toNat = m + 1 := ⟨W.toNat - 1, by omega⟩
  rw [hm]
  exact RgR_it0 hS hW m (by omega)
