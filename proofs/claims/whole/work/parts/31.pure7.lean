/-! how the reference begins: the three first numbers at once -/
def ndV (f hd : Nat → Int) (bn r n p x : Int) : Int := if okM f hd r p (x / 49 - 3) ∧ okM f hd r (p + 1) (x / 7 % 7 - 3) ∧ okM f hd r (p + 2) (x % 7 - 3) then dcod 1000000 (G f hd bn r n (n - p - 3).toNat (x / 49 - 3) (x / 7 % 7 - 3) (x % 7 - 3)) else 1000000
def cxV (f hd : Nat → Int) (bn r n x : Int) : Int := (((x / 49 - 3).natAbs : Nat) : Int) + (((x / 7 % 7 - 3).natAbs : Nat) : Int) + (((x % 7 - 3).natAbs : Nat) : Int) + ndV f hd bn r n 0 x
section BGN
variable {f hd : Nat → Int} {bn r n : Int}
theorem dec3 {a b c : Int} (ha : -3 ≤ a ∧ a ≤ 3) (hb : -3 ≤ b ∧ b ≤ 3) (hc : -3 ≤ c ∧ c ≤ 3) : (49 * (a + 3) + 7 * (b + 3) + c + 3) / 49 - 3 = a ∧ (49 * (a + 3) + 7 * (b + 3) + c + 3) / 7 % 7 - 3 = b ∧ (49 * (a + 3) + 7 * (b + 3) + c + 3) % 7 - 3 = c ∧ 0 ≤ 49 * (a + 3) + 7 * (b + 3) + c + 3 ∧ 49 * (a + 3) + 7 * (b + 3) + c + 3 < 343 := by omega
theorem ndV_of (hr : 0 ≤ r ∧ r ≤ 3) {p a b c : Int} (h0 : okM f hd r p a) (h1 : okM f hd r (p + 1) b) (h2 : okM f hd r (p + 2) c) : ndV f hd bn r n p (49 * (a + 3) + 7 * (b + 3) + c + 3) = dcod 1000000 (G f hd bn r n (n - p - 3).toNat a b c) := by
  obtain ⟨e1, e2, e3, -, -⟩ := dec3 (a := a) (b := b) (c := c) (by have := h0.1; omega) (by have := h1.1; omega) (by have := h2.1; omega)
  unfold ndV
  rw [e1, e2, e3]
  exact if_pos ⟨h0, h1, h2⟩
theorem ndV_rng (hr : 0 ≤ r ∧ r ≤ 3) (hn : 4 ≤ n ∧ n ≤ 9) {p : Int} (hp : 0 ≤ p ∧ p ≤ n - 3) (x : Int) : 0 ≤ ndV f hd bn r n p x ∧ ndV f hd bn r n p x ≤ 1000000 := by
  unfold ndV
  split
  · cases hG : G f hd bn r n (n - p - 3).toNat (x / 49 - 3) (x / 7 % 7 - 3) (x % 7 - 3) with
    | none => simp [dcod]
    | some t => have := G_rng hr _ _ _ _ _ hG; simp only [dcod]; omega
  · omega
theorem cx_of (hr : 0 ≤ r ∧ r ≤ 3) {a b c t : Int} (h0 : okM f hd r 0 a) (h1 : okM f hd r 1 b) (h2 : okM f hd r 2 c) (hG : G f hd bn r n (n - 3).toNat a b c = some t) : cxV f hd bn r n (49 * (a + 3) + 7 * (b + 3) + c + 3) = ((a.natAbs : Nat) : Int) + ((b.natAbs : Nat) : Int) + ((c.natAbs : Nat) : Int) + t := by
  obtain ⟨e1, e2, e3, -, -⟩ := dec3 (a := a) (b := b) (c := c) (by have := h0.1; omega) (by have := h1.1; omega) (by have := h2.1; omega)
  have h := ndV_of (bn := bn) (n := n) hr (p := 0) h0 h1 h2
  rw [show n - 0 - 3 = n - 3 by omega, hG] at h
  unfold cxV
  rw [h, e1, e2, e3]
  rfl
theorem G3 (hr : 0 ≤ r ∧ r ≤ 3) (hn : 4 ≤ n ∧ n ≤ 9) {t : Int} (h : Ltt f hd bn r n = some t) : ∃ a b c s : Int, okM f hd r 0 a ∧ okM f hd r 1 b ∧ okM f hd r 2 c ∧ G f hd bn r n (n - 3).toNat a b c = some s ∧ t = ((a.natAbs : Nat) : Int) + (((b.natAbs : Nat) : Int) + (((c.natAbs : Nat) : Int) + s)) := by
  unfold Ltt at h
  obtain ⟨q, hq⟩ : ∃ q : Nat, n.toNat = q + 1 + 1 + 1 := ⟨n.toNat - 3, by omega⟩
  rw [hq] at h
  obtain ⟨⟨a, t1, ca, ga, ea⟩, -⟩ := G_some hr h
  obtain ⟨⟨b, t2, cb, gb, eb⟩, -⟩ := G_some hr ga
  obtain ⟨⟨c, t3, cc, gc, ec⟩, -⟩ := G_some hr gb
  rw [show n - (((q + 1 + 1 : Nat) : Int) + 1) = 0 by omega] at ca
  rw [show n - (((q + 1 : Nat) : Int) + 1) = 1 by omega] at cb
  rw [show n - (((q : Nat) : Int) + 1) = 2 by omega] at cc
  exact ⟨a, b, c, t3, ca.1, cb.1, cc.1, by rw [show (n - 3).toNat = q by omega]; exact gc, by omega⟩
theorem bg_none (hr : 0 ≤ r ∧ r ≤ 3) (hn : 4 ≤ n ∧ n ≤ 9) (h : ∀ x : Int, 0 ≤ x → x < 343 → 1000000 ≤ cxV f hd bn r n x) : Ltt f hd bn r n = none := by
  cases hL : Ltt f hd bn r n with
  | none => rfl
  | some t =>
    exfalso
    obtain ⟨a, b, c, s, h0, h1, h2, hG, et⟩ := G3 hr hn hL
    have hs := G_rng hr _ _ _ _ _ hG
    have hx := cx_of hr h0 h1 h2 hG
    obtain ⟨-, -, -, e4, e5⟩ := dec3 (a := a) (b := b) (c := c) (by have := h0.1; omega) (by have := h1.1; omega) (by have := h2.1; omega)
    have := h _ e4 e5
    have := h0.1
    have := h1.1
    have := h2.1
    omega
theorem bg_some (hr : 0 ≤ r ∧ r ≤ 3) (hn : 4 ≤ n ∧ n ≤ 9) {F best : Int} (hF : 0 ≤ F ∧ F < 343) (hb : best = cxV f hd bn r n F) (hlt : best < 1000000) (hall : ∀ x : Int, 0 ≤ x → x < 343 → best ≤ cxV f hd bn r n x) (hst : ∀ x : Int, 0 ≤ x → x < F → best < cxV f hd bn r n x) :
    Ltt f hd bn r n = some best ∧ (Lsq f hd bn r n 1).2.2 = F / 49 - 3 ∧ (Lsq f hd bn r n 2).2.2 = F / 7 % 7 - 3 ∧ Lsq f hd bn r n 3 = (F / 49 - 3, F / 7 % 7 - 3, F % 7 - 3) := by
  obtain ⟨q, hq⟩ : ∃ q : Nat, n.toNat = q + 1 + 1 + 1 := ⟨n.toNat - 3, by omega⟩
  have hq3 : (n - 3).toNat = q := by omega
  obtain ⟨a, ha⟩ : ∃ a, a = F / 49 - 3 := ⟨_, rfl⟩
  obtain ⟨b, hb'⟩ : ∃ b, b = F / 7 % 7 - 3 := ⟨_, rfl⟩
  obtain ⟨c, hc⟩ : ∃ c, c = F % 7 - 3 := ⟨_, rfl⟩
  have eF : F = 49 * (a + 3) + 7 * (b + 3) + c + 3 := by omega
  have hcx : cxV f hd bn r n F = ((a.natAbs : Nat) : Int) + ((b.natAbs : Nat) : Int) + ((c.natAbs : Nat) : Int) + ndV f hd bn r n 0 F := by unfold cxV; rw [← ha, ← hb', ← hc]
  have key : ∃ t, (okM f hd r 0 a ∧ okM f hd r 1 b ∧ okM f hd r 2 c) ∧ G f hd bn r n q a b c = some t := by
    have h1 : ndV f hd bn r n 0 F < 1000000 := by omega
    unfold ndV at h1
    rw [← ha, ← hb', ← hc, show n - 0 - 3 = n - 3 by omega, hq3] at h1
    by_cases hok : okM f hd r 0 a ∧ okM f hd r (0 + 1) b ∧ okM f hd r (0 + 2) c
    · rw [if_pos hok] at h1
      cases hG : G f hd bn r n q a b c with
      | none => rw [hG] at h1; simp [dcod] at h1
      | some t => exact ⟨t, hok, rfl⟩
    · rw [if_neg hok] at h1
      omega
  obtain ⟨t, ⟨h0, h1, h2⟩, hG⟩ := key
  have eb : best = ((a.natAbs : Nat) : Int) + ((b.natAbs : Nat) : Int) + ((c.natAbs : Nat) : Int) + t := by
    rw [hb, eF]
    exact cx_of hr h0 h1 h2 (by rw [hq3]; exact hG)
  have i0 : n - (((q + 1 + 1 : Nat) : Int) + 1) = 0 := by omega
  have i1 : n - (((q + 1 : Nat) : Int) + 1) = 1 := by omega
  have i2 : n - (((q : Nat) : Int) + 1) = 2 := by omega
  -- any other three
  have oth : ∀ a' b' c' t' : Int, okM f hd r 0 a' → okM f hd r 1 b' → okM f hd r 2 c' → G f hd bn r n q a' b' c' = some t' → best ≤ ((a'.natAbs : Nat) : Int) + ((b'.natAbs : Nat) : Int) + ((c'.natAbs : Nat) : Int) + t' ∧ (49 * (a' + 3) + 7 * (b' + 3) + c' + 3 < F → best < ((a'.natAbs : Nat) : Int) + ((b'.natAbs : Nat) : Int) + ((c'.natAbs : Nat) : Int) + t') := by
    intro a' b' c' t' g0 g1 g2 g
    obtain ⟨-, -, -, e4, e5⟩ := dec3 (a := a') (b := b') (c := c') (by have := g0.1; omega) (by have := g1.1; omega) (by have := g2.1; omega)
    have e := cx_of hr g0 g1 g2 (by rw [hq3]; exact g)
    rw [← e]
    exact ⟨hall _ e4 e5, fun h => hst _ e4 h⟩
  have hA2 : G f hd bn r n (q + 1) 0 a b = some (((c.natAbs : Nat) : Int) + t) := by
    refine G_is hr (by rw [i2]; exact ⟨h2, fun h => by omega⟩) hG (fun m2 t2 g1 g2 => ?_)
    rw [i2] at g1
    have := (oth a b m2 t2 h0 h1 g1.1 g2).1
    omega
  have hA1 : G f hd bn r n (q + 1 + 1) 0 0 a = some (((b.natAbs : Nat) : Int) + (((c.natAbs : Nat) : Int) + t)) := by
    refine G_is hr (by rw [i1]; exact ⟨h1, fun h => by omega⟩) hA2 (fun m2 t2 g1 g2 => ?_)
    rw [i1] at g1
    obtain ⟨⟨c', t', k1, k2, k3⟩, -⟩ := G_some hr g2
    rw [i2] at k1
    have := (oth a m2 c' t' h0 g1.1 k1.1 k2).1
    omega
  have hA0 : G f hd bn r n (q + 1 + 1 + 1) 0 0 0 = some (((a.natAbs : Nat) : Int) + (((b.natAbs : Nat) : Int) + (((c.natAbs : Nat) : Int) + t))) := by
    refine G_is hr (by rw [i0]; exact ⟨h0, fun h => by omega⟩) hA1 (fun m2 t2 g1 g2 => ?_)
    rw [i0] at g1
    obtain ⟨⟨b', t1, k1, k2, k3⟩, -⟩ := G_some hr g2
    obtain ⟨⟨c', t', l1, l2, l3⟩, -⟩ := G_some hr k2
    rw [i1] at k1
    rw [i2] at l1
    have := (oth m2 b' c' t' g1.1 k1.1 l1.1 l2).1
    omega
  have n0 : nx f hd bn r n 0 0 0 0 = a := by
    refine nx_eq hr ⟨h0, fun h => by omega⟩ ?_ ?_
    · rw [show (n - 1 - 0).toNat = q + 1 + 1 by omega, show (n - 0).toNat = q + 1 + 1 + 1 by omega, hA1, hA0]; rfl
    · intro m' hm' g1 g2
      rw [show (n - 1 - 0).toNat = q + 1 + 1 by omega, show (n - 0).toNat = q + 1 + 1 + 1 by omega, hA0] at g2
      cases hs : G f hd bn r n (q + 1 + 1) 0 0 m' with
      | none => rw [hs] at g2; simp [oadd] at g2
      | some s =>
        rw [hs] at g2
        simp only [oadd, Option.some.injEq] at g2
        obtain ⟨⟨b', t1, k1, k2, k3⟩, -⟩ := G_some hr hs
        obtain ⟨⟨c', t', l1, l2, l3⟩, -⟩ := G_some hr k2
        rw [i1] at k1
        rw [i2] at l1
        have r1 := k1.1.1
        have r2 := l1.1.1
        have r3 := h1.1
        have r4 := h2.1
        have := (oth m' b' c' t' g1.1 k1.1 l1.1 l2).2 (by omega)
        omega
  have n1 : nx f hd bn r n 1 0 0 a = b := by
    refine nx_eq hr ⟨h1, fun h => by omega⟩ ?_ ?_
    · rw [show (n - 1 - 1).toNat = q + 1 by omega, show (n - 1).toNat = q + 1 + 1 by omega, hA2, hA1]; rfl
    · intro m' hm' g1 g2
      rw [show (n - 1 - 1).toNat = q + 1 by omega, show (n - 1).toNat = q + 1 + 1 by omega, hA1] at g2
      cases hs : G f hd bn r n (q + 1) 0 a m' with
      | none => rw [hs] at g2; simp [oadd] at g2
      | some s =>
        rw [hs] at g2
        simp only [oadd, Option.some.injEq] at g2
        obtain ⟨⟨c', t', l1, l2, l3⟩, -⟩ := G_some hr hs
        rw [i2] at l1
        have r2 := l1.1.1
        have r4 := h2.1
        have := (oth a m' c' t' h0 g1.1 l1.1 l2).2 (by omega)
        omega
  have n2 : nx f hd bn r n 2 0 a b = c := by
    refine nx_eq hr ⟨h2, fun h => by omega⟩ ?_ ?_
    · rw [show (n - 1 - 2).toNat = q by omega, show (n - 2).toNat = q + 1 by omega, hG, hA2]; rfl
    · intro m' hm' g1 g2
      rw [show (n - 1 - 2).toNat = q by omega, show (n - 2).toNat = q + 1 by omega, hA2] at g2
      cases hs : G f hd bn r n q a b m' with
      | none => rw [hs] at g2; simp [oadd] at g2
      | some s =>
        rw [hs] at g2
        simp only [oadd, Option.some.injEq] at g2
        have := (oth a b m' s h0 h1 g1.1 hs).2 (by omega)
        omega
  have s1 : Lsq f hd bn r n 1 = (0, 0, a) := by
    show (_, _, nx f hd bn r n ((0 : Nat) : Int) _ _ _) = _
    exact congrArg (fun z => ((0 : Int), (0 : Int), z)) n0
  have s2 : Lsq f hd bn r n 2 = (0, a, b) := by
    show ((Lsq f hd bn r n 1).2.1, (Lsq f hd bn r n 1).2.2, nx f hd bn r n ((1 : Nat) : Int) (Lsq f hd bn r n 1).1 (Lsq f hd bn r n 1).2.1 (Lsq f hd bn r n 1).2.2) = _
    rw [s1]
    exact congrArg (fun z => ((0 : Int), a, z)) n1
  have s3 : Lsq f hd bn r n 3 = (a, b, c) := by
    show ((Lsq f hd bn r n 2).2.1, (Lsq f hd bn r n 2).2.2, nx f hd bn r n ((2 : Nat) : Int) (Lsq f hd bn r n 2).1 (Lsq f hd bn r n 2).2.1 (Lsq f hd bn r n 2).2.2) = _
    rw [s2]
    exact congrArg (fun z => (a, b, z)) n2
  refine ⟨?_, by rw [s1, ← ha], by rw [s2, ← hb'], by rw [s3, ← ha, ← hb', ← hc]⟩
  unfold Ltt
  rw [hq, hA0]
  congr 1
  omega
end BGN
