/-! HEIGHTS and BREAKS -/
def fhA (g : Nat → Int) (b : Int) : Nat → Nat → Nat
  | 0, w => w
  | m + 1, w => if b ≤ g w then w else fhA g b m (w + 1)
def fh (g : Nat → Int) (b W : Int) : Nat := fhA g b W.toNat 0
theorem fhA_le (g : Nat → Int) (b : Int) : ∀ (m w : Nat), w ≤ fhA g b m w ∧ fhA g b m w ≤ w + m
  | 0, w => by simp [fhA]
  | m + 1, w => by
    have := fhA_le g b m (w + 1)
    rw [fhA]
    split <;> omega
theorem fhA_hit (g : Nat → Int) (b : Int) : ∀ (m w : Nat), fhA g b m w < w + m → b ≤ g (fhA g b m w)
  | 0, w, h => by simp [fhA] at h
  | m + 1, w, h => by
    rw [fhA] at h ⊢
    split
    · assumption
    · rename_i h1
      rw [if_neg h1] at h
      exact fhA_hit g b m (w + 1) (by omega)
theorem fhA_miss (g : Nat → Int) (b : Int) : ∀ (m w j : Nat), w ≤ j → j < fhA g b m w → g j < b
  | 0, w, j, h1, h2 => by simp [fhA] at h2; omega
  | m + 1, w, j, h1, h2 => by
    rw [fhA] at h2
    split at h2
    · omega
    · by_cases e : j = w
      · subst e; omega
      · exact fhA_miss g b m (w + 1) j (by omega) h2
theorem fhA_congr {g g' : Nat → Int} (b : Int) : ∀ (m w : Nat), (∀ j, j < w + m → g j = g' j) → fhA g b m w = fhA g' b m w
  | 0, w, _ => rfl
  | m + 1, w, h => by rw [fhA, fhA, h w (by omega), fhA_congr b m (w + 1) (fun j hj => h j (by omega))]
def htL (g : Nat → Int) (b W : Int) : Int := if (fh g b W : Int) < W then (if fh g b W = 0 then 1 else g (fh g b W) - g (fh g b W - 1)) else 0
def htU (g : Nat → Int) (b W : Int) : Int := if (fh g b W : Int) < W then (if fh g b W = 0 then 0 else ((fh g b W : Int) - 1) * htL g b W + b - g (fh g b W - 1)) else 0
theorem htL_rng {g : Nat → Int} (hg : Rng g) (b : Int) {W : Int} (hW : 4 ≤ W ∧ W ≤ 7) : (0 ≤ htL g b W ∧ htL g b W ≤ 999) ∧ ((fh g b W : Int) < W ↔ 0 < htL g b W) := by
  have h1 := fhA_le g b W.toNat 0
  have h2 := fhA_hit g b W.toNat 0
  have h3 := fhA_miss g b W.toNat 0 (fh g b W - 1)
  have h4 := hg (fh g b W)
  have h5 := hg (fh g b W - 1)
  unfold htL
  unfold fh at *
  split
  · split
    · omega
    · have h6 := h3 (by omega) (by omega)
      have h7 := h2 (by omega)
      omega
  · omega
theorem htU_rng {g : Nat → Int} (hg : Rng g) {b : Int} (hb : 1 ≤ b ∧ b ≤ 999) {W : Int} (hW : 4 ≤ W ∧ W ≤ 7) : 0 ≤ htU g b W ∧ htU g b W ≤ 7992 := by
  have h1 := fhA_le g b W.toNat 0
  have h3 := fhA_miss g b W.toNat 0 (fh g b W - 1)
  have h5 := hg (fh g b W - 1)
  have h8 := (htL_rng hg b hW).1
  unfold htU
  split
  · split
    · omega
    · have h6 : g (fh g b W - 1) < b := h3 (by unfold fh at *; omega) (by unfold fh at *; omega)
      have h9 : (fh g b W : Int) - 1 ≤ 6 := by unfold fh at *; omega
      have h10 := mul_rng (a := (fh g b W : Int) - 1) (M := 6) (b := htL g b W) (N := 999) (by omega) h8
      omega
  · omega
def brN (u0 l0 u1 l1 u2 l2 u3 l3 : Int) : Int := (3 * u1 * l0 - u0 * l1) * (l2 * l3) + (u3 * l2 - 3 * u2 * l3) * (l0 * l1)
def brD (l0 l1 l2 l3 : Int) : Int := l0 * l1 * (l2 * l3)
def brS (u0 l0 u1 l1 u2 l2 u3 l3 b : Int) : Int := if l0 = 0 ∨ l1 = 0 ∨ l2 = 0 ∨ l3 = 0 then 0 else if b * brD l0 l1 l2 l3 < 100 * ((brN u0 l0 u1 l1 u2 l2 u3 l3).natAbs : Nat) then 1 else 0
def brAt (u l : Nat → Int) (b : Int) (s : Nat) : Int := brS (u s) (l s) (u (s + 1)) (l (s + 1)) (u (s + 2)) (l (s + 2)) (u (s + 3)) (l (s + 3)) b
theorem brAt_rng (u l : Nat → Int) (b : Int) (s : Nat) : 0 ≤ brAt u l b s ∧ brAt u l b s ≤ 1 := by unfold brAt brS; split <;> (try split) <;> omega
def bkU (o : Nat → Int) (W b : Int) : Nat → Int := fun s => htU (lnf o 1 s) b W
def bkL (o : Nat → Int) (W b : Int) : Nat → Int := fun s => htL (lnf o 1 s) b W
def bkS (o : Nat → Int) (S W bnd b : Int) : Int := fsum (brAt (bkU o W b) (bkL o W b) bnd) (S - 3).toNat
theorem fsum_rng {f : Nat → Int} {M : Int} (h : ∀ i, 0 ≤ f i ∧ f i ≤ M) (n : Nat) : 0 ≤ fsum f n ∧ fsum f n ≤ n * M := by
  induction n with
  | zero => simp [fsum]
  | succ n ih =>
    have h1 := h n
    rw [fsum]
    have e : ((n + 1 : Nat) : Int) * M = (n : Int) * M + M := by rw [Int.natCast_add, Int.add_mul]; simp
    omega
theorem fsum_congr {f g : Nat → Int} (n : Nat) (h : ∀ i, i < n → f i = g i) : fsum f n = fsum g n := by
  induction n with
  | zero => rfl
  | succ n ih => rw [fsum, fsum, ih (fun i hi => h i (by omega)), h n (by omega)]
def breaksS (o : Nat → Int) (S W bnd b : Int) : Int := if 1 ≤ b ∧ b ≤ 999 then bkS o S W bnd b else -2
def heightS (o : Nat → Int) (S W s b w : Int) : Int := if ¬(0 ≤ s ∧ s < S) ∨ ¬(1 ≤ b ∧ b ≤ 999) ∨ ¬(w = 0 ∨ w = 1) ∨ ¬((fh (lnf o 1 s) b W : Int) < W) then LOST else tdS (htU (lnf o 1 s) b W) (htL (lnf o 1 s) b W) w
def wsA (c : Int → Int) : Nat → Int × Int
  | 0 => (0, -1)
  | m + 1 => if (wsA c m).2 < c (m + 1) then ((m : Int) + 1, c (m + 1)) else wsA c m
theorem wsA_step (c : Int → Int) {b : Int} (h : 1 ≤ b) : wsA c (b + 1 - 1).toNat = (if (wsA c (b - 1).toNat).2 < c b then (b, c b) else wsA c (b - 1).toNat) := by
  rw [show (b + 1 - 1).toNat = (b - 1).toNat + 1 by omega, wsA, show (((b - 1).toNat : Nat) : Int) + 1 = b by omega]
/-- four lower numbers, none 0, divide their product -/
theorem br_div {l0 l1 l2 l3 : Int} (h0 : l0 ≠ 0) (h1 : l1 ≠ 0) (h2 : l2 ≠ 0) (h3 : l3 ≠ 0) : 1 * l0 * l1 * l2 * l3 / l0 = l1 * l2 * l3 ∧ 1 * l0 * l1 * l2 * l3 / l1 = l0 * l2 * l3 ∧ 1 * l0 * l1 * l2 * l3 / l2 = l0 * l1 * l3 ∧ 1 * l0 * l1 * l2 * l3 / l3 = l0 * l1 * l2 := by
  refine ⟨?_, ?_, ?_, ?_⟩
  · rw [show 1 * l0 * l1 * l2 * l3 = l1 * l2 * l3 * l0 by grind]; exact Int.mul_ediv_cancel _ h0
  · rw [show 1 * l0 * l1 * l2 * l3 = l0 * l2 * l3 * l1 by grind]; exact Int.mul_ediv_cancel _ h1
  · rw [show 1 * l0 * l1 * l2 * l3 = l0 * l1 * l3 * l2 by grind]; exact Int.mul_ediv_cancel _ h2
  · rw [show 1 * l0 * l1 * l2 * l3 = l0 * l1 * l2 * l3 by grind]; exact Int.mul_ediv_cancel _ h3
theorem br_its (u0 l0 u1 l1 u2 l2 u3 l3 : Int) : 0 + -1 * u0 * (l1 * l2 * l3) + 3 * u1 * (l0 * l2 * l3) + -3 * u2 * (l0 * l1 * l3) + 1 * u3 * (l0 * l1 * l2) = brN u0 l0 u1 l1 u2 l2 u3 l3 := by unfold brN; grind
theorem br_all (l0 l1 l2 l3 : Int) : 1 * l0 * l1 * l2 * l3 = brD l0 l1 l2 l3 := by unfold brD; grind
theorem brD_rng {l0 l1 l2 l3 : Int} (h0 : 0 ≤ l0 ∧ l0 ≤ 999) (h1 : 0 ≤ l1 ∧ l1 ≤ 999) (h2 : 0 ≤ l2 ∧ l2 ≤ 999) (h3 : 0 ≤ l3 ∧ l3 ≤ 999) : 0 ≤ brD l0 l1 l2 l3 ∧ brD l0 l1 l2 l3 ≤ 999 * 999 * (999 * 999) := mul_rng (mul_rng h0 h1) (mul_rng h2 h3)
theorem brN_rng {u0 l0 u1 l1 u2 l2 u3 l3 : Int} (h0 : 0 ≤ l0 ∧ l0 ≤ 999) (h1 : 0 ≤ l1 ∧ l1 ≤ 999) (h2 : 0 ≤ l2 ∧ l2 ≤ 999) (h3 : 0 ≤ l3 ∧ l3 ≤ 999) (g0 : 0 ≤ u0 ∧ u0 ≤ 7992) (g1 : 0 ≤ u1 ∧ u1 ≤ 7992) (g2 : 0 ≤ u2 ∧ u2 ≤ 7992) (g3 : 0 ≤ u3 ∧ u3 ≤ 7992) : -100000000000000 ≤ brN u0 l0 u1 l1 u2 l2 u3 l3 ∧ brN u0 l0 u1 l1 u2 l2 u3 l3 ≤ 100000000000000 := by
  have a1 := mul_rng (mul_rng g1 h0) (mul_rng h2 h3)
  have a2 := mul_rng (mul_rng g0 h1) (mul_rng h2 h3)
  have a3 := mul_rng (mul_rng g3 h2) (mul_rng h0 h1)
  have a4 := mul_rng (mul_rng g2 h3) (mul_rng h0 h1)
  have e : brN u0 l0 u1 l1 u2 l2 u3 l3 = 3 * (u1 * l0 * (l2 * l3)) - u0 * l1 * (l2 * l3) + u3 * l2 * (l0 * l1) - 3 * (u2 * l3 * (l0 * l1)) := by unfold brN; grind
  rw [e]
  omega
