/-! LEAST: the fewest that moves from a point on can be together, by the three moves ahead -/
abbrev okM (f hd : Nat → Int) (r i m : Int) : Prop := (-r ≤ m ∧ m ≤ r) ∧ (m = 0 ∨ hd i.toNat = 0) ∧ 0 ≤ f i.toNat + m ∧ f i.toNat + m ≤ 999
def jmp (f : Nat → Int) (p a b c d : Int) : Int := f (p + 3).toNat + d - 3 * (f (p + 2).toNat + c) + 3 * (f (p + 1).toNat + b) - f p.toNat - a
abbrev cdM (f hd : Nat → Int) (bn r i a b c m : Int) : Prop := okM f hd r i m ∧ (3 ≤ i → ((jmp f (i - 3) a b c m).natAbs : Int) ≤ bn)
def omin : Option Int → Option Int → Option Int
  | none, y => y
  | some x, none => some x
  | some x, some y => some (if y < x then y else x)
def oadd (k : Int) : Option Int → Option Int
  | none => none
  | some x => some (k + x)
def dcod (N : Int) : Option Int → Int
  | none => N
  | some t => t
def gl (F : Int → Option Int) (P : Int → Bool) : Nat → Option Int
  | 0 => none
  | j + 1 => if P ((j : Int) - 3) = true then omin (gl F P j) (oadd ((((j : Int) - 3).natAbs : Nat) : Int) (F ((j : Int) - 3))) else gl F P j
def G (f hd : Nat → Int) (bn r n : Int) : Nat → Int → Int → Int → Option Int
  | 0, _, _, _ => some 0
  | q + 1, a, b, c => gl (fun m => G f hd bn r n q b c m) (fun m => decide (cdM f hd bn r (n - (q + 1)) a b c m)) 7
theorem gl_step (F : Int → Option Int) (P : Int → Bool) {d : Int} (h : -3 ≤ d) : gl F P (d + 1 + 3).toNat = (if P d = true then omin (gl F P (d + 3).toNat) (oadd ((d.natAbs : Nat) : Int) (F d)) else gl F P (d + 3).toNat) := by
  rw [show (d + 1 + 3).toNat = (d + 3).toNat + 1 by omega, gl, show (((d + 3).toNat : Nat) : Int) - 3 = d by omega]
theorem gl_none (F : Int → Option Int) (P : Int → Bool) (j : Nat) (h : ∀ m : Int, -3 ≤ m → m < (j : Int) - 3 → P m = false) : gl F P j = none := by
  induction j with
  | zero => rfl
  | succ j ih =>
    rw [gl, h _ (by omega) (by omega)]
    exact ih (fun m h1 h2 => h m h1 (by omega))
theorem gl_ext (F : Int → Option Int) (P : Int → Bool) (j : Nat) : ∀ (k : Nat), (∀ m : Int, (j : Int) - 3 ≤ m → m < (j + k : Nat) - 3 → P m = false) → gl F P (j + k) = gl F P j
  | 0, _ => rfl
  | k + 1, h => by
    rw [show j + (k + 1) = (j + k) + 1 by omega, gl, h _ (by omega) (by omega)]
    exact gl_ext F P j k (fun m h1 h2 => h m h1 (by omega))
theorem gl_some (F : Int → Option Int) (P : Int → Bool) (j : Nat) (t : Int) (h : gl F P j = some t) : (∃ m t' : Int, (-3 ≤ m ∧ m < (j : Int) - 3) ∧ P m = true ∧ F m = some t' ∧ t = ((m.natAbs : Nat) : Int) + t') ∧ ∀ m t' : Int, -3 ≤ m → m < (j : Int) - 3 → P m = true → F m = some t' → t ≤ ((m.natAbs : Nat) : Int) + t' := by
  induction j generalizing t with
  | zero => simp [gl] at h
  | succ j ih =>
    rw [gl] at h
    by_cases hp : P ((j : Int) - 3) = true
    · rw [if_pos hp] at h
      cases hg : gl F P j with
      | none =>
        cases hF : F ((j : Int) - 3) with
        | none => rw [hg, hF] at h; simp [oadd, omin] at h
        | some y =>
          rw [hg, hF] at h
          simp only [oadd, omin, Option.some.injEq] at h
          refine ⟨⟨(j : Int) - 3, y, ⟨by omega, by omega⟩, hp, hF, h.symm⟩, ?_⟩
          intro m t' h1 h2 h3 h4
          by_cases e : m = (j : Int) - 3
          · subst e; rw [hF] at h4; cases h4; omega
          · exfalso
            have : ∀ (j : Nat), gl F P j = none → ∀ m t' : Int, -3 ≤ m → m < (j : Int) - 3 → P m = true → F m = some t' → False := by
              intro j
              induction j with
              | zero => intro _ m t' h1 h2; omega
              | succ j ih2 =>
                intro hh m t' h1 h2 h3 h4
                rw [gl] at hh
                by_cases hp2 : P ((j : Int) - 3) = true
                · rw [if_pos hp2] at hh
                  cases hg2 : gl F P j with
                  | some z => rw [hg2] at hh; cases hF2 : F ((j : Int) - 3) <;> rw [hF2] at hh <;> simp [oadd, omin] at hh
                  | none =>
                    rw [hg2] at hh
                    by_cases e2 : m = (j : Int) - 3
                    · subst e2; rw [h4] at hh; simp [oadd, omin] at hh
                    · exact ih2 hg2 m t' h1 (by omega) h3 h4
                · rw [if_neg hp2] at hh
                  by_cases e2 : m = (j : Int) - 3
                  · subst e2; exact hp2 h3
                  · exact ih2 hh m t' h1 (by omega) h3 h4
            exact this j hg m t' h1 (by omega) h3 h4
      | some x =>
        obtain ⟨⟨m0, t0, hr0, hp0, hf0, he0⟩, hall⟩ := ih x hg
        cases hF : F ((j : Int) - 3) with
        | none =>
          rw [hg, hF] at h
          simp only [oadd, omin, Option.some.injEq] at h
          subst h
          refine ⟨⟨m0, t0, ⟨by omega, by omega⟩, hp0, hf0, he0⟩, ?_⟩
          intro m t' h1 h2 h3 h4
          by_cases e : m = (j : Int) - 3
          · subst e; rw [hF] at h4; cases h4
          · exact hall m t' h1 (by omega) h3 h4
        | some y =>
          rw [hg, hF] at h
          simp only [oadd, omin, Option.some.injEq] at h
          by_cases hlt : (((((j : Int) - 3).natAbs : Nat) : Int) + y) < x
          · rw [if_pos hlt] at h
            refine ⟨⟨(j : Int) - 3, y, ⟨by omega, by omega⟩, hp, hF, h.symm⟩, ?_⟩
            intro m t' h1 h2 h3 h4
            by_cases e : m = (j : Int) - 3
            · subst e; rw [hF] at h4; cases h4; omega
            · have := hall m t' h1 (by omega) h3 h4
              omega
          · rw [if_neg hlt] at h
            subst h
            refine ⟨⟨m0, t0, ⟨by omega, by omega⟩, hp0, hf0, he0⟩, ?_⟩
            intro m t' h1 h2 h3 h4
            by_cases e : m = (j : Int) - 3
            · subst e; rw [hF] at h4; cases h4; omega
            · exact hall m t' h1 (by omega) h3 h4
    · rw [if_neg hp] at h
      obtain ⟨⟨m0, t0, hr0, hp0, hf0, he0⟩, hall⟩ := ih t h
      refine ⟨⟨m0, t0, ⟨by omega, by omega⟩, hp0, hf0, he0⟩, ?_⟩
      intro m t' h1 h2 h3 h4
      by_cases e : m = (j : Int) - 3
      · subst e; exact absurd h3 hp
      · exact hall m t' h1 (by omega) h3 h4
theorem gl_some' (F : Int → Option Int) (P : Int → Bool) (j : Nat) {m t' : Int} (h1 : -3 ≤ m) (h2 : m < (j : Int) - 3) (h3 : P m = true) (h4 : F m = some t') : ∃ t, gl F P j = some t := by
  induction j with
  | zero => omega
  | succ j ih =>
    rw [gl]
    by_cases e : m = (j : Int) - 3
    · subst e
      rw [if_pos h3, h4]
      cases gl F P j with
      | none => exact ⟨_, rfl⟩
      | some x => exact ⟨_, rfl⟩
    · obtain ⟨t, ht⟩ := ih (by omega)
      rw [ht]
      split
      · cases F ((j : Int) - 3) with
        | none => exact ⟨_, rfl⟩
        | some x => exact ⟨_, rfl⟩
      · exact ⟨_, rfl⟩
section LST
variable {f hd : Nat → Int} {bn r n : Int}
theorem cdM_rng {i a b c m : Int} (hr : 0 ≤ r ∧ r ≤ 3) (h : cdM f hd bn r i a b c m) : -3 ≤ m ∧ m ≤ 3 := by
  have := h.1.1
  omega
theorem G_some (hr : 0 ≤ r ∧ r ≤ 3) {q : Nat} {a b c t : Int} (h : G f hd bn r n (q + 1) a b c = some t) : (∃ m t' : Int, cdM f hd bn r (n - (q + 1)) a b c m ∧ G f hd bn r n q b c m = some t' ∧ t = ((m.natAbs : Nat) : Int) + t') ∧ ∀ m t' : Int, cdM f hd bn r (n - (q + 1)) a b c m → G f hd bn r n q b c m = some t' → t ≤ ((m.natAbs : Nat) : Int) + t' := by
  rw [G] at h
  obtain ⟨⟨m, t', h1, h2, h3, h4⟩, h5⟩ := gl_some _ _ _ _ h
  exact ⟨⟨m, t', of_decide_eq_true h2, h3, h4⟩, fun m t' g1 g2 => h5 m t' (cdM_rng hr g1).1 (by have := (cdM_rng hr g1).2; omega) (decide_eq_true g1) g2⟩
theorem G_mk (hr : 0 ≤ r ∧ r ≤ 3) {q : Nat} {a b c m t' : Int} (h : cdM f hd bn r (n - (q + 1)) a b c m) (h2 : G f hd bn r n q b c m = some t') : ∃ t, G f hd bn r n (q + 1) a b c = some t := by
  rw [G]
  exact gl_some' _ _ _ (cdM_rng hr h).1 (by have := (cdM_rng hr h).2; omega) (decide_eq_true h) h2
/-- the least of them, if it is told -/
theorem G_is (hr : 0 ≤ r ∧ r ≤ 3) {q : Nat} {a b c m t' : Int} (h : cdM f hd bn r (n - (q + 1)) a b c m) (h2 : G f hd bn r n q b c m = some t') (h3 : ∀ m2 t2 : Int, cdM f hd bn r (n - (q + 1)) a b c m2 → G f hd bn r n q b c m2 = some t2 → ((m.natAbs : Nat) : Int) + t' ≤ ((m2.natAbs : Nat) : Int) + t2) : G f hd bn r n (q + 1) a b c = some (((m.natAbs : Nat) : Int) + t') := by
  obtain ⟨t, ht⟩ := G_mk hr h h2
  obtain ⟨⟨m2, t2, g1, g2, g3⟩, g4⟩ := G_some hr ht
  have e1 := h3 m2 t2 g1 g2
  have e2 := g4 m t' h h2
  rw [ht]
  congr 1
  omega
theorem G_rng (hr : 0 ≤ r ∧ r ≤ 3) (q : Nat) : ∀ (a b c t : Int), G f hd bn r n q a b c = some t → 0 ≤ t ∧ t ≤ 3 * q := by
  induction q with
  | zero => intro a b c t h; rw [G] at h; cases h; simp
  | succ q ih =>
    intro a b c t h
    obtain ⟨⟨m, t', g1, g2, g3⟩, -⟩ := G_some hr h
    have h1 := ih _ _ _ _ g2
    have h2 := cdM_rng hr g1
    omega
theorem dc_min {N x y k : Int} {X Y : Option Int} (hx : x = dcod N X) (hy : y = k + dcod N Y) (hk : 0 ≤ k) (bX : ∀ t, X = some t → t < N) (bY : ∀ t, Y = some t → k + t < N) : (if y < x then y else x) = dcod N (omin X (oadd k Y)) := by
  cases X with
  | none =>
    cases Y with
    | none => simp only [dcod, oadd, omin] at *; omega
    | some t => have := bY t rfl; simp only [dcod, oadd, omin] at *; omega
  | some s =>
    have h1 := bX s rfl
    cases Y with
    | none => simp only [dcod, oadd, omin] at *; omega
    | some t => simp only [dcod, oadd, omin] at *; omega
/-- the first number that will do -/
def fmA (Q : Int → Bool) : Nat → Int → Int
  | 0, _ => 0
  | k + 1, j => if Q j = true then j else fmA Q k (j + 1)
def fm (Q : Int → Bool) : Int := fmA Q 7 (-3)
theorem fmA_eq (Q : Int → Bool) : ∀ (k : Nat) (j m : Int), j ≤ m → m < j + k → Q m = true → (∀ m', j ≤ m' → m' < m → Q m' = false) → fmA Q k j = m
  | 0, j, m, h1, h2, _, _ => by omega
  | k + 1, j, m, h1, h2, h3, h4 => by
    rw [fmA]
    by_cases e : j = m
    · subst e; rw [if_pos h3]
    · have := h4 j (by omega) (by omega)
      rw [if_neg (by rw [this]; decide)]
      exact fmA_eq Q k (j + 1) m (by omega) (by omega) h3 (fun m' g1 g2 => h4 m' (by omega) g2)
theorem fm_eq {Q : Int → Bool} {m : Int} (h : -3 ≤ m ∧ m ≤ 3) (h3 : Q m = true) (h4 : ∀ m', -3 ≤ m' → m' < m → Q m' = false) : fm Q = m := fmA_eq Q 7 (-3) m h.1 (by omega) h3 h4
/-- which number is taken at a point, behind three -/
def nxQ (f hd : Nat → Int) (bn r n i : Int) (a b c m : Int) : Bool := decide (cdM f hd bn r i a b c m) && decide (oadd ((m.natAbs : Nat) : Int) (G f hd bn r n (n - 1 - i).toNat b c m) = G f hd bn r n (n - i).toNat a b c)
def nx (f hd : Nat → Int) (bn r n i : Int) (a b c : Int) : Int := fm (nxQ f hd bn r n i a b c)
def Lsq (f hd : Nat → Int) (bn r n : Int) : Nat → Int × Int × Int
  | 0 => (0, 0, 0)
  | i + 1 => ((Lsq f hd bn r n i).2.1, (Lsq f hd bn r n i).2.2, nx f hd bn r n i (Lsq f hd bn r n i).1 (Lsq f hd bn r n i).2.1 (Lsq f hd bn r n i).2.2)
def Lmv (f hd : Nat → Int) (bn r n : Int) (i : Nat) : Int := (Lsq f hd bn r n (i + 1)).2.2
def Ltt (f hd : Nat → Int) (bn r n : Int) : Option Int := G f hd bn r n n.toNat 0 0 0
theorem nxQ_iff {i a b c m : Int} : nxQ f hd bn r n i a b c m = true ↔ cdM f hd bn r i a b c m ∧ oadd ((m.natAbs : Nat) : Int) (G f hd bn r n (n - 1 - i).toNat b c m) = G f hd bn r n (n - i).toNat a b c := by
  unfold nxQ
  simp only [Bool.and_eq_true, decide_eq_true_eq]
theorem nx_eq (hr : 0 ≤ r ∧ r ≤ 3) {i a b c m : Int} (h : cdM f hd bn r i a b c m) (h2 : oadd ((m.natAbs : Nat) : Int) (G f hd bn r n (n - 1 - i).toNat b c m) = G f hd bn r n (n - i).toNat a b c) (h3 : ∀ m', m' < m → cdM f hd bn r i a b c m' → oadd ((m'.natAbs : Nat) : Int) (G f hd bn r n (n - 1 - i).toNat b c m') ≠ G f hd bn r n (n - i).toNat a b c) : nx f hd bn r n i a b c = m := by
  refine fm_eq (cdM_rng hr h) (nxQ_iff.mpr ⟨h, h2⟩) (fun m' g1 g2 => ?_)
  cases hq : nxQ f hd bn r n i a b c m' with
  | false => rfl
  | true =>
    obtain ⟨q1, q2⟩ := nxQ_iff.mp hq
    exact absurd q2 (h3 m' g2 q1)
end LST
