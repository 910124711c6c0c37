theorem fmA_spec (Q : Int → Bool) : ∀ (k : Nat) (j : Int), (∃ m, j ≤ m ∧ m < j + k ∧ Q m = true) → Q (fmA Q k j) = true
  | 0, j, ⟨m, h1, h2, _⟩ => by omega
  | k + 1, j, ⟨m, h1, h2, h3⟩ => by
    rw [fmA]
    by_cases e : Q j = true
    · rw [if_pos e]; exact e
    · rw [if_neg e]
      refine fmA_spec Q k (j + 1) ⟨m, ?_, by omega, h3⟩
      rcases Int.lt_or_eq_of_le h1 with h | h
      · omega
      · subst h; exact absurd h3 e
theorem ite_ne0 {P : Prop} [Decidable P] (h : ¬ (if P then (1 : Int) else 0) = 0) : P := by
  by_cases hp : P
  · exact hp
  · rw [if_neg hp] at h; exact absurd rfl h
theorem ite_eq0 {P : Prop} [Decidable P] (h : (if P then (1 : Int) else 0) = 0) : ¬ P := by
  intro hp
  rw [if_pos hp] at h
  exact absurd h (by decide)
section CHN
variable {f hd : Nat → Int} {bn r n : Int}
theorem nx_spec (hr : 0 ≤ r ∧ r ≤ 3) {i a b c t : Int} (hi : 0 ≤ i ∧ i < n) (h : G f hd bn r n (n - i).toNat a b c = some t) : cdM f hd bn r i a b c (nx f hd bn r n i a b c) ∧ oadd (((nx f hd bn r n i a b c).natAbs : Nat) : Int) (G f hd bn r n (n - 1 - i).toNat b c (nx f hd bn r n i a b c)) = G f hd bn r n (n - i).toNat a b c := by
  have key : ∃ m : Int, -3 ≤ m ∧ m < -3 + ((7 : Nat) : Int) ∧ nxQ f hd bn r n i a b c m = true := by
    obtain ⟨q, hq⟩ : ∃ q : Nat, (n - i).toNat = q + 1 := ⟨(n - i).toNat - 1, by omega⟩
    rw [hq] at h
    obtain ⟨⟨m, t', g1, g2, g3⟩, -⟩ := G_some hr h
    rw [show n - ((q : Int) + 1) = i by omega] at g1
    have := cdM_rng hr g1
    refine ⟨m, by omega, by omega, nxQ_iff.mpr ⟨g1, ?_⟩⟩
    rw [hq, show (n - 1 - i).toNat = q by omega, h, g2, g3]
    rfl
  exact nxQ_iff.mp (fmA_spec _ 7 (-3) key)
theorem chain (hr : 0 ≤ r ∧ r ≤ 3) {t : Int} (h : Ltt f hd bn r n = some t) (i : Nat) : (i : Int) ≤ n → ∃ s, G f hd bn r n (n - i).toNat (Lsq f hd bn r n i).1 (Lsq f hd bn r n i).2.1 (Lsq f hd bn r n i).2.2 = some s := by
  induction i with
  | zero => intro _; exact ⟨t, by rw [show (n - ((0 : Nat) : Int)).toNat = n.toNat by omega]; exact h⟩
  | succ i ih =>
    intro hi
    obtain ⟨s, hs⟩ := ih (by omega)
    have h2 := (nx_spec hr (by omega) hs).2
    rw [hs] at h2
    have e : G f hd bn r n (n - ((i + 1 : Nat) : Int)).toNat (Lsq f hd bn r n (i + 1)).1 (Lsq f hd bn r n (i + 1)).2.1 (Lsq f hd bn r n (i + 1)).2.2 = G f hd bn r n (n - 1 - i).toNat (Lsq f hd bn r n i).2.1 (Lsq f hd bn r n i).2.2 (nx f hd bn r n i (Lsq f hd bn r n i).1 (Lsq f hd bn r n i).2.1 (Lsq f hd bn r n i).2.2) := by
      rw [show (n - ((i + 1 : Nat) : Int)).toNat = (n - 1 - i).toNat by omega]
      rfl
    rw [e]
    cases hg : G f hd bn r n (n - 1 - i).toNat (Lsq f hd bn r n i).2.1 (Lsq f hd bn r n i).2.2 (nx f hd bn r n i (Lsq f hd bn r n i).1 (Lsq f hd bn r n i).2.1 (Lsq f hd bn r n i).2.2) with
    | none => rw [hg] at h2; simp [oadd] at h2
    | some s2 => exact ⟨s2, rfl⟩
theorem Lmv_ok (hr : 0 ≤ r ∧ r ≤ 3) {t : Int} (h : Ltt f hd bn r n = some t) {i : Nat} (hi : (i : Int) < n) : okM f hd r i (Lmv f hd bn r n i) := by
  obtain ⟨s, hs⟩ := chain hr h i (by omega)
  exact (nx_spec hr (by omega) hs).1.1
theorem Lsq3 (i : Nat) : Lsq f hd bn r n (i + 3) = (Lmv f hd bn r n i, Lmv f hd bn r n (i + 1), Lmv f hd bn r n (i + 2)) := rfl
theorem Lmv3 (i : Nat) : Lmv f hd bn r n (i + 3) = nx f hd bn r n ((i + 3 : Nat) : Int) (Lmv f hd bn r n i) (Lmv f hd bn r n (i + 1)) (Lmv f hd bn r n (i + 2)) := rfl
end CHN
/-- moves are added to a line -/
def addN (o : Nat → Int) (v k : Int) (mv : Nat → Int) : Nat → Nat → Int
  | 0 => o
  | m + 1 => fun c => if c = (pt v k m).toNat then addN o v k mv m c + mv m else addN o v k mv m c
def fairO (h : Nat → Int) (S W bn r v k : Int) (o : Nat → Int) : Nat → Int := match Ltt (lnf o v k) (lnf h v k) bn r (if v = 0 then S else W) with
  | none => o
  | some _ => addN o v k (Lmv (lnf o v k) (lnf h v k) bn r (if v = 0 then S else W)) (if v = 0 then S else W).toNat
theorem addN_step (o : Nat → Int) (v k : Int) (mv : Nat → Int) {i : Int} (h : 0 ≤ i) (c : Nat) : addN o v k mv (i + 1).toNat c = if c = (pt v k i).toNat then addN o v k mv i.toNat c + mv i.toNat else addN o v k mv i.toNat c := by
  rw [show (i + 1).toNat = i.toNat + 1 by omega, addN, show ((i.toNat : Nat) : Int) = i by omega]
theorem pt_inj {v k i j : Int} (hk : 0 ≤ k ∧ k ≤ 8) (hi : 0 ≤ i) (hj : 0 ≤ j) (hv : v = 0 ∨ v = 1) (h : (pt v k i).toNat = (pt v k j).toNat) : i = j := by
  unfold pt at h
  split at h <;> omega
theorem addN_late (o : Nat → Int) {v k : Int} (mv : Nat → Int) (hk : 0 ≤ k ∧ k ≤ 8) (hv : v = 0 ∨ v = 1) : ∀ (m : Nat) (i : Nat), m ≤ i → addN o v k mv m (pt v k i).toNat = o (pt v k i).toNat
  | 0, i, _ => rfl
  | m + 1, i, h => by
    show (if (pt v k i).toNat = (pt v k m).toNat then _ else _) = _
    rw [if_neg (fun e => by have := pt_inj hk (by omega) (by omega) hv e; omega)]
    exact addN_late o mv hk hv m i (by omega)
theorem addN_rng {o : Nat → Int} {v k : Int} {mv : Nat → Int} (hk : 0 ≤ k ∧ k ≤ 8) (hv : v = 0 ∨ v = 1) (ho : Rng o) (m : Nat) : (∀ i : Nat, i < m → 0 ≤ lnf o v k i + mv i ∧ lnf o v k i + mv i ≤ 999) → Rng (addN o v k mv m) := by
  induction m with
  | zero => intro _; exact ho
  | succ m ih =>
    intro hm c
    have h1 := ih (fun i hi => hm i (by omega)) c
    show 0 ≤ (if c = (pt v k m).toNat then _ else _) ∧ (if c = (pt v k m).toNat then _ else _) ≤ 999
    by_cases e : c = (pt v k m).toNat
    · rw [if_pos e, e, addN_late o mv hk hv m m (Nat.le_refl m)]
      exact hm m (by omega)
    · rw [if_neg e]
      exact h1
theorem fairO_rng {o h : Nat → Int} {S W bn r v k : Int} (hS : 5 ≤ S ∧ S ≤ 9) (hW : 4 ≤ W ∧ W ≤ 7) (hr : 0 ≤ r ∧ r ≤ 3) (hk : 0 ≤ k ∧ k ≤ 8) (hv : v = 0 ∨ v = 1) (ho : Rng o) : Rng (fairO h S W bn r v k o) := by
  unfold fairO
  cases hL : Ltt (lnf o v k) (lnf h v k) bn r (if v = 0 then S else W) with
  | none => exact ho
  | some t =>
    refine addN_rng hk hv ho _ (fun i hi => ?_)
    have h1 := Lmv_ok hr hL (i := i) (by omega)
    rw [okM, show ((i : Int)).toNat = i by omega] at h1
    omega
def leastS (o h : Nat → Int) (S W bn r v k i : Int) : Int := if ¬(v = 0 ∨ v = 1) then -2 else if ¬(0 ≤ k ∧ k < (if v = 0 then W else S)) then -1 else if ¬(-1 ≤ i ∧ i ≤ (if v = 0 then S else W) - 1) then -2 else
  match Ltt (lnf o v k) (lnf h v k) bn r (if v = 0 then S else W) with
  | none => -9
  | some t => if i < 0 then t else Lmv (lnf o v k) (lnf h v k) bn r (if v = 0 then S else W) i.toNat
def fairS (o h : Nat → Int) (S W bn r v k : Int) : Int := if ¬(v = 0 ∨ v = 1) then -2 else if ¬(0 ≤ k ∧ k < (if v = 0 then W else S)) then -1 else dcod (-3) (Ltt (lnf o v k) (lnf h v k) bn r (if v = 0 then S else W))
def roundO (h : Nat → Int) (S W bn r : Int) (o : Nat → Int) : Nat → Int := itL (fairO h S W bn r) 1 S.toNat (itL (fairO h S W bn r) 0 W.toNat o)
def difB (o o' : Nat → Int) : Nat → Bool
  | 0 => false
  | m + 1 => difB o o' m || decide (o m ≠ o' m)
theorem difB_step (o o' : Nat → Int) {i : Int} (h : 0 ≤ i) : difB o o' (i + 1).toNat = (difB o o' i.toNat || decide (o i.toNat ≠ o' i.toNat)) := by
  rw [show (i + 1).toNat = i.toNat + 1 by omega, difB]
def rrS (h : Nat → Int) (S W bn r : Int) : Nat → (Nat → Int) → Int × (Nat → Int)
  | 0, o => (0, roundO h S W bn r o)
  | k + 1, o => if difB o (roundO h S W bn r o) 63 = true then ((rrS h S W bn r k (roundO h S W bn r o)).1 + 1, (rrS h S W bn r k (roundO h S W bn r o)).2) else (0, roundO h S W bn r o)
theorem itL_rng {h : Nat → Int} {S W bn r v : Int} (hS : 5 ≤ S ∧ S ≤ 9) (hW : 4 ≤ W ∧ W ≤ 7) (hr : 0 ≤ r ∧ r ≤ 3) (hv : v = 0 ∨ v = 1) {o : Nat → Int} (ho : Rng o) (k : Nat) : (k : Int) ≤ 9 → Rng (itL (fairO h S W bn r) v k o) := by
  induction k with
  | zero => intro _; exact ho
  | succ k ih => intro hk; exact fairO_rng hS hW hr (by omega) hv (ih (by omega))
theorem roundO_rng {h : Nat → Int} {S W bn r : Int} (hS : 5 ≤ S ∧ S ≤ 9) (hW : 4 ≤ W ∧ W ≤ 7) (hr : 0 ≤ r ∧ r ≤ 3) {o : Nat → Int} (ho : Rng o) : Rng (roundO h S W bn r o) := itL_rng hS hW hr (Or.inr rfl) (itL_rng hS hW hr (Or.inl rfl) ho _ (by omega)) _ (by omega)
