/-! what both sides answer, in one set of words -/
def lnf (o : Nat → Int) (v k : Int) : Nat → Int := fun i => o (pt v k i).toNat
def scM : List Nat := [116, 117, 118, 119, 23, 24, 25, 26, 27, 28, 29, 30, 31]
def SmM (σ σ' : Sto) : Prop := Fr scM σ σ' ∧ Rng (σ' 24)
theorem SmM_rf {σ : Sto} (h : Rng (σ 24)) : SmM σ σ := ⟨Fr_rf, h⟩
theorem SmM_tr {σ σ1 σ2 : Sto} (h : SmM σ σ1) (h2 : SmM σ1 σ2) : SmM σ σ2 := ⟨Fr_tr h.1 h2.1 (fun _ q => q), h2.2⟩
theorem IM_at {σ : Sto} (h : IM σ) : Rng (σ 24) := h.2.2.2.2.2.2.2.2.2
theorem IM_sm {σ σ' : Sto} (h : IM σ) (h2 : SmM σ σ') : IM σ' := by
  obtain ⟨hS, hW, hB, hRe, hLo, hHi, hO, hPu, hHe, hAt⟩ := h
  have e := h2.1
  unfold IM
  rw [e 110 (by decide), e 111 (by decide), e 112 (by decide), e 113 (by decide), e 114 (by decide), e 115 (by decide), e 20 (by decide), e 21 (by decide), e 22 (by decide)]
  exact ⟨hS, hW, hB, hRe, hLo, hHi, hO, hPu, hHe, h2.2⟩
theorem lnf_rng {o : Nat → Int} (h : Rng o) (v k : Int) : Rng (lnf o v k) := fun i => h _
def rc (f : Nat → Int) (b : Int) : Nat → Int
  | 0 => 0
  | m + 1 => rc f b m + (if b < ((jm f (m + 1)).natAbs : Nat) then 1 else 0)
theorem rc_step (f : Nat → Int) (b : Int) {i : Int} (h : 1 ≤ i) : rc f b (i + 1 - 1).toNat = rc f b (i - 1).toNat + (if b < ((jm f i).natAbs : Nat) then 1 else 0) := by
  rw [show (i + 1 - 1).toNat = (i - 1).toNat + 1 by omega, rc, show (((i - 1).toNat : Nat) : Int) + 1 = i by omega]
theorem rc_rng (f : Nat → Int) (b : Int) (m : Nat) : 0 ≤ rc f b m ∧ rc f b m ≤ m := by
  induction m with
  | zero => simp [rc]
  | succ m ih => rw [rc]; split <;> omega
theorem rc_congr {f g : Nat → Int} {n : Int} (b : Int) (h : ∀ i : Nat, (i : Int) < n → f i = g i) (m : Nat) (hm : (m : Int) ≤ n - 3) : rc f b m = rc g b m := by
  induction m with
  | zero => rfl
  | succ m ih => rw [rc, rc, ih (by omega), jm_congr h (by omega)]
def itL {A : Type} (step : Int → Int → A → A) (v : Int) : Nat → A → A
  | 0, a => a
  | k + 1, a => step v k (itL step v k a)
theorem itL_step {A : Type} (step : Int → Int → A → A) (v : Int) (a : A) {k : Int} (h : 0 ≤ k) : itL step v (k + 1).toNat a = step v k (itL step v k.toNat a) := by
  rw [show (k + 1).toNat = k.toNat + 1 by omega, itL, show ((k.toNat : Nat) : Int) = k by omega]
def barS (S W v k i last : Int) : Int := if ¬(v = 0 ∨ v = 1) then -2 else if ¬(0 ≤ k ∧ k < (if v = 0 then W else S)) then -1 else if 1 ≤ i ∧ i ≤ (if v = 0 then S else W) - last then 0 else -2
def bendS (o : Nat → Int) (S W v k i : Int) : Int := if barS S W v k i 2 < 0 then barS S W v k i 2 else bd (lnf o v k) i
def jumpS (o : Nat → Int) (S W v k i : Int) : Int := if barS S W v k i 3 < 0 then barS S W v k i 3 else jm (lnf o v k) i
def refS (S W v k : Int) : Int := if ¬(v = 0 ∨ v = 1) then -2 else if ¬(0 ≤ k ∧ k < (if v = 0 then W else S)) then -1 else 0
def roughS (o : Nat → Int) (S W b v k : Int) : Int := if refS S W v k < 0 then refS S W v k else rc (lnf o v k) b ((if v = 0 then S else W) - 3).toNat
def mrStep (o : Nat → Int) (S W b v k acc : Int) : Int := acc + (if 0 < rc (lnf o v k) b ((if v = 0 then S else W) - 3).toNat then 1 else 0)
def mrS (o : Nat → Int) (S W b : Int) : Int := itL (mrStep o S W b) 1 S.toNat (itL (mrStep o S W b) 0 W.toNat 0)
theorem mr_rng (o : Nat → Int) (S W b v a : Int) (k : Nat) : a ≤ itL (mrStep o S W b) v k a ∧ itL (mrStep o S W b) v k a ≤ a + k := by
  induction k with
  | zero => simp [itL]
  | succ k ih => rw [itL, mrStep]; split <;> omega
/-- how many of the first n places satisfy p -/
def cnt (p : Nat → Bool) : Nat → Int
  | 0 => 0
  | n + 1 => cnt p n + (if p n then 1 else 0)
theorem cnt_step (p : Nat → Bool) {i : Int} (h : 0 ≤ i) : cnt p (i + 1).toNat = cnt p i.toNat + (if p i.toNat then 1 else 0) := by
  rw [show (i + 1).toNat = i.toNat + 1 by omega, cnt]
theorem cnt_rng (p : Nat → Bool) (n : Nat) : 0 ≤ cnt p n ∧ cnt p n ≤ n := by
  induction n with
  | zero => simp [cnt]
  | succ n ih => rw [cnt]; split <;> omega
def fsum (f : Nat → Int) : Nat → Int
  | 0 => 0
  | n + 1 => fsum f n + f n
theorem fsum_step (f : Nat → Int) {i : Int} (h : 0 ≤ i) : fsum f (i + 1).toNat = fsum f i.toNat + f i.toNat := by
  rw [show (i + 1).toNat = i.toNat + 1 by omega, fsum]
def heldS (h : Nat → Int) : Int := cnt (fun i => decide (h i ≠ 0)) 63
def backS (o p : Nat → Int) : Int := cnt (fun i => decide (o i ≠ p i)) 63
def farS (o p : Nat → Int) : Int := fsum (fun i => (((o i - p i).natAbs : Nat) : Int)) 63
def lay0 (n : Nat) (f g : Nat → Int) : Nat → Int := fun i => if i < n then g i else f i
def manyS (o p h : Nat → Int) (S W b what : Int) : Int := if what = 0 then S else if what = 1 then W else if what = 2 then heldS h else if what = 3 then mrS o S W b else if what = 4 then farS o p else -2
