def rgI (f : Nat → Int) (v k : Int) : Nat → Int × Int → Int × Int
  | 0, a => a
  | m + 1, a => if (rgI f v k m a).1 < ((jm f (m + 1)).natAbs : Nat) then ((((jm f (m + 1)).natAbs : Nat) : Int), 100 * v + 10 * k + (m + 1)) else rgI f v k m a
theorem rgI_step (f : Nat → Int) (v k : Int) (a : Int × Int) {i : Int} (h : 1 ≤ i) : rgI f v k (i + 1 - 1).toNat a = (if (rgI f v k (i - 1).toNat a).1 < ((jm f i).natAbs : Nat) then ((((jm f i).natAbs : Nat) : Int), 100 * v + 10 * k + i) else rgI f v k (i - 1).toNat a) := by
  rw [show (i + 1 - 1).toNat = (i - 1).toNat + 1 by omega, rgI, show (((i - 1).toNat : Nat) : Int) + 1 = i by omega]
theorem rgI_congr {f g : Nat → Int} {n : Int} (v k : Int) (a : Int × Int) (h : ∀ i : Nat, (i : Int) < n → f i = g i) (m : Nat) (hm : (m : Int) ≤ n - 3) : rgI f v k m a = rgI g v k m a := by
  induction m with
  | zero => rfl
  | succ m ih => rw [rgI, rgI, ih (by omega), jm_congr h (by omega)]
def rgStep (o : Nat → Int) (S W v k : Int) (a : Int × Int) : Int × Int := rgI (lnf o v k) v k ((if v = 0 then S else W) - 3).toNat a
def rgA (o : Nat → Int) (S W : Int) : Int × Int := itL (rgStep o S W) 1 S.toNat (itL (rgStep o S W) 0 W.toNat (-1, 0))
def rgS (o : Nat → Int) (S W w : Int) : Int := if ¬(0 ≤ w ∧ w ≤ 3) then -2 else if w = 0 then (rgA o S W).1 else if w = 1 then (rgA o S W).2 / 100 else if w = 2 then (rgA o S W).2 / 10 % 10 else (rgA o S W).2 % 10
abbrev rgOk (a : Int × Int) : Prop := (-1 ≤ a.1 ∧ a.1 ≤ 7992) ∧ 0 ≤ a.2 ∧ a.2 ≤ 199
def ofPS (o p h : Nat → Int) (S W s l w : Int) : Int := if ¬(0 ≤ s ∧ s < S ∧ 0 ≤ l ∧ l < W) then -1 else if w = 0 then o (7 * s + l).toNat else if w = 1 then (if h (7 * s + l).toNat = 0 then 0 else 1) else if w = 2 then o (7 * s + l).toNat - p (7 * s + l).toNat else -2
def HullQM (σ : Sto) (s l : Int) (σ' : Sto) : Prop := Fr [110, 111, 20, 21, 22] σ σ' ∧ σ' 110 0 = s ∧ σ' 111 0 = l ∧ σ' 20 = lay0 63 (σ 20) (fun _ => 0) ∧ σ' 21 = lay0 63 (σ 21) (fun _ => 0) ∧ σ' 22 = lay0 63 (σ 22) (fun _ => 0)
