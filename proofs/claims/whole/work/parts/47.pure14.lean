/-! the class's search: what is placed, and what its table keeps -/
abbrev Lw (σ : Sto) (p m : Int) : Prop := σ 13 p.toNat ≤ m ∧ m ≤ σ 14 p.toNat
def PlC (σ : Sto) (f hd : Nat → Int) (bn r n : Int) : Prop := ((4 ≤ n ∧ n ≤ 9) ∧ (0 ≤ bn ∧ bn ≤ 999) ∧ (0 ≤ r ∧ r ≤ 3)) ∧ Rng f ∧ (σ 103 0 = n ∧ σ 104 0 = bn) ∧ (∀ i : Nat, (i : Int) < n → σ 12 (i + 3) = f i ∧ σ 13 (i + 3) = max (-(if hd i = 0 then r else 0)) (-(f i)) ∧ σ 14 (i + 3) = min (if hd i = 0 then r else 0) (999 - f i)) ∧ ∀ i : Nat, i < 3 → σ 13 i = 0 ∧ σ 14 i = 0
section PLC
variable {σ σ' : Sto} {f hd : Nat → Int} {bn r n : Int}
theorem PlC_fr {ks : List Nat} (h : PlC σ f hd bn r n) (hF : Fr ks σ σ') (hk : 103 ∉ ks ∧ 104 ∉ ks ∧ 12 ∉ ks ∧ 13 ∉ ks ∧ 14 ∉ ks) : PlC σ' f hd bn r n := by
  unfold PlC
  rw [hF 103 hk.1, hF 104 hk.2.1, hF 12 hk.2.2.1, hF 13 hk.2.2.2.1, hF 14 hk.2.2.2.2]
  exact h
theorem PlC_from (h : PlC σ f hd bn r n) {i : Int} (hi : 0 ≤ i ∧ i < n) : σ 12 (i + 3).toNat = f i.toNat := by
  rw [show (i + 3).toNat = i.toNat + 3 by omega]
  exact (h.2.2.2.1 i.toNat (by omega)).1
theorem PlC_rng (h : PlC σ f hd bn r n) {p : Int} (hp : 0 ≤ p ∧ p < n + 3) : (-3 ≤ σ 13 p.toNat ∧ σ 13 p.toNat ≤ 0) ∧ 0 ≤ σ 14 p.toNat ∧ σ 14 p.toNat ≤ 3 := by
  obtain ⟨⟨hn, hb, hr⟩, hf, -, h1, h2⟩ := h
  by_cases h3 : p < 3
  · have := h2 p.toNat (by omega)
    omega
  · have h4 := h1 (p - 3).toNat (by omega)
    have h5 := hf (p - 3).toNat
    rw [show (p - 3).toNat + 3 = p.toNat by omega] at h4
    omega
theorem PlC_ok (h : PlC σ f hd bn r n) {i m : Int} (hi : 0 ≤ i ∧ i < n) : Lw σ (i + 3) m ↔ okM f hd r i m := by
  obtain ⟨⟨hn, hb, hr⟩, hf, -, h1, h2⟩ := h
  have h4 := h1 i.toNat (by omega)
  have h5 := hf i.toNat
  unfold Lw okM
  rw [show (i + 3).toNat = i.toNat + 3 by omega, h4.2.1, h4.2.2]
  omega
def ju (f : Nat → Int) (i a b c : Int) : Int := if i < 3 then 0 else f i.toNat - 3 * (f (i - 1).toNat + c) + 3 * (f (i - 2).toNat + b) - (f (i - 3).toNat + a)
theorem ju_rng (hf : Rng f) {i a b c : Int} (ha : -3 ≤ a ∧ a ≤ 3) (hb : -3 ≤ b ∧ b ≤ 3) (hc : -3 ≤ c ∧ c ≤ 3) : -9000 ≤ ju f i a b c ∧ ju f i a b c ≤ 9000 := by
  have h0 := hf i.toNat
  have h1 := hf (i - 1).toNat
  have h2 := hf (i - 2).toNat
  have h3 := hf (i - 3).toNat
  unfold ju
  split <;> omega
def FFt (σ : Sto) (i j : Int) : Int := if i < 3 then σ 13 (i + 3).toNat else max (σ 13 (i + 3).toNat) (-(σ 104 0) - j)
def LFt (σ : Sto) (i j : Int) : Int := if i < 3 then σ 14 (i + 3).toNat else min (σ 14 (i + 3).toNat) (σ 104 0 - j)
theorem Ft_rng (h : PlC σ f hd bn r n) {i j : Int} (hi : 0 ≤ i ∧ i < n) (hj : -9000 ≤ j ∧ j ≤ 9000) : (-3 ≤ FFt σ i j ∧ FFt σ i j ≤ 9999) ∧ -9999 ≤ LFt σ i j ∧ LFt σ i j ≤ 3 := by
  have h1 := PlC_rng h (p := i + 3) (by omega)
  have h2 := h.1.2.1
  have h3 := h.2.2.1.2
  unfold FFt LFt
  split <;> omega
theorem cd_iff (h : PlC σ f hd bn r n) {i a b c m : Int} (hi : 0 ≤ i ∧ i < n) : cdM f hd bn r i a b c m ↔ FFt σ i (ju f i a b c) ≤ m ∧ m ≤ LFt σ i (ju f i a b c) := by
  have h1 := PlC_ok h (m := m) hi
  have h3 := h.2.2.1.2
  unfold cdM
  rw [← h1, ← h3]
  unfold FFt LFt ju jmp
  by_cases hs : i < 3
  · rw [if_pos hs, if_pos hs]
    exact ⟨fun q => q.1, fun q => ⟨q, fun q2 => by omega⟩⟩
  · rw [if_neg hs, if_neg hs, if_neg hs, show i - 3 + 3 = i by omega, show i - 3 + 2 = i - 1 by omega, show i - 3 + 1 = i - 2 by omega]
    unfold Lw
    constructor
    · rintro ⟨q1, q2⟩
      have q3 := q2 (by omega)
      omega
    · intro q
      exact ⟨by omega, fun _ => by omega⟩
def NdC (σ : Sto) (f hd : Nat → Int) (bn r n i : Int) : Prop := ∀ a b c : Int, Lw σ i a → Lw σ (i + 1) b → Lw σ (i + 2) c → σ 16 (343 * (n - i) + (49 * (a + 3) + 7 * (b + 3) + c + 3)).toNat = dcod 1000 (G f hd bn r n (n - i).toNat a b c)
theorem NdC_n (h : PlC σ f hd bn r n) (h0 : ∀ j : Nat, j < 343 → σ 16 j = 0) : NdC σ f hd bn r n n := by
  intro a b c ha hb hc
  have hn := h.1.1
  have r0 := PlC_rng h (p := n) (by omega)
  have r1 := PlC_rng h (p := n + 1) (by omega)
  have r2 := PlC_rng h (p := n + 2) (by omega)
  rw [h0 _ (by unfold Lw at ha hb hc; omega), show (n - n).toNat = 0 by omega]
  rfl
theorem NdC_of {i : Int} (h : PlC σ f hd bn r n) (hN : NdC σ f hd bn r n i) (hF : Fr [16] σ σ') (hi : 0 ≤ i ∧ i ≤ n) (ho : ∀ j : Nat, 343 * (n - i) ≤ (j : Int) → (j : Int) < 343 * (n - i) + 343 → σ' 16 j = σ 16 j) : NdC σ' f hd bn r n i := by
  intro a b c ha hb hc
  unfold Lw at ha hb hc
  rw [hF 13 (by decide), hF 14 (by decide)] at ha hb hc
  have hn := h.1.1
  have r0 := PlC_rng h (p := i) (by omega)
  have r1 := PlC_rng h (p := i + 1) (by omega)
  have r2 := PlC_rng h (p := i + 2) (by omega)
  rw [ho _ (by omega) (by omega)]
  exact hN a b c ha hb hc
/-- what is kept so far, of one level -/
def KfQ (σ : Sto) (f hd : Nat → Int) (bn r n i a b c : Int) (σ1 : Sto) : Prop := Fr [16] σ σ1 ∧ (∀ j : Nat, ¬(343 * (n - i) ≤ (j : Int) ∧ (j : Int) < 343 * (n - i) + 343) → σ1 16 j = σ 16 j) ∧ ∀ a' b' c' : Int, Lw σ i a' → Lw σ (i + 1) b' → Lw σ (i + 2) c' → (a' < a ∨ (a' = a ∧ (b' < b ∨ (b' = b ∧ c' < c)))) → σ1 16 (343 * (n - i) + (49 * (a' + 3) + 7 * (b' + 3) + c' + 3)).toNat = dcod 1000 (G f hd bn r n (n - i).toNat a' b' c')
/-- the moves of a line that is fair already are none -/
theorem jmp0 (f : Nat → Int) {i : Int} (hi : 3 ≤ i) (a b c d : Int) : jmp f (i - 3) a b c d = jm f (i - 2) + d - 3 * c + 3 * b - a := by
  unfold jmp jm bd
  rw [show i - 3 + 3 = i by omega, show i - 3 + 2 = i - 1 by omega, show i - 3 + 1 = i - 2 by omega, show i - 2 + 1 - 1 = i - 2 by omega, show i - 2 + 1 + 1 = i by omega, show i - 2 + 1 = i - 1 by omega, show i - 2 - 1 = i - 3 by omega]
  omega
theorem fj_all (f : Nat → Int) (m : Nat) : ∀ j : Int, 1 ≤ j → j ≤ m → (((jm f j).natAbs : Nat) : Int) ≤ fj f m := by
  induction m with
  | zero => intro j h1 h2; omega
  | succ m ih =>
    intro j h1 h2
    rw [fj]
    by_cases e : j = (m : Int) + 1
    · rw [e]; omega
    · have := ih j h1 (by omega)
      omega
theorem fj_ex (f : Nat → Int) {b : Int} (hb : 0 ≤ b) (m : Nat) : b < fj f m → ∃ j : Int, (1 ≤ j ∧ j ≤ m) ∧ b < (((jm f j).natAbs : Nat) : Int) := by
  induction m with
  | zero => intro h; simp only [fj] at h; omega
  | succ m ih =>
    intro h
    rw [fj] at h
    by_cases e : b < fj f m
    · obtain ⟨j, h1, h2⟩ := ih e
      exact ⟨j, ⟨h1.1, by omega⟩, h2⟩
    · exact ⟨(m : Int) + 1, ⟨by omega, by omega⟩, by omega⟩
theorem cd0 (hf : Rng f) (hr : 0 ≤ r ∧ r ≤ 3) (hq : fj f (n - 3).toNat ≤ bn) {i : Int} (hi : 0 ≤ i ∧ i < n) : cdM f hd bn r i 0 0 0 0 := by
  have h0 := hf i.toNat
  refine ⟨⟨⟨by omega, by omega⟩, Or.inl rfl, by omega, by omega⟩, fun h3 => ?_⟩
  rw [jmp0 f h3]
  have := fj_all f (n - 3).toNat (i - 2) (by omega) (by omega)
  omega
theorem G0 (hf : Rng f) (hr : 0 ≤ r ∧ r ≤ 3) (hq : fj f (n - 3).toNat ≤ bn) (q : Nat) : (q : Int) ≤ n → G f hd bn r n q 0 0 0 = some 0 := by
  induction q with
  | zero => intro _; rfl
  | succ q ih =>
    intro hn
    exact G_is (m := 0) (t' := 0) hr (cd0 hf hr hq (by omega)) (ih (by omega)) (fun m2 t2 h1 h2 => by have := G_rng hr _ _ _ _ _ h2; omega)
theorem nx0 (hf : Rng f) (hr : 0 ≤ r ∧ r ≤ 3) (hq : fj f (n - 3).toNat ≤ bn) {i : Int} (hi : 0 ≤ i ∧ i < n) : nx f hd bn r n i 0 0 0 = 0 := by
  refine nx_eq hr (cd0 hf hr hq hi) ?_ ?_
  · rw [G0 hf hr hq _ (by omega), G0 hf hr hq _ (by omega)]
    rfl
  · intro m' h1 h2 h3
    rw [G0 hf hr hq _ (by omega)] at h3
    cases hg : G f hd bn r n (n - 1 - i).toNat 0 0 m' with
    | none => rw [hg] at h3; simp [oadd] at h3
    | some t =>
      have := G_rng hr _ _ _ _ _ hg
      rw [hg] at h3
      simp only [oadd, Option.some.injEq] at h3
      omega
theorem Lsq0 (hf : Rng f) (hr : 0 ≤ r ∧ r ≤ 3) (hq : fj f (n - 3).toNat ≤ bn) (i : Nat) : (i : Int) ≤ n → Lsq f hd bn r n i = (0, 0, 0) := by
  induction i with
  | zero => intro _; rfl
  | succ i ih =>
    intro hi
    rw [Lsq, ih (by omega)]
    dsimp only
    rw [nx0 hf hr hq (by omega)]
theorem Lmv0 (hf : Rng f) (hr : 0 ≤ r ∧ r ≤ 3) (hq : fj f (n - 3).toNat ≤ bn) {i : Nat} (hi : (i : Int) < n) : Lmv f hd bn r n i = 0 := by
  unfold Lmv
  rw [Lsq0 hf hr hq (i + 1) (by omega)]
/-- a jump that is too far off can't be made fair -/
theorem Ltt_far (hr : 0 ≤ r ∧ r ≤ 3) (hb : 0 ≤ bn) (hq : bn + 8 * r < fj f (n - 3).toNat) : Ltt f hd bn r n = none := by
  cases ht : Ltt f hd bn r n with
  | none => rfl
  | some t =>
    exfalso
    obtain ⟨j, h1, h2⟩ := fj_ex f (b := bn + 8 * r) (by omega) _ hq
    obtain ⟨s, hs⟩ := chain hr ht ((j - 1).toNat + 3) (by omega)
    have h3 := (nx_spec hr (by omega) hs).1
    have o0 := Lmv_ok hr ht (i := (j - 1).toNat) (by omega)
    have o1 := Lmv_ok hr ht (i := (j - 1).toNat + 1) (by omega)
    have o2 := Lmv_ok hr ht (i := (j - 1).toNat + 2) (by omega)
    rw [Lsq3] at h3
    dsimp only at h3
    have h4 := h3.2 (by omega)
    have o3 := h3.1.1
    rw [show (((j - 1).toNat + 3 : Nat) : Int) = j + 2 by omega] at h4 o3
    rw [jmp0 f (by omega), show j + 2 - 2 = j by omega] at h4
    have p0 := o0.1
    have p1 := o1.1
    have p2 := o2.1
    clear o0 o1 o2 h3
    omega
/-- the moves, three that never move ahead of them -/
def Mv (f hd : Nat → Int) (bn r n : Int) (j : Nat) : Int := if j < 3 then 0 else Lmv f hd bn r n (j - 3)
theorem Lsq_mv (i : Nat) : Lsq f hd bn r n i = (Mv f hd bn r n i, Mv f hd bn r n (i + 1), Mv f hd bn r n (i + 2)) := by
  induction i with
  | zero => rfl
  | succ i ih =>
    have e : Mv f hd bn r n (i + 1 + 2) = Lmv f hd bn r n i := by
      unfold Mv
      rw [if_neg (by omega), show i + 1 + 2 - 3 = i by omega]
    rw [e]
    have e1 : (Lsq f hd bn r n (i + 1)).1 = (Lsq f hd bn r n i).2.1 := rfl
    have e2 : (Lsq f hd bn r n (i + 1)).2.1 = (Lsq f hd bn r n i).2.2 := rfl
    rw [ih] at e1 e2
    exact Prod.ext e1 (Prod.ext e2 rfl)
theorem Mv_lw (h : PlC σ f hd bn r n) {t : Int} (ht : Ltt f hd bn r n = some t) {j : Int} (hj : 0 ≤ j ∧ j < n + 3) : Lw σ j (Mv f hd bn r n j.toNat) := by
  have hr := h.1.2.2
  unfold Mv
  by_cases h3 : j < 3
  · rw [if_pos (by omega)]
    have := h.2.2.2.2 j.toNat (by omega)
    unfold Lw
    omega
  · rw [if_neg (by omega)]
    have h4 := Lmv_ok hr ht (i := j.toNat - 3) (by omega)
    have h5 := (PlC_ok h (i := j - 3) (m := Lmv f hd bn r n (j.toNat - 3)) (by omega)).mpr (by rw [show j - 3 = ((j.toNat - 3 : Nat) : Int) by omega]; exact h4)
    rwa [show j - 3 + 3 = j by omega] at h5
end PLC
