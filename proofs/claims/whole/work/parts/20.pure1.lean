/-! PURE WORDS: bends, jumps, frames -/
def bd (f : Nat → Int) (i : Int) : Int := f (i - 1).toNat + f (i + 1).toNat - 2 * f i.toNat
def jm (f : Nat → Int) (i : Int) : Int := bd f (i + 1) - bd f i
def Rng (f : Nat → Int) : Prop := ∀ i, 0 ≤ f i ∧ f i ≤ 999
theorem bd_rng {f : Nat → Int} (h : Rng f) (i : Int) : -1998 ≤ bd f i ∧ bd f i ≤ 1998 := by
  have h1 := h (i - 1).toNat
  have h2 := h (i + 1).toNat
  have h3 := h i.toNat
  unfold bd
  omega
theorem jm_rng {f : Nat → Int} (h : Rng f) (i : Int) : -7992 ≤ jm f i ∧ jm f i ≤ 7992 := by
  have h1 := bd_rng h i
  have h2 := bd_rng h (i + 1)
  unfold jm
  omega
def pt (v k i : Int) : Int := if v = 0 then 7 * i + k else 7 * k + i
def Fr (ks : List Nat) (σ σ' : Sto) : Prop := ∀ k, k ∉ ks → σ' k = σ k
theorem Fr_rf {ks : List Nat} {σ : Sto} : Fr ks σ σ := fun _ _ => rfl
theorem Fr_up {ks : List Nat} {σ σ1 : Sto} {k i : Nat} {v : Int} (h : Fr ks σ σ1) (hk : k ∈ ks) : Fr ks σ (up σ1 k i v) := fun k' h' => by
  have e : k' ≠ k := fun e => h' (by rw [e]; exact hk)
  rw [up_ne σ1 i v e]
  exact h k' h'
theorem Fr_tr {ks js : List Nat} {σ σ1 σ2 : Sto} (h : Fr ks σ σ1) (h2 : Fr js σ1 σ2) (hs : ∀ k ∈ js, k ∈ ks) : Fr ks σ σ2 := fun k hk => by
  rw [h2 k (fun q => hk (hs k q))]
  exact h k hk
theorem Fr_sub {ks js : List Nat} {σ σ1 : Sto} (h : Fr js σ σ1) (hs : ∀ k ∈ js, k ∈ ks) : Fr ks σ σ1 := fun k hk => h k (fun q => hk (hs k q))
theorem up_at (σ : Sto) (k i j : Nat) (v : Int) : up σ k i v k j = if j = i then v else σ k j := by simp [up]
theorem Rng_up {σ : Sto} {k i : Nat} {v : Int} (h : Rng (σ k)) (hv : 0 ≤ v ∧ v ≤ 999) : Rng (up σ k i v k) := fun j => by
  rw [up_at]
  have := h j
  split <;> assumption
theorem jm_congr {f g : Nat → Int} {n : Int} (h : ∀ i : Nat, (i : Int) < n → f i = g i) {i : Int} (hi : 1 ≤ i ∧ i ≤ n - 3) : jm f i = jm g i := by
  unfold jm bd
  rw [h (i + 1 - 1).toNat (by omega), h (i + 1 + 1).toNat (by omega), h (i + 1).toNat (by omega), h (i - 1).toNat (by omega), h i.toNat (by omega)]
theorem bd_congr {f g : Nat → Int} {n : Int} (h : ∀ i : Nat, (i : Int) < n → f i = g i) {i : Int} (hi : 1 ≤ i ∧ i ≤ n - 2) : bd f i = bd g i := by
  unfold bd
  rw [h (i + 1).toNat (by omega), h (i - 1).toNat (by omega), h i.toNat (by omega)]
/-- the reference's own state is as it should be -/
def IM (σ : Sto) : Prop := (5 ≤ σ 110 0 ∧ σ 110 0 ≤ 9) ∧ (4 ≤ σ 111 0 ∧ σ 111 0 ≤ 7) ∧ (0 ≤ σ 112 0 ∧ σ 112 0 ≤ 999) ∧ (0 ≤ σ 113 0 ∧ σ 113 0 ≤ 3) ∧ (1 ≤ σ 114 0 ∧ σ 114 0 ≤ 99) ∧ (1 ≤ σ 115 0 ∧ σ 115 0 ≤ 99) ∧ Rng (σ 20) ∧ Rng (σ 21) ∧ (∀ i, σ 22 i = 0 ∨ σ 22 i = 1) ∧ Rng (σ 24)
section VSW
variable {K : Ctx} {E : ME} {Mi : MI} {d pc : Nat} {L : List (Option Value)} {st : List Value} {σ : Sto}
theorem V_eqL {L' : List (Option Value)} (h : L = L') (k : V K E Mi pc L' st σ) : V K E Mi pc L st σ := h ▸ k
theorem V_sw3 (hE : Ok K E Mi d) {a dflt hi : Int} {offs : Array Int} {len : Nat} (t0 t1 t2 td : Nat) (hd : decode Mi.2.1 pc = .ok (.tableswitch dflt 0 hi offs, len)) (hr : InI a) (hh : hi = 2) (ht : offs.toList.map (fun o => (pc : Int) + o) = [(t0 : Int), t1, t2]) (htd : (pc : Int) + dflt = (td : Int))
    (kd : a < 0 ∨ 2 < a → V K E Mi td L st σ) (k0 : a = 0 → V K E Mi t0 L st σ) (k1 : a = 1 → V K E Mi t1 L st σ) (k2 : a = 2 → V K E Mi t2 L st σ) : V K E Mi pc L (.int (i32 a) :: st) σ := by
  subst hh
  have key : ∀ (j : Nat) (t : Nat), ([(t0 : Int), t1, t2])[j]? = some (t : Int) → ∃ off, offs[j]? = some off ∧ (pc : Int) + off = (t : Int) := by
    intro j t h
    rw [← ht, List.getElem?_map, Array.getElem?_toList] at h
    cases ho : offs[j]? with
    | none => rw [ho] at h; simp at h
    | some o => rw [ho] at h; exact ⟨o, rfl, by simpa using h⟩
  rcases (show (a < 0 ∨ 2 < a) ∨ a = 0 ∨ a = 1 ∨ a = 2 by omega) with h | h | h | h
  · exact V_tableOut hE td hd hr h htd (kd h)
  · obtain ⟨o, h1, h2⟩ := key 0 t0 rfl
    exact V_tableIn hE t0 hd hr (by omega) (by omega) (by rw [show (a - 0).toNat = 0 by omega]; exact h1) h2 (k0 h)
  · obtain ⟨o, h1, h2⟩ := key 1 t1 rfl
    exact V_tableIn hE t1 hd hr (by omega) (by omega) (by rw [show (a - 0).toNat = 1 by omega]; exact h1) h2 (k1 h)
  · obtain ⟨o, h1, h2⟩ := key 2 t2 rfl
    exact V_tableIn hE t2 hd hr (by omega) (by omega) (by rw [show (a - 0).toNat = 2 by omega]; exact h1) h2 (k2 h)
theorem V_sw4 (hE : Ok K E Mi d) {a dflt hi : Int} {offs : Array Int} {len : Nat} (t0 t1 t2 t3 td : Nat) (hd : decode Mi.2.1 pc = .ok (.tableswitch dflt 0 hi offs, len)) (hr : InI a) (hh : hi = 3) (ht : offs.toList.map (fun o => (pc : Int) + o) = [(t0 : Int), t1, t2, t3]) (htd : (pc : Int) + dflt = (td : Int))
    (kd : a < 0 ∨ 3 < a → V K E Mi td L st σ) (k0 : a = 0 → V K E Mi t0 L st σ) (k1 : a = 1 → V K E Mi t1 L st σ) (k2 : a = 2 → V K E Mi t2 L st σ) (k3 : a = 3 → V K E Mi t3 L st σ) : V K E Mi pc L (.int (i32 a) :: st) σ := by
  subst hh
  have key : ∀ (j : Nat) (t : Nat), ([(t0 : Int), t1, t2, t3])[j]? = some (t : Int) → ∃ off, offs[j]? = some off ∧ (pc : Int) + off = (t : Int) := by
    intro j t h
    rw [← ht, List.getElem?_map, Array.getElem?_toList] at h
    cases ho : offs[j]? with
    | none => rw [ho] at h; simp at h
    | some o => rw [ho] at h; exact ⟨o, rfl, by simpa using h⟩
  rcases (show (a < 0 ∨ 3 < a) ∨ a = 0 ∨ a = 1 ∨ a = 2 ∨ a = 3 by omega) with h | h | h | h | h
  · exact V_tableOut hE td hd hr h htd (kd h)
  · obtain ⟨o, h1, h2⟩ := key 0 t0 rfl
    exact V_tableIn hE t0 hd hr (by omega) (by omega) (by rw [show (a - 0).toNat = 0 by omega]; exact h1) h2 (k0 h)
  · obtain ⟨o, h1, h2⟩ := key 1 t1 rfl
    exact V_tableIn hE t1 hd hr (by omega) (by omega) (by rw [show (a - 0).toNat = 1 by omega]; exact h1) h2 (k1 h)
  · obtain ⟨o, h1, h2⟩ := key 2 t2 rfl
    exact V_tableIn hE t2 hd hr (by omega) (by omega) (by rw [show (a - 0).toNat = 2 by omega]; exact h1) h2 (k2 h)
  · obtain ⟨o, h1, h2⟩ := key 3 t3 rfl
    exact V_tableIn hE t3 hd hr (by omega) (by omega) (by rw [show (a - 0).toNat = 3 by omega]; exact h1) h2 (k3 h)
theorem V_sw5 (hE : Ok K E Mi d) {a dflt hi : Int} {offs : Array Int} {len : Nat} (t0 t1 t2 t3 t4 td : Nat) (hd : decode Mi.2.1 pc = .ok (.tableswitch dflt 0 hi offs, len)) (hr : InI a) (hh : hi = 4) (ht : offs.toList.map (fun o => (pc : Int) + o) = [(t0 : Int), t1, t2, t3, t4]) (htd : (pc : Int) + dflt = (td : Int))
    (kd : a < 0 ∨ 4 < a → V K E Mi td L st σ) (k0 : a = 0 → V K E Mi t0 L st σ) (k1 : a = 1 → V K E Mi t1 L st σ) (k2 : a = 2 → V K E Mi t2 L st σ) (k3 : a = 3 → V K E Mi t3 L st σ) (k4 : a = 4 → V K E Mi t4 L st σ) : V K E Mi pc L (.int (i32 a) :: st) σ := by
  subst hh
  have key : ∀ (j : Nat) (t : Nat), ([(t0 : Int), t1, t2, t3, t4])[j]? = some (t : Int) → ∃ off, offs[j]? = some off ∧ (pc : Int) + off = (t : Int) := by
    intro j t h
    rw [← ht, List.getElem?_map, Array.getElem?_toList] at h
    cases ho : offs[j]? with
    | none => rw [ho] at h; simp at h
    | some o => rw [ho] at h; exact ⟨o, rfl, by simpa using h⟩
  rcases (show (a < 0 ∨ 4 < a) ∨ a = 0 ∨ a = 1 ∨ a = 2 ∨ a = 3 ∨ a = 4 by omega) with h | h | h | h | h | h
  · exact V_tableOut hE td hd hr h htd (kd h)
  · obtain ⟨o, h1, h2⟩ := key 0 t0 rfl
    exact V_tableIn hE t0 hd hr (by omega) (by omega) (by rw [show (a - 0).toNat = 0 by omega]; exact h1) h2 (k0 h)
  · obtain ⟨o, h1, h2⟩ := key 1 t1 rfl
    exact V_tableIn hE t1 hd hr (by omega) (by omega) (by rw [show (a - 0).toNat = 1 by omega]; exact h1) h2 (k1 h)
  · obtain ⟨o, h1, h2⟩ := key 2 t2 rfl
    exact V_tableIn hE t2 hd hr (by omega) (by omega) (by rw [show (a - 0).toNat = 2 by omega]; exact h1) h2 (k2 h)
  · obtain ⟨o, h1, h2⟩ := key 3 t3 rfl
    exact V_tableIn hE t3 hd hr (by omega) (by omega) (by rw [show (a - 0).toNat = 3 by omega]; exact h1) h2 (k3 h)
  · obtain ⟨o, h1, h2⟩ := key 4 t4 rfl
    exact V_tableIn hE t4 hd hr (by omega) (by omega) (by rw [show (a - 0).toNat = 4 by omega]; exact h1) h2 (k4 h)
end VSW
