/-! THE PURE STORE: cell number → place → number. Cells 0 .. 31 are the world's (objects and arrays), numbers from 100 on are the objects' own numbers (place 0). -/
abbrev Sto : Type := Nat → Nat → Int
def up (σ : Sto) (k i : Nat) (v : Int) : Sto := fun k' i' => if k' = k then (if i' = i then v else σ k' i') else σ k' i'
abbrev Ctx : Type := va_G × (Nat → Nat) × ClassId × ClassId × ClassId × Nat × Nat
abbrev kA (K : Ctx) : Nat → Nat := K.2.1
abbrev kI (K : Ctx) : ClassId := K.2.2.1
abbrev kJ (K : Ctx) : ClassId := K.2.2.2.1
abbrev kZ (K : Ctx) : ClassId := K.2.2.2.2.1
abbrev kLow (K : Ctx) : Nat := K.2.2.2.2.2.1
abbrev kTop (K : Ctx) : Nat := K.2.2.2.2.2.2
abbrev tysK (K : Ctx) : List (ClassId × FieldType) := [(kI K, .int), (kJ K, .long), (kZ K, .boolean)]
/-- kind (0 ints, 1 longs, 2 booleans, 3 an object), length or class, an object's fields: (0, cell) a reference, (1, n) an int, (2, n) a long -/
def sh : Nat → Nat × Nat × List (Nat × Nat)
  | 0 => (3, 4, [(0, 1), (0, 2), (0, 3), (0, 4), (0, 5), (0, 6), (0, 7)])
  | 1 => (3, 0, [(0, 8), (0, 9), (0, 10), (1, 100), (1, 101)])
  | 2 => (3, 3, [(0, 11), (1, 102)])
  | 3 => (3, 2, [(0, 12), (0, 13), (0, 14), (0, 15), (0, 16), (1, 103), (1, 104)])
  | 4 => (3, 1, [(0, 17), (0, 18)])
  | 5 => (0, 4, [])
  | 6 => (0, 63, [])
  | 7 => (0, 9, [])
  | 8 => (0, 63, [])
  | 9 => (0, 63, [])
  | 10 => (2, 63, [])
  | 11 => (0, 9, [])
  | 12 => (0, 12, [])
  | 13 => (0, 12, [])
  | 14 => (0, 12, [])
  | 15 => (0, 12, [])
  | 16 => (0, 3430, [])
  | 17 => (1, 9, [])
  | 18 => (1, 9, [])
  | 19 => (3, 5, [(1, 110), (1, 111), (1, 112), (1, 113), (1, 114), (1, 115), (0, 20), (0, 21), (0, 22), (1, 116), (0, 23), (0, 24), (0, 25), (0, 26), (1, 117), (0, 27), (0, 28), (0, 29), (2, 118), (2, 119), (0, 30), (0, 31)])
  | 20 => (0, 63, [])
  | 21 => (0, 63, [])
  | 22 => (2, 63, [])
  | 23 => (0, 9, [])
  | 24 => (0, 9, [])
  | 25 => (0, 2744, [])
  | 26 => (0, 9, [])
  | 27 => (0, 63, [])
  | 28 => (1, 9, [])
  | 29 => (1, 9, [])
  | 30 => (1, 9, [])
  | 31 => (1, 9, [])
  | _ => (0, 0, [])
def fv (K : Ctx) (σ : Sto) : Nat × Nat → Value
  | (0, j) => .ref (kA K j)
  | (1, d) => .int (i32 (σ d 0))
  | (_, d) => .long (i64 (σ d 0))
def entOf (K : Ctx) (σ : Sto) (k : Nat) : Nat × Nat × List (Nat × Nat) → va_E
  | (0, n, _) => .inl (kI K, n, .inl (fun i => i32 (σ k i)))
  | (1, n, _) => .inl (kJ K, n, .inr (.inl (fun i => i64 (σ k i))))
  | (2, n, _) => .inl (kZ K, n, .inl (fun i => i32 (σ k i)))
  | (_, ci, fs) => .inr (ci, fs.map (fv K σ))
def ent (K : Ctx) (σ : Sto) (k : Nat) : va_E := entOf K σ k (sh k)
def wld (K : Ctx) (σ : Sto) : va_W := (List.range 32).map (fun k => (kA K k, ent K σ k))
def Own (K : Ctx) (q : Nat) : Prop := ∃ k : Nat, k < 32 ∧ q = kA K k
theorem wld_get (K : Ctx) (σ : Sto) {k : Nat} (h : k < 32) : (wld K σ)[k]? = some (kA K k, ent K σ k) := by
  simp [wld, List.getElem?_map, List.getElem?_range h]
theorem wld_some {K : Ctx} {σ : Sto} {k : Nat} {q : Nat × va_E} (h : (wld K σ)[k]? = some q) : k < 32 ∧ q = (kA K k, ent K σ k) := by
  have hk : k < 32 := by
    have := (List.getElem?_eq_some_iff.mp h).1
    simpa [wld] using this
  rw [wld_get K σ hk] at h
  exact ⟨hk, (Option.some.inj h).symm⟩
def Inj (K : Ctx) : Prop := ∀ i j : Nat, i < 32 → j < 32 → kA K i = kA K j → i = j
theorem wld_D {K : Ctx} {A : Nat → Prop} (hi : Inj K) (hA : ∀ q, Own K q → A q) (σ : Sto) : va_D A (wld K σ) := by
  refine ⟨fun i j p q h1 h2 he => ?_, fun k q h => ?_⟩
  · obtain ⟨l1, rfl⟩ := wld_some h1
    obtain ⟨l2, rfl⟩ := wld_some h2
    exact hi i j l1 l2 he
  · obtain ⟨l1, rfl⟩ := wld_some h
    exact hA _ ⟨k, l1, rfl⟩
theorem wld_set {K : Ctx} {σ σ' : Sto} {q0 : Nat} {e : va_E} (hq : q0 < 32) (h : ∀ k, k < 32 → k ≠ q0 → ent K σ' k = ent K σ k) (h0 : ent K σ' q0 = e) : (wld K σ).set q0 (kA K q0, e) = wld K σ' := by
  apply List.ext_getElem?
  intro k
  by_cases hk : k < 32
  · by_cases hkq : k = q0
    · subst hkq
      rw [List.getElem?_set_self (by simp [wld]; exact hk), wld_get K σ' hk, h0]
    · rw [List.getElem?_set_ne (Ne.symm hkq), wld_get K σ hk, wld_get K σ' hk, h k hk hkq]
  · rw [List.getElem?_eq_none (by simp [wld]; omega), List.getElem?_eq_none (by simp [wld]; omega)]
theorem up_self (σ : Sto) (k i : Nat) (v : Int) : up σ k i v k i = v := by simp [up]
theorem up_ne (σ : Sto) {k k' : Nat} (i : Nat) (v : Int) (h : k' ≠ k) : up σ k i v k' = σ k' := by funext j; simp [up, h]
theorem sh_ids : ∀ k, k < 32 → ∀ f ∈ (sh k).2.2, f.1 = 0 ∨ 100 ≤ f.2 := by decide +kernel
theorem fv_ne {K : Ctx} {σ : Sto} {f : Nat × Nat} {q i : Nat} {v : Int} (h : f.1 = 0 ∨ f.2 ≠ q) : fv K (up σ q i v) f = fv K σ f := by
  obtain ⟨a, d⟩ := f
  match a, h with
  | 0, _ => rfl
  | 1, h => 
    have h : d ≠ q := by simpa using h
    simp [fv, up, h]
  | a + 2, h =>
    have h : d ≠ q := by simpa using h
    simp [fv, up, h]
theorem entOf_ne {K : Ctx} {σ : Sto} {q i k : Nat} {v : Int} (S : Nat × Nat × List (Nat × Nat)) (hk : k ≠ q) (hf : ∀ f ∈ S.2.2, f.1 = 0 ∨ f.2 ≠ q) : entOf K (up σ q i v) k S = entOf K σ k S := by
  obtain ⟨a, n, fs⟩ := S
  match a with
  | 0 => simp only [entOf]; rw [up_ne σ i v hk]
  | 1 => simp only [entOf]; rw [up_ne σ i v hk]
  | 2 => simp only [entOf]; rw [up_ne σ i v hk]
  | a + 3 =>
    simp only [entOf]
    congr 2
    exact List.map_congr_left (fun f h => fv_ne (hf f h))
theorem ent_arr_ne {K : Ctx} {σ : Sto} {q i : Nat} {v : Int} (hq : q < 100) : ∀ k, k < 32 → k ≠ q → ent K (up σ q i v) k = ent K σ k := fun k hk hne =>
  entOf_ne _ hne (fun f h => (sh_ids k hk f h).imp id (fun h2 => by omega))
theorem ent_fld_ne {K : Ctx} {σ : Sto} {q d : Nat} {v : Int} (hd : 100 ≤ d) (hc : ∀ k, k < 32 → k ≠ q → ∀ f ∈ (sh k).2.2, f.1 = 0 ∨ f.2 ≠ d) : ∀ k, k < 32 → k ≠ q → ent K (up σ d 0 v) k = ent K σ k := fun k hk hne =>
  entOf_ne _ (by omega) (hc k hk hne)
/-! numbers -/
abbrev InI (a : Int) : Prop := -2147483648 ≤ a ∧ a ≤ 2147483647
abbrev InL (a : Int) : Prop := -9223372036854775808 ≤ a ∧ a ≤ 9223372036854775807
theorem i32_min : Int32.minValue.toInt = -2147483648 := by decide
theorem i32_max : Int32.maxValue.toInt = 2147483647 := by decide
theorem i64_min : Int64.minValue.toInt = -9223372036854775808 := by decide
theorem i64_max : Int64.maxValue.toInt = 9223372036854775807 := by decide
theorem i32_lt {a b : Int} (ha : InI a) (hb : InI b) : i32 a < i32 b ↔ a < b := Int32.ofInt_lt_iff_lt (by rw [i32_min]; exact ha.1) (by rw [i32_max]; exact ha.2) (by rw [i32_min]; exact hb.1) (by rw [i32_max]; exact hb.2)
theorem i32_le {a b : Int} (ha : InI a) (hb : InI b) : i32 a ≤ i32 b ↔ a ≤ b := Int32.ofInt_le_iff_le (by rw [i32_min]; exact ha.1) (by rw [i32_max]; exact ha.2) (by rw [i32_min]; exact hb.1) (by rw [i32_max]; exact hb.2)
theorem i32_toInt {a : Int} (ha : InI a) : (i32 a).toInt = a := Int32.toInt_ofInt_of_le (by have := ha.1; omega) (by have := ha.2; omega)
theorem i32_eq {a b : Int} (ha : InI a) (hb : InI b) : i32 a = i32 b ↔ a = b := ⟨fun h => by rw [← i32_toInt ha, ← i32_toInt hb, h], fun h => by rw [h]⟩
theorem i32_0 : i32 0 = 0 := rfl
theorem i64_lt {a b : Int} (ha : InL a) (hb : InL b) : i64 a < i64 b ↔ a < b := Int64.ofInt_lt_iff_lt (by rw [i64_min]; exact ha.1) (by rw [i64_max]; exact ha.2) (by rw [i64_min]; exact hb.1) (by rw [i64_max]; exact hb.2)
theorem i64_le {a b : Int} (ha : InL a) (hb : InL b) : i64 a ≤ i64 b ↔ a ≤ b := Int64.ofInt_le_iff_le (by rw [i64_min]; exact ha.1) (by rw [i64_max]; exact ha.2) (by rw [i64_min]; exact hb.1) (by rw [i64_max]; exact hb.2)
theorem i64_toInt {a : Int} (ha : InL a) : (i64 a).toInt = a := Int64.toInt_ofInt_of_le (by have := ha.1; omega) (by have := ha.2; omega)
theorem i64_eq {a b : Int} (ha : InL a) (hb : InL b) : i64 a = i64 b ↔ a = b := ⟨fun h => by rw [← i64_toInt ha, ← i64_toInt hb, h], fun h => by rw [h]⟩
theorem i32_l {a : Int} (ha : InI a) : (i32 a).toInt64 = i64 a := Int32.toInt64_ofInt (by rw [i32_min]; exact ha.1) (by rw [i32_max]; exact ha.2)
theorem i32_div {a b : Int} (ha : 0 ≤ a ∧ a ≤ 2147483647) (hb : 0 < b ∧ b ≤ 2147483647) : i32 a / i32 b = i32 (a / b) := by
  rw [← Int.tdiv_eq_ediv_of_nonneg ha.1]
  exact (Int32.ofInt_tdiv (by rw [i32_min]; omega) (by rw [i32_max]; exact ha.2) (by rw [i32_min]; omega) (by rw [i32_max]; exact hb.2)).symm
theorem i64_div {a b : Int} (ha : 0 ≤ a ∧ a ≤ 9223372036854775807) (hb : 0 < b ∧ b ≤ 9223372036854775807) : i64 a / i64 b = i64 (a / b) := by
  rw [← Int.tdiv_eq_ediv_of_nonneg ha.1]
  exact (Int64.ofInt_tdiv (by rw [i64_min]; omega) (by rw [i64_max]; exact ha.2) (by rw [i64_min]; omega) (by rw [i64_max]; exact hb.2)).symm
theorem i32_rem {a b : Int} (ha : 0 ≤ a ∧ a ≤ 2147483647) (hb : 0 < b ∧ b ≤ 2147483647) : i32 a - i32 a / i32 b * i32 b = i32 (a % b) := by
  rw [i32_div ha hb, ← Int32.ofInt_mul, ← Int32.ofInt_sub, Int.emod_def, Int.mul_comm]
theorem i64_rem {a b : Int} (ha : 0 ≤ a ∧ a ≤ 9223372036854775807) (hb : 0 < b ∧ b ≤ 9223372036854775807) : i64 a - i64 a / i64 b * i64 b = i64 (a % b) := by
  rw [i64_div ha hb, ← Int64.ofInt_mul, ← Int64.ofInt_sub, Int.emod_def, Int.mul_comm]
theorem i32_in {a : Int} {n : Nat} (h : 0 ≤ a ∧ a < n) (hn : n < 2147483648) : vp_in (i32 a) n := by
  rw [vp_in_iff, i32_toInt ⟨by omega, by omega⟩]
  exact h
theorem i32_cl {a : Int} (h : InI a) : (i32 a).toNatClampNeg = a.toNat := Int32.toNatClampNeg_ofInt_of_le (by have := h.1; omega) (by have := h.2; omega)
theorem i32_ofToInt (x : Int32) : x = i32 x.toInt := (Int32.ofInt_toInt x).symm
theorem i32_rng (x : Int32) : InI x.toInt := ⟨by have := x.le_toInt; omega, by have := x.toInt_lt; omega⟩
/-! LOCALS by their places -/
def al : Nat → List (Option Value) → List (Nat × Value)
  | _, [] => []
  | i, some v :: t => (i, v) :: al (i + 1) t
  | i, none :: t => al (i + 1) t
def lk : List (Option Value) → Nat → Option Value
  | [], _ => none
  | x :: _, 0 => x
  | _ :: t, n + 1 => lk t n
def kl : Option Value → Option Value
  | some (.long _) => none
  | some (.double _) => none
  | x => x
def stI : List (Option Value) → Nat → Value → List (Option Value)
  | [], _, _ => []
  | _ :: t, 0, v => some v :: t
  | x :: t, 1, v => kl x :: stI t 0 v
  | x :: t, n + 2, v => x :: stI t (n + 1) v
def no1 : List (Option Value) → List (Option Value)
  | [] => []
  | _ :: t => none :: t
def stL : List (Option Value) → Nat → Value → List (Option Value)
  | [], _, _ => []
  | _ :: t, 0, v => some v :: no1 t
  | x :: t, 1, v => kl x :: stL t 0 v
  | x :: t, n + 2, v => x :: stL t (n + 1) v
theorem al_lk : ∀ (L : List (Option Value)) (i j : Nat) (v : Value), lk L i = some v → (j + i, v) ∈ al j L
  | [], i, j, v, h => by simp [lk] at h
  | some w :: t, 0, j, v, h => by simp [lk] at h; simp [al, h]
  | none :: t, 0, j, v, h => by simp [lk] at h
  | some w :: t, i + 1, j, v, h => by
    have := al_lk t i (j + 1) v (by simpa [lk] using h)
    rw [al]
    exact List.mem_cons_of_mem _ (by rwa [show j + (i + 1) = j + 1 + i by omega])
  | none :: t, i + 1, j, v, h => by
    have := al_lk t i (j + 1) v (by simpa [lk] using h)
    rw [al]
    rwa [show j + (i + 1) = j + 1 + i by omega]
theorem al_ge : ∀ (L : List (Option Value)) (j : Nat) (q : Nat × Value), q ∈ al j L → j ≤ q.1
  | [], j, q, h => by simp [al] at h
  | some w :: t, j, q, h => by
    rcases List.mem_cons.mp (by simpa [al] using h) with h | h
    · simp [h]
    · have := al_ge t (j + 1) q h; omega
  | none :: t, j, q, h => by
    have := al_ge t (j + 1) q (by simpa [al] using h); omega
theorem kl_cases (x : Option Value) (v : Value) (h : kl x = some v) : x = some v ∧ v.category ≠ 2 := by
  cases x with
  | none => simp [kl] at h
  | some w => cases w <;> simp [kl] at h <;> subst h <;> simp [Value.category]
theorem al_st : ∀ (L : List (Option Value)) (i j : Nat) (v : Value) (q : Nat × Value), q ∈ al j (stI L i v) → q = (j + i, v) ∨ (q ∈ al j L ∧ q.1 ≠ j + i ∧ ¬ (q.1 + 1 = j + i ∧ q.2.category = 2))
  | [], i, j, v, q, h => by simp [stI, al] at h
  | x :: t, 0, j, v, q, h => by
    rcases List.mem_cons.mp (by simpa [stI, al] using h) with h9 | h9
    · left; simpa using h9
    · right
      have h1 := al_ge t (j + 1) q h9
      refine ⟨?_, by omega, by omega⟩
      clear h
      cases x with
      | none => simpa [al] using h9
      | some w => rw [al]; exact List.mem_cons_of_mem _ h9
  | x :: t, 1, j, v, q, h => by
    have h : q ∈ al j (kl x :: stI t 0 v) := by simpa [stI] using h
    have key : (∃ w, kl x = some w ∧ q = (j, w)) ∨ q ∈ al (j + 1) (stI t 0 v) := by
      cases hx : kl x with
      | none => rw [hx] at h; right; simpa [al] using h
      | some w => rw [hx] at h; rcases List.mem_cons.mp (by simpa [al] using h) with h | h
                  · left; exact ⟨w, rfl, h⟩
                  · right; exact h
    rcases key with ⟨w, hw, rfl⟩ | h
    · obtain ⟨hx, hc⟩ := kl_cases x w hw
      subst hx
      right
      exact ⟨by simp [al], by simp, fun hh => hc hh.2⟩
    · rcases al_st t 0 (j + 1) v q h with h | ⟨h1, h2, h3⟩
      · left; simpa using h
      · right
        have h4 := al_ge t (j + 1) q h1
        refine ⟨?_, by simpa using h2, by omega⟩
        cases x with
        | none => simpa [al] using h1
        | some w => rw [al]; exact List.mem_cons_of_mem _ h1
  | x :: t, n + 2, j, v, q, h => by
    have h : q ∈ al j (x :: stI t (n + 1) v) := by simpa [stI] using h
    have key : (∃ w, x = some w ∧ q = (j, w)) ∨ q ∈ al (j + 1) (stI t (n + 1) v) := by
      cases x with
      | none => right; simpa [al] using h
      | some w => rcases List.mem_cons.mp (by simpa [al] using h) with h | h
                  · left; exact ⟨w, rfl, h⟩
                  · right; exact h
    rcases key with ⟨w, rfl, rfl⟩ | h
    · right; exact ⟨by simp [al], by simp, by simp⟩
    · rcases al_st t (n + 1) (j + 1) v q h with h | ⟨h1, h2, h3⟩
      · left; rw [h]; congr 1; omega
      · right
        refine ⟨?_, by omega, by rw [show j + (n + 2) = j + 1 + (n + 1) by omega]; exact h3⟩
        cases x with
        | none => simpa [al] using h1
        | some w => rw [al]; exact List.mem_cons_of_mem _ h1
theorem al_no1 (L : List (Option Value)) (j : Nat) (q : Nat × Value) (h : q ∈ al j (no1 L)) : q ∈ al j L ∧ j + 1 ≤ q.1 := by
  cases L with
  | nil => simp [no1, al] at h
  | cons x t =>
    have h9 : q ∈ al (j + 1) t := by simpa [no1, al] using h
    refine ⟨?_, al_ge _ _ _ h9⟩
    clear h
    cases x with
    | none => simpa [al] using h9
    | some w => rw [al]; exact List.mem_cons_of_mem _ h9
theorem al_stL : ∀ (L : List (Option Value)) (i j : Nat) (v : Value) (q : Nat × Value), q ∈ al j (stL L i v) → q = (j + i, v) ∨ (q ∈ al j L ∧ q.1 ≠ j + i ∧ q.1 ≠ j + i + 1 ∧ ¬ (q.1 + 1 = j + i ∧ q.2.category = 2))
  | [], i, j, v, q, h => by simp [stL, al] at h
  | x :: t, 0, j, v, q, h => by
    rcases List.mem_cons.mp (by simpa [stL, al] using h) with h | h
    · left; simpa using h
    · right
      obtain ⟨h0, h1⟩ := al_no1 t (j + 1) q h
      refine ⟨?_, by omega, by omega, by omega⟩
      cases x with
      | none => simpa [al] using h0
      | some w => rw [al]; exact List.mem_cons_of_mem _ h0
  | x :: t, 1, j, v, q, h => by
    have h : q ∈ al j (kl x :: stL t 0 v) := by simpa [stL] using h
    have key : (∃ w, kl x = some w ∧ q = (j, w)) ∨ q ∈ al (j + 1) (stL t 0 v) := by
      cases hx : kl x with
      | none => rw [hx] at h; right; simpa [al] using h
      | some w => rw [hx] at h; rcases List.mem_cons.mp (by simpa [al] using h) with h | h
                  · left; exact ⟨w, rfl, h⟩
                  · right; exact h
    rcases key with ⟨w, hw, rfl⟩ | h
    · obtain ⟨hx, hc⟩ := kl_cases x w hw
      subst hx
      right
      exact ⟨by simp [al], by simp, by simp; omega, fun hh => hc hh.2⟩
    · rcases al_stL t 0 (j + 1) v q h with h | ⟨h1, h2, h3, h5⟩
      · left; simpa using h
      · right
        have h4 := al_ge t (j + 1) q h1
        refine ⟨?_, by omega, by omega, by omega⟩
        cases x with
        | none => simpa [al] using h1
        | some w => rw [al]; exact List.mem_cons_of_mem _ h1
  | x :: t, n + 2, j, v, q, h => by
    have h : q ∈ al j (x :: stL t (n + 1) v) := by simpa [stL] using h
    have key : (∃ w, x = some w ∧ q = (j, w)) ∨ q ∈ al (j + 1) (stL t (n + 1) v) := by
      cases x with
      | none => right; simpa [al] using h
      | some w => rcases List.mem_cons.mp (by simpa [al] using h) with h | h
                  · left; exact ⟨w, rfl, h⟩
                  · right; exact h
    rcases key with ⟨w, rfl, rfl⟩ | h
    · right; exact ⟨by simp [al], by simp, by simp; omega, by simp⟩
    · rcases al_stL t (n + 1) (j + 1) v q h with h | ⟨h1, h2, h3, h5⟩
      · left; rw [h]; congr 1; omega
      · right
        refine ⟨?_, by omega, by omega, by rw [show j + (n + 2) = j + 1 + (n + 1) by omega]; exact h5⟩
        cases x with
        | none => simpa [al] using h1
        | some w => rw [al]; exact List.mem_cons_of_mem _ h1
theorem lv_stI {ls : Array Slot} {nL i : Nat} {L : List (Option Value)} {v : Value} (h : lv_has ls nL ((i, v) :: (al 0 L).filter (fun q => !(q.1 == i) && !(q.1 + 1 == i && q.2.category == 2)))) : lv_has ls nL (al 0 (stI L i v)) := by
  refine ⟨h.1, h.2.1, fun q hq => h.2.2 q ?_⟩
  rcases al_st L i 0 v q hq with h1 | ⟨h1, h2, h3⟩
  · rw [h1]; simp
  · refine List.mem_cons_of_mem _ (List.mem_filter.mpr ⟨h1, ?_⟩)
    simp at h2 h3
    simp only [Bool.and_eq_true, Bool.not_eq_true', beq_eq_false_iff_ne, ne_eq, Bool.and_eq_false_iff]
    refine ⟨h2, ?_⟩
    by_cases h4 : q.1 + 1 = i
    · right; exact h3 h4
    · left; exact h4
theorem lv_stL {ls : Array Slot} {nL i : Nat} {L : List (Option Value)} {v : Value} (h : lv_has ls nL ((i, v) :: (al 0 L).filter (fun q => !(q.1 == i) && (!(q.1 == i + 1) && !(q.1 + 1 == i && q.2.category == 2))))) : lv_has ls nL (al 0 (stL L i v)) := by
  refine ⟨h.1, h.2.1, fun q hq => h.2.2 q ?_⟩
  rcases al_stL L i 0 v q hq with h1 | ⟨h1, h2, h3, h5⟩
  · rw [h1]; simp
  · refine List.mem_cons_of_mem _ (List.mem_filter.mpr ⟨h1, ?_⟩)
    simp at h2 h3 h5
    simp only [Bool.and_eq_true, Bool.not_eq_true', beq_eq_false_iff_ne, ne_eq, Bool.and_eq_false_iff]
    refine ⟨h2, h3, ?_⟩
    by_cases h4 : q.1 + 1 = i
    · right; exact h5 h4
    · left; exact h4
theorem lv_lk {ls : Array Slot} {nL i : Nat} {L : List (Option Value)} {v : Value} (h : lv_has ls nL (al 0 L)) (hk : lk L i = some v) : ls[i]? = some (.val v) := by
  have := h.2.2 (0 + i, v) (al_lk L i 0 v hk)
  simpa using this
