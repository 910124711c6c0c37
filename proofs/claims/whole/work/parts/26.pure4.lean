/-! SUM by the RULE, six times; shares -/
def cf (odd i : Int) : Int := if i = 0 ∨ i = odd - 1 then 1 else if i % 2 = 1 then 4 else 2
def sxs (f : Nat → Int) (odd : Int) : Nat → Int
  | 0 => 0
  | m + 1 => sxs f odd m + 2 * f m * cf odd m
theorem sxs_step (f : Nat → Int) (odd : Int) {i : Int} (h : 0 ≤ i) : sxs f odd (i + 1).toNat = sxs f odd i.toNat + 2 * f i.toNat * cf odd i := by
  rw [show (i + 1).toNat = i.toNat + 1 by omega, sxs, show ((i.toNat : Nat) : Int) = i by omega]
def oddOf (n : Int) : Int := if n % 2 = 1 then n else n - 1
def sx (f : Nat → Int) (n : Int) : Int := if oddOf n = n then sxs f (oddOf n) (oddOf n).toNat else sxs f (oddOf n) (oddOf n).toNat + 3 * (f (n - 2).toNat + f (n - 1).toNat)
theorem sx4 (f : Nat → Int) : sx f 4 = 2 * (f 0 + 4 * f 1 + f 2) + 3 * (f 2 + f 3) := by simp [sx, oddOf, sxs, cf]; omega
theorem sx5 (f : Nat → Int) : sx f 5 = 2 * (f 0 + 4 * f 1 + 2 * f 2 + 4 * f 3 + f 4) := by simp [sx, oddOf, sxs, cf]; omega
theorem sx6 (f : Nat → Int) : sx f 6 = 2 * (f 0 + 4 * f 1 + 2 * f 2 + 4 * f 3 + f 4) + 3 * (f 4 + f 5) := by simp [sx, oddOf, sxs, cf]; omega
theorem sx7 (f : Nat → Int) : sx f 7 = 2 * (f 0 + 4 * f 1 + 2 * f 2 + 4 * f 3 + 2 * f 4 + 4 * f 5 + f 6) := by simp [sx, oddOf, sxs, cf]; omega
theorem sx8 (f : Nat → Int) : sx f 8 = 2 * (f 0 + 4 * f 1 + 2 * f 2 + 4 * f 3 + 2 * f 4 + 4 * f 5 + f 6) + 3 * (f 6 + f 7) := by simp [sx, oddOf, sxs, cf]; omega
theorem sx9 (f : Nat → Int) : sx f 9 = 2 * (f 0 + 4 * f 1 + 2 * f 2 + 4 * f 3 + 2 * f 4 + 4 * f 5 + 2 * f 6 + 4 * f 7 + f 8) := by simp [sx, oddOf, sxs, cf]; omega
theorem n49 {n : Int} (h : 4 ≤ n ∧ n ≤ 9) : n = 4 ∨ n = 5 ∨ n = 6 ∨ n = 7 ∨ n = 8 ∨ n = 9 := by omega
theorem sx_congr {f g : Nat → Int} {n : Int} (hn : 4 ≤ n ∧ n ≤ 9) (h : ∀ i : Nat, (i : Int) < n → f i = g i) : sx f n = sx g n := by
  have h0 := h 0
  have h1 := h 1
  have h2 := h 2
  have h3 := h 3
  have h4 := h 4
  have h5 := h 5
  have h6 := h 6
  have h7 := h 7
  have h8 := h 8
  rcases n49 hn with rfl | rfl | rfl | rfl | rfl | rfl
  · rw [sx4, sx4, h0 (by omega), h1 (by omega), h2 (by omega), h3 (by omega)]
  · rw [sx5, sx5, h0 (by omega), h1 (by omega), h2 (by omega), h3 (by omega), h4 (by omega)]
  · rw [sx6, sx6, h0 (by omega), h1 (by omega), h2 (by omega), h3 (by omega), h4 (by omega), h5 (by omega)]
  · rw [sx7, sx7, h0 (by omega), h1 (by omega), h2 (by omega), h3 (by omega), h4 (by omega), h5 (by omega), h6 (by omega)]
  · rw [sx8, sx8, h0 (by omega), h1 (by omega), h2 (by omega), h3 (by omega), h4 (by omega), h5 (by omega), h6 (by omega), h7 (by omega)]
  · rw [sx9, sx9, h0 (by omega), h1 (by omega), h2 (by omega), h3 (by omega), h4 (by omega), h5 (by omega), h6 (by omega), h7 (by omega), h8 (by omega)]
theorem sx_rng {f : Nat → Int} {n M : Int} (hn : 4 ≤ n ∧ n ≤ 9) (h : ∀ i : Nat, (i : Int) < n → 0 ≤ f i ∧ f i ≤ M) : 0 ≤ sx f n ∧ sx f n ≤ 60 * M := by
  have h0 := h 0
  have h1 := h 1
  have h2 := h 2
  have h3 := h 3
  have h4 := h 4
  have h5 := h 5
  have h6 := h 6
  have h7 := h 7
  have h8 := h 8
  rcases n49 hn with rfl | rfl | rfl | rfl | rfl | rfl
  · rw [sx4]; omega
  · rw [sx5]; omega
  · rw [sx6]; omega
  · rw [sx7]; omega
  · rw [sx8]; omega
  · rw [sx9]; omega
def gc (u l : Int) : Int := ((Nat.gcd u.toNat l.toNat : Nat) : Int)
def tdS (u l w : Int) : Int := if w = 0 then u / gc u l else l / gc u l
theorem gc_step {a b : Int} (ha : 0 ≤ a) (hb : 0 < b) : gc b (a % b) = gc a b := by
  unfold gc
  have e : (a % b).toNat = a.toNat % b.toNat := by
    obtain ⟨x, rfl⟩ := Int.eq_ofNat_of_zero_le ha
    obtain ⟨y, rfl⟩ := Int.eq_ofNat_of_zero_le (Int.le_of_lt hb)
    rw [← Int.natCast_emod, Int.toNat_natCast, Int.toNat_natCast, Int.toNat_natCast]
  rw [e, Nat.gcd_comm b.toNat, ← Nat.gcd_rec, Nat.gcd_comm]
theorem gc_zero {a : Int} (ha : 0 ≤ a) : gc a 0 = a := by
  unfold gc
  simp
  omega
theorem gc_rng {a b : Int} (hb : 0 < b) : 0 < gc a b ∧ gc a b ≤ b := by
  unfold gc
  have h1 : 0 < b.toNat := by omega
  have h2 := Nat.gcd_pos_of_pos_right a.toNat h1
  have h3 := Nat.le_of_dvd h1 (Nat.gcd_dvd_right a.toNat b.toNat)
  omega
abbrev LOST : Int := -9223372036854775808
def badS (S W v k w : Int) : Prop := ¬(v = 0 ∨ v = 1) ∨ ¬(0 ≤ k ∧ k < (if v = 0 then W else S)) ∨ ¬(w = 0 ∨ w = 1)
def npS (S W v : Int) : Int := if v = 0 then S else W
def areaS (o : Nat → Int) (S W Lo Hi v k w : Int) : Int := if ¬(v = 0 ∨ v = 1) ∨ ¬(0 ≤ k ∧ k < (if v = 0 then W else S)) ∨ ¬(w = 0 ∨ w = 1) then LOST else tdS (sx (lnf o v k) (if v = 0 then S else W) * (if v = 0 then Lo else Hi)) 6 w
def centS (o : Nat → Int) (S W v k w : Int) : Int := if ¬(v = 0 ∨ v = 1) ∨ ¬(0 ≤ k ∧ k < (if v = 0 then W else S)) ∨ ¬(w = 0 ∨ w = 1) then LOST else if sx (lnf o v k) (if v = 0 then S else W) = 0 then LOST else tdS (sx (fun i => lnf o v k i * i) (if v = 0 then S else W)) (sx (lnf o v k) (if v = 0 then S else W)) w
def volS (o : Nat → Int) (S W Lo Hi v w : Int) : Int := if ¬(v = 0 ∨ v = 1) ∨ ¬(w = 0 ∨ w = 1) then LOST else tdS (sx (fun k => sx (lnf o v k) (if v = 0 then S else W)) (if v = 0 then W else S) * Lo * Hi) 36 w
theorem mul_rng {a b M N : Int} (ha : 0 ≤ a ∧ a ≤ M) (hb : 0 ≤ b ∧ b ≤ N) : 0 ≤ a * b ∧ a * b ≤ M * N :=
  ⟨Int.mul_nonneg ha.1 hb.1, Int.mul_le_mul ha.2 hb.2 hb.1 (by omega)⟩
