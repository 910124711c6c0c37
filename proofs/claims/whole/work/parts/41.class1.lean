set_option maxRecDepth 100000 in
set_option maxHeartbeats 4000000 in
theorem c_X4_isNot {K : Ctx} {σ : Sto} {v a b : Int} (hv : InI v ∧ InI a ∧ InI b) : CtI K mX4_isNot 0 [.int (i32 v), .int (i32 a), .int (i32 b)] σ (fun r σ' => r = (if a ≤ v ∧ v ≤ b then 0 else 1) ∧ σ' = σ) := by
  refine CtZ_of (L := [some (.int (i32 v)), some (.int (i32 a)), some (.int (i32 b))]) (by decide) rfl rfl rfl ?_
  intro E hE hR
  refine V_iload_n hE dX4_isNot_0 rfl ?_
  refine V_iload_n hE dX4_isNot_1 rfl ?_
  refine V_icmp_lt hE 10 dX4_isNot_2 (by decide) (by omega) (fun h2 => ?_) (fun h2 => ?_)
  · refine V_iconst hE dX4_isNot_10 ?_
    refine V_goto hE 15 dX4_isNot_11 (by decide) ?_
    refine V_zreturn hR dX4_isNot_15 (by omega) ?_
    exact ⟨by omega, rfl⟩
  · refine V_iload_n hE dX4_isNot_5 rfl ?_
    refine V_iload_n hE dX4_isNot_6 rfl ?_
    refine V_icmp_le hE 14 dX4_isNot_7 (by decide) (by omega) (fun h7 => ?_) (fun h7 => ?_)
    · refine V_iconst hE dX4_isNot_14 ?_
      refine V_zreturn hR dX4_isNot_15 (by omega) ?_
      exact ⟨by omega, rfl⟩
    · refine V_iconst hE dX4_isNot_10 ?_
      refine V_goto hE 15 dX4_isNot_11 (by decide) ?_
      refine V_zreturn hR dX4_isNot_15 (by omega) ?_
      exact ⟨by omega, rfl⟩
set_option maxRecDepth 100000 in
set_option maxHeartbeats 4000000 in
theorem c_X4_cellOf {K : Ctx} {σ : Sto} {s l : Int} : CtI K mX4_cellOf 0 [.int (i32 s), .int (i32 l)] σ (fun r σ' => r = 7 * s + l ∧ σ' = σ) := by
  refine CtI_of (L := [some (.int (i32 s)), some (.int (i32 l))]) (by decide) rfl rfl rfl ?_
  intro E hE hR
  refine V_iload_n hE dX4_cellOf_0 rfl ?_
  refine V_bipush hE dX4_cellOf_1 (by decide) ?_
  refine V_imul hE dX4_cellOf_3 ?_
  refine V_iload_n hE dX4_cellOf_4 rfl ?_
  refine V_iadd hE dX4_cellOf_5 ?_
  refine V_ireturn hR dX4_cellOf_6 ?_
  exact ⟨by omega, rfl⟩
set_option maxRecDepth 100000 in
set_option maxHeartbeats 4000000 in
theorem lp_X4_commonDivisor_9 {K : Ctx} {E : ME} {σ : Sto} {u l : Int} (hu : 0 ≤ u ∧ u ≤ 4611686018427387904) (hl : 0 < l ∧ l ≤ 1125899906842623) (hE : Ok K E mX4_commonDivisor 0) (hR : RetL K E mX4_commonDivisor (fun r σ' => r = gc u l ∧ σ' = σ)) : ∀ (n : Nat) (s a b : Int) (x9 x10 : Option Value), 100 - s < n → (0 ≤ s ∧ s ≤ 100) → (0 ≤ a ∧ a ≤ 4611686018427387904 ∧ 0 ≤ b ∧ b ≤ 1125899906842623) → (eu (100 - s).toNat a b = eu 100 u l) → V K E mX4_commonDivisor 9 [some (.long (i64 u)), none, some (.long (i64 l)), none, some (.long (i64 a)), none, some (.long (i64 b)), none, some (.int (i32 s)), x9, x10] [] σ := by
  intro n
  induction n with
  | zero =>
    intro s a b x9 x10 hm hs hab he
    exfalso; omega
  | succ n ih =>
    intro s a b x9 x10 hm hs hab he
    have hg : eu 100 u l = gc u l := eu_gc 50 u l hu.1 (by omega) (by rw [show (2 : Int) ^ 50 = 1125899906842624 by decide]; omega)
    refine V_iload hE dX4_commonDivisor_9 rfl ?_
    refine V_bipush hE dX4_commonDivisor_11 (by decide) ?_
    refine V_icmp_ge hE 44 dX4_commonDivisor_13 (by decide) (by omega) (fun h13 => ?_) (fun h13 => ?_)
    · refine V_lload hE dX4_commonDivisor_44 rfl ?_
      refine V_lreturn hR dX4_commonDivisor_46 ?_
      refine ⟨?_, rfl⟩
      rw [← hg, ← he]
      first
        | (have e0 : b = 0 := by assumption
           rw [e0, eu_z])
        | (rw [show (100 - s).toNat = 0 by omega]; rfl)
    · refine V_lload hE dX4_commonDivisor_16 rfl ?_
      refine V_lconst0 hE dX4_commonDivisor_18 ?_
      refine V_lcmp_eq hE 44 dX4_commonDivisor_19 dX4_commonDivisor_20 (by decide) (by omega) (fun h19 => ?_) (fun h19 => ?_)
      · refine V_lload hE dX4_commonDivisor_44 rfl ?_
        refine V_lreturn hR dX4_commonDivisor_46 ?_
        refine ⟨?_, rfl⟩
        rw [← hg, ← he]
        first
          | (have e0 : b = 0 := by assumption
             rw [e0, eu_z])
          | (rw [show (100 - s).toNat = 0 by omega]; rfl)
      · refine V_lload hE dX4_commonDivisor_23 rfl ?_
        refine V_lload hE dX4_commonDivisor_25 rfl ?_
        refine V_lrem hE dX4_commonDivisor_27 (by omega) (by omega) ?_
        refine V_lstore hE dX4_commonDivisor_28 rfl ?_
        refine V_lload hE dX4_commonDivisor_30 rfl ?_
        refine V_lstore hE dX4_commonDivisor_32 rfl ?_
        refine V_lload hE dX4_commonDivisor_34 rfl ?_
        refine V_lstore hE dX4_commonDivisor_36 rfl ?_
        refine V_iinc hE dX4_commonDivisor_38 rfl rfl ?_
        refine V_goto hE 9 dX4_commonDivisor_41 (by decide) ?_
        have h1 := Int.emod_nonneg a (show b ≠ 0 by omega)
        have h2 := Int.emod_lt_of_pos a (show 0 < b by omega)
        refine ih _ _ _ _ _ (by omega) (by omega) (by omega) ?_
        rw [← he, show (100 - s).toNat = (100 - (s + 1)).toNat + 1 by omega, eu, if_neg (by omega)]
set_option maxRecDepth 100000 in
set_option maxHeartbeats 4000000 in
theorem c_X4_commonDivisor {K : Ctx} {σ : Sto} {u l : Int} (hu : 0 ≤ u ∧ u ≤ 4611686018427387904) (hl : 0 < l ∧ l ≤ 1125899906842623) : CtL K mX4_commonDivisor 0 [.long (i64 u), .long (i64 l)] σ (fun r σ' => r = gc u l ∧ σ' = σ) := by
  refine CtL_of (L := [some (.long (i64 u)), none, some (.long (i64 l)), none, none, none, none, none, none, none, none]) (by decide) rfl rfl rfl ?_
  intro E hE hR
  refine V_lload_n hE dX4_commonDivisor_0 rfl ?_
  refine V_lstore hE dX4_commonDivisor_1 rfl ?_
  refine V_lload_n hE dX4_commonDivisor_3 rfl ?_
  refine V_lstore hE dX4_commonDivisor_4 rfl ?_
  refine V_iconst hE dX4_commonDivisor_6 ?_
  refine V_istore hE dX4_commonDivisor_7 rfl ?_
  exact lp_X4_commonDivisor_9 hu hl hE hR 101 0 _ _ _ _ (by omega) (by omega) (by omega) rfl
set_option maxRecDepth 100000 in
set_option maxHeartbeats 4000000 in
theorem c_X4_toldShare {K : Ctx} {σ : Sto} {u l w : Int} (hu : 0 ≤ u ∧ u ≤ 4611686018427387904) (hl : 0 < l ∧ l ≤ 1125899906842623) (hw : InI w) : CtL K mX4_toldShare 1 [.long (i64 u), .long (i64 l), .int (i32 w)] σ (fun r σ' => r = tdS u l w ∧ σ' = σ) := by
  have hg := gc_rng (a := u) hl.1
  refine CtL_of (L := [some (.long (i64 u)), none, some (.long (i64 l)), none, some (.int (i32 w)), none, none]) (by decide) rfl rfl rfl ?_
  intro E hE hR
  refine V_lload_n hE dX4_toldShare_0 rfl ?_
  refine V_lload_n hE dX4_toldShare_1 rfl ?_
  refine cf_X4_220 hE rfl dX4_toldShare_2 (c_X4_commonDivisor hu hl) rfl rfl ?_
  refine V_lstore hE dX4_toldShare_5 rfl ?_
  refine V_lload hE dX4_toldShare_7 rfl ?_
  refine V_lconst0 hE dX4_toldShare_9 ?_
  refine V_lcmp_ne hE 18 dX4_toldShare_10 dX4_toldShare_11 (by decide) (by omega) (fun h10 => ?_) (fun h10 => ?_)
  · refine V_iload hE dX4_toldShare_18 rfl ?_
    refine V_if_ne hE 30 dX4_toldShare_20 (by decide) (by omega) (fun h20 => ?_) (fun h20 => ?_)
    · refine V_lload_n hE dX4_toldShare_30 rfl ?_
      refine V_lload hE dX4_toldShare_31 rfl ?_
      refine V_ldiv hE dX4_toldShare_33 (by omega) (by omega) ?_
      refine V_lreturn hR dX4_toldShare_34 ?_
      first | exact ⟨by unfold tdS; exact (if_pos (by assumption)).symm, rfl⟩ | exact ⟨by unfold tdS; exact (if_neg (by assumption)).symm, rfl⟩
    · refine V_lload_n hE dX4_toldShare_23 rfl ?_
      refine V_lload hE dX4_toldShare_24 rfl ?_
      refine V_ldiv hE dX4_toldShare_26 (by omega) (by omega) ?_
      refine V_goto hE 34 dX4_toldShare_27 (by decide) ?_
      refine V_lreturn hR dX4_toldShare_34 ?_
      first | exact ⟨by unfold tdS; exact (if_pos (by assumption)).symm, rfl⟩ | exact ⟨by unfold tdS; exact (if_neg (by assumption)).symm, rfl⟩
  · exfalso; omega
def thS (f : Nat → Int) : Nat → Int
  | 0 => 0
  | m + 1 => thS f m + (if ((m : Int) + 1) % 2 = 0 then 2 else 4) * f (m + 1)
theorem thS_step (f : Nat → Int) {i : Int} (h : 1 ≤ i) : thS f (i + 1 - 1).toNat = thS f (i - 1).toNat + (if i % 2 = 0 then 2 else 4) * f i.toNat := by
  rw [show (i + 1 - 1).toNat = (i - 1).toNat + 1 by omega, thS, show (((i - 1).toNat : Nat) : Int) + 1 = i by omega, show (i - 1).toNat + 1 = i.toNat by omega]
theorem thS_sx (f : Nat → Int) {n : Int} (hn : 4 ≤ n ∧ n ≤ 9) : sx f n = (if oddOf n = n then 2 * (f 0 + f (oddOf n - 1).toNat + thS f (oddOf n - 1 - 1).toNat) else 2 * (f 0 + f (oddOf n - 1).toNat + thS f (oddOf n - 1 - 1).toNat) + 3 * (f (n - 2).toNat + f (n - 1).toNat)) := by
  rcases n49 hn with rfl | rfl | rfl | rfl | rfl | rfl
  · rw [sx4]; simp [oddOf, thS]; omega
  · rw [sx5]; simp [oddOf, thS]; omega
  · rw [sx6]; simp [oddOf, thS]; omega
  · rw [sx7]; simp [oddOf, thS]; omega
  · rw [sx8]; simp [oddOf, thS]; omega
  · rw [sx9]; simp [oddOf, thS]; omega
set_option maxRecDepth 100000 in
set_option maxHeartbeats 4000000 in
theorem lp_X4_sumInSixths_40_11 {K : Ctx} {E : ME} {σ : Sto} {n0 : Int} (hn : 4 ≤ n0 ∧ n0 ≤ 9) (hE : Ok K E mX4_sumInSixths 0) (hR : RetI K E mX4_sumInSixths (fun r σ' => r = sx (σ 11) n0 ∧ σ' = σ)) : ∀ (n : Nat) (i a : Int), 9 - i < n → (1 ≤ i ∧ i ≤ oddOf n0 - 1) → (a = σ 11 0 + σ 11 (oddOf n0 - 1).toNat + thS (σ 11) (i - 1).toNat) → V K E mX4_sumInSixths 40 [some (.ref (kA K 11)), some (.int (i32 n0)), some (.int (i32 (oddOf n0))), some (.int (i32 a)), some (.int (i32 i))] [] σ := by
  intro n
  induction n with
  | zero =>
    intro i a hm hi ha
    exfalso; unfold oddOf at hi; omega
  | succ n ih =>
    intro i a hm hi ha
    have ho : oddOf n0 = n0 ∨ oddOf n0 = n0 - 1 := by unfold oddOf; omega
    have ho2 : 3 ≤ oddOf n0 := by unfold oddOf; omega
    refine V_iload hE dX4_sumInSixths_40 rfl ?_
    refine V_iload_n hE dX4_sumInSixths_42 rfl ?_
    refine V_iconst hE dX4_sumInSixths_43 ?_
    refine V_isub hE dX4_sumInSixths_44 ?_
    refine V_icmp_ge hE 74 dX4_sumInSixths_45 (by decide) (by omega) (fun h45 => ?_) (fun h45 => ?_)
    · have ei : i = oddOf n0 - 1 := by omega
      subst ei
      subst ha
      refine V_iconst hE dX4_sumInSixths_74 ?_
      refine V_iload_n hE dX4_sumInSixths_75 rfl ?_
      refine V_imul hE dX4_sumInSixths_76 ?_
      refine V_istore hE dX4_sumInSixths_77 rfl ?_
      refine V_iload_n hE dX4_sumInSixths_79 rfl ?_
      refine V_iload_n hE dX4_sumInSixths_80 rfl ?_
      refine V_icmp_ne hE 89 dX4_sumInSixths_81 (by decide) (by omega) (fun h81 => ?_) (fun h81 => ?_)
      · refine V_iload hE dX4_sumInSixths_89 rfl ?_
        refine V_iconst hE dX4_sumInSixths_91 ?_
        refine V_aload_n hE dX4_sumInSixths_92 rfl ?_
        refine V_iload_n hE dX4_sumInSixths_93 rfl ?_
        refine V_iconst hE dX4_sumInSixths_94 ?_
        refine V_isub hE dX4_sumInSixths_95 ?_
        refine V_iaload hE dX4_sumInSixths_96 rfl (by omega) ?_
        refine V_aload_n hE dX4_sumInSixths_97 rfl ?_
        refine V_iload_n hE dX4_sumInSixths_98 rfl ?_
        refine V_iconst hE dX4_sumInSixths_99 ?_
        refine V_isub hE dX4_sumInSixths_100 ?_
        refine V_iaload hE dX4_sumInSixths_101 rfl (by omega) ?_
        refine V_iadd hE dX4_sumInSixths_102 ?_
        refine V_imul hE dX4_sumInSixths_103 ?_
        refine V_iadd hE dX4_sumInSixths_104 ?_
        refine V_ireturn hR dX4_sumInSixths_105 ?_
        first | exact ⟨by rw [thS_sx _ hn]; exact (if_pos (by assumption)).symm, rfl⟩ | exact ⟨by rw [thS_sx _ hn]; exact (if_neg (by assumption)).symm, rfl⟩
      · refine V_iload hE dX4_sumInSixths_84 rfl ?_
        refine V_goto hE 105 dX4_sumInSixths_86 (by decide) ?_
        refine V_ireturn hR dX4_sumInSixths_105 ?_
        first | exact ⟨by rw [thS_sx _ hn]; exact (if_pos (by assumption)).symm, rfl⟩ | exact ⟨by rw [thS_sx _ hn]; exact (if_neg (by assumption)).symm, rfl⟩
    · refine V_iload_n hE dX4_sumInSixths_48 rfl ?_
      refine V_iload hE dX4_sumInSixths_49 rfl ?_
      refine V_iconst hE dX4_sumInSixths_51 ?_
      refine V_irem hE dX4_sumInSixths_52 (by omega) (by omega) ?_
      refine V_if_ne hE 60 dX4_sumInSixths_53 (by decide) (by omega) (fun h53 => ?_) (fun h53 => ?_)
      · refine V_iconst hE dX4_sumInSixths_60 ?_
        refine V_aload_n hE dX4_sumInSixths_61 rfl ?_
        refine V_iload hE dX4_sumInSixths_62 rfl ?_
        refine V_iaload hE dX4_sumInSixths_64 rfl (by omega) ?_
        refine V_imul hE dX4_sumInSixths_65 ?_
        refine V_iadd hE dX4_sumInSixths_66 ?_
        refine V_istore_n hE dX4_sumInSixths_67 rfl ?_
        refine V_iinc hE dX4_sumInSixths_68 rfl rfl ?_
        refine V_goto hE 40 dX4_sumInSixths_71 (by decide) ?_
        refine ih _ _ (by omega) (by omega) ?_
        rw [thS_step _ (by omega), ha]
        first
          | (rw [if_pos (by assumption)]; omega)
          | (rw [if_neg (by assumption)]; omega)
      · refine V_iconst hE dX4_sumInSixths_56 ?_
        refine V_goto hE 61 dX4_sumInSixths_57 (by decide) ?_
        refine V_aload_n hE dX4_sumInSixths_61 rfl ?_
        refine V_iload hE dX4_sumInSixths_62 rfl ?_
        refine V_iaload hE dX4_sumInSixths_64 rfl (by omega) ?_
        refine V_imul hE dX4_sumInSixths_65 ?_
        refine V_iadd hE dX4_sumInSixths_66 ?_
        refine V_istore_n hE dX4_sumInSixths_67 rfl ?_
        refine V_iinc hE dX4_sumInSixths_68 rfl rfl ?_
        refine V_goto hE 40 dX4_sumInSixths_71 (by decide) ?_
        refine ih _ _ (by omega) (by omega) ?_
        rw [thS_step _ (by omega), ha]
        first
          | (rw [if_pos (by assumption)]; omega)
          | (rw [if_neg (by assumption)]; omega)
set_option maxRecDepth 100000 in
set_option maxHeartbeats 4000000 in
theorem c_X4_sumInSixths_11 {K : Ctx} {σ : Sto} {n0 : Int} (hn : 4 ≤ n0 ∧ n0 ≤ 9) : CtI K mX4_sumInSixths 0 [.ref (kA K 11), .int (i32 n0)] σ (fun r σ' => r = sx (σ 11) n0 ∧ σ' = σ) := by
  refine CtI_of (L := [some (.ref (kA K 11)), some (.int (i32 n0)), none, none, none]) (by decide) rfl rfl rfl ?_
  intro E hE hR
  refine V_iload_n hE dX4_sumInSixths_0 rfl ?_
  refine V_iconst hE dX4_sumInSixths_1 ?_
  refine V_icmp_lt hE 11 dX4_sumInSixths_2 (by decide) (by omega) (fun h2 => ?_) (fun h2 => ?_)
  · exfalso; omega
  · refine V_iload_n hE dX4_sumInSixths_5 rfl ?_
    refine V_aload_n hE dX4_sumInSixths_6 rfl ?_
    refine V_alen hE dX4_sumInSixths_7 rfl (by decide) ?_
    refine V_icmp_le hE 13 dX4_sumInSixths_8 (by decide) (by omega) (fun h8 => ?_) (fun h8 => ?_)
    · refine V_iload_n hE dX4_sumInSixths_13 rfl ?_
      refine V_iconst hE dX4_sumInSixths_14 ?_
      refine V_irem hE dX4_sumInSixths_15 (by omega) (by omega) ?_
      refine V_if_ne hE 25 dX4_sumInSixths_16 (by decide) (by omega) (fun h16 => ?_) (fun h16 => ?_)
      · refine V_iload_n hE dX4_sumInSixths_25 rfl ?_
        refine V_istore_n hE dX4_sumInSixths_26 rfl ?_
        refine V_aload_n hE dX4_sumInSixths_27 rfl ?_
        refine V_iconst hE dX4_sumInSixths_28 ?_
        refine V_iaload hE dX4_sumInSixths_29 rfl (by omega) ?_
        rw [show Int.toNat 0 = 0 from rfl]
        refine V_aload_n hE dX4_sumInSixths_30 rfl ?_
        refine V_iload_n hE dX4_sumInSixths_31 rfl ?_
        refine V_iconst hE dX4_sumInSixths_32 ?_
        refine V_isub hE dX4_sumInSixths_33 ?_
        refine V_iaload hE dX4_sumInSixths_34 rfl (by omega) ?_
        refine V_iadd hE dX4_sumInSixths_35 ?_
        refine V_istore_n hE dX4_sumInSixths_36 rfl ?_
        refine V_iconst hE dX4_sumInSixths_37 ?_
        refine V_istore hE dX4_sumInSixths_38 rfl ?_
        have eo : oddOf n0 = (if n0 % 2 = 1 then n0 else n0 - 1) := rfl
        have h := lp_X4_sumInSixths_40_11 hn hE hR 100 1 _ (by omega) (by unfold oddOf; omega) rfl
        first | rw [if_pos (by omega)] at eo | rw [if_neg (by omega)] at eo
        rw [eo] at h
        simp only [Int.sub_self, Int.toNat_zero, thS, Int.add_zero] at h
        exact h
      · refine V_iload_n hE dX4_sumInSixths_19 rfl ?_
        refine V_iconst hE dX4_sumInSixths_20 ?_
        refine V_isub hE dX4_sumInSixths_21 ?_
        refine V_goto hE 26 dX4_sumInSixths_22 (by decide) ?_
        refine V_istore_n hE dX4_sumInSixths_26 rfl ?_
        refine V_aload_n hE dX4_sumInSixths_27 rfl ?_
        refine V_iconst hE dX4_sumInSixths_28 ?_
        refine V_iaload hE dX4_sumInSixths_29 rfl (by omega) ?_
        rw [show Int.toNat 0 = 0 from rfl]
        refine V_aload_n hE dX4_sumInSixths_30 rfl ?_
        refine V_iload_n hE dX4_sumInSixths_31 rfl ?_
        refine V_iconst hE dX4_sumInSixths_32 ?_
        refine V_isub hE dX4_sumInSixths_33 ?_
        refine V_iaload hE dX4_sumInSixths_34 rfl (by omega) ?_
        refine V_iadd hE dX4_sumInSixths_35 ?_
        refine V_istore_n hE dX4_sumInSixths_36 rfl ?_
        refine V_iconst hE dX4_sumInSixths_37 ?_
        refine V_istore hE dX4_sumInSixths_38 rfl ?_
        have eo : oddOf n0 = (if n0 % 2 = 1 then n0 else n0 - 1) := rfl
        have h := lp_X4_sumInSixths_40_11 hn hE hR 100 1 _ (by omega) (by unfold oddOf; omega) rfl
        first | rw [if_pos (by omega)] at eo | rw [if_neg (by omega)] at eo
        rw [eo] at h
        simp only [Int.sub_self, Int.toNat_zero, thS, Int.add_zero] at h
        exact h
    · exfalso; omega
set_option maxRecDepth 100000 in
set_option maxHeartbeats 4000000 in
theorem lp_X4_sumInSixths_40_7 {K : Ctx} {E : ME} {σ : Sto} {n0 : Int} (hn : 4 ≤ n0 ∧ n0 ≤ 9) (hE : Ok K E mX4_sumInSixths 0) (hR : RetI K E mX4_sumInSixths (fun r σ' => r = sx (σ 7) n0 ∧ σ' = σ)) : ∀ (n : Nat) (i a : Int), 9 - i < n → (1 ≤ i ∧ i ≤ oddOf n0 - 1) → (a = σ 7 0 + σ 7 (oddOf n0 - 1).toNat + thS (σ 7) (i - 1).toNat) → V K E mX4_sumInSixths 40 [some (.ref (kA K 7)), some (.int (i32 n0)), some (.int (i32 (oddOf n0))), some (.int (i32 a)), some (.int (i32 i))] [] σ := by
  intro n
  induction n with
  | zero =>
    intro i a hm hi ha
    exfalso; unfold oddOf at hi; omega
  | succ n ih =>
    intro i a hm hi ha
    have ho : oddOf n0 = n0 ∨ oddOf n0 = n0 - 1 := by unfold oddOf; omega
    have ho2 : 3 ≤ oddOf n0 := by unfold oddOf; omega
    refine V_iload hE dX4_sumInSixths_40 rfl ?_
    refine V_iload_n hE dX4_sumInSixths_42 rfl ?_
    refine V_iconst hE dX4_sumInSixths_43 ?_
    refine V_isub hE dX4_sumInSixths_44 ?_
    refine V_icmp_ge hE 74 dX4_sumInSixths_45 (by decide) (by omega) (fun h45 => ?_) (fun h45 => ?_)
    · have ei : i = oddOf n0 - 1 := by omega
      subst ei
      subst ha
      refine V_iconst hE dX4_sumInSixths_74 ?_
      refine V_iload_n hE dX4_sumInSixths_75 rfl ?_
      refine V_imul hE dX4_sumInSixths_76 ?_
      refine V_istore hE dX4_sumInSixths_77 rfl ?_
      refine V_iload_n hE dX4_sumInSixths_79 rfl ?_
      refine V_iload_n hE dX4_sumInSixths_80 rfl ?_
      refine V_icmp_ne hE 89 dX4_sumInSixths_81 (by decide) (by omega) (fun h81 => ?_) (fun h81 => ?_)
      · refine V_iload hE dX4_sumInSixths_89 rfl ?_
        refine V_iconst hE dX4_sumInSixths_91 ?_
        refine V_aload_n hE dX4_sumInSixths_92 rfl ?_
        refine V_iload_n hE dX4_sumInSixths_93 rfl ?_
        refine V_iconst hE dX4_sumInSixths_94 ?_
        refine V_isub hE dX4_sumInSixths_95 ?_
        refine V_iaload hE dX4_sumInSixths_96 rfl (by omega) ?_
        refine V_aload_n hE dX4_sumInSixths_97 rfl ?_
        refine V_iload_n hE dX4_sumInSixths_98 rfl ?_
        refine V_iconst hE dX4_sumInSixths_99 ?_
        refine V_isub hE dX4_sumInSixths_100 ?_
        refine V_iaload hE dX4_sumInSixths_101 rfl (by omega) ?_
        refine V_iadd hE dX4_sumInSixths_102 ?_
        refine V_imul hE dX4_sumInSixths_103 ?_
        refine V_iadd hE dX4_sumInSixths_104 ?_
        refine V_ireturn hR dX4_sumInSixths_105 ?_
        first | exact ⟨by rw [thS_sx _ hn]; exact (if_pos (by assumption)).symm, rfl⟩ | exact ⟨by rw [thS_sx _ hn]; exact (if_neg (by assumption)).symm, rfl⟩
      · refine V_iload hE dX4_sumInSixths_84 rfl ?_
        refine V_goto hE 105 dX4_sumInSixths_86 (by decide) ?_
        refine V_ireturn hR dX4_sumInSixths_105 ?_
        first | exact ⟨by rw [thS_sx _ hn]; exact (if_pos (by assumption)).symm, rfl⟩ | exact ⟨by rw [thS_sx _ hn]; exact (if_neg (by assumption)).symm, rfl⟩
    · refine V_iload_n hE dX4_sumInSixths_48 rfl ?_
      refine V_iload hE dX4_sumInSixths_49 rfl ?_
      refine V_iconst hE dX4_sumInSixths_51 ?_
      refine V_irem hE dX4_sumInSixths_52 (by omega) (by omega) ?_
      refine V_if_ne hE 60 dX4_sumInSixths_53 (by decide) (by omega) (fun h53 => ?_) (fun h53 => ?_)
      · refine V_iconst hE dX4_sumInSixths_60 ?_
        refine V_aload_n hE dX4_sumInSixths_61 rfl ?_
        refine V_iload hE dX4_sumInSixths_62 rfl ?_
        refine V_iaload hE dX4_sumInSixths_64 rfl (by omega) ?_
        refine V_imul hE dX4_sumInSixths_65 ?_
        refine V_iadd hE dX4_sumInSixths_66 ?_
        refine V_istore_n hE dX4_sumInSixths_67 rfl ?_
        refine V_iinc hE dX4_sumInSixths_68 rfl rfl ?_
        refine V_goto hE 40 dX4_sumInSixths_71 (by decide) ?_
        refine ih _ _ (by omega) (by omega) ?_
        rw [thS_step _ (by omega), ha]
        first
          | (rw [if_pos (by assumption)]; omega)
          | (rw [if_neg (by assumption)]; omega)
      · refine V_iconst hE dX4_sumInSixths_56 ?_
        refine V_goto hE 61 dX4_sumInSixths_57 (by decide) ?_
        refine V_aload_n hE dX4_sumInSixths_61 rfl ?_
        refine V_iload hE dX4_sumInSixths_62 rfl ?_
        refine V_iaload hE dX4_sumInSixths_64 rfl (by omega) ?_
        refine V_imul hE dX4_sumInSixths_65 ?_
        refine V_iadd hE dX4_sumInSixths_66 ?_
        refine V_istore_n hE dX4_sumInSixths_67 rfl ?_
        refine V_iinc hE dX4_sumInSixths_68 rfl rfl ?_
        refine V_goto hE 40 dX4_sumInSixths_71 (by decide) ?_
        refine ih _ _ (by omega) (by omega) ?_
        rw [thS_step _ (by omega), ha]
        first
          | (rw [if_pos (by assumption)]; omega)
          | (rw [if_neg (by assumption)]; omega)
set_option maxRecDepth 100000 in
set_option maxHeartbeats 4000000 in
theorem c_X4_sumInSixths_7 {K : Ctx} {σ : Sto} {n0 : Int} (hn : 4 ≤ n0 ∧ n0 ≤ 9) : CtI K mX4_sumInSixths 0 [.ref (kA K 7), .int (i32 n0)] σ (fun r σ' => r = sx (σ 7) n0 ∧ σ' = σ) := by
  refine CtI_of (L := [some (.ref (kA K 7)), some (.int (i32 n0)), none, none, none]) (by decide) rfl rfl rfl ?_
  intro E hE hR
  refine V_iload_n hE dX4_sumInSixths_0 rfl ?_
  refine V_iconst hE dX4_sumInSixths_1 ?_
  refine V_icmp_lt hE 11 dX4_sumInSixths_2 (by decide) (by omega) (fun h2 => ?_) (fun h2 => ?_)
  · exfalso; omega
  · refine V_iload_n hE dX4_sumInSixths_5 rfl ?_
    refine V_aload_n hE dX4_sumInSixths_6 rfl ?_
    refine V_alen hE dX4_sumInSixths_7 rfl (by decide) ?_
    refine V_icmp_le hE 13 dX4_sumInSixths_8 (by decide) (by omega) (fun h8 => ?_) (fun h8 => ?_)
    · refine V_iload_n hE dX4_sumInSixths_13 rfl ?_
      refine V_iconst hE dX4_sumInSixths_14 ?_
      refine V_irem hE dX4_sumInSixths_15 (by omega) (by omega) ?_
      refine V_if_ne hE 25 dX4_sumInSixths_16 (by decide) (by omega) (fun h16 => ?_) (fun h16 => ?_)
      · refine V_iload_n hE dX4_sumInSixths_25 rfl ?_
        refine V_istore_n hE dX4_sumInSixths_26 rfl ?_
        refine V_aload_n hE dX4_sumInSixths_27 rfl ?_
        refine V_iconst hE dX4_sumInSixths_28 ?_
        refine V_iaload hE dX4_sumInSixths_29 rfl (by omega) ?_
        rw [show Int.toNat 0 = 0 from rfl]
        refine V_aload_n hE dX4_sumInSixths_30 rfl ?_
        refine V_iload_n hE dX4_sumInSixths_31 rfl ?_
        refine V_iconst hE dX4_sumInSixths_32 ?_
        refine V_isub hE dX4_sumInSixths_33 ?_
        refine V_iaload hE dX4_sumInSixths_34 rfl (by omega) ?_
        refine V_iadd hE dX4_sumInSixths_35 ?_
        refine V_istore_n hE dX4_sumInSixths_36 rfl ?_
        refine V_iconst hE dX4_sumInSixths_37 ?_
        refine V_istore hE dX4_sumInSixths_38 rfl ?_
        have eo : oddOf n0 = (if n0 % 2 = 1 then n0 else n0 - 1) := rfl
        have h := lp_X4_sumInSixths_40_7 hn hE hR 100 1 _ (by omega) (by unfold oddOf; omega) rfl
        first | rw [if_pos (by omega)] at eo | rw [if_neg (by omega)] at eo
        rw [eo] at h
        simp only [Int.sub_self, Int.toNat_zero, thS, Int.add_zero] at h
        exact h
      · refine V_iload_n hE dX4_sumInSixths_19 rfl ?_
        refine V_iconst hE dX4_sumInSixths_20 ?_
        refine V_isub hE dX4_sumInSixths_21 ?_
        refine V_goto hE 26 dX4_sumInSixths_22 (by decide) ?_
        refine V_istore_n hE dX4_sumInSixths_26 rfl ?_
        refine V_aload_n hE dX4_sumInSixths_27 rfl ?_
        refine V_iconst hE dX4_sumInSixths_28 ?_
        refine V_iaload hE dX4_sumInSixths_29 rfl (by omega) ?_
        rw [show Int.toNat 0 = 0 from rfl]
        refine V_aload_n hE dX4_sumInSixths_30 rfl ?_
        refine V_iload_n hE dX4_sumInSixths_31 rfl ?_
        refine V_iconst hE dX4_sumInSixths_32 ?_
        refine V_isub hE dX4_sumInSixths_33 ?_
        refine V_iaload hE dX4_sumInSixths_34 rfl (by omega) ?_
        refine V_iadd hE dX4_sumInSixths_35 ?_
        refine V_istore_n hE dX4_sumInSixths_36 rfl ?_
        refine V_iconst hE dX4_sumInSixths_37 ?_
        refine V_istore hE dX4_sumInSixths_38 rfl ?_
        have eo : oddOf n0 = (if n0 % 2 = 1 then n0 else n0 - 1) := rfl
        have h := lp_X4_sumInSixths_40_7 hn hE hR 100 1 _ (by omega) (by unfold oddOf; omega) rfl
        first | rw [if_pos (by omega)] at eo | rw [if_neg (by omega)] at eo
        rw [eo] at h
        simp only [Int.sub_self, Int.toNat_zero, thS, Int.add_zero] at h
        exact h
    · exfalso; omega
set_option maxRecDepth 100000 in
set_option maxHeartbeats 4000000 in
theorem c_X0_put {K : Ctx} {σ : Sto} {c v : Int} (hc : 0 ≤ c ∧ c < 63) : CtI K mX0_put 0 [.ref (kA K 1), .int (i32 c), .int (i32 v)] σ (fun r σ' => r = σ 8 c.toNat ∧ σ' = up (up σ 8 c.toNat v) 9 c.toNat v) := by
  refine CtI_of (L := [some (.ref (kA K 1)), some (.int (i32 c)), some (.int (i32 v)), none]) (by decide) rfl rfl rfl ?_
  intro E hE hR
  refine V_aload_n hE dX0_put_0 rfl ?_
  refine gf_X0_9 hE rfl dX0_put_1 ?_
  refine V_iload_n hE dX0_put_4 rfl ?_
  refine V_iaload hE dX0_put_5 rfl (by omega) ?_
  refine V_istore_n hE dX0_put_6 rfl ?_
  refine V_aload_n hE dX0_put_7 rfl ?_
  refine gf_X0_9 hE rfl dX0_put_8 ?_
  refine V_iload_n hE dX0_put_11 rfl ?_
  refine V_iload_n hE dX0_put_12 rfl ?_
  refine V_iastore hE dX0_put_13 rfl (by omega) ?_
  refine V_aload_n hE dX0_put_14 rfl ?_
  refine gf_X0_15 hE rfl dX0_put_15 ?_
  refine V_iload_n hE dX0_put_18 rfl ?_
  refine V_iload_n hE dX0_put_19 rfl ?_
  refine V_iastore hE dX0_put_20 rfl (by omega) ?_
  refine V_iload_n hE dX0_put_21 rfl ?_
  refine V_ireturn hR dX0_put_22 ?_
  exact ⟨rfl, rfl⟩
set_option maxRecDepth 100000 in
set_option maxHeartbeats 4000000 in
theorem c_X0_hasPoint {K : Ctx} {σ : Sto} {s l : Int} (hI : IC σ) (hs : InI s ∧ InI l) : CtI K mX0_hasPoint 0 [.ref (kA K 1), .int (i32 s), .int (i32 l)] σ (fun r σ' => r = (if 0 ≤ s ∧ s < σ 100 0 ∧ 0 ≤ l ∧ l < σ 101 0 then 1 else 0) ∧ σ' = σ) := by
  obtain ⟨hS, hW, hB, hRe, hLo, hHi, hO, hPu, hHe, hSc⟩ := id hI
  refine CtZ_of (L := [some (.ref (kA K 1)), some (.int (i32 s)), some (.int (i32 l))]) (by decide) rfl rfl rfl ?_
  intro E hE hR
  refine V_iload_n hE dX0_hasPoint_0 rfl ?_
  refine V_if_lt hE 28 dX0_hasPoint_1 (by decide) (by omega) (fun h1 => ?_) (fun h1 => ?_)
  · refine V_iconst hE dX0_hasPoint_28 ?_
    refine V_zreturn hR dX0_hasPoint_29 (by omega) ?_
    exact ⟨by omega, rfl⟩
  · refine V_iload_n hE dX0_hasPoint_4 rfl ?_
    refine V_aload_n hE dX0_hasPoint_5 rfl ?_
    refine gf_X0_22 hE rfl dX0_hasPoint_6 ?_
    refine V_icmp_ge hE 28 dX0_hasPoint_9 (by decide) (by omega) (fun h9 => ?_) (fun h9 => ?_)
    · refine V_iconst hE dX0_hasPoint_28 ?_
      refine V_zreturn hR dX0_hasPoint_29 (by omega) ?_
      exact ⟨by omega, rfl⟩
    · refine V_iload_n hE dX0_hasPoint_12 rfl ?_
      refine V_if_lt hE 28 dX0_hasPoint_13 (by decide) (by omega) (fun h13 => ?_) (fun h13 => ?_)
      · refine V_iconst hE dX0_hasPoint_28 ?_
        refine V_zreturn hR dX0_hasPoint_29 (by omega) ?_
        exact ⟨by omega, rfl⟩
      · refine V_iload_n hE dX0_hasPoint_16 rfl ?_
        refine V_aload_n hE dX0_hasPoint_17 rfl ?_
        refine gf_X0_26 hE rfl dX0_hasPoint_18 ?_
        refine V_icmp_ge hE 28 dX0_hasPoint_21 (by decide) (by omega) (fun h21 => ?_) (fun h21 => ?_)
        · refine V_iconst hE dX0_hasPoint_28 ?_
          refine V_zreturn hR dX0_hasPoint_29 (by omega) ?_
          exact ⟨by omega, rfl⟩
        · refine V_iconst hE dX0_hasPoint_24 ?_
          refine V_goto hE 29 dX0_hasPoint_25 (by decide) ?_
          refine V_zreturn hR dX0_hasPoint_29 (by omega) ?_
          exact ⟨by omega, rfl⟩
set_option maxRecDepth 100000 in
set_option maxHeartbeats 4000000 in
theorem c_X0_linesOf {K : Ctx} {σ : Sto} {v : Int} (hv : v = 0 ∨ v = 1) : CtI K mX0_linesOf 0 [.ref (kA K 1), .int (i32 v)] σ (fun r σ' => r = (if v = 0 then σ 101 0 else σ 100 0) ∧ σ' = σ) := by
  refine CtI_of (L := [some (.ref (kA K 1)), some (.int (i32 v))]) (by decide) rfl rfl rfl ?_
  intro E hE hR
  refine V_iload_n hE dX0_linesOf_0 rfl ?_
  refine V_iconst hE dX0_linesOf_1 ?_
  refine V_icmp_ne hE 12 dX0_linesOf_2 (by decide) (by omega) (fun h2 => ?_) (fun h2 => ?_)
  · refine V_aload_n hE dX0_linesOf_12 rfl ?_
    refine gf_X0_26 hE rfl dX0_linesOf_13 ?_
    refine V_ireturn hR dX0_linesOf_16 ?_
    exact ⟨by omega, rfl⟩
  · refine V_aload_n hE dX0_linesOf_5 rfl ?_
    refine gf_X0_22 hE rfl dX0_linesOf_6 ?_
    refine V_goto hE 16 dX0_linesOf_9 (by decide) ?_
    refine V_ireturn hR dX0_linesOf_16 ?_
    exact ⟨by omega, rfl⟩
set_option maxRecDepth 100000 in
set_option maxHeartbeats 4000000 in
theorem c_X0_pointsOf {K : Ctx} {σ : Sto} {v : Int} (hv : v = 0 ∨ v = 1) : CtI K mX0_pointsOf 0 [.ref (kA K 1), .int (i32 v)] σ (fun r σ' => r = (if v = 0 then σ 100 0 else σ 101 0) ∧ σ' = σ) := by
  refine CtI_of (L := [some (.ref (kA K 1)), some (.int (i32 v))]) (by decide) rfl rfl rfl ?_
  intro E hE hR
  refine V_iload_n hE dX0_pointsOf_0 rfl ?_
  refine V_iconst hE dX0_pointsOf_1 ?_
  refine V_icmp_ne hE 12 dX0_pointsOf_2 (by decide) (by omega) (fun h2 => ?_) (fun h2 => ?_)
  · refine V_aload_n hE dX0_pointsOf_12 rfl ?_
    refine gf_X0_22 hE rfl dX0_pointsOf_13 ?_
    refine V_ireturn hR dX0_pointsOf_16 ?_
    exact ⟨by omega, rfl⟩
  · refine V_aload_n hE dX0_pointsOf_5 rfl ?_
    refine gf_X0_26 hE rfl dX0_pointsOf_6 ?_
    refine V_goto hE 16 dX0_pointsOf_9 (by decide) ?_
    refine V_ireturn hR dX0_pointsOf_16 ?_
    exact ⟨by omega, rfl⟩
set_option maxRecDepth 100000 in
set_option maxHeartbeats 4000000 in
theorem c_X0_cell {K : Ctx} {σ : Sto} {v k i : Int} (hv : v = 0 ∨ v = 1) : CtI K mX0_cell 1 [.ref (kA K 1), .int (i32 v), .int (i32 k), .int (i32 i)] σ (fun r σ' => r = pt v k i ∧ σ' = σ) := by
  refine CtI_of (L := [some (.ref (kA K 1)), some (.int (i32 v)), some (.int (i32 k)), some (.int (i32 i))]) (by decide) rfl rfl rfl ?_
  intro E hE hR
  refine V_iload_n hE dX0_cell_0 rfl ?_
  refine V_iconst hE dX0_cell_1 ?_
  refine V_icmp_ne hE 13 dX0_cell_2 (by decide) (by omega) (fun h2 => ?_) (fun h2 => ?_)
  · refine V_iload_n hE dX0_cell_13 rfl ?_
    refine V_iload_n hE dX0_cell_14 rfl ?_
    refine cf_X0_29 hE rfl dX0_cell_15 (c_X4_cellOf) rfl rfl ?_
    refine V_ireturn hR dX0_cell_18 ?_
    exact ⟨by unfold pt; omega, rfl⟩
  · refine V_iload_n hE dX0_cell_5 rfl ?_
    refine V_iload_n hE dX0_cell_6 rfl ?_
    refine cf_X0_29 hE rfl dX0_cell_7 (c_X4_cellOf) rfl rfl ?_
    refine V_goto hE 18 dX0_cell_10 (by decide) ?_
    refine V_ireturn hR dX0_cell_18 ?_
    exact ⟨by unfold pt; omega, rfl⟩
set_option maxRecDepth 100000 in
set_option maxHeartbeats 4000000 in
theorem c_X0_movedBy {K : Ctx} {σ : Sto} {c : Int} (hc : 0 ≤ c ∧ c < 63) : CtI K mX0_movedBy 0 [.ref (kA K 1), .int (i32 c)] σ (fun r σ' => r = σ 8 c.toNat - σ 9 c.toNat ∧ σ' = σ) := by
  refine CtI_of (L := [some (.ref (kA K 1)), some (.int (i32 c))]) (by decide) rfl rfl rfl ?_
  intro E hE hR
  refine V_aload_n hE dX0_movedBy_0 rfl ?_
  refine gf_X0_9 hE rfl dX0_movedBy_1 ?_
  refine V_iload_n hE dX0_movedBy_4 rfl ?_
  refine V_iaload hE dX0_movedBy_5 rfl (by omega) ?_
  refine V_aload_n hE dX0_movedBy_6 rfl ?_
  refine gf_X0_15 hE rfl dX0_movedBy_7 ?_
  refine V_iload_n hE dX0_movedBy_10 rfl ?_
  refine V_iaload hE dX0_movedBy_11 rfl (by omega) ?_
  refine V_isub hE dX0_movedBy_12 ?_
  refine V_ireturn hR dX0_movedBy_13 ?_
  exact ⟨rfl, rfl⟩
set_option maxRecDepth 100000 in
set_option maxHeartbeats 4000000 in
theorem lp_X0_layOut_12 {K : Ctx} {E : ME} {σ : Sto} {v k : Int} (hI : IC σ) (hv : (v = 0 ∨ v = 1) ∧ 0 ≤ k ∧ k < (if v = 0 then σ 101 0 else σ 100 0)) (hE : Ok K E mX0_layOut 2) (hR : RetV K E mX0_layOut (fun σ' => LayC σ v k σ')) : ∀ (n : Nat) (i : Int) (σ1 : Sto), (if v = 0 then σ 100 0 else σ 101 0) - i < n → (0 ≤ i ∧ i ≤ (if v = 0 then σ 100 0 else σ 101 0)) → (Fr [102, 11] σ σ1) → (σ1 102 0 = (if v = 0 then σ 100 0 else σ 101 0)) → (∀ j : Nat, (j : Int) < i → σ1 11 j = lnf (σ 8) v k j) → (Rng (σ1 11)) → V K E mX0_layOut 12 [some (.ref (kA K 1)), some (.int (i32 v)), some (.int (i32 k)), some (.ref (kA K 2)), some (.int (i32 i))] [] σ1 := by
  intro n
  induction n with
  | zero =>
    intro i σ1 hm hi hF h102 hj hr
    exfalso; omega
  | succ n ih =>
    intro i σ1 hm hi hF h102 hj hr
    obtain ⟨hS, hW, hB, hRe, hLo, hHi, hO, hPu, hHe, hSc⟩ := id hI
    have hpt : i < (if v = 0 then σ 100 0 else σ 101 0) → 0 ≤ pt v k i ∧ pt v k i < 63 := by intro h; unfold pt; split <;> omega
    refine V_iload hE dX0_layOut_12 rfl ?_
    refine V_aload_n hE dX0_layOut_14 rfl ?_
    refine gf_X0_37 hE rfl dX0_layOut_15 ?_
    refine V_icmp_ge hE 47 dX0_layOut_18 (by decide) (by omega) (fun h18 => ?_) (fun h18 => ?_)
    · refine V_return hR dX0_layOut_47 ?_
      exact ⟨hF, h102, fun j hj1 => hj j (by omega), hr⟩
    · refine V_aload_n hE dX0_layOut_21 rfl ?_
      refine gf_X0_42 hE rfl dX0_layOut_22 ?_
      refine V_iload hE dX0_layOut_25 rfl ?_
      refine V_aload_n hE dX0_layOut_27 rfl ?_
      refine gf_X0_9 hE rfl dX0_layOut_28 ?_
      refine V_aload_n hE dX0_layOut_31 rfl ?_
      refine V_iload_n hE dX0_layOut_32 rfl ?_
      refine V_iload_n hE dX0_layOut_33 rfl ?_
      refine V_iload hE dX0_layOut_34 rfl ?_
      refine cf_X0_43 hE rfl dX0_layOut_36 (c_X0_cell hv.1) rfl rfl ?_
      refine V_iaload hE dX0_layOut_39 rfl (hpt (by omega)) ?_
      refine V_iastore hE dX0_layOut_40 rfl (by omega) ?_
      refine V_iinc hE dX0_layOut_41 rfl rfl ?_
      refine V_goto hE 12 dX0_layOut_44 (by decide) ?_
      have e8 : σ1 8 = σ 8 := hF 8 (by decide)
      refine ih _ _ (by omega) (by omega) (Fr_up hF (by decide)) ?_ ?_ ?_
      · simpa [up] using h102
      · intro j hj1
        rw [up_at]
        by_cases e : j = i.toNat
        · rw [if_pos e, e, e8]; unfold lnf; rw [show ((i.toNat : Nat) : Int) = i by omega]
        · rw [if_neg e]; exact hj j (by omega)
      · refine Rng_up hr ?_
        rw [e8]; exact hO _
set_option maxRecDepth 100000 in
set_option maxHeartbeats 4000000 in
theorem c_X0_layOut {K : Ctx} {σ : Sto} {v k : Int} (hI : IC σ) (hv : (v = 0 ∨ v = 1) ∧ 0 ≤ k ∧ k < (if v = 0 then σ 101 0 else σ 100 0)) : CtV K mX0_layOut 2 [.ref (kA K 1), .int (i32 v), .int (i32 k), .ref (kA K 2)] σ (fun σ' => LayC σ v k σ') := by
  obtain ⟨hS, hW, hB, hRe, hLo, hHi, hO, hPu, hHe, hSc⟩ := id hI
  refine CtV_of (L := [some (.ref (kA K 1)), some (.int (i32 v)), some (.int (i32 k)), some (.ref (kA K 2)), none]) (by decide) rfl rfl rfl ?_
  intro E hE hR
  refine V_aload_n hE dX0_layOut_0 rfl ?_
  refine V_aload_n hE dX0_layOut_1 rfl ?_
  refine V_iload_n hE dX0_layOut_2 rfl ?_
  refine cf_X0_33 hE rfl dX0_layOut_3 (c_X0_pointsOf hv.1) rfl rfl ?_
  refine pf_X0_37 hE rfl dX0_layOut_6 ?_
  refine V_iconst hE dX0_layOut_9 ?_
  refine V_istore hE dX0_layOut_10 rfl ?_
  refine lp_X0_layOut_12 hI hv hE hR 100 0 _ (by omega) (by omega) (Fr_up Fr_rf (by decide)) ?_ (fun j hj => by omega) ?_
  · simp [up]
  · rw [up_ne _ _ _ (by decide : 11 ≠ 102)]; exact hSc.1
set_option maxRecDepth 100000 in
set_option maxHeartbeats 4000000 in
theorem lp_X0_farFromPuts_4 {K : Ctx} {E : ME} {σ : Sto} (hI : IC σ) (hE : Ok K E mX0_farFromPuts 1) (hR : RetI K E mX0_farFromPuts (fun r σ' => r = farS (σ 8) (σ 9) ∧ σ' = σ)) : ∀ (n : Nat) (i : Int) (a : Int), 63 - i < n → (0 ≤ i ∧ i ≤ 63) → (a = fsum (fun i => (((σ 8 i - σ 9 i).natAbs : Nat) : Int)) i.toNat) → V K E mX0_farFromPuts 4 [some (.ref (kA K 1)), some (.int (i32 a)), some (.int (i32 i))] [] σ := by
  intro n
  induction n with
  | zero =>
    intro i a hm hi ha
    exfalso; omega
  | succ n ih =>
    intro i a hm hi ha
    obtain ⟨hS, hW, hB, hRe, hLo, hHi, hO, hPu, hHe, hSc⟩ := id hI
    have h9 := hO i.toNat
    have h8 := hPu i.toNat
    refine V_iload_n hE dX0_farFromPuts_4 rfl ?_
    refine V_bipush hE dX0_farFromPuts_5 (by decide) ?_
    refine V_icmp_ge hE 27 dX0_farFromPuts_7 (by decide) (by omega) (fun h7 => ?_) (fun h7 => ?_)
    · refine V_iload_n hE dX0_farFromPuts_27 rfl ?_
      refine V_ireturn hR dX0_farFromPuts_28 ?_
      exact ⟨by rw [ha, show i = 63 by omega]; rfl, rfl⟩
    · refine V_iload_n hE dX0_farFromPuts_10 rfl ?_
      refine V_aload_n hE dX0_farFromPuts_11 rfl ?_
      refine V_iload_n hE dX0_farFromPuts_12 rfl ?_
      refine cf_X0_47 hE rfl dX0_farFromPuts_13 (c_X0_movedBy (by omega)) rfl rfl ?_
      refine V_abs hE tw_ml_X0_50 dX0_farFromPuts_16 rfl rfl (by omega) ?_
      refine V_iadd hE dX0_farFromPuts_19 ?_
      refine V_istore_n hE dX0_farFromPuts_20 rfl ?_
      refine V_iinc hE dX0_farFromPuts_21 rfl rfl ?_
      refine V_goto hE 4 dX0_farFromPuts_24 (by decide) ?_
      exact ih _ _ (by omega) (by omega) (by rw [fsum_step _ (by omega), ← ha])
set_option maxRecDepth 100000 in
set_option maxHeartbeats 4000000 in
theorem c_X0_farFromPuts {K : Ctx} {σ : Sto} (hI : IC σ) : CtI K mX0_farFromPuts 1 [.ref (kA K 1)] σ (fun r σ' => r = farS (σ 8) (σ 9) ∧ σ' = σ) := by
  refine CtI_of (L := [some (.ref (kA K 1)), none, none]) (by decide) rfl rfl rfl ?_
  intro E hE hR
  refine V_iconst hE dX0_farFromPuts_0 ?_
  refine V_istore_n hE dX0_farFromPuts_1 rfl ?_
  refine V_iconst hE dX0_farFromPuts_2 ?_
  refine V_istore_n hE dX0_farFromPuts_3 rfl ?_
  exact lp_X0_farFromPuts_4 hI hE hR 100 0 0 (by omega) (by omega) rfl
set_option maxRecDepth 100000 in
set_option maxHeartbeats 4000000 in
theorem lp_X0_countHeld_4 {K : Ctx} {E : ME} {σ : Sto} (hI : IC σ) (hE : Ok K E mX0_countHeld 0) (hR : RetI K E mX0_countHeld (fun r σ' => r = heldS (σ 10) ∧ σ' = σ)) : ∀ (n : Nat) (i : Int) (a : Int), 63 - i < n → (0 ≤ i ∧ i ≤ 63) → (a = cnt (fun i => decide (σ 10 i ≠ 0)) i.toNat) → V K E mX0_countHeld 4 [some (.ref (kA K 1)), some (.int (i32 a)), some (.int (i32 i))] [] σ := by
  intro n
  induction n with
  | zero =>
    intro i a hm hi ha
    exfalso; omega
  | succ n ih =>
    intro i a hm hi ha
    obtain ⟨hS, hW, hB, hRe, hLo, hHi, hO, hPu, hHe, hSc⟩ := id hI
    have h9 := hHe i.toNat
    refine V_iload_n hE dX0_countHeld_4 rfl ?_
    refine V_bipush hE dX0_countHeld_5 (by decide) ?_
    refine V_icmp_ge hE 28 dX0_countHeld_7 (by decide) (by omega) (fun h7 => ?_) (fun h7 => ?_)
    · refine V_iload_n hE dX0_countHeld_28 rfl ?_
      refine V_ireturn hR dX0_countHeld_29 ?_
      exact ⟨by rw [ha, show i = 63 by omega]; rfl, rfl⟩
    · refine V_aload_n hE dX0_countHeld_10 rfl ?_
      refine gf_X0_18 hE rfl dX0_countHeld_11 ?_
      refine V_iload_n hE dX0_countHeld_14 rfl ?_
      refine V_baload hE dX0_countHeld_15 rfl (by omega) ?_
      refine V_if_eq hE 22 dX0_countHeld_16 (by decide) (by omega) (fun h16 => ?_) (fun h16 => ?_)
      · refine V_iinc hE dX0_countHeld_22 rfl rfl ?_
        refine V_goto hE 4 dX0_countHeld_25 (by decide) ?_
        exact ih _ _ (by omega) (by omega) (by rw [cnt_step _ (by omega), ← ha]; simp [h16])
      · refine V_iinc hE dX0_countHeld_19 rfl rfl ?_
        refine V_iinc hE dX0_countHeld_22 rfl rfl ?_
        refine V_goto hE 4 dX0_countHeld_25 (by decide) ?_
        exact ih _ _ (by omega) (by omega) (by rw [cnt_step _ (by omega), ← ha]; simp [h16])
set_option maxRecDepth 100000 in
set_option maxHeartbeats 4000000 in
theorem c_X0_countHeld {K : Ctx} {σ : Sto} (hI : IC σ) : CtI K mX0_countHeld 0 [.ref (kA K 1)] σ (fun r σ' => r = heldS (σ 10) ∧ σ' = σ) := by
  refine CtI_of (L := [some (.ref (kA K 1)), none, none]) (by decide) rfl rfl rfl ?_
  intro E hE hR
  refine V_iconst hE dX0_countHeld_0 ?_
  refine V_istore_n hE dX0_countHeld_1 rfl ?_
  refine V_iconst hE dX0_countHeld_2 ?_
  refine V_istore_n hE dX0_countHeld_3 rfl ?_
  exact lp_X0_countHeld_4 hI hE hR 100 0 0 (by omega) (by omega) rfl
set_option maxRecDepth 100000 in
set_option maxHeartbeats 4000000 in
theorem lp_X0_broadest_4 {K : Ctx} {E : ME} {σ : Sto} (hI : IC σ) (hE : Ok K E mX0_broadest 1) (hR : RetI K E mX0_broadest (fun r σ' => r = mxA (σ 8) 63 ∧ σ' = σ)) : ∀ (n : Nat) (i : Int) (a : Int), 63 - i < n → (0 ≤ i ∧ i ≤ 63) → (a = mxA (σ 8) i.toNat) → V K E mX0_broadest 4 [some (.ref (kA K 1)), some (.int (i32 a)), some (.int (i32 i))] [] σ := by
  intro n
  induction n with
  | zero =>
    intro i a hm hi ha
    exfalso; omega
  | succ n ih =>
    intro i a hm hi ha
    obtain ⟨hS, hW, hB, hRe, hLo, hHi, hO, hPu, hHe, hSc⟩ := id hI
    have h9 := hO i.toNat
    have h8 := mxA_rng hO i.toNat
    refine V_iload_n hE dX0_broadest_4 rfl ?_
    refine V_bipush hE dX0_broadest_5 (by decide) ?_
    refine V_icmp_ge hE 27 dX0_broadest_7 (by decide) (by omega) (fun h7 => ?_) (fun h7 => ?_)
    · refine V_iload_n hE dX0_broadest_27 rfl ?_
      refine V_ireturn hR dX0_broadest_28 ?_
      exact ⟨by rw [ha, show i = 63 by omega]; rfl, rfl⟩
    · refine V_iload_n hE dX0_broadest_10 rfl ?_
      refine V_aload_n hE dX0_broadest_11 rfl ?_
      refine gf_X0_9 hE rfl dX0_broadest_12 ?_
      refine V_iload_n hE dX0_broadest_15 rfl ?_
      refine V_iaload hE dX0_broadest_16 rfl (by omega) ?_
      refine V_max hE tw_ml_X0_55 dX0_broadest_17 rfl rfl (by omega) ?_
      refine V_istore_n hE dX0_broadest_20 rfl ?_
      refine V_iinc hE dX0_broadest_21 rfl rfl ?_
      refine V_goto hE 4 dX0_broadest_24 (by decide) ?_
      exact ih _ _ (by omega) (by omega) (by rw [mxA_step _ (by omega), ← ha])
set_option maxRecDepth 100000 in
set_option maxHeartbeats 4000000 in
theorem c_X0_broadest {K : Ctx} {σ : Sto} (hI : IC σ) : CtI K mX0_broadest 1 [.ref (kA K 1)] σ (fun r σ' => r = mxA (σ 8) 63 ∧ σ' = σ) := by
  refine CtI_of (L := [some (.ref (kA K 1)), none, none]) (by decide) rfl rfl rfl ?_
  intro E hE hR
  refine V_iconst hE dX0_broadest_0 ?_
  refine V_istore_n hE dX0_broadest_1 rfl ?_
  refine V_iconst hE dX0_broadest_2 ?_
  refine V_istore_n hE dX0_broadest_3 rfl ?_
  exact lp_X0_broadest_4 hI hE hR 100 0 0 (by omega) (by omega) rfl
set_option maxRecDepth 100000 in
set_option maxHeartbeats 4000000 in
theorem lp_X0_renew_12 {K : Ctx} {E : ME} {σ : Sto} {s l : Int} (hE : Ok K E mX0_renew 0) (hR : RetV K E mX0_renew (fun σ' => HullQC σ s l σ')) : ∀ (n : Nat) (i : Int) (σ1 : Sto), 63 - i < n → (0 ≤ i ∧ i ≤ 63) → (Fr [100, 101, 8, 9, 10] σ σ1) → (σ1 100 0 = s) → (σ1 101 0 = l) → (∀ j : Nat, σ1 8 j = if (j : Int) < i then 0 else σ 8 j) → (∀ j : Nat, σ1 9 j = if (j : Int) < i then 0 else σ 9 j) → (∀ j : Nat, σ1 10 j = if (j : Int) < i then 0 else σ 10 j) → V K E mX0_renew 12 [some (.ref (kA K 1)), some (.int (i32 s)), some (.int (i32 l)), some (.int (i32 i))] [] σ1 := by
  intro n
  induction n with
  | zero =>
    intro i σ1 hm hi hF h110 h111 h20 h21 h22
    exfalso; omega
  | succ n ih =>
    intro i σ1 hm hi hF h110 h111 h20 h21 h22
    refine V_iload_n hE dX0_renew_12 rfl ?_
    refine V_bipush hE dX0_renew_13 (by decide) ?_
    refine V_icmp_ge hE 45 dX0_renew_15 (by decide) (by omega) (fun h15 => ?_) (fun h15 => ?_)
    · refine V_return hR dX0_renew_45 ?_
      have e : i = 63 := by omega
      subst e
      refine ⟨hF, h110, h111, ?_, ?_, ?_⟩
      · funext j; rw [h20 j, lay0]; simp only [show ((j : Int) < 63) = (j < 63) from by simp; omega]
      · funext j; rw [h21 j, lay0]; simp only [show ((j : Int) < 63) = (j < 63) from by simp; omega]
      · funext j; rw [h22 j, lay0]; simp only [show ((j : Int) < 63) = (j < 63) from by simp; omega]
    · refine V_aload_n hE dX0_renew_18 rfl ?_
      refine gf_X0_9 hE rfl dX0_renew_19 ?_
      refine V_iload_n hE dX0_renew_22 rfl ?_
      refine V_iconst hE dX0_renew_23 ?_
      refine V_iastore hE dX0_renew_24 rfl (by omega) ?_
      refine V_aload_n hE dX0_renew_25 rfl ?_
      refine gf_X0_15 hE rfl dX0_renew_26 ?_
      refine V_iload_n hE dX0_renew_29 rfl ?_
      refine V_iconst hE dX0_renew_30 ?_
      refine V_iastore hE dX0_renew_31 rfl (by omega) ?_
      refine V_aload_n hE dX0_renew_32 rfl ?_
      refine gf_X0_18 hE rfl dX0_renew_33 ?_
      refine V_iload_n hE dX0_renew_36 rfl ?_
      refine V_iconst hE dX0_renew_37 ?_
      refine V_bastore hE dX0_renew_38 rfl (by omega) (Or.inl rfl) ?_
      refine V_iinc hE dX0_renew_39 rfl rfl ?_
      refine V_goto hE 12 dX0_renew_42 (by decide) ?_
      refine ih _ _ (by omega) (by omega) (Fr_up (Fr_up (Fr_up hF (by decide)) (by decide)) (by decide)) ?_ ?_ ?_ ?_ ?_
      · simpa [up] using h110
      · simpa [up] using h111
      · intro j
        have h9 := h20 j
        by_cases e : j = i.toNat
        · simp [up, e]; omega
        · simp [up, e]; rw [h9]; split <;> split <;> omega
      · intro j
        have h9 := h21 j
        by_cases e : j = i.toNat
        · simp [up, e]; omega
        · simp [up, e]; rw [h9]; split <;> split <;> omega
      · intro j
        have h9 := h22 j
        by_cases e : j = i.toNat
        · simp [up, e]; omega
        · simp [up, e]; rw [h9]; split <;> split <;> omega
set_option maxRecDepth 100000 in
set_option maxHeartbeats 4000000 in
theorem c_X0_renew {K : Ctx} {σ : Sto} {s l : Int} : CtV K mX0_renew 0 [.ref (kA K 1), .int (i32 s), .int (i32 l)] σ (fun σ' => HullQC σ s l σ') := by
  refine CtV_of (L := [some (.ref (kA K 1)), some (.int (i32 s)), some (.int (i32 l)), none]) (by decide) rfl rfl rfl ?_
  intro E hE hR
  refine V_aload_n hE dX0_renew_0 rfl ?_
  refine V_iload_n hE dX0_renew_1 rfl ?_
  refine pf_X0_22 hE rfl dX0_renew_2 ?_
  refine V_aload_n hE dX0_renew_5 rfl ?_
  refine V_iload_n hE dX0_renew_6 rfl ?_
  refine pf_X0_26 hE rfl dX0_renew_7 ?_
  refine V_iconst hE dX0_renew_10 ?_
  refine V_istore_n hE dX0_renew_11 rfl ?_
  refine lp_X0_renew_12 hE hR 100 0 _ (by omega) (by omega) (Fr_up (Fr_up Fr_rf (by decide)) (by decide)) ?_ ?_ ?_ ?_ ?_
  · simp [up]
  · simp [up]
  · intro j; simp [up]; omega
  · intro j; simp [up]; omega
  · intro j; simp [up]; omega
set_option maxRecDepth 100000 in
set_option maxHeartbeats 4000000 in
theorem c_X3_bendAt {K : Ctx} {σ : Sto} {i : Int} (hi : 1 ≤ i ∧ i ≤ 7) : CtI K mX3_bendAt 0 [.ref (kA K 2), .int (i32 i)] σ (fun r σ' => r = bd (σ 11) i ∧ σ' = σ) := by
  refine CtI_of (L := [some (.ref (kA K 2)), some (.int (i32 i))]) (by decide) rfl rfl rfl ?_
  intro E hE hR
  refine V_aload_n hE dX3_bendAt_0 rfl ?_
  refine gf_X3_9 hE rfl dX3_bendAt_1 ?_
  refine V_iload_n hE dX3_bendAt_4 rfl ?_
  refine V_iconst hE dX3_bendAt_5 ?_
  refine V_isub hE dX3_bendAt_6 ?_
  refine V_iaload hE dX3_bendAt_7 rfl (by omega) ?_
  refine V_aload_n hE dX3_bendAt_8 rfl ?_
  refine gf_X3_9 hE rfl dX3_bendAt_9 ?_
  refine V_iload_n hE dX3_bendAt_12 rfl ?_
  refine V_iconst hE dX3_bendAt_13 ?_
  refine V_iadd hE dX3_bendAt_14 ?_
  refine V_iaload hE dX3_bendAt_15 rfl (by omega) ?_
  refine V_iadd hE dX3_bendAt_16 ?_
  refine V_iconst hE dX3_bendAt_17 ?_
  refine V_aload_n hE dX3_bendAt_18 rfl ?_
  refine gf_X3_9 hE rfl dX3_bendAt_19 ?_
  refine V_iload_n hE dX3_bendAt_22 rfl ?_
  refine V_iaload hE dX3_bendAt_23 rfl (by omega) ?_
  refine V_imul hE dX3_bendAt_24 ?_
  refine V_isub hE dX3_bendAt_25 ?_
  refine V_ireturn hR dX3_bendAt_26 ?_
  exact ⟨rfl, rfl⟩
set_option maxRecDepth 100000 in
set_option maxHeartbeats 4000000 in
theorem c_X3_jumpAt {K : Ctx} {σ : Sto} {i : Int} (hi : 1 ≤ i ∧ i ≤ 6) : CtI K mX3_jumpAt 1 [.ref (kA K 2), .int (i32 i)] σ (fun r σ' => r = jm (σ 11) i ∧ σ' = σ) := by
  refine CtI_of (L := [some (.ref (kA K 2)), some (.int (i32 i))]) (by decide) rfl rfl rfl ?_
  intro E hE hR
  refine V_aload_n hE dX3_jumpAt_0 rfl ?_
  refine V_iload_n hE dX3_jumpAt_1 rfl ?_
  refine V_iconst hE dX3_jumpAt_2 ?_
  refine V_iadd hE dX3_jumpAt_3 ?_
  refine cf_X3_15 hE rfl dX3_jumpAt_4 (c_X3_bendAt (by omega)) rfl rfl ?_
  refine V_aload_n hE dX3_jumpAt_7 rfl ?_
  refine V_iload_n hE dX3_jumpAt_8 rfl ?_
  refine cf_X3_15 hE rfl dX3_jumpAt_9 (c_X3_bendAt (by omega)) rfl rfl ?_
  refine V_isub hE dX3_jumpAt_12 ?_
  refine V_ireturn hR dX3_jumpAt_13 ?_
  exact ⟨rfl, rfl⟩
set_option maxRecDepth 100000 in
set_option maxHeartbeats 4000000 in
theorem lp_X3_farthestJump_4 {K : Ctx} {E : ME} {σ : Sto} (hr : Rng (σ 11)) (hp : 4 ≤ σ 102 0 ∧ σ 102 0 ≤ 9) (hE : Ok K E mX3_farthestJump 2) (hR : RetI K E mX3_farthestJump (fun r σ' => r = fj (σ 11) (σ 102 0 - 3).toNat ∧ σ' = σ)) : ∀ (n : Nat) (i : Int) (a : Int), σ 102 0 - i < n → (1 ≤ i ∧ i ≤ σ 102 0 - 2) → (a = fj (σ 11) (i - 1).toNat) → V K E mX3_farthestJump 4 [some (.ref (kA K 2)), some (.int (i32 a)), some (.int (i32 i))] [] σ := by
  intro n
  induction n with
  | zero =>
    intro i a hm hi ha
    exfalso; omega
  | succ n ih =>
    intro i a hm hi ha
    have hj := jm_rng hr i
    have hf := fj_rng hr (i - 1).toNat
    refine V_iload_n hE dX3_farthestJump_4 rfl ?_
    refine V_aload_n hE dX3_farthestJump_5 rfl ?_
    refine gf_X3_19 hE rfl dX3_farthestJump_6 ?_
    refine V_iconst hE dX3_farthestJump_9 ?_
    refine V_isub hE dX3_farthestJump_10 ?_
    refine V_icmp_gt hE 33 dX3_farthestJump_11 (by decide) (by omega) (fun h11 => ?_) (fun h11 => ?_)
    · refine V_iload_n hE dX3_farthestJump_33 rfl ?_
      refine V_ireturn hR dX3_farthestJump_34 ?_
      exact ⟨by rw [ha, show i = σ 102 0 - 2 by omega, show (σ 102 0 - 2 - 1) = σ 102 0 - 3 by omega], rfl⟩
    · refine V_iload_n hE dX3_farthestJump_14 rfl ?_
      refine V_aload_n hE dX3_farthestJump_15 rfl ?_
      refine V_iload_n hE dX3_farthestJump_16 rfl ?_
      refine cf_X3_23 hE rfl dX3_farthestJump_17 (c_X3_jumpAt (by omega)) rfl rfl ?_
      refine V_abs hE tw_ml_X3_26 dX3_farthestJump_20 rfl rfl (by omega) ?_
      refine V_max hE tw_ml_X3_31 dX3_farthestJump_23 rfl rfl (by omega) ?_
      refine V_istore_n hE dX3_farthestJump_26 rfl ?_
      refine V_iinc hE dX3_farthestJump_27 rfl rfl ?_
      refine V_goto hE 4 dX3_farthestJump_30 (by decide) ?_
      exact ih _ _ (by omega) (by omega) (by rw [fj_step _ (by omega), ← ha])
set_option maxRecDepth 100000 in
set_option maxHeartbeats 4000000 in
theorem c_X3_farthestJump {K : Ctx} {σ : Sto} (hr : Rng (σ 11)) (hp : 4 ≤ σ 102 0 ∧ σ 102 0 ≤ 9) : CtI K mX3_farthestJump 2 [.ref (kA K 2)] σ (fun r σ' => r = fj (σ 11) (σ 102 0 - 3).toNat ∧ σ' = σ) := by
  refine CtI_of (L := [some (.ref (kA K 2)), none, none]) (by decide) rfl rfl rfl ?_
  intro E hE hR
  refine V_iconst hE dX3_farthestJump_0 ?_
  refine V_istore_n hE dX3_farthestJump_1 rfl ?_
  refine V_iconst hE dX3_farthestJump_2 ?_
  refine V_istore_n hE dX3_farthestJump_3 rfl ?_
  exact lp_X3_farthestJump_4 hr hp hE hR 100 1 0 (by omega) (by omega) rfl
set_option maxRecDepth 100000 in
set_option maxHeartbeats 4000000 in
theorem lp_X3_countJumpsBeyond_4 {K : Ctx} {E : ME} {σ : Sto} {b : Int} (hb : InI b) (hr : Rng (σ 11)) (hp : 4 ≤ σ 102 0 ∧ σ 102 0 ≤ 9) (hE : Ok K E mX3_countJumpsBeyond 2) (hR : RetI K E mX3_countJumpsBeyond (fun r σ' => r = rc (σ 11) b (σ 102 0 - 3).toNat ∧ σ' = σ)) : ∀ (n : Nat) (i : Int) (a : Int), σ 102 0 - i < n → (1 ≤ i ∧ i ≤ σ 102 0 - 2) → (a = rc (σ 11) b (i - 1).toNat) → V K E mX3_countJumpsBeyond 4 [some (.ref (kA K 2)), some (.int (i32 b)), some (.int (i32 a)), some (.int (i32 i))] [] σ := by
  intro n
  induction n with
  | zero =>
    intro i a hm hi ha
    exfalso; omega
  | succ n ih =>
    intro i a hm hi ha
    have hj := jm_rng hr i
    refine V_iload_n hE dX3_countJumpsBeyond_4 rfl ?_
    refine V_aload_n hE dX3_countJumpsBeyond_5 rfl ?_
    refine gf_X3_19 hE rfl dX3_countJumpsBeyond_6 ?_
    refine V_iconst hE dX3_countJumpsBeyond_9 ?_
    refine V_isub hE dX3_countJumpsBeyond_10 ?_
    refine V_icmp_gt hE 35 dX3_countJumpsBeyond_11 (by decide) (by omega) (fun h11 => ?_) (fun h11 => ?_)
    · refine V_iload_n hE dX3_countJumpsBeyond_35 rfl ?_
      refine V_ireturn hR dX3_countJumpsBeyond_36 ?_
      exact ⟨by rw [ha, show i = σ 102 0 - 2 by omega, show (σ 102 0 - 2 - 1) = σ 102 0 - 3 by omega], rfl⟩
    · refine V_aload_n hE dX3_countJumpsBeyond_14 rfl ?_
      refine V_iload_n hE dX3_countJumpsBeyond_15 rfl ?_
      refine cf_X3_23 hE rfl dX3_countJumpsBeyond_16 (c_X3_jumpAt (by omega)) rfl rfl ?_
      refine V_abs hE tw_ml_X3_26 dX3_countJumpsBeyond_19 rfl rfl (by omega) ?_
      refine V_iload_n hE dX3_countJumpsBeyond_22 rfl ?_
      refine V_icmp_le hE 29 dX3_countJumpsBeyond_23 (by decide) (by omega) (fun h23 => ?_) (fun h23 => ?_)
      · refine V_iinc hE dX3_countJumpsBeyond_29 rfl rfl ?_
        refine V_goto hE 4 dX3_countJumpsBeyond_32 (by decide) ?_
        exact ih _ _ (by omega) (by omega) (by rw [rc_step _ _ (by omega), ← ha]; omega)
      · refine V_iinc hE dX3_countJumpsBeyond_26 rfl rfl ?_
        refine V_iinc hE dX3_countJumpsBeyond_29 rfl rfl ?_
        refine V_goto hE 4 dX3_countJumpsBeyond_32 (by decide) ?_
        exact ih _ _ (by omega) (by omega) (by rw [rc_step _ _ (by omega), ← ha]; omega)
set_option maxRecDepth 100000 in
set_option maxHeartbeats 4000000 in
theorem c_X3_countJumpsBeyond {K : Ctx} {σ : Sto} {b : Int} (hb : InI b) (hr : Rng (σ 11)) (hp : 4 ≤ σ 102 0 ∧ σ 102 0 ≤ 9) : CtI K mX3_countJumpsBeyond 2 [.ref (kA K 2), .int (i32 b)] σ (fun r σ' => r = rc (σ 11) b (σ 102 0 - 3).toNat ∧ σ' = σ) := by
  refine CtI_of (L := [some (.ref (kA K 2)), some (.int (i32 b)), none, none]) (by decide) rfl rfl rfl ?_
  intro E hE hR
  refine V_iconst hE dX3_countJumpsBeyond_0 ?_
  refine V_istore_n hE dX3_countJumpsBeyond_1 rfl ?_
  refine V_iconst hE dX3_countJumpsBeyond_2 ?_
  refine V_istore_n hE dX3_countJumpsBeyond_3 rfl ?_
  exact lp_X3_countJumpsBeyond_4 hb hr hp hE hR 100 1 0 (by omega) (by omega) rfl
set_option maxRecDepth 100000 in
set_option maxHeartbeats 4000000 in
theorem lp_X3_firstJumpThatFar_2 {K : Ctx} {E : ME} {σ : Sto} {b : Int} (hb : InI b) (hr : Rng (σ 11)) (hp : 4 ≤ σ 102 0 ∧ σ 102 0 ≤ 9) (hE : Ok K E mX3_firstJumpThatFar 2) (hR : RetI K E mX3_firstJumpThatFar (fun r σ' => (1 ≤ r ∧ r ≤ σ 102 0 - 3 ∧ (∀ j : Int, 1 ≤ j → j < r → (((jm (σ 11) j).natAbs : Nat) : Int) ≠ b) ∧ (r < σ 102 0 - 3 → (((jm (σ 11) r).natAbs : Nat) : Int) = b)) ∧ σ' = σ)) : ∀ (n : Nat) (i : Int), σ 102 0 - i < n → (1 ≤ i ∧ i ≤ σ 102 0 - 3) → (∀ j : Int, 1 ≤ j → j < i → (((jm (σ 11) j).natAbs : Nat) : Int) ≠ b) → V K E mX3_firstJumpThatFar 2 [some (.ref (kA K 2)), some (.int (i32 b)), some (.int (i32 i))] [] σ := by
  intro n
  induction n with
  | zero =>
    intro i hm hi hn
    exfalso; omega
  | succ n ih =>
    intro i hm hi hn
    have hj := jm_rng hr i
    refine V_iload_n hE dX3_firstJumpThatFar_2 rfl ?_
    refine V_aload_n hE dX3_firstJumpThatFar_3 rfl ?_
    refine gf_X3_19 hE rfl dX3_firstJumpThatFar_4 ?_
    refine V_iconst hE dX3_firstJumpThatFar_7 ?_
    refine V_isub hE dX3_firstJumpThatFar_8 ?_
    refine V_icmp_ge hE 30 dX3_firstJumpThatFar_9 (by decide) (by omega) (fun h9 => ?_) (fun h9 => ?_)
    · refine V_iload_n hE dX3_firstJumpThatFar_30 rfl ?_
      refine V_ireturn hR dX3_firstJumpThatFar_31 ?_
      exact ⟨⟨by omega, by omega, hn, fun h => by omega⟩, rfl⟩
    · refine V_aload_n hE dX3_firstJumpThatFar_12 rfl ?_
      refine V_iload_n hE dX3_firstJumpThatFar_13 rfl ?_
      refine cf_X3_23 hE rfl dX3_firstJumpThatFar_14 (c_X3_jumpAt (by omega)) rfl rfl ?_
      refine V_abs hE tw_ml_X3_26 dX3_firstJumpThatFar_17 rfl rfl (by omega) ?_
      refine V_iload_n hE dX3_firstJumpThatFar_20 rfl ?_
      refine V_icmp_eq hE 30 dX3_firstJumpThatFar_21 (by decide) (by omega) (fun h21 => ?_) (fun h21 => ?_)
      · refine V_iload_n hE dX3_firstJumpThatFar_30 rfl ?_
        refine V_ireturn hR dX3_firstJumpThatFar_31 ?_
        exact ⟨⟨by omega, by omega, hn, fun h => by omega⟩, rfl⟩
      · refine V_iinc hE dX3_firstJumpThatFar_24 rfl rfl ?_
        refine V_goto hE 2 dX3_firstJumpThatFar_27 (by decide) ?_
        refine ih _ (by omega) (by omega) (fun j h1 h2 => ?_)
        by_cases e : j = i
        · subst e; assumption
        · exact hn j h1 (by omega)
set_option maxRecDepth 100000 in
set_option maxHeartbeats 4000000 in
theorem c_X3_firstJumpThatFar {K : Ctx} {σ : Sto} {b : Int} (hb : InI b) (hr : Rng (σ 11)) (hp : 4 ≤ σ 102 0 ∧ σ 102 0 ≤ 9) : CtI K mX3_firstJumpThatFar 2 [.ref (kA K 2), .int (i32 b)] σ (fun r σ' => (1 ≤ r ∧ r ≤ σ 102 0 - 3 ∧ (∀ j : Int, 1 ≤ j → j < r → (((jm (σ 11) j).natAbs : Nat) : Int) ≠ b) ∧ (r < σ 102 0 - 3 → (((jm (σ 11) r).natAbs : Nat) : Int) = b)) ∧ σ' = σ) := by
  refine CtI_of (L := [some (.ref (kA K 2)), some (.int (i32 b)), none]) (by decide) rfl rfl rfl ?_
  intro E hE hR
  refine V_iconst hE dX3_firstJumpThatFar_0 ?_
  refine V_istore_n hE dX3_firstJumpThatFar_1 rfl ?_
  exact lp_X3_firstJumpThatFar_2 hb hr hp hE hR 100 1 (by omega) (by omega) (fun j h1 h2 => by omega)
