set_option maxRecDepth 100000 in
set_option maxHeartbeats 4000000 in
theorem lp_X5_told_17 {K : Ctx} {E : ME} {σ : Sto} {u l w : Int} (hu : 0 ≤ u ∧ u ≤ 4611686018427387904) (hl : 0 < l ∧ l ≤ 4611686018427387904) (hw : InI w) (hE : Ok K E mX5_told 0) (hR : RetL K E mX5_told (fun r σ' => r = tdS u l w ∧ σ' = σ)) : ∀ (n : Nat) (a b : Int) (x : Option Value) (x2 : Option Value), b < n → (0 ≤ a ∧ a ≤ 4611686018427387904 ∧ 0 ≤ b ∧ b ≤ 4611686018427387904) → (gc a b = gc u l) → V K E mX5_told 17 [some (.long (i64 u)), none, some (.long (i64 l)), none, some (.int (i32 w)), some (.long (i64 a)), none, some (.long (i64 b)), none, x, x2] [] σ := by
  intro n
  induction n with
  | zero =>
    intro a b x x2 hm hab hg
    exfalso; omega
  | succ n ih =>
    intro a b x x2 hm hab hg
    have hgr := gc_rng (a := u) hl.1
    refine V_lload hE dX5_told_17 rfl ?_
    refine V_lconst0 hE dX5_told_19 ?_
    refine V_lcmp_eq hE 42 dX5_told_20 dX5_told_21 (by decide) (by omega) (fun h20 => ?_) (fun h20 => ?_)
    · subst h20
      have ea : a = gc u l := by rw [← hg, gc_zero hab.1]
      subst ea
      refine V_iload hE dX5_told_42 rfl ?_
      refine V_if_ne hE 54 dX5_told_44 (by decide) (by omega) (fun h44 => ?_) (fun h44 => ?_)
      · refine V_lload_n hE dX5_told_54 rfl ?_
        refine V_lload hE dX5_told_55 rfl ?_
        refine V_ldiv hE dX5_told_57 (by omega) (by omega) ?_
        refine V_lreturn hR dX5_told_58 ?_
        first | exact ⟨by unfold tdS; rw [if_pos (by assumption)], rfl⟩ | exact ⟨by unfold tdS; rw [if_neg (by assumption)], rfl⟩
      · refine V_lload_n hE dX5_told_47 rfl ?_
        refine V_lload hE dX5_told_48 rfl ?_
        refine V_ldiv hE dX5_told_50 (by omega) (by omega) ?_
        refine V_goto hE 58 dX5_told_51 (by decide) ?_
        refine V_lreturn hR dX5_told_58 ?_
        first | exact ⟨by unfold tdS; rw [if_pos (by assumption)], rfl⟩ | exact ⟨by unfold tdS; rw [if_neg (by assumption)], rfl⟩
    · refine V_lload hE dX5_told_24 rfl ?_
      refine V_lload hE dX5_told_26 rfl ?_
      refine V_lrem hE dX5_told_28 (by omega) (by omega) ?_
      refine V_lstore hE dX5_told_29 rfl ?_
      refine V_lload hE dX5_told_31 rfl ?_
      refine V_lstore hE dX5_told_33 rfl ?_
      refine V_lload hE dX5_told_35 rfl ?_
      refine V_lstore hE dX5_told_37 rfl ?_
      refine V_goto hE 17 dX5_told_39 (by decide) ?_
      have h1 := Int.emod_nonneg a (show b ≠ 0 by omega)
      have h2 := Int.emod_lt_of_pos a (show 0 < b by omega)
      exact ih _ _ _ _ (by omega) (by omega) (by rw [gc_step hab.1 (by omega)]; exact hg)
set_option maxRecDepth 100000 in
set_option maxHeartbeats 4000000 in
theorem c_X5_told {K : Ctx} {σ : Sto} {u l w : Int} (hu : 0 ≤ u ∧ u ≤ 4611686018427387904) (hl : 0 < l ∧ l ≤ 4611686018427387904) (hw : InI w) : CtL K mX5_told 0 [.long (i64 u), .long (i64 l), .int (i32 w)] σ (fun r σ' => r = tdS u l w ∧ σ' = σ) := by
  refine CtL_of (L := [some (.long (i64 u)), none, some (.long (i64 l)), none, some (.int (i32 w)), none, none, none, none, none, none]) (by decide) rfl rfl rfl ?_
  intro E hE hR
  refine V_lload_n hE dX5_told_0 rfl ?_
  refine V_lconst0 hE dX5_told_1 ?_
  refine V_lcmp_ge hE 11 dX5_told_2 dX5_told_3 (by decide) (by omega) (fun h2 => ?_) (fun h2 => ?_)
  · refine V_lload_n hE dX5_told_11 rfl ?_
    refine V_lstore hE dX5_told_12 rfl ?_
    refine V_lload_n hE dX5_told_14 rfl ?_
    refine V_lstore hE dX5_told_15 rfl ?_
    exact lp_X5_told_17 hu hl hw hE hR (l.toNat + 1) _ _ _ _ (by omega) (by omega) rfl
  · exfalso; omega
set_option maxRecDepth 100000 in
set_option maxHeartbeats 4000000 in
theorem lp_X5_sixths_20 {K : Ctx} {E : ME} {σ : Sto} {n0 : Int} (hn : 4 ≤ n0 ∧ n0 ≤ 9) (hE : Ok K E mX5_sixths 0) (hR : RetL K E mX5_sixths (fun r σ' => r = sx (σ 28) n0 ∧ σ' = σ)) : ∀ (n : Nat) (i a : Int), 9 - i < n → (0 ≤ i ∧ i ≤ oddOf n0) → (a = sxs (σ 28) (oddOf n0) i.toNat) → V K E mX5_sixths 20 [some (.ref (kA K 19)), some (.int (i32 n0)), some (.int (i32 (oddOf n0))), some (.long (i64 a)), none, some (.int (i32 i))] [] σ := by
  intro n
  induction n with
  | zero =>
    intro i a hm hi ha
    exfalso; unfold oddOf at hi; omega
  | succ n ih =>
    intro i a hm hi ha
    have ho : oddOf n0 = n0 ∨ oddOf n0 = n0 - 1 := by unfold oddOf; omega
    have ho2 : 3 ≤ oddOf n0 := by unfold oddOf; omega
    refine V_iload hE dX5_sixths_20 rfl ?_
    refine V_iload_n hE dX5_sixths_22 rfl ?_
    refine V_icmp_ge hE 81 dX5_sixths_23 (by decide) (by omega) (fun h23 => ?_) (fun h23 => ?_)
    · have ei : i = oddOf n0 := by omega
      subst ei
      subst ha
      refine V_iload_n hE dX5_sixths_81 rfl ?_
      refine V_iload_n hE dX5_sixths_82 rfl ?_
      refine V_icmp_ne hE 90 dX5_sixths_83 (by decide) (by omega) (fun h83 => ?_) (fun h83 => ?_)
      · refine V_lload_n hE dX5_sixths_90 rfl ?_
        refine V_ldc2 hE tw_cl_X5_89 dX5_sixths_91 ?_
        refine V_aload_n hE dX5_sixths_94 rfl ?_
        refine gf_X5_48 hE rfl dX5_sixths_95 ?_
        refine V_iload_n hE dX5_sixths_98 rfl ?_
        refine V_iconst hE dX5_sixths_99 ?_
        refine V_isub hE dX5_sixths_100 ?_
        refine V_laload hE dX5_sixths_101 rfl (by omega) ?_
        refine V_aload_n hE dX5_sixths_102 rfl ?_
        refine gf_X5_48 hE rfl dX5_sixths_103 ?_
        refine V_iload_n hE dX5_sixths_106 rfl ?_
        refine V_iconst hE dX5_sixths_107 ?_
        refine V_isub hE dX5_sixths_108 ?_
        refine V_laload hE dX5_sixths_109 rfl (by omega) ?_
        refine V_ladd hE dX5_sixths_110 ?_
        refine V_lmul hE dX5_sixths_111 ?_
        refine V_ladd hE dX5_sixths_112 ?_
        refine V_lreturn hR dX5_sixths_113 ?_
        first | exact ⟨by unfold sx; rw [if_pos (by assumption)], rfl⟩ | exact ⟨by unfold sx; rw [if_neg (by assumption)], rfl⟩
      · refine V_lload_n hE dX5_sixths_86 rfl ?_
        refine V_goto hE 113 dX5_sixths_87 (by decide) ?_
        refine V_lreturn hR dX5_sixths_113 ?_
        first | exact ⟨by unfold sx; rw [if_pos (by assumption)], rfl⟩ | exact ⟨by unfold sx; rw [if_neg (by assumption)], rfl⟩
    · refine V_lload_n hE dX5_sixths_26 rfl ?_
      refine V_ldc2 hE tw_cl_X5_168 dX5_sixths_27 ?_
      refine V_aload_n hE dX5_sixths_30 rfl ?_
      refine gf_X5_48 hE rfl dX5_sixths_31 ?_
      refine V_iload hE dX5_sixths_34 rfl ?_
      refine V_laload hE dX5_sixths_36 rfl (by omega) ?_
      refine V_lmul hE dX5_sixths_37 ?_
      refine V_iload hE dX5_sixths_38 rfl ?_
      refine V_if_eq hE 51 dX5_sixths_40 (by decide) (by omega) (fun h40 => ?_) (fun h40 => ?_)
      · refine V_lconst1 hE dX5_sixths_51 ?_
        refine V_goto hE 72 dX5_sixths_52 (by decide) ?_
        refine V_lmul hE dX5_sixths_72 ?_
        refine V_ladd hE dX5_sixths_73 ?_
        refine V_lstore_n hE dX5_sixths_74 rfl ?_
        refine V_iinc hE dX5_sixths_75 rfl rfl ?_
        refine V_goto hE 20 dX5_sixths_78 (by decide) ?_
        refine ih _ _ (by omega) (by omega) ?_
        rw [sxs_step _ _ (by omega), ← ha]
        have ec : cf (oddOf n0) i = (if i = 0 ∨ i = oddOf n0 - 1 then 1 else if i % 2 = 1 then 4 else 2) := rfl
        first
          | (rw [ec, if_pos (by omega)])
          | (rw [ec, if_neg (by omega), if_pos (by omega)])
          | (rw [ec, if_neg (by omega), if_neg (by omega)])
      · refine V_iload hE dX5_sixths_43 rfl ?_
        refine V_iload_n hE dX5_sixths_45 rfl ?_
        refine V_iconst hE dX5_sixths_46 ?_
        refine V_isub hE dX5_sixths_47 ?_
        refine V_icmp_ne hE 55 dX5_sixths_48 (by decide) (by omega) (fun h48 => ?_) (fun h48 => ?_)
        · refine V_iload hE dX5_sixths_55 rfl ?_
          refine V_iconst hE dX5_sixths_57 ?_
          refine V_irem hE dX5_sixths_58 (by omega) (by omega) ?_
          refine V_iconst hE dX5_sixths_59 ?_
          refine V_icmp_ne hE 69 dX5_sixths_60 (by decide) (by omega) (fun h60 => ?_) (fun h60 => ?_)
          · refine V_ldc2 hE tw_cl_X5_168 dX5_sixths_69 ?_
            refine V_lmul hE dX5_sixths_72 ?_
            refine V_ladd hE dX5_sixths_73 ?_
            refine V_lstore_n hE dX5_sixths_74 rfl ?_
            refine V_iinc hE dX5_sixths_75 rfl rfl ?_
            refine V_goto hE 20 dX5_sixths_78 (by decide) ?_
            refine ih _ _ (by omega) (by omega) ?_
            rw [sxs_step _ _ (by omega), ← ha]
            have ec : cf (oddOf n0) i = (if i = 0 ∨ i = oddOf n0 - 1 then 1 else if i % 2 = 1 then 4 else 2) := rfl
            first
              | (rw [ec, if_pos (by omega)])
              | (rw [ec, if_neg (by omega), if_pos (by omega)])
              | (rw [ec, if_neg (by omega), if_neg (by omega)])
          · refine V_ldc2 hE tw_cl_X5_77 dX5_sixths_63 ?_
            refine V_goto hE 72 dX5_sixths_66 (by decide) ?_
            refine V_lmul hE dX5_sixths_72 ?_
            refine V_ladd hE dX5_sixths_73 ?_
            refine V_lstore_n hE dX5_sixths_74 rfl ?_
            refine V_iinc hE dX5_sixths_75 rfl rfl ?_
            refine V_goto hE 20 dX5_sixths_78 (by decide) ?_
            refine ih _ _ (by omega) (by omega) ?_
            rw [sxs_step _ _ (by omega), ← ha]
            have ec : cf (oddOf n0) i = (if i = 0 ∨ i = oddOf n0 - 1 then 1 else if i % 2 = 1 then 4 else 2) := rfl
            first
              | (rw [ec, if_pos (by omega)])
              | (rw [ec, if_neg (by omega), if_pos (by omega)])
              | (rw [ec, if_neg (by omega), if_neg (by omega)])
        · refine V_lconst1 hE dX5_sixths_51 ?_
          refine V_goto hE 72 dX5_sixths_52 (by decide) ?_
          refine V_lmul hE dX5_sixths_72 ?_
          refine V_ladd hE dX5_sixths_73 ?_
          refine V_lstore_n hE dX5_sixths_74 rfl ?_
          refine V_iinc hE dX5_sixths_75 rfl rfl ?_
          refine V_goto hE 20 dX5_sixths_78 (by decide) ?_
          refine ih _ _ (by omega) (by omega) ?_
          rw [sxs_step _ _ (by omega), ← ha]
          have ec : cf (oddOf n0) i = (if i = 0 ∨ i = oddOf n0 - 1 then 1 else if i % 2 = 1 then 4 else 2) := rfl
          first
            | (rw [ec, if_pos (by omega)])
            | (rw [ec, if_neg (by omega), if_pos (by omega)])
            | (rw [ec, if_neg (by omega), if_neg (by omega)])
set_option maxRecDepth 100000 in
set_option maxHeartbeats 4000000 in
theorem c_X5_sixths {K : Ctx} {σ : Sto} {n0 : Int} (hn : 4 ≤ n0 ∧ n0 ≤ 9) : CtL K mX5_sixths 0 [.ref (kA K 19), .int (i32 n0)] σ (fun r σ' => r = sx (σ 28) n0 ∧ σ' = σ) := by
  refine CtL_of (L := [some (.ref (kA K 19)), some (.int (i32 n0)), none, none, none, none]) (by decide) rfl rfl rfl ?_
  intro E hE hR
  refine V_iload_n hE dX5_sixths_0 rfl ?_
  refine V_iconst hE dX5_sixths_1 ?_
  refine V_irem hE dX5_sixths_2 (by omega) (by omega) ?_
  refine V_iconst hE dX5_sixths_3 ?_
  refine V_icmp_ne hE 11 dX5_sixths_4 (by decide) (by omega) (fun h4 => ?_) (fun h4 => ?_)
  · refine V_iload_n hE dX5_sixths_11 rfl ?_
    refine V_iconst hE dX5_sixths_12 ?_
    refine V_isub hE dX5_sixths_13 ?_
    refine V_istore_n hE dX5_sixths_14 rfl ?_
    refine V_lconst0 hE dX5_sixths_15 ?_
    refine V_lstore_n hE dX5_sixths_16 rfl ?_
    refine V_iconst hE dX5_sixths_17 ?_
    refine V_istore hE dX5_sixths_18 rfl ?_
    have eo : oddOf n0 = (if n0 % 2 = 1 then n0 else n0 - 1) := rfl
    have h := lp_X5_sixths_20 hn hE hR 100 0 0 (by omega) (by unfold oddOf; omega) rfl
    first | rw [if_pos (by assumption)] at eo | rw [if_neg (by assumption)] at eo
    rw [eo] at h
    exact h
  · refine V_iload_n hE dX5_sixths_7 rfl ?_
    refine V_goto hE 14 dX5_sixths_8 (by decide) ?_
    refine V_istore_n hE dX5_sixths_14 rfl ?_
    refine V_lconst0 hE dX5_sixths_15 ?_
    refine V_lstore_n hE dX5_sixths_16 rfl ?_
    refine V_iconst hE dX5_sixths_17 ?_
    refine V_istore hE dX5_sixths_18 rfl ?_
    have eo : oddOf n0 = (if n0 % 2 = 1 then n0 else n0 - 1) := rfl
    have h := lp_X5_sixths_20 hn hE hR 100 0 0 (by omega) (by unfold oddOf; omega) rfl
    first | rw [if_pos (by assumption)] at eo | rw [if_neg (by assumption)] at eo
    rw [eo] at h
    exact h
def SumQ (σ : Sto) (v k : Int) (σ' : Sto) : Prop := SmM σ σ' ∧ σ' 116 0 = (if v = 0 then σ 110 0 else σ 111 0) ∧ (∀ i : Nat, (i : Int) < (if v = 0 then σ 110 0 else σ 111 0) → σ' 24 i = lnf (σ 20) v k i) ∧ σ' 29 = σ 29
set_option maxRecDepth 100000 in
set_option maxHeartbeats 4000000 in
theorem lp_X5_sumOf_8 {K : Ctx} {E : ME} {σ σL : Sto} {v k : Int} (hI : IM σ) (hq : LaysQ σ v k σL) (hE : Ok K E mX5_sumOf 1) (hR : RetL K E mX5_sumOf (fun r σ' => r = sx (lnf (σ 20) v k) (if v = 0 then σ 110 0 else σ 111 0) ∧ SumQ σ v k σ')) : ∀ (n : Nat) (i : Int) (σ1 : Sto), (if v = 0 then σ 110 0 else σ 111 0) - i < n → (0 ≤ i ∧ i ≤ (if v = 0 then σ 110 0 else σ 111 0)) → (Fr [28] σL σ1) → (∀ j : Nat, (j : Int) < i → σ1 28 j = σL 24 j) → V K E mX5_sumOf 8 [some (.ref (kA K 19)), some (.int (i32 v)), some (.int (i32 k)), some (.int (i32 i))] [] σ1 := by
  intro n
  induction n with
  | zero =>
    intro i σ1 hm hi hF hr
    exfalso; omega
  | succ n ih =>
    intro i σ1 hm hi hF hr
    obtain ⟨hS, hW, hB, hRe, hLo, hHi, hO, hPu, hHe, hAt⟩ := id hI
    have e116 := hq.2.1
    have f116 : σ1 116 0 = σL 116 0 := by rw [hF 116 (by decide)]
    have e24 : σ1 24 = σL 24 := hF 24 (by decide)
    have hr24 := hq.2.2.2 i.toNat
    rw [← e24] at hr24
    refine V_iload_n hE dX5_sumOf_8 rfl ?_
    refine V_aload_n hE dX5_sumOf_9 rfl ?_
    refine gf_X5_97 hE rfl dX5_sumOf_10 ?_
    refine V_icmp_ge hE 35 dX5_sumOf_13 (by decide) (by omega) (fun h13 => ?_) (fun h13 => ?_)
    · refine V_aload_n hE dX5_sumOf_35 rfl ?_
      refine V_aload_n hE dX5_sumOf_36 rfl ?_
      refine gf_X5_97 hE rfl dX5_sumOf_37 ?_
      refine cf_X5_170 hE rfl dX5_sumOf_40 (c_X5_sixths (by omega)) rfl rfl ?_
      refine V_lreturn hR dX5_sumOf_43 ?_
      refine ⟨?_, ⟨Fr_tr (LaysQ_sm hq).1 hF (by decide), by rw [e24]; exact hq.2.2.2⟩, by omega, fun j hj => by rw [e24]; exact LaysQ_ln hq j hj, by rw [hF 29 (by decide), hq.1 29 (by decide)]⟩
      rw [f116, e116]
      refine sx_congr (by omega) (fun j hj => ?_)
      rw [hr j (by omega)]
      exact LaysQ_ln hq j hj
    · refine V_aload_n hE dX5_sumOf_16 rfl ?_
      refine gf_X5_48 hE rfl dX5_sumOf_17 ?_
      refine V_iload_n hE dX5_sumOf_20 rfl ?_
      refine V_aload_n hE dX5_sumOf_21 rfl ?_
      refine gf_X5_36 hE rfl dX5_sumOf_22 ?_
      refine V_iload_n hE dX5_sumOf_25 rfl ?_
      refine V_iaload hE dX5_sumOf_26 rfl (by omega) ?_
      refine V_i2l hE dX5_sumOf_27 (by omega) ?_
      refine V_lastore hE dX5_sumOf_28 rfl (by omega) ?_
      refine V_iinc hE dX5_sumOf_29 rfl rfl ?_
      refine V_goto hE 8 dX5_sumOf_32 (by decide) ?_
      refine ih _ _ (by omega) (by omega) (Fr_up hF (by decide)) ?_
      intro j hj
      rw [up_at]
      split
      · subst j; rw [e24]
      · exact hr j (by omega)
set_option maxRecDepth 100000 in
set_option maxHeartbeats 4000000 in
theorem c_X5_sumOf {K : Ctx} {σ : Sto} {v k : Int} (hI : IM σ) (hv : (v = 0 ∨ v = 1) ∧ 0 ≤ k ∧ k < (if v = 0 then σ 111 0 else σ 110 0)) : CtL K mX5_sumOf 1 [.ref (kA K 19), .int (i32 v), .int (i32 k)] σ (fun r σ' => r = sx (lnf (σ 20) v k) (if v = 0 then σ 110 0 else σ 111 0) ∧ SumQ σ v k σ') := by
  obtain ⟨hS, hW, hB, hRe, hLo, hHi, hO, hPu, hHe, hAt⟩ := id hI
  refine CtL_of (L := [some (.ref (kA K 19)), some (.int (i32 v)), some (.int (i32 k)), none]) (by decide) rfl rfl rfl ?_
  intro E hE hR
  refine V_aload_n hE dX5_sumOf_0 rfl ?_
  refine V_iload_n hE dX5_sumOf_1 rfl ?_
  refine V_iload_n hE dX5_sumOf_2 rfl ?_
  refine cl_X5_109 hE rfl dX5_sumOf_3 (c_X5_lays hI hv) rfl rfl ?_
  rintro σ1 hq
  refine V_iconst hE dX5_sumOf_6 ?_
  refine V_istore_n hE dX5_sumOf_7 rfl ?_
  exact lp_X5_sumOf_8 hI hq hE hR 100 0 σ1 (by omega) (by omega) Fr_rf (fun j hj => by omega)
set_option maxRecDepth 100000 in
set_option maxHeartbeats 4000000 in
theorem c_X5_area {K : Ctx} {σ : Sto} {v k w : Int} (hI : IM σ) (hv : InI v ∧ InI k ∧ InI w) : CtL K mX5_area 2 [.ref (kA K 19), .int (i32 v), .int (i32 k), .int (i32 w)] σ (fun r σ' => r = areaS (σ 20) (σ 110 0) (σ 111 0) (σ 114 0) (σ 115 0) v k w ∧ SmM σ σ') := by
  obtain ⟨hS, hW, hB, hRe, hLo, hHi, hO, hPu, hHe, hAt⟩ := id hI
  refine CtL_of (L := [some (.ref (kA K 19)), some (.int (i32 v)), some (.int (i32 k)), some (.int (i32 w))]) (by decide) rfl rfl rfl ?_
  intro E hE hR
  refine V_iload_n hE dX5_area_0 rfl ?_
  refine cf_X5_103 hE rfl dX5_area_1 (c_X5_isView (by omega)) rfl rfl ?_
  refine V_if_eq hE 23 dX5_area_4 (by decide) (by omega) (fun h4 => ?_) (fun h4 => ?_)
  · refine V_ldc2 hE tw_cl_X5_177 dX5_area_23 ?_
    refine V_lreturn hR dX5_area_26 ?_
    exact ⟨by unfold areaS; rw [if_pos (by omega)], SmM_rf hAt⟩
  · refine V_aload_n hE dX5_area_7 rfl ?_
    refine V_iload_n hE dX5_area_8 rfl ?_
    refine V_iload_n hE dX5_area_9 rfl ?_
    refine cf_X5_106 hE rfl dX5_area_10 (c_X5_isLine hI (by omega)) rfl rfl ?_
    refine V_if_eq hE 23 dX5_area_13 (by decide) (by omega) (fun h13 => ?_) (fun h13 => ?_)
    · refine V_ldc2 hE tw_cl_X5_177 dX5_area_23 ?_
      refine V_lreturn hR dX5_area_26 ?_
      exact ⟨by unfold areaS; rw [if_pos (by omega)], SmM_rf hAt⟩
    · refine V_iload_n hE dX5_area_16 rfl ?_
      refine cf_X5_174 hE rfl dX5_area_17 (c_X5_isWhich (by omega)) rfl rfl ?_
      refine V_if_ne hE 27 dX5_area_20 (by decide) (by omega) (fun h20 => ?_) (fun h20 => ?_)
      · refine V_aload_n hE dX5_area_27 rfl ?_
        refine V_iload_n hE dX5_area_28 rfl ?_
        refine V_iload_n hE dX5_area_29 rfl ?_
        refine cl_X5_179 hE rfl dX5_area_30 (c_X5_sumOf hI (by omega)) rfl rfl ?_
        rintro r σ1 ⟨rfl, hq⟩
        have e114 : σ1 114 0 = σ 114 0 := by rw [hq.1.1 114 (by decide)]
        have e115 : σ1 115 0 = σ 115 0 := by rw [hq.1.1 115 (by decide)]
        have hsx := sx_rng (f := lnf (σ 20) v k) (n := (if v = 0 then σ 110 0 else σ 111 0)) (M := 999) (by omega) (fun i _ => lnf_rng hO v k i)
        have hm1 := mul_rng hsx (b := σ1 114 0) (N := 99) (by omega)
        have hm2 := mul_rng hsx (b := σ1 115 0) (N := 99) (by omega)
        refine V_iload_n hE dX5_area_33 rfl ?_
        refine V_if_ne hE 44 dX5_area_34 (by decide) (by omega) (fun h34 => ?_) (fun h34 => ?_)
        · refine V_aload_n hE dX5_area_44 rfl ?_
          refine gf_X5_19 hE rfl dX5_area_45 ?_
          refine V_i2l hE dX5_area_48 (by omega) ?_
          refine V_lmul hE dX5_area_49 ?_
          refine V_ldc2 hE tw_cl_X5_183 dX5_area_50 ?_
          refine V_iload_n hE dX5_area_53 rfl ?_
          refine cf_X5_185 hE rfl dX5_area_54 (c_X5_told (by omega) (by omega) (by omega)) rfl rfl ?_
          refine V_lreturn hR dX5_area_57 ?_
          refine ⟨?_, hq.1⟩
          unfold areaS
          refine Eq.symm ((if_neg (by omega)).trans ?_)
          simp [h34, e114, e115]
        · refine V_aload_n hE dX5_area_37 rfl ?_
          refine gf_X5_16 hE rfl dX5_area_38 ?_
          refine V_goto hE 48 dX5_area_41 (by decide) ?_
          refine V_i2l hE dX5_area_48 (by omega) ?_
          refine V_lmul hE dX5_area_49 ?_
          refine V_ldc2 hE tw_cl_X5_183 dX5_area_50 ?_
          refine V_iload_n hE dX5_area_53 rfl ?_
          refine cf_X5_185 hE rfl dX5_area_54 (c_X5_told (by omega) (by omega) (by omega)) rfl rfl ?_
          refine V_lreturn hR dX5_area_57 ?_
          refine ⟨?_, hq.1⟩
          unfold areaS
          refine Eq.symm ((if_neg (by omega)).trans ?_)
          simp [h34, e114, e115]
      · refine V_ldc2 hE tw_cl_X5_177 dX5_area_23 ?_
        refine V_lreturn hR dX5_area_26 ?_
        exact ⟨by unfold areaS; rw [if_pos (by omega)], SmM_rf hAt⟩
set_option maxRecDepth 100000 in
set_option maxHeartbeats 4000000 in
theorem lp_X5_centre_49 {K : Ctx} {E : ME} {σ σL : Sto} {v k w : Int} (hI : IM σ) (hv : InI v ∧ InI k ∧ InI w) (hg : ¬(¬(v = 0 ∨ v = 1) ∨ ¬(0 ≤ k ∧ k < (if v = 0 then σ 111 0 else σ 110 0)) ∨ ¬(w = 0 ∨ w = 1))) (hq : SumQ σ v k σL) (h0 : ¬ sx (lnf (σ 20) v k) (if v = 0 then σ 110 0 else σ 111 0) = 0) (hE : Ok K E mX5_centre 2) (hR : RetL K E mX5_centre (fun r σ' => r = centS (σ 20) (σ 110 0) (σ 111 0) v k w ∧ SmM σ σ')) : ∀ (n : Nat) (i : Int) (σ1 : Sto), (if v = 0 then σ 110 0 else σ 111 0) - i < n → (0 ≤ i ∧ i ≤ (if v = 0 then σ 110 0 else σ 111 0)) → (Fr [28] σL σ1) → (∀ j : Nat, (j : Int) < i → σ1 28 j = σL 24 j * j) → V K E mX5_centre 49 [some (.ref (kA K 19)), some (.int (i32 v)), some (.int (i32 k)), some (.int (i32 w)), some (.long (i64 (sx (lnf (σ 20) v k) (if v = 0 then σ 110 0 else σ 111 0)))), none, some (.int (i32 i))] [] σ1 := by
  intro n
  induction n with
  | zero =>
    intro i σ1 hm hi hF hr
    exfalso; omega
  | succ n ih =>
    intro i σ1 hm hi hF hr
    obtain ⟨hS, hW, hB, hRe, hLo, hHi, hO, hPu, hHe, hAt⟩ := id hI
    have e116 := hq.2.1
    have f116 : σ1 116 0 = σL 116 0 := by rw [hF 116 (by decide)]
    have e24 : σ1 24 = σL 24 := hF 24 (by decide)
    have hr24 := hq.1.2 i.toNat
    rw [← e24] at hr24
    have hsx := sx_rng (f := lnf (σ 20) v k) (n := (if v = 0 then σ 110 0 else σ 111 0)) (M := 999) (by omega) (fun i _ => lnf_rng hO v k i)
    refine V_iload hE dX5_centre_49 rfl ?_
    refine V_aload_n hE dX5_centre_51 rfl ?_
    refine gf_X5_97 hE rfl dX5_centre_52 ?_
    refine V_icmp_ge hE 83 dX5_centre_55 (by decide) (by omega) (fun h55 => ?_) (fun h55 => ?_)
    · refine V_aload_n hE dX5_centre_83 rfl ?_
      refine V_aload_n hE dX5_centre_84 rfl ?_
      refine gf_X5_97 hE rfl dX5_centre_85 ?_
      refine cf_X5_170 hE rfl dX5_centre_88 (c_X5_sixths (by omega)) rfl rfl ?_
      have es : sx (σ1 28) (σ1 116 0) = sx (fun i => lnf (σ 20) v k i * i) (if v = 0 then σ 110 0 else σ 111 0) := by
        rw [f116, e116]
        refine sx_congr (by omega) (fun j hj => ?_)
        rw [hr j (by omega), hq.2.2.1 j hj]
      rw [es]
      have hsx2 := sx_rng (f := fun i => lnf (σ 20) v k i * i) (n := (if v = 0 then σ 110 0 else σ 111 0)) (M := 999 * 9) (by omega) (fun i hi => mul_rng (lnf_rng hO v k i) (by omega))
      refine V_lload hE dX5_centre_91 rfl ?_
      refine V_iload_n hE dX5_centre_93 rfl ?_
      refine cf_X5_185 hE rfl dX5_centre_94 (c_X5_told (by omega) (by omega) (by omega)) rfl rfl ?_
      refine V_lreturn hR dX5_centre_97 ?_
      refine ⟨?_, ⟨Fr_tr hq.1.1 hF (by decide), by rw [e24]; exact hq.1.2⟩⟩
      unfold centS
      exact Eq.symm ((if_neg hg).trans (if_neg h0))
    · refine V_aload_n hE dX5_centre_58 rfl ?_
      refine gf_X5_48 hE rfl dX5_centre_59 ?_
      refine V_iload hE dX5_centre_62 rfl ?_
      refine V_aload_n hE dX5_centre_64 rfl ?_
      refine gf_X5_36 hE rfl dX5_centre_65 ?_
      refine V_iload hE dX5_centre_68 rfl ?_
      refine V_iaload hE dX5_centre_70 rfl (by omega) ?_
      refine V_i2l hE dX5_centre_71 (by omega) ?_
      refine V_iload hE dX5_centre_72 rfl ?_
      refine V_i2l hE dX5_centre_74 (by omega) ?_
      refine V_lmul hE dX5_centre_75 ?_
      refine V_lastore hE dX5_centre_76 rfl (by omega) ?_
      refine V_iinc hE dX5_centre_77 rfl rfl ?_
      refine V_goto hE 49 dX5_centre_80 (by decide) ?_
      refine ih _ _ (by omega) (by omega) (Fr_up hF (by decide)) ?_
      intro j hj
      rw [up_at]
      split
      · subst j; rw [e24, show ((i.toNat : Nat) : Int) = i by omega]
      · exact hr j (by omega)
set_option maxRecDepth 100000 in
set_option maxHeartbeats 4000000 in
theorem c_X5_centre {K : Ctx} {σ : Sto} {v k w : Int} (hI : IM σ) (hv : InI v ∧ InI k ∧ InI w) : CtL K mX5_centre 2 [.ref (kA K 19), .int (i32 v), .int (i32 k), .int (i32 w)] σ (fun r σ' => r = centS (σ 20) (σ 110 0) (σ 111 0) v k w ∧ SmM σ σ') := by
  obtain ⟨hS, hW, hB, hRe, hLo, hHi, hO, hPu, hHe, hAt⟩ := id hI
  refine CtL_of (L := [some (.ref (kA K 19)), some (.int (i32 v)), some (.int (i32 k)), some (.int (i32 w)), none, none, none]) (by decide) rfl rfl rfl ?_
  intro E hE hR
  refine V_iload_n hE dX5_centre_0 rfl ?_
  refine cf_X5_103 hE rfl dX5_centre_1 (c_X5_isView (by omega)) rfl rfl ?_
  refine V_if_eq hE 23 dX5_centre_4 (by decide) (by omega) (fun h4 => ?_) (fun h4 => ?_)
  · refine V_ldc2 hE tw_cl_X5_177 dX5_centre_23 ?_
    refine V_lreturn hR dX5_centre_26 ?_
    exact ⟨by unfold centS; exact (if_pos (by omega)).symm, SmM_rf hAt⟩
  · refine V_aload_n hE dX5_centre_7 rfl ?_
    refine V_iload_n hE dX5_centre_8 rfl ?_
    refine V_iload_n hE dX5_centre_9 rfl ?_
    refine cf_X5_106 hE rfl dX5_centre_10 (c_X5_isLine hI (by omega)) rfl rfl ?_
    refine V_if_eq hE 23 dX5_centre_13 (by decide) (by omega) (fun h13 => ?_) (fun h13 => ?_)
    · refine V_ldc2 hE tw_cl_X5_177 dX5_centre_23 ?_
      refine V_lreturn hR dX5_centre_26 ?_
      exact ⟨by unfold centS; exact (if_pos (by omega)).symm, SmM_rf hAt⟩
    · refine V_iload_n hE dX5_centre_16 rfl ?_
      refine cf_X5_174 hE rfl dX5_centre_17 (c_X5_isWhich (by omega)) rfl rfl ?_
      refine V_if_ne hE 27 dX5_centre_20 (by decide) (by omega) (fun h20 => ?_) (fun h20 => ?_)
      · refine V_aload_n hE dX5_centre_27 rfl ?_
        refine V_iload_n hE dX5_centre_28 rfl ?_
        refine V_iload_n hE dX5_centre_29 rfl ?_
        refine cl_X5_179 hE rfl dX5_centre_30 (c_X5_sumOf hI (by omega)) rfl rfl ?_
        rintro r σ1 ⟨rfl, hq⟩
        have hsx := sx_rng (f := lnf (σ 20) v k) (n := (if v = 0 then σ 110 0 else σ 111 0)) (M := 999) (by omega) (fun i _ => lnf_rng hO v k i)
        refine V_lstore hE dX5_centre_33 rfl ?_
        refine V_lload hE dX5_centre_35 rfl ?_
        refine V_lconst0 hE dX5_centre_37 ?_
        refine V_lcmp_ne hE 46 dX5_centre_38 dX5_centre_39 (by decide) (by omega) (fun h38 => ?_) (fun h38 => ?_)
        · refine V_iconst hE dX5_centre_46 ?_
          refine V_istore hE dX5_centre_47 rfl ?_
          exact lp_X5_centre_49 hI hv (by omega) hq h38 hE hR 100 0 σ1 (by omega) (by omega) Fr_rf (fun j hj => by omega)
        · refine V_ldc2 hE tw_cl_X5_177 dX5_centre_42 ?_
          refine V_lreturn hR dX5_centre_45 ?_
          refine ⟨?_, hq.1⟩
          unfold centS
          exact Eq.symm ((if_neg (by omega)).trans (if_pos h38))
      · refine V_ldc2 hE tw_cl_X5_177 dX5_centre_23 ?_
        refine V_lreturn hR dX5_centre_26 ?_
        exact ⟨by unfold centS; exact (if_pos (by omega)).symm, SmM_rf hAt⟩
set_option maxRecDepth 100000 in
set_option maxHeartbeats 4000000 in
theorem lp_X5_volume_27 {K : Ctx} {E : ME} {σ : Sto} {v w : Int} (hI : IM σ) (hv : InI v ∧ InI w) (hg : ¬(¬(v = 0 ∨ v = 1) ∨ ¬(w = 0 ∨ w = 1))) (hk : ∀ σ1 : Sto, SmM σ σ1 → (∀ j : Nat, (j : Int) < (if v = 0 then σ 111 0 else σ 110 0) → σ1 29 j = (fun k : Nat => sx (lnf (σ 20) v k) (if v = 0 then σ 110 0 else σ 111 0)) j) → V K E mX5_volume 53 [some (.ref (kA K 19)), some (.int (i32 v)), some (.int (i32 w)), some (.int (i32 (if v = 0 then σ 111 0 else σ 110 0))), some (.int (i32 (if v = 0 then σ 111 0 else σ 110 0)))] [] σ1) (hE : Ok K E mX5_volume 2) : ∀ (n : Nat) (k : Int) (σ1 : Sto), (if v = 0 then σ 111 0 else σ 110 0) - k < n → (0 ≤ k ∧ k ≤ (if v = 0 then σ 111 0 else σ 110 0)) → (SmM σ σ1) → (∀ j : Nat, (j : Int) < k → σ1 29 j = (fun k : Nat => sx (lnf (σ 20) v k) (if v = 0 then σ 110 0 else σ 111 0)) j) → V K E mX5_volume 27 [some (.ref (kA K 19)), some (.int (i32 v)), some (.int (i32 w)), some (.int (i32 (if v = 0 then σ 111 0 else σ 110 0))), some (.int (i32 k))] [] σ1 := by
  intro n
  induction n with
  | zero =>
    intro k σ1 hm hk1 hs hr
    exfalso; omega
  | succ n ih =>
    intro k σ1 hm hk1 hs hr
    obtain ⟨hS, hW, hB, hRe, hLo, hHi, hO, hPu, hHe, hAt⟩ := id hI
    have e111 := congrFun (hs.1 111 (by decide)) 0
    have e110 := congrFun (hs.1 110 (by decide)) 0
    have e20 := hs.1 20 (by decide)
    refine V_iload hE dX5_volume_27 rfl ?_
    refine V_iload_n hE dX5_volume_29 rfl ?_
    refine V_icmp_ge hE 53 dX5_volume_30 (by decide) (by omega) (fun h30 => ?_) (fun h30 => ?_)
    · have ek : k = (if v = 0 then σ 111 0 else σ 110 0) := by omega
      subst ek
      exact hk _ hs hr
    · refine V_aload_n hE dX5_volume_33 rfl ?_
      refine gf_X5_52 hE rfl dX5_volume_34 ?_
      refine V_iload hE dX5_volume_37 rfl ?_
      refine V_aload_n hE dX5_volume_39 rfl ?_
      refine V_iload_n hE dX5_volume_40 rfl ?_
      refine V_iload hE dX5_volume_41 rfl ?_
      refine cl_X5_179 hE rfl dX5_volume_43 (c_X5_sumOf (IM_sm hI hs) (by omega)) rfl rfl ?_
      rintro r σ2 ⟨rfl, hq⟩
      refine V_lastore hE dX5_volume_46 rfl (by omega) ?_
      refine V_iinc hE dX5_volume_47 rfl rfl ?_
      refine V_goto hE 27 dX5_volume_50 (by decide) ?_
      refine ih _ _ (by omega) (by omega) ⟨Fr_up (SmM_tr hs hq.1).1 (by decide), by rw [up_ne _ _ _ (by decide : 24 ≠ 29)]; exact hq.1.2⟩ ?_
      intro j hj
      rw [up_at]
      split
      · subst j
        rw [e110, e111, e20]
        show _ = sx (lnf (σ 20) v ((k.toNat : Nat) : Int)) _
        rw [show ((k.toNat : Nat) : Int) = k by omega]
      · rw [← hr j (by omega)]
        have h29 : σ2 29 = σ1 29 := hq.2.2.2
        rw [h29]
set_option maxRecDepth 100000 in
set_option maxHeartbeats 4000000 in
theorem lp_X5_volume_56 {K : Ctx} {E : ME} {σ σL : Sto} {v w : Int} (hI : IM σ) (hv : InI v ∧ InI w) (hg : ¬(¬(v = 0 ∨ v = 1) ∨ ¬(w = 0 ∨ w = 1))) (hsL : SmM σ σL) (hL : ∀ j : Nat, (j : Int) < (if v = 0 then σ 111 0 else σ 110 0) → σL 29 j = (fun k : Nat => sx (lnf (σ 20) v k) (if v = 0 then σ 110 0 else σ 111 0)) j) (hE : Ok K E mX5_volume 2) (hR : RetL K E mX5_volume (fun r σ' => r = volS (σ 20) (σ 110 0) (σ 111 0) (σ 114 0) (σ 115 0) v w ∧ SmM σ σ')) : ∀ (n : Nat) (k : Int) (σ1 : Sto), (if v = 0 then σ 111 0 else σ 110 0) - k < n → (0 ≤ k ∧ k ≤ (if v = 0 then σ 111 0 else σ 110 0)) → (Fr [28] σL σ1) → (∀ j : Nat, (j : Int) < k → σ1 28 j = σL 29 j) → V K E mX5_volume 56 [some (.ref (kA K 19)), some (.int (i32 v)), some (.int (i32 w)), some (.int (i32 (if v = 0 then σ 111 0 else σ 110 0))), some (.int (i32 k))] [] σ1 := by
  intro n
  induction n with
  | zero =>
    intro k σ1 hm hk1 hF hr
    exfalso; omega
  | succ n ih =>
    intro k σ1 hm hk1 hF hr
    obtain ⟨hS, hW, hB, hRe, hLo, hHi, hO, hPu, hHe, hAt⟩ := id hI
    have e29 : σ1 29 = σL 29 := hF 29 (by decide)
    have e114 : σ1 114 0 = σ 114 0 := by rw [hF 114 (by decide), hsL.1 114 (by decide)]
    have e115 : σ1 115 0 = σ 115 0 := by rw [hF 115 (by decide), hsL.1 115 (by decide)]
    refine V_iload hE dX5_volume_56 rfl ?_
    refine V_iload_n hE dX5_volume_58 rfl ?_
    refine V_icmp_ge hE 82 dX5_volume_59 (by decide) (by omega) (fun h59 => ?_) (fun h59 => ?_)
    · refine V_aload_n hE dX5_volume_82 rfl ?_
      refine V_iload_n hE dX5_volume_83 rfl ?_
      refine cf_X5_170 hE rfl dX5_volume_84 (c_X5_sixths (by omega)) rfl rfl ?_
      have es : sx (σ1 28) (if v = 0 then σ 111 0 else σ 110 0) = sx (fun k : Nat => sx (lnf (σ 20) v k) (if v = 0 then σ 110 0 else σ 111 0)) (if v = 0 then σ 111 0 else σ 110 0) := by
        refine sx_congr (by omega) (fun j hj => ?_)
        rw [hr j (by omega), hL j hj]
      rw [es]
      have hsx := sx_rng (f := (fun k : Nat => sx (lnf (σ 20) v k) (if v = 0 then σ 110 0 else σ 111 0))) (n := (if v = 0 then σ 111 0 else σ 110 0)) (M := 60 * 999) (by omega) (fun i hi => sx_rng (by omega) (fun j _ => lnf_rng hO v i j))
      have hm1 := mul_rng hsx (b := σ1 114 0) (N := 99) (by omega)
      have hm2 := mul_rng hm1 (b := σ1 115 0) (N := 99) (by omega)
      refine V_aload_n hE dX5_volume_87 rfl ?_
      refine gf_X5_16 hE rfl dX5_volume_88 ?_
      refine V_i2l hE dX5_volume_91 (by omega) ?_
      refine V_lmul hE dX5_volume_92 ?_
      refine V_aload_n hE dX5_volume_93 rfl ?_
      refine gf_X5_19 hE rfl dX5_volume_94 ?_
      refine V_i2l hE dX5_volume_97 (by omega) ?_
      refine V_lmul hE dX5_volume_98 ?_
      refine V_ldc2 hE tw_cl_X5_189 dX5_volume_99 ?_
      refine V_iload_n hE dX5_volume_102 rfl ?_
      refine cf_X5_185 hE rfl dX5_volume_103 (c_X5_told (by omega) (by omega) (by omega)) rfl rfl ?_
      refine V_lreturn hR dX5_volume_106 ?_
      refine ⟨?_, ⟨Fr_tr hsL.1 hF (by decide), by rw [hF 24 (by decide)]; exact hsL.2⟩⟩
      unfold volS
      refine Eq.symm ((if_neg hg).trans ?_)
      rw [e114, e115]
    · refine V_aload_n hE dX5_volume_62 rfl ?_
      refine gf_X5_48 hE rfl dX5_volume_63 ?_
      refine V_iload hE dX5_volume_66 rfl ?_
      refine V_aload_n hE dX5_volume_68 rfl ?_
      refine gf_X5_52 hE rfl dX5_volume_69 ?_
      refine V_iload hE dX5_volume_72 rfl ?_
      refine V_laload hE dX5_volume_74 rfl (by omega) ?_
      refine V_lastore hE dX5_volume_75 rfl (by omega) ?_
      refine V_iinc hE dX5_volume_76 rfl rfl ?_
      refine V_goto hE 56 dX5_volume_79 (by decide) ?_
      refine ih _ _ (by omega) (by omega) (Fr_up hF (by decide)) ?_
      intro j hj
      rw [up_at]
      split
      · subst j; rw [e29]
      · exact hr j (by omega)
set_option maxRecDepth 100000 in
set_option maxHeartbeats 4000000 in
theorem c_X5_volume {K : Ctx} {σ : Sto} {v w : Int} (hI : IM σ) (hv : InI v ∧ InI w) : CtL K mX5_volume 2 [.ref (kA K 19), .int (i32 v), .int (i32 w)] σ (fun r σ' => r = volS (σ 20) (σ 110 0) (σ 111 0) (σ 114 0) (σ 115 0) v w ∧ SmM σ σ') := by
  obtain ⟨hS, hW, hB, hRe, hLo, hHi, hO, hPu, hHe, hAt⟩ := id hI
  refine CtL_of (L := [some (.ref (kA K 19)), some (.int (i32 v)), some (.int (i32 w)), none, none]) (by decide) rfl rfl rfl ?_
  intro E hE hR
  refine V_iload_n hE dX5_volume_0 rfl ?_
  refine cf_X5_103 hE rfl dX5_volume_1 (c_X5_isView (by omega)) rfl rfl ?_
  refine V_if_eq hE 14 dX5_volume_4 (by decide) (by omega) (fun h4 => ?_) (fun h4 => ?_)
  · refine V_ldc2 hE tw_cl_X5_177 dX5_volume_14 ?_
    refine V_lreturn hR dX5_volume_17 ?_
    exact ⟨by unfold volS; exact (if_pos (by omega)).symm, SmM_rf hAt⟩
  · refine V_iload_n hE dX5_volume_7 rfl ?_
    refine cf_X5_174 hE rfl dX5_volume_8 (c_X5_isWhich (by omega)) rfl rfl ?_
    refine V_if_ne hE 18 dX5_volume_11 (by decide) (by omega) (fun h11 => ?_) (fun h11 => ?_)
    · refine V_aload_n hE dX5_volume_18 rfl ?_
      refine V_iload_n hE dX5_volume_19 rfl ?_
      refine cf_X5_93 hE rfl dX5_volume_20 (c_X5_linesOf (by omega)) rfl rfl ?_
      refine V_istore_n hE dX5_volume_23 rfl ?_
      refine V_iconst hE dX5_volume_24 ?_
      refine V_istore hE dX5_volume_25 rfl ?_
      refine lp_X5_volume_27 hI hv (by omega) ?_ hE 100 0 σ (by omega) (by omega) (SmM_rf hAt) (fun j hj => by omega)
      intro σ1 hs1 h29
      refine V_iconst hE dX5_volume_53 ?_
      refine V_istore hE dX5_volume_54 rfl ?_
      exact lp_X5_volume_56 hI hv (by omega) hs1 h29 hE hR 100 0 σ1 (by omega) (by omega) Fr_rf (fun j hj => by omega)
    · refine V_ldc2 hE tw_cl_X5_177 dX5_volume_14 ?_
      refine V_lreturn hR dX5_volume_17 ?_
      exact ⟨by unfold volS; exact (if_pos (by omega)).symm, SmM_rf hAt⟩
