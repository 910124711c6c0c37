set_option maxRecDepth 100000 in
set_option maxHeartbeats 4000000 in
theorem c_X5_offset {K : Ctx} {σ : Sto} {s l v : Int} (hI : IM σ) (hv : InI s ∧ InI l ∧ InI v) : CtI K mX5_offset 2 [.ref (kA K 19), .int (i32 s), .int (i32 l), .int (i32 v)] σ (fun r σ' => r = (if ¬(0 ≤ s ∧ s < σ 110 0 ∧ 0 ≤ l ∧ l < σ 111 0) then -1 else if ¬(0 ≤ v ∧ v ≤ 999) then -2 else σ 20 (7 * s + l).toNat) ∧ σ' = (if (0 ≤ s ∧ s < σ 110 0 ∧ 0 ≤ l ∧ l < σ 111 0) ∧ 0 ≤ v ∧ v ≤ 999 then up (up σ 20 (7 * s + l).toNat v) 21 (7 * s + l).toNat v else σ)) := by
  obtain ⟨hS, hW, hB, hRe, hLo, hHi, hO, hPu, hHe, hAt⟩ := id hI
  refine CtI_of (L := [some (.ref (kA K 19)), some (.int (i32 s)), some (.int (i32 l)), some (.int (i32 v)), none]) (by decide) rfl rfl rfl ?_
  intro E hE hR
  refine V_aload_n hE dX5_offset_0 rfl ?_
  refine V_iload_n hE dX5_offset_1 rfl ?_
  refine V_iload_n hE dX5_offset_2 rfl ?_
  refine cf_X5_81 hE rfl dX5_offset_3 (c_X5_isPoint hI (by omega)) rfl rfl ?_
  refine V_if_ne hE 11 dX5_offset_6 (by decide) (by omega) (fun h6 => ?_) (fun h6 => ?_)
  · refine V_iload_n hE dX5_offset_11 rfl ?_
    refine cf_X5_85 hE rfl dX5_offset_12 (c_X5_isOffset (by omega)) rfl rfl ?_
    refine V_if_ne hE 21 dX5_offset_15 (by decide) (by omega) (fun h15 => ?_) (fun h15 => ?_)
    · refine V_aload_n hE dX5_offset_21 rfl ?_
      refine gf_X5_22 hE rfl dX5_offset_22 ?_
      refine V_bipush hE dX5_offset_25 (by decide) ?_
      refine V_iload_n hE dX5_offset_27 rfl ?_
      refine V_imul hE dX5_offset_28 ?_
      refine V_iload_n hE dX5_offset_29 rfl ?_
      refine V_iadd hE dX5_offset_30 ?_
      refine V_iaload hE dX5_offset_31 rfl (by omega) ?_
      refine V_istore hE dX5_offset_32 rfl ?_
      refine V_aload_n hE dX5_offset_34 rfl ?_
      refine gf_X5_22 hE rfl dX5_offset_35 ?_
      refine V_bipush hE dX5_offset_38 (by decide) ?_
      refine V_iload_n hE dX5_offset_40 rfl ?_
      refine V_imul hE dX5_offset_41 ?_
      refine V_iload_n hE dX5_offset_42 rfl ?_
      refine V_iadd hE dX5_offset_43 ?_
      refine V_iload_n hE dX5_offset_44 rfl ?_
      refine V_iastore hE dX5_offset_45 rfl (by omega) ?_
      refine V_aload_n hE dX5_offset_46 rfl ?_
      refine gf_X5_26 hE rfl dX5_offset_47 ?_
      refine V_bipush hE dX5_offset_50 (by decide) ?_
      refine V_iload_n hE dX5_offset_52 rfl ?_
      refine V_imul hE dX5_offset_53 ?_
      refine V_iload_n hE dX5_offset_54 rfl ?_
      refine V_iadd hE dX5_offset_55 ?_
      refine V_iload_n hE dX5_offset_56 rfl ?_
      refine V_iastore hE dX5_offset_57 rfl (by omega) ?_
      refine V_iload hE dX5_offset_58 rfl ?_
      refine V_ireturn hR dX5_offset_60 ?_
      exact ⟨by omega, by rw [if_pos (by omega)]⟩
    · refine V_bipush hE dX5_offset_18 (by decide) ?_
      refine V_ireturn hR dX5_offset_20 ?_
      exact ⟨by omega, by rw [if_neg (by omega)]⟩
  · refine V_iconst hE dX5_offset_9 ?_
    refine V_ireturn hR dX5_offset_10 ?_
    exact ⟨by omega, by rw [if_neg (by omega)]⟩
set_option maxRecDepth 100000 in
set_option maxHeartbeats 4000000 in
theorem c_X5_hold {K : Ctx} {σ : Sto} {s l b : Int} (hI : IM σ) (hv : InI s ∧ InI l) (hb : b = 0 ∨ b = 1) : CtI K mX5_hold 2 [.ref (kA K 19), .int (i32 s), .int (i32 l), .int (i32 b)] σ (fun r σ' => r = (if ¬(0 ≤ s ∧ s < σ 110 0 ∧ 0 ≤ l ∧ l < σ 111 0) then -1 else if σ 22 (7 * s + l).toNat = b then 0 else 1) ∧ σ' = (if (0 ≤ s ∧ s < σ 110 0 ∧ 0 ≤ l ∧ l < σ 111 0) then up σ 22 (7 * s + l).toNat b else σ)) := by
  obtain ⟨hS, hW, hB, hRe, hLo, hHi, hO, hPu, hHe, hAt⟩ := id hI
  have h9 := hHe (7 * s + l).toNat
  refine CtI_of (L := [some (.ref (kA K 19)), some (.int (i32 s)), some (.int (i32 l)), some (.int (i32 b)), none]) (by decide) rfl rfl rfl ?_
  intro E hE hR
  refine V_aload_n hE dX5_hold_0 rfl ?_
  refine V_iload_n hE dX5_hold_1 rfl ?_
  refine V_iload_n hE dX5_hold_2 rfl ?_
  refine cf_X5_81 hE rfl dX5_hold_3 (c_X5_isPoint hI (by omega)) rfl rfl ?_
  refine V_if_ne hE 11 dX5_hold_6 (by decide) (by omega) (fun h6 => ?_) (fun h6 => ?_)
  · refine V_aload_n hE dX5_hold_11 rfl ?_
    refine gf_X5_29 hE rfl dX5_hold_12 ?_
    refine V_bipush hE dX5_hold_15 (by decide) ?_
    refine V_iload_n hE dX5_hold_17 rfl ?_
    refine V_imul hE dX5_hold_18 ?_
    refine V_iload_n hE dX5_hold_19 rfl ?_
    refine V_iadd hE dX5_hold_20 ?_
    refine V_baload hE dX5_hold_21 rfl (by omega) ?_
    refine V_istore hE dX5_hold_22 rfl ?_
    refine V_aload_n hE dX5_hold_24 rfl ?_
    refine gf_X5_29 hE rfl dX5_hold_25 ?_
    refine V_bipush hE dX5_hold_28 (by decide) ?_
    refine V_iload_n hE dX5_hold_30 rfl ?_
    refine V_imul hE dX5_hold_31 ?_
    refine V_iload_n hE dX5_hold_32 rfl ?_
    refine V_iadd hE dX5_hold_33 ?_
    refine V_iload_n hE dX5_hold_34 rfl ?_
    refine V_bastore hE dX5_hold_35 rfl (by omega) (by omega) ?_
    refine V_iload hE dX5_hold_36 rfl ?_
    refine V_iload_n hE dX5_hold_38 rfl ?_
    refine V_icmp_ne hE 46 dX5_hold_39 (by decide) (by omega) (fun h39 => ?_) (fun h39 => ?_)
    · refine V_iconst hE dX5_hold_46 ?_
      refine V_ireturn hR dX5_hold_47 ?_
      exact ⟨by omega, by rw [if_pos (by omega)]⟩
    · refine V_iconst hE dX5_hold_42 ?_
      refine V_goto hE 47 dX5_hold_43 (by decide) ?_
      refine V_ireturn hR dX5_hold_47 ?_
      exact ⟨by omega, by rw [if_pos (by omega)]⟩
  · refine V_iconst hE dX5_hold_9 ?_
    refine V_ireturn hR dX5_hold_10 ?_
    exact ⟨by omega, by rw [if_neg (by omega)]⟩
set_option maxRecDepth 100000 in
set_option maxHeartbeats 4000000 in
theorem c_X5_setting {K : Ctx} {σ : Sto} {k v : Int} (hI : IM σ) (hv : InI k ∧ InI v) : CtI K mX5_setting 1 [.ref (kA K 19), .int (i32 k), .int (i32 v)] σ (fun r σ' => r = (if ((k = 0 ∧ 0 ≤ v ∧ v ≤ 999) ∨ (k = 1 ∧ 0 ≤ v ∧ v ≤ 3) ∨ ((k = 2 ∨ k = 3) ∧ 1 ≤ v ∧ v ≤ 99)) then σ (112 + k.toNat) 0 else -2) ∧ σ' = (if ((k = 0 ∧ 0 ≤ v ∧ v ≤ 999) ∨ (k = 1 ∧ 0 ≤ v ∧ v ≤ 3) ∨ ((k = 2 ∨ k = 3) ∧ 1 ≤ v ∧ v ≤ 99)) then up σ (112 + k.toNat) 0 v else σ)) := by
  obtain ⟨hS, hW, hB, hRe, hLo, hHi, hO, hPu, hHe, hAt⟩ := id hI
  refine CtI_of (L := [some (.ref (kA K 19)), some (.int (i32 k)), some (.int (i32 v)), none]) (by decide) rfl rfl rfl ?_
  intro E hE hR
  refine V_iconst hE dX5_setting_0 ?_
  refine V_istore_n hE dX5_setting_1 rfl ?_
  refine V_iload_n hE dX5_setting_2 rfl ?_
  refine V_sw4 hE 32 59 86 113 140 dX5_setting_3 (by omega) (by decide) (by decide) (by decide) (fun h3 => ?_) (fun h3 => ?_) (fun h3 => ?_) (fun h3 => ?_) (fun h3 => ?_)
  · refine V_bipush hE dX5_setting_140 (by decide) ?_
    refine V_ireturn hR dX5_setting_142 ?_
    exact ⟨by rw [if_neg (by omega)], by rw [if_neg (by omega)]⟩
  · refine V_iload_n hE dX5_setting_32 rfl ?_
    refine V_i2l hE dX5_setting_33 (by omega) ?_
    refine V_lconst0 hE dX5_setting_34 ?_
    refine V_ldc2 hE tw_cl_X5_71 dX5_setting_35 ?_
    refine cf_X5_67 hE rfl dX5_setting_38 (c_X5_within (by omega)) rfl rfl ?_
    refine V_if_ne hE 47 dX5_setting_41 (by decide) (by omega) (fun h41 => ?_) (fun h41 => ?_)
    · refine V_aload_n hE dX5_setting_47 rfl ?_
      refine gf_X5_7 hE rfl dX5_setting_48 ?_
      refine V_istore_n hE dX5_setting_51 rfl ?_
      refine V_aload_n hE dX5_setting_52 rfl ?_
      refine V_iload_n hE dX5_setting_53 rfl ?_
      refine pf_X5_7 hE rfl dX5_setting_54 ?_
      refine V_iload_n hE dX5_setting_57 rfl ?_
      refine V_ireturn hR dX5_setting_58 ?_
      subst h3
      exact ⟨by rw [if_pos (by omega)]; rfl, by rw [if_pos (by omega)]; rfl⟩
    · refine V_bipush hE dX5_setting_44 (by decide) ?_
      refine V_ireturn hR dX5_setting_46 ?_
      exact ⟨by rw [if_neg (by omega)], by rw [if_neg (by omega)]⟩
  · refine V_iload_n hE dX5_setting_59 rfl ?_
    refine V_i2l hE dX5_setting_60 (by omega) ?_
    refine V_lconst0 hE dX5_setting_61 ?_
    refine V_ldc2 hE tw_cl_X5_89 dX5_setting_62 ?_
    refine cf_X5_67 hE rfl dX5_setting_65 (c_X5_within (by omega)) rfl rfl ?_
    refine V_if_ne hE 74 dX5_setting_68 (by decide) (by omega) (fun h68 => ?_) (fun h68 => ?_)
    · refine V_aload_n hE dX5_setting_74 rfl ?_
      refine gf_X5_13 hE rfl dX5_setting_75 ?_
      refine V_istore_n hE dX5_setting_78 rfl ?_
      refine V_aload_n hE dX5_setting_79 rfl ?_
      refine V_iload_n hE dX5_setting_80 rfl ?_
      refine pf_X5_13 hE rfl dX5_setting_81 ?_
      refine V_iload_n hE dX5_setting_84 rfl ?_
      refine V_ireturn hR dX5_setting_85 ?_
      subst h3
      exact ⟨by rw [if_pos (by omega)]; rfl, by rw [if_pos (by omega)]; rfl⟩
    · refine V_bipush hE dX5_setting_71 (by decide) ?_
      refine V_ireturn hR dX5_setting_73 ?_
      exact ⟨by rw [if_neg (by omega)], by rw [if_neg (by omega)]⟩
  · refine V_iload_n hE dX5_setting_86 rfl ?_
    refine V_i2l hE dX5_setting_87 (by omega) ?_
    refine V_lconst1 hE dX5_setting_88 ?_
    refine V_ldc2 hE tw_cl_X5_91 dX5_setting_89 ?_
    refine cf_X5_67 hE rfl dX5_setting_92 (c_X5_within (by omega)) rfl rfl ?_
    refine V_if_ne hE 101 dX5_setting_95 (by decide) (by omega) (fun h95 => ?_) (fun h95 => ?_)
    · refine V_aload_n hE dX5_setting_101 rfl ?_
      refine gf_X5_16 hE rfl dX5_setting_102 ?_
      refine V_istore_n hE dX5_setting_105 rfl ?_
      refine V_aload_n hE dX5_setting_106 rfl ?_
      refine V_iload_n hE dX5_setting_107 rfl ?_
      refine pf_X5_16 hE rfl dX5_setting_108 ?_
      refine V_iload_n hE dX5_setting_111 rfl ?_
      refine V_ireturn hR dX5_setting_112 ?_
      subst h3
      exact ⟨by rw [if_pos (by omega)]; rfl, by rw [if_pos (by omega)]; rfl⟩
    · refine V_bipush hE dX5_setting_98 (by decide) ?_
      refine V_ireturn hR dX5_setting_100 ?_
      exact ⟨by rw [if_neg (by omega)], by rw [if_neg (by omega)]⟩
  · refine V_iload_n hE dX5_setting_113 rfl ?_
    refine V_i2l hE dX5_setting_114 (by omega) ?_
    refine V_lconst1 hE dX5_setting_115 ?_
    refine V_ldc2 hE tw_cl_X5_91 dX5_setting_116 ?_
    refine cf_X5_67 hE rfl dX5_setting_119 (c_X5_within (by omega)) rfl rfl ?_
    refine V_if_ne hE 128 dX5_setting_122 (by decide) (by omega) (fun h122 => ?_) (fun h122 => ?_)
    · refine V_aload_n hE dX5_setting_128 rfl ?_
      refine gf_X5_19 hE rfl dX5_setting_129 ?_
      refine V_istore_n hE dX5_setting_132 rfl ?_
      refine V_aload_n hE dX5_setting_133 rfl ?_
      refine V_iload_n hE dX5_setting_134 rfl ?_
      refine pf_X5_19 hE rfl dX5_setting_135 ?_
      refine V_iload_n hE dX5_setting_138 rfl ?_
      refine V_ireturn hR dX5_setting_139 ?_
      subst h3
      exact ⟨by rw [if_pos (by omega)]; rfl, by rw [if_pos (by omega)]; rfl⟩
    · refine V_bipush hE dX5_setting_125 (by decide) ?_
      refine V_ireturn hR dX5_setting_127 ?_
      exact ⟨by rw [if_neg (by omega)], by rw [if_neg (by omega)]⟩
set_option maxRecDepth 100000 in
set_option maxHeartbeats 4000000 in
theorem c_X5_ofPoint {K : Ctx} {σ : Sto} {s l w : Int} (hI : IM σ) (hv : InI s ∧ InI l ∧ InI w) : CtI K mX5_ofPoint 2 [.ref (kA K 19), .int (i32 s), .int (i32 l), .int (i32 w)] σ (fun r σ' => r = ofPS (σ 20) (σ 21) (σ 22) (σ 110 0) (σ 111 0) s l w ∧ σ' = σ) := by
  obtain ⟨hS, hW, hB, hRe, hLo, hHi, hO, hPu, hHe, hAt⟩ := id hI
  have h9 := hHe (7 * s + l).toNat
  refine CtI_of (L := [some (.ref (kA K 19)), some (.int (i32 s)), some (.int (i32 l)), some (.int (i32 w)), none]) (by decide) rfl rfl rfl ?_
  intro E hE hR
  refine V_aload_n hE dX5_ofPoint_0 rfl ?_
  refine V_iload_n hE dX5_ofPoint_1 rfl ?_
  refine V_iload_n hE dX5_ofPoint_2 rfl ?_
  refine cf_X5_81 hE rfl dX5_ofPoint_3 (c_X5_isPoint hI (by omega)) rfl rfl ?_
  refine V_if_ne hE 11 dX5_ofPoint_6 (by decide) (by omega) (fun h6 => ?_) (fun h6 => ?_)
  · refine V_bipush hE dX5_ofPoint_11 (by decide) ?_
    refine V_iload_n hE dX5_ofPoint_13 rfl ?_
    refine V_imul hE dX5_ofPoint_14 ?_
    refine V_iload_n hE dX5_ofPoint_15 rfl ?_
    refine V_iadd hE dX5_ofPoint_16 ?_
    refine V_istore hE dX5_ofPoint_17 rfl ?_
    refine V_iload_n hE dX5_ofPoint_19 rfl ?_
    refine V_sw3 hE 48 56 72 88 dX5_ofPoint_20 (by omega) (by decide) (by decide) (by decide) (fun h20 => ?_) (fun h20 => ?_) (fun h20 => ?_) (fun h20 => ?_)
    · refine V_bipush hE dX5_ofPoint_88 (by decide) ?_
      refine V_ireturn hR dX5_ofPoint_90 ?_
      exact ⟨by unfold ofPS; omega, rfl⟩
    · refine V_aload_n hE dX5_ofPoint_48 rfl ?_
      refine gf_X5_22 hE rfl dX5_ofPoint_49 ?_
      refine V_iload hE dX5_ofPoint_52 rfl ?_
      refine V_iaload hE dX5_ofPoint_54 rfl (by omega) ?_
      refine V_ireturn hR dX5_ofPoint_55 ?_
      exact ⟨by unfold ofPS; omega, rfl⟩
    · refine V_aload_n hE dX5_ofPoint_56 rfl ?_
      refine gf_X5_29 hE rfl dX5_ofPoint_57 ?_
      refine V_iload hE dX5_ofPoint_60 rfl ?_
      refine V_baload hE dX5_ofPoint_62 rfl (by omega) ?_
      refine V_if_eq hE 70 dX5_ofPoint_63 (by decide) (by omega) (fun h63 => ?_) (fun h63 => ?_)
      · refine V_iconst hE dX5_ofPoint_70 ?_
        refine V_ireturn hR dX5_ofPoint_71 ?_
        exact ⟨by unfold ofPS; omega, rfl⟩
      · refine V_iconst hE dX5_ofPoint_66 ?_
        refine V_goto hE 71 dX5_ofPoint_67 (by decide) ?_
        refine V_ireturn hR dX5_ofPoint_71 ?_
        exact ⟨by unfold ofPS; omega, rfl⟩
    · refine V_aload_n hE dX5_ofPoint_72 rfl ?_
      refine gf_X5_22 hE rfl dX5_ofPoint_73 ?_
      refine V_iload hE dX5_ofPoint_76 rfl ?_
      refine V_iaload hE dX5_ofPoint_78 rfl (by omega) ?_
      refine V_aload_n hE dX5_ofPoint_79 rfl ?_
      refine gf_X5_26 hE rfl dX5_ofPoint_80 ?_
      refine V_iload hE dX5_ofPoint_83 rfl ?_
      refine V_iaload hE dX5_ofPoint_85 rfl (by omega) ?_
      refine V_isub hE dX5_ofPoint_86 ?_
      refine V_ireturn hR dX5_ofPoint_87 ?_
      exact ⟨by unfold ofPS; omega, rfl⟩
  · refine V_iconst hE dX5_ofPoint_9 ?_
    refine V_ireturn hR dX5_ofPoint_10 ?_
    exact ⟨by unfold ofPS; omega, rfl⟩
set_option maxRecDepth 100000 in
set_option maxHeartbeats 4000000 in
theorem lp_X5_hull_43 {K : Ctx} {E : ME} {σ : Sto} {s l : Int} (hsl : 5 ≤ s ∧ s ≤ 9 ∧ 4 ≤ l ∧ l ≤ 7) (hE : Ok K E mX5_hull 1) (hR : RetI K E mX5_hull (fun r σ' => ((5 ≤ s ∧ s ≤ 9 ∧ 4 ≤ l ∧ l ≤ 7) ∧ r = 1 ∧ HullQM σ s l σ') ∨ (¬(5 ≤ s ∧ s ≤ 9 ∧ 4 ≤ l ∧ l ≤ 7) ∧ r = -2 ∧ σ' = σ))) : ∀ (n : Nat) (i : Int) (σ1 : Sto), 63 - i < n → (0 ≤ i ∧ i ≤ 63) → (Fr [110, 111, 20, 21, 22] σ σ1) → (σ1 110 0 = s) → (σ1 111 0 = l) → (∀ j : Nat, σ1 20 j = if (j : Int) < i then 0 else σ 20 j) → (∀ j : Nat, σ1 21 j = if (j : Int) < i then 0 else σ 21 j) → (∀ j : Nat, σ1 22 j = if (j : Int) < i then 0 else σ 22 j) → V K E mX5_hull 43 [some (.ref (kA K 19)), some (.int (i32 s)), some (.int (i32 l)), some (.int (i32 i))] [] σ1 := by
  intro n
  induction n with
  | zero =>
    intro i σ1 hm hi hF h110 h111 h20 h21 h22
    exfalso; omega
  | succ n ih =>
    intro i σ1 hm hi hF h110 h111 h20 h21 h22
    refine V_iload_n hE dX5_hull_43 rfl ?_
    refine V_bipush hE dX5_hull_44 (by decide) ?_
    refine V_icmp_ge hE 76 dX5_hull_46 (by decide) (by omega) (fun h46 => ?_) (fun h46 => ?_)
    · refine V_iconst hE dX5_hull_76 ?_
      refine V_ireturn hR dX5_hull_77 ?_
      have e : i = 63 := by omega
      subst e
      refine Or.inl ⟨hsl, rfl, hF, h110, h111, ?_, ?_, ?_⟩
      · funext j; rw [h20 j, lay0]; simp only [show ((j : Int) < 63) = (j < 63) from by simp; omega]
      · funext j; rw [h21 j, lay0]; simp only [show ((j : Int) < 63) = (j < 63) from by simp; omega]
      · funext j; rw [h22 j, lay0]; simp only [show ((j : Int) < 63) = (j < 63) from by simp; omega]
    · refine V_aload_n hE dX5_hull_49 rfl ?_
      refine gf_X5_22 hE rfl dX5_hull_50 ?_
      refine V_iload_n hE dX5_hull_53 rfl ?_
      refine V_iconst hE dX5_hull_54 ?_
      refine V_iastore hE dX5_hull_55 rfl (by omega) ?_
      refine V_aload_n hE dX5_hull_56 rfl ?_
      refine gf_X5_26 hE rfl dX5_hull_57 ?_
      refine V_iload_n hE dX5_hull_60 rfl ?_
      refine V_iconst hE dX5_hull_61 ?_
      refine V_iastore hE dX5_hull_62 rfl (by omega) ?_
      refine V_aload_n hE dX5_hull_63 rfl ?_
      refine gf_X5_29 hE rfl dX5_hull_64 ?_
      refine V_iload_n hE dX5_hull_67 rfl ?_
      refine V_iconst hE dX5_hull_68 ?_
      refine V_bastore hE dX5_hull_69 rfl (by omega) (Or.inl rfl) ?_
      refine V_iinc hE dX5_hull_70 rfl rfl ?_
      refine V_goto hE 43 dX5_hull_73 (by decide) ?_
      refine ih _ _ (by omega) (by omega) (Fr_up (Fr_up (Fr_up hF (by decide)) (by decide)) (by decide)) ?_ ?_ ?_ ?_ ?_
      · simpa [up] using h110
      · simpa [up] using h111
      · intro j
        have h9 := h20 j
        by_cases e : j = i.toNat
        · simp [up, e]; omega
        · simp [up, e]; rw [h9]; split <;> split <;> omega
      · intro j
        have h9 := h21 j
        by_cases e : j = i.toNat
        · simp [up, e]; omega
        · simp [up, e]; rw [h9]; split <;> split <;> omega
      · intro j
        have h9 := h22 j
        by_cases e : j = i.toNat
        · simp [up, e]; omega
        · simp [up, e]; rw [h9]; split <;> split <;> omega
set_option maxRecDepth 100000 in
set_option maxHeartbeats 4000000 in
theorem c_X5_hull {K : Ctx} {σ : Sto} {s l : Int} (hv : InI s ∧ InI l) : CtI K mX5_hull 1 [.ref (kA K 19), .int (i32 s), .int (i32 l)] σ (fun r σ' => ((5 ≤ s ∧ s ≤ 9 ∧ 4 ≤ l ∧ l ≤ 7) ∧ r = 1 ∧ HullQM σ s l σ') ∨ (¬(5 ≤ s ∧ s ≤ 9 ∧ 4 ≤ l ∧ l ≤ 7) ∧ r = -2 ∧ σ' = σ)) := by
  refine CtI_of (L := [some (.ref (kA K 19)), some (.int (i32 s)), some (.int (i32 l)), none]) (by decide) rfl rfl rfl ?_
  intro E hE hR
  refine V_iload_n hE dX5_hull_0 rfl ?_
  refine V_i2l hE dX5_hull_1 (by omega) ?_
  refine V_ldc2 hE tw_cl_X5_73 dX5_hull_2 ?_
  refine V_ldc2 hE tw_cl_X5_75 dX5_hull_5 ?_
  refine cf_X5_67 hE rfl dX5_hull_8 (c_X5_within (by omega)) rfl rfl ?_
  refine V_if_eq hE 28 dX5_hull_11 (by decide) (by omega) (fun h11 => ?_) (fun h11 => ?_)
  · refine V_bipush hE dX5_hull_28 (by decide) ?_
    refine V_ireturn hR dX5_hull_30 ?_
    exact Or.inr ⟨by omega, rfl, rfl⟩
  · refine V_iload_n hE dX5_hull_14 rfl ?_
    refine V_i2l hE dX5_hull_15 (by omega) ?_
    refine V_ldc2 hE tw_cl_X5_77 dX5_hull_16 ?_
    refine V_ldc2 hE tw_cl_X5_79 dX5_hull_19 ?_
    refine cf_X5_67 hE rfl dX5_hull_22 (c_X5_within (by omega)) rfl rfl ?_
    refine V_if_ne hE 31 dX5_hull_25 (by decide) (by omega) (fun h25 => ?_) (fun h25 => ?_)
    · refine V_aload_n hE dX5_hull_31 rfl ?_
      refine V_iload_n hE dX5_hull_32 rfl ?_
      refine pf_X5_61 hE rfl dX5_hull_33 ?_
      refine V_aload_n hE dX5_hull_36 rfl ?_
      refine V_iload_n hE dX5_hull_37 rfl ?_
      refine pf_X5_64 hE rfl dX5_hull_38 ?_
      refine V_iconst hE dX5_hull_41 ?_
      refine V_istore_n hE dX5_hull_42 rfl ?_
      refine lp_X5_hull_43 (by omega) hE hR 100 0 _ (by omega) (by omega) (Fr_up (Fr_up Fr_rf (by decide)) (by decide)) ?_ ?_ ?_ ?_ ?_
      · simp [up]
      · simp [up]
      · intro j; simp [up]; omega
      · intro j; simp [up]; omega
      · intro j; simp [up]; omega
    · refine V_bipush hE dX5_hull_28 (by decide) ?_
      refine V_ireturn hR dX5_hull_30 ?_
      exact Or.inr ⟨by omega, rfl, rfl⟩
set_option maxRecDepth 100000 in
set_option maxHeartbeats 4000000 in
theorem lp_X5_back_4 {K : Ctx} {E : ME} {σ : Sto} (hI : IM σ) (hE : Ok K E mX5_back 0) (hR : RetI K E mX5_back (fun r σ' => r = backS (σ 20) (σ 21) ∧ Fr [20] σ σ' ∧ σ' 20 = lay0 63 (σ 20) (σ 21))) : ∀ (n : Nat) (i : Int) (a : Int) (σ1 : Sto), 63 - i < n → (0 ≤ i ∧ i ≤ 63) → (a = cnt (fun i => decide (σ 20 i ≠ σ 21 i)) i.toNat) → (Fr [20] σ σ1) → (∀ j : Nat, σ1 20 j = if (j : Int) < i then σ 21 j else σ 20 j) → V K E mX5_back 4 [some (.ref (kA K 19)), some (.int (i32 a)), some (.int (i32 i))] [] σ1 := by
  intro n
  induction n with
  | zero =>
    intro i a σ1 hm hi ha hF h20
    exfalso; omega
  | succ n ih =>
    intro i a σ1 hm hi ha hF h20
    obtain ⟨hS, hW, hB, hRe, hLo, hHi, hO, hPu, hHe, hAt⟩ := id hI
    have e21 : σ1 21 = σ 21 := hF 21 (by decide)
    have e20 : σ1 20 i.toNat = σ 20 i.toNat := by rw [h20]; rw [if_neg (by omega)]
    have h8 := hO i.toNat
    have h7 := hPu i.toNat
    rw [← e21] at h7
    refine V_iload_n hE dX5_back_4 rfl ?_
    refine V_bipush hE dX5_back_5 (by decide) ?_
    refine V_icmp_ge hE 51 dX5_back_7 (by decide) (by omega) (fun h7 => ?_) (fun h7 => ?_)
    · refine V_iload_n hE dX5_back_51 rfl ?_
      refine V_ireturn hR dX5_back_52 ?_
      have e : i = 63 := by omega
      subst e
      refine ⟨by rw [ha]; rfl, hF, ?_⟩
      funext j; rw [h20 j, lay0]; simp only [show ((j : Int) < 63) = (j < 63) from by simp; omega]
    · refine V_iload_n hE dX5_back_10 rfl ?_
      refine V_aload_n hE dX5_back_11 rfl ?_
      refine gf_X5_22 hE rfl dX5_back_12 ?_
      refine V_iload_n hE dX5_back_15 rfl ?_
      refine V_iaload hE dX5_back_16 rfl (by omega) ?_
      refine V_aload_n hE dX5_back_17 rfl ?_
      refine gf_X5_26 hE rfl dX5_back_18 ?_
      refine V_iload_n hE dX5_back_21 rfl ?_
      refine V_iaload hE dX5_back_22 rfl (by omega) ?_
      refine V_icmp_ne hE 30 dX5_back_23 (by decide) (by omega) (fun h23 => ?_) (fun h23 => ?_)
      · refine V_iconst hE dX5_back_30 ?_
        refine V_iadd hE dX5_back_31 ?_
        refine V_istore_n hE dX5_back_32 rfl ?_
        refine V_aload_n hE dX5_back_33 rfl ?_
        refine gf_X5_22 hE rfl dX5_back_34 ?_
        refine V_iload_n hE dX5_back_37 rfl ?_
        refine V_aload_n hE dX5_back_38 rfl ?_
        refine gf_X5_26 hE rfl dX5_back_39 ?_
        refine V_iload_n hE dX5_back_42 rfl ?_
        refine V_iaload hE dX5_back_43 rfl (by omega) ?_
        refine V_iastore hE dX5_back_44 rfl (by omega) ?_
        refine V_iinc hE dX5_back_45 rfl rfl ?_
        refine V_goto hE 4 dX5_back_48 (by decide) ?_
        refine ih _ _ _ (by omega) (by omega) ?_ (Fr_up hF (by decide)) ?_
        · rw [cnt_step _ (by omega), ← ha]
          rw [e20, e21] at h23
          simp [h23]
        · intro j
          have h9 := h20 j
          by_cases e : j = i.toNat
          · subst e; rw [up_at, if_pos rfl, e21, if_pos (by omega)]
          · rw [up_at, if_neg e, h9]; split <;> split <;> omega
      · refine V_iconst hE dX5_back_26 ?_
        refine V_goto hE 31 dX5_back_27 (by decide) ?_
        refine V_iadd hE dX5_back_31 ?_
        refine V_istore_n hE dX5_back_32 rfl ?_
        refine V_aload_n hE dX5_back_33 rfl ?_
        refine gf_X5_22 hE rfl dX5_back_34 ?_
        refine V_iload_n hE dX5_back_37 rfl ?_
        refine V_aload_n hE dX5_back_38 rfl ?_
        refine gf_X5_26 hE rfl dX5_back_39 ?_
        refine V_iload_n hE dX5_back_42 rfl ?_
        refine V_iaload hE dX5_back_43 rfl (by omega) ?_
        refine V_iastore hE dX5_back_44 rfl (by omega) ?_
        refine V_iinc hE dX5_back_45 rfl rfl ?_
        refine V_goto hE 4 dX5_back_48 (by decide) ?_
        refine ih _ _ _ (by omega) (by omega) ?_ (Fr_up hF (by decide)) ?_
        · rw [cnt_step _ (by omega), ← ha]
          rw [e20, e21] at h23
          simp [h23]
        · intro j
          have h9 := h20 j
          by_cases e : j = i.toNat
          · subst e; rw [up_at, if_pos rfl, e21, if_pos (by omega)]
          · rw [up_at, if_neg e, h9]; split <;> split <;> omega
set_option maxRecDepth 100000 in
set_option maxHeartbeats 4000000 in
theorem c_X5_back {K : Ctx} {σ : Sto} (hI : IM σ) : CtI K mX5_back 0 [.ref (kA K 19)] σ (fun r σ' => r = backS (σ 20) (σ 21) ∧ Fr [20] σ σ' ∧ σ' 20 = lay0 63 (σ 20) (σ 21)) := by
  refine CtI_of (L := [some (.ref (kA K 19)), none, none]) (by decide) rfl rfl rfl ?_
  intro E hE hR
  refine V_iconst hE dX5_back_0 ?_
  refine V_istore_n hE dX5_back_1 rfl ?_
  refine V_iconst hE dX5_back_2 ?_
  refine V_istore_n hE dX5_back_3 rfl ?_
  exact lp_X5_back_4 hI hE hR 100 0 0 σ (by omega) (by omega) rfl Fr_rf (fun j => by rw [if_neg (by omega)])
set_option maxRecDepth 100000 in
set_option maxHeartbeats 4000000 in
theorem lp_X5_roughest_53 {K : Ctx} {E : ME} {σ : Sto} (hI : IM σ) (hp : 4 ≤ σ 116 0 ∧ σ 116 0 ≤ 9) {w v k : Int} (hv : (v = 0 ∨ v = 1) ∧ 0 ≤ k ∧ k ≤ 8) {a0 : Int × Int} (ha0 : rgOk a0) (hk : ∀ x6 x7 : Option Value, rgOk (rgI (σ 24) v k (σ 116 0 - 3).toNat a0) → V K E mX5_roughest 133 [some (.ref (kA K 19)), some (.int (i32 w)), some (.int (i32 (rgI (σ 24) v k (σ 116 0 - 3).toNat a0).1)), some (.int (i32 (rgI (σ 24) v k (σ 116 0 - 3).toNat a0).2)), some (.int (i32 v)), some (.int (i32 k)), x6, x7] [] σ) (hE : Ok K E mX5_roughest 5) : ∀ (n : Nat) (i : Int) (a : Int × Int) (x7 : Option Value), σ 116 0 - i < n → (1 ≤ i ∧ i ≤ σ 116 0 - 2) → (a = rgI (σ 24) v k (i - 1).toNat a0) → (rgOk a) → V K E mX5_roughest 53 [some (.ref (kA K 19)), some (.int (i32 w)), some (.int (i32 a.1)), some (.int (i32 a.2)), some (.int (i32 v)), some (.int (i32 k)), some (.int (i32 i)), x7] [] σ := by
  intro n
  induction n with
  | zero =>
    intro i a x7 hm hi ha hok
    exfalso; omega
  | succ n ih =>
    intro i a x7 hm hi ha hok
    obtain ⟨hS, hW, hB, hRe, hLo, hHi, hO, hPu, hHe, hAt⟩ := id hI
    have hj := jm_rng hAt i
    refine V_iload hE dX5_roughest_53 rfl ?_
    refine V_aload_n hE dX5_roughest_55 rfl ?_
    refine gf_X5_97 hE rfl dX5_roughest_56 ?_
    refine V_iconst hE dX5_roughest_59 ?_
    refine V_isub hE dX5_roughest_60 ?_
    refine V_icmp_ge hE 133 dX5_roughest_61 (by decide) (by omega) (fun h61 => ?_) (fun h61 => ?_)
    · have e : i = σ 116 0 - 2 := by omega
      rw [e, show σ 116 0 - 2 - 1 = σ 116 0 - 3 by omega] at ha
      rw [ha] at hok
      rw [ha]
      exact hk _ _ hok
    · refine V_aload_n hE dX5_roughest_64 rfl ?_
      refine V_iload hE dX5_roughest_65 rfl ?_
      refine cf_X5_117 hE rfl dX5_roughest_67 (c_X5_jumpAt (by omega)) rfl rfl ?_
      refine cf_X5_120 hE rfl dX5_roughest_70 (c_X5_far (by omega)) rfl rfl ?_
      refine V_iload_n hE dX5_roughest_73 rfl ?_
      refine V_icmp_le hE 81 dX5_roughest_74 (by decide) (by omega) (fun h74 => ?_) (fun h74 => ?_)
      · refine V_iconst hE dX5_roughest_81 ?_
        refine V_istore hE dX5_roughest_82 rfl ?_
        refine V_iload hE dX5_roughest_84 rfl ?_
        refine V_if_eq hE 101 dX5_roughest_86 (by decide) (by omega) (fun h86 => ?_) (fun h86 => ?_)
        · refine V_iload_n hE dX5_roughest_101 rfl ?_
          refine V_istore_n hE dX5_roughest_102 rfl ?_
          refine V_iload hE dX5_roughest_103 rfl ?_
          refine V_if_eq hE 125 dX5_roughest_105 (by decide) (by omega) (fun h105 => ?_) (fun h105 => ?_)
          · refine V_iload_n hE dX5_roughest_125 rfl ?_
            refine V_istore_n hE dX5_roughest_126 rfl ?_
            refine V_iinc hE dX5_roughest_127 rfl rfl ?_
            refine V_goto hE 53 dX5_roughest_130 (by decide) ?_
            first
              | (exfalso; omega)
              | (refine ih _ a _ (by omega) (by omega) ?_ hok
                 rw [rgI_step _ _ _ _ (by omega), ← ha, if_neg (by omega)])
              | (refine ih _ (_, _) _ (by omega) (by omega) ?_ ?_
                 · rw [rgI_step _ _ _ _ (by omega), ← ha, if_pos (by omega)]
                 · exact ⟨⟨show (-1 : Int) ≤ ((jm (σ 24) i).natAbs : Nat) by omega, show (((jm (σ 24) i).natAbs : Nat) : Int) ≤ 7992 by omega⟩, show 0 ≤ 100 * v + 10 * k + i by omega, show 100 * v + 10 * k + i ≤ 199 by omega⟩)
          · exfalso; omega
        · exfalso; omega
      · refine V_iconst hE dX5_roughest_77 ?_
        refine V_goto hE 82 dX5_roughest_78 (by decide) ?_
        refine V_istore hE dX5_roughest_82 rfl ?_
        refine V_iload hE dX5_roughest_84 rfl ?_
        refine V_if_eq hE 101 dX5_roughest_86 (by decide) (by omega) (fun h86 => ?_) (fun h86 => ?_)
        · exfalso; omega
        · refine V_aload_n hE dX5_roughest_89 rfl ?_
          refine V_iload hE dX5_roughest_90 rfl ?_
          refine cf_X5_117 hE rfl dX5_roughest_92 (c_X5_jumpAt (by omega)) rfl rfl ?_
          refine cf_X5_120 hE rfl dX5_roughest_95 (c_X5_far (by omega)) rfl rfl ?_
          refine V_goto hE 102 dX5_roughest_98 (by decide) ?_
          refine V_istore_n hE dX5_roughest_102 rfl ?_
          refine V_iload hE dX5_roughest_103 rfl ?_
          refine V_if_eq hE 125 dX5_roughest_105 (by decide) (by omega) (fun h105 => ?_) (fun h105 => ?_)
          · exfalso; omega
          · refine V_bipush hE dX5_roughest_108 (by decide) ?_
            refine V_iload hE dX5_roughest_110 rfl ?_
            refine V_imul hE dX5_roughest_112 ?_
            refine V_bipush hE dX5_roughest_113 (by decide) ?_
            refine V_iload hE dX5_roughest_115 rfl ?_
            refine V_imul hE dX5_roughest_117 ?_
            refine V_iadd hE dX5_roughest_118 ?_
            refine V_iload hE dX5_roughest_119 rfl ?_
            refine V_iadd hE dX5_roughest_121 ?_
            refine V_goto hE 126 dX5_roughest_122 (by decide) ?_
            refine V_istore_n hE dX5_roughest_126 rfl ?_
            refine V_iinc hE dX5_roughest_127 rfl rfl ?_
            refine V_goto hE 53 dX5_roughest_130 (by decide) ?_
            first
              | (exfalso; omega)
              | (refine ih _ a _ (by omega) (by omega) ?_ hok
                 rw [rgI_step _ _ _ _ (by omega), ← ha, if_neg (by omega)])
              | (refine ih _ (_, _) _ (by omega) (by omega) ?_ ?_
                 · rw [rgI_step _ _ _ _ (by omega), ← ha, if_pos (by omega)]
                 · exact ⟨⟨show (-1 : Int) ≤ ((jm (σ 24) i).natAbs : Nat) by omega, show (((jm (σ 24) i).natAbs : Nat) : Int) ≤ 7992 by omega⟩, show 0 ≤ 100 * v + 10 * k + i by omega, show 100 * v + 10 * k + i ≤ 199 by omega⟩)
set_option maxRecDepth 100000 in
set_option maxHeartbeats 4000000 in
theorem lp_X5_roughest_31 {K : Ctx} {E : ME} {σ : Sto} (hI : IM σ) {w v : Int} (hv : v = 0 ∨ v = 1) {a0 : Int × Int} (hk : ∀ (σ1 : Sto) (x6 x7 : Option Value), SmM σ σ1 → rgOk (itL (rgStep (σ 20) (σ 110 0) (σ 111 0)) v (if v = 0 then σ 111 0 else σ 110 0).toNat a0) → V K E mX5_roughest 139 [some (.ref (kA K 19)), some (.int (i32 w)), some (.int (i32 (itL (rgStep (σ 20) (σ 110 0) (σ 111 0)) v (if v = 0 then σ 111 0 else σ 110 0).toNat a0).1)), some (.int (i32 (itL (rgStep (σ 20) (σ 110 0) (σ 111 0)) v (if v = 0 then σ 111 0 else σ 110 0).toNat a0).2)), some (.int (i32 v)), some (.int (i32 (if v = 0 then σ 111 0 else σ 110 0))), x6, x7] [] σ1) (hE : Ok K E mX5_roughest 5) : ∀ (n : Nat) (k : Int) (a : Int × Int) (σ1 : Sto) (x6 x7 : Option Value), (if v = 0 then σ 111 0 else σ 110 0) - k < n → (0 ≤ k ∧ k ≤ (if v = 0 then σ 111 0 else σ 110 0)) → (a = (itL (rgStep (σ 20) (σ 110 0) (σ 111 0)) v k.toNat a0)) → (rgOk a) → (SmM σ σ1) → V K E mX5_roughest 31 [some (.ref (kA K 19)), some (.int (i32 w)), some (.int (i32 a.1)), some (.int (i32 a.2)), some (.int (i32 v)), some (.int (i32 k)), x6, x7] [] σ1 := by
  intro n
  induction n with
  | zero =>
    intro k a σ1 x6 x7 hm hk1 ha hok hs
    exfalso; omega
  | succ n ih =>
    intro k a σ1 x6 x7 hm hk1 ha hok hs
    obtain ⟨hS, hW, hB, hRe, hLo, hHi, hO, hPu, hHe, hAt⟩ := id hI
    have e111 := congrFun (hs.1 111 (by decide)) 0
    have e110 := congrFun (hs.1 110 (by decide)) 0
    refine V_iload hE dX5_roughest_31 rfl ?_
    refine V_aload_n hE dX5_roughest_33 rfl ?_
    refine V_iload hE dX5_roughest_34 rfl ?_
    refine cf_X5_93 hE rfl dX5_roughest_36 (c_X5_linesOf (by omega)) rfl rfl ?_
    refine V_icmp_ge hE 139 dX5_roughest_39 (by decide) (by omega) (fun h39 => ?_) (fun h39 => ?_)
    · have ek : k = (if v = 0 then σ 111 0 else σ 110 0) := by omega
      rw [ek] at ha
      rw [ha] at hok
      rw [ha, ek]
      exact hk _ _ _ hs hok
    · refine V_aload_n hE dX5_roughest_42 rfl ?_
      refine V_iload hE dX5_roughest_43 rfl ?_
      refine V_iload hE dX5_roughest_45 rfl ?_
      refine cl_X5_109 hE rfl dX5_roughest_47 (c_X5_lays (IM_sm hI hs) (by omega)) rfl rfl ?_
      rintro σ2 hq
      have e116 := hq.2.1
      have hs2 := SmM_tr hs (LaysQ_sm hq)
      refine V_iconst hE dX5_roughest_50 ?_
      refine V_istore hE dX5_roughest_51 rfl ?_
      refine lp_X5_roughest_53 (IM_sm hI hs2) (by omega) (v := v) (k := k) (by omega) (a0 := a) hok ?_ hE 100 1 a _ (by omega) (by omega) rfl hok
      intro y6 y7 hok2
      have erc : rgI (σ2 24) v k (σ2 116 0 - 3).toNat a = rgStep (σ 20) (σ 110 0) (σ 111 0) v k a := by
        unfold rgStep
        rw [e116, e110, e111]
        refine rgI_congr (n := if v = 0 then σ 110 0 else σ 111 0) _ _ _ (fun i hi => ?_) _ (by omega)
        have h9 := LaysQ_ln hq i (by omega)
        rw [hs.1 20 (by decide)] at h9
        exact h9
      rw [erc] at hok2 ⊢
      refine V_iinc hE dX5_roughest_133 rfl rfl ?_
      refine V_goto hE 31 dX5_roughest_136 (by decide) ?_
      exact ih _ _ _ _ _ (by omega) (by omega) (by rw [itL_step _ _ _ (by omega), ← ha]) hok2 hs2
set_option maxRecDepth 100000 in
set_option maxHeartbeats 4000000 in
theorem c_X5_roughest {K : Ctx} {σ : Sto} {w : Int} (hI : IM σ) (hw : InI w) : CtI K mX5_roughest 5 [.ref (kA K 19), .int (i32 w)] σ (fun r σ' => r = rgS (σ 20) (σ 110 0) (σ 111 0) w ∧ SmM σ σ') := by
  obtain ⟨hS, hW, hB, hRe, hLo, hHi, hO, hPu, hHe, hAt⟩ := id hI
  refine CtI_of (L := [some (.ref (kA K 19)), some (.int (i32 w)), none, none, none, none, none, none]) (by decide) rfl rfl rfl ?_
  intro E hE hR
  refine V_iload_n hE dX5_roughest_0 rfl ?_
  refine V_i2l hE dX5_roughest_1 (by omega) ?_
  refine V_lconst0 hE dX5_roughest_2 ?_
  refine V_ldc2 hE tw_cl_X5_89 dX5_roughest_3 ?_
  refine cf_X5_67 hE rfl dX5_roughest_6 (c_X5_within (by omega)) rfl rfl ?_
  refine V_if_ne hE 15 dX5_roughest_9 (by decide) (by omega) (fun h9 => ?_) (fun h9 => ?_)
  · refine V_iconst hE dX5_roughest_15 ?_
    refine V_istore_n hE dX5_roughest_16 rfl ?_
    refine V_iconst hE dX5_roughest_17 ?_
    refine V_istore_n hE dX5_roughest_18 rfl ?_
    refine V_iconst hE dX5_roughest_19 ?_
    refine V_istore hE dX5_roughest_20 rfl ?_
    refine V_iload hE dX5_roughest_22 rfl ?_
    refine V_iconst hE dX5_roughest_24 ?_
    refine V_icmp_ge hE 145 dX5_roughest_25 (by decide) (by omega) (fun h25 => ?_) (fun h25 => ?_)
    · exfalso; omega
    · refine V_iconst hE dX5_roughest_28 ?_
      refine V_istore hE dX5_roughest_29 rfl ?_
      refine lp_X5_roughest_31 hI (w := w) (v := 0) (a0 := (-1, 0)) (Or.inl rfl) ?_ hE 100 0 (-1, 0) σ _ _ (by omega) (by omega) rfl ⟨⟨by decide, by decide⟩, by decide, by decide⟩ (SmM_rf hAt)
      intro σ1 x6 x7 hs1 hok1
      refine V_iinc hE dX5_roughest_139 rfl rfl ?_
      refine V_goto hE 22 dX5_roughest_142 (by decide) ?_
      refine V_iload hE dX5_roughest_22 rfl ?_
      refine V_iconst hE dX5_roughest_24 ?_
      refine V_icmp_ge hE 145 dX5_roughest_25 (by decide) (by omega) (fun h25 => ?_) (fun h25 => ?_)
      · exfalso; omega
      · refine V_iconst hE dX5_roughest_28 ?_
        refine V_istore hE dX5_roughest_29 rfl ?_
        refine lp_X5_roughest_31 hI (w := w) (v := 1) (a0 := itL (rgStep (σ 20) (σ 110 0) (σ 111 0)) 0 (σ 111 0).toNat (-1, 0)) (Or.inr rfl) ?_ hE 100 0 _ σ1 _ _ (by omega) (by omega) rfl hok1 hs1
        intro σ2 y6 y7 hs2 hok2
        refine V_iinc hE dX5_roughest_139 rfl rfl ?_
        refine V_goto hE 22 dX5_roughest_142 (by decide) ?_
        refine V_iload hE dX5_roughest_22 rfl ?_
        refine V_iconst hE dX5_roughest_24 ?_
        refine V_icmp_ge hE 145 dX5_roughest_25 (by decide) (by omega) (fun h25 => ?_) (fun h25 => ?_)
        · refine V_iload_n hE dX5_roughest_145 rfl ?_
          refine V_if_ne hE 153 dX5_roughest_146 (by decide) (by omega) (fun h146 => ?_) (fun h146 => ?_)
          · refine V_iload_n hE dX5_roughest_153 rfl ?_
            refine V_iconst hE dX5_roughest_154 ?_
            refine V_icmp_ne hE 165 dX5_roughest_155 (by decide) (by omega) (fun h155 => ?_) (fun h155 => ?_)
            · refine V_iload_n hE dX5_roughest_165 rfl ?_
              refine V_iconst hE dX5_roughest_166 ?_
              refine V_icmp_ne hE 180 dX5_roughest_167 (by decide) (by omega) (fun h167 => ?_) (fun h167 => ?_)
              · refine V_iload_n hE dX5_roughest_180 rfl ?_
                refine V_bipush hE dX5_roughest_181 (by decide) ?_
                refine V_irem hE dX5_roughest_183 (by omega) (by omega) ?_
                refine V_ireturn hR dX5_roughest_184 ?_
                refine ⟨?_, hs2⟩
                have ea : itL (rgStep (σ 20) (σ 110 0) (σ 111 0)) 1 (σ 110 0).toNat (itL (rgStep (σ 20) (σ 110 0) (σ 111 0)) 0 (σ 111 0).toNat (-1, 0)) = rgA (σ 20) (σ 110 0) (σ 111 0) := rfl
                have e1 : (if (1 : Int) = 0 then σ 111 0 else σ 110 0) = σ 110 0 := rfl
                rw [e1, ea]
                unfold rgS
                first
                  | (rw [if_neg (by omega), if_pos (by omega)])
                  | (rw [if_neg (by omega), if_neg (by omega), if_pos (by omega)])
                  | (rw [if_neg (by omega), if_neg (by omega), if_neg (by omega), if_pos (by omega)])
                  | (rw [if_neg (by omega), if_neg (by omega), if_neg (by omega), if_neg (by omega)])
              · refine V_iload_n hE dX5_roughest_170 rfl ?_
                refine V_bipush hE dX5_roughest_171 (by decide) ?_
                refine V_idiv hE dX5_roughest_173 (by omega) (by omega) ?_
                refine V_bipush hE dX5_roughest_174 (by decide) ?_
                refine V_irem hE dX5_roughest_176 (by omega) (by omega) ?_
                refine V_goto hE 184 dX5_roughest_177 (by decide) ?_
                refine V_ireturn hR dX5_roughest_184 ?_
                refine ⟨?_, hs2⟩
                have ea : itL (rgStep (σ 20) (σ 110 0) (σ 111 0)) 1 (σ 110 0).toNat (itL (rgStep (σ 20) (σ 110 0) (σ 111 0)) 0 (σ 111 0).toNat (-1, 0)) = rgA (σ 20) (σ 110 0) (σ 111 0) := rfl
                have e1 : (if (1 : Int) = 0 then σ 111 0 else σ 110 0) = σ 110 0 := rfl
                rw [e1, ea]
                unfold rgS
                first
                  | (rw [if_neg (by omega), if_pos (by omega)])
                  | (rw [if_neg (by omega), if_neg (by omega), if_pos (by omega)])
                  | (rw [if_neg (by omega), if_neg (by omega), if_neg (by omega), if_pos (by omega)])
                  | (rw [if_neg (by omega), if_neg (by omega), if_neg (by omega), if_neg (by omega)])
            · refine V_iload_n hE dX5_roughest_158 rfl ?_
              refine V_bipush hE dX5_roughest_159 (by decide) ?_
              refine V_idiv hE dX5_roughest_161 (by omega) (by omega) ?_
              refine V_goto hE 184 dX5_roughest_162 (by decide) ?_
              refine V_ireturn hR dX5_roughest_184 ?_
              refine ⟨?_, hs2⟩
              have ea : itL (rgStep (σ 20) (σ 110 0) (σ 111 0)) 1 (σ 110 0).toNat (itL (rgStep (σ 20) (σ 110 0) (σ 111 0)) 0 (σ 111 0).toNat (-1, 0)) = rgA (σ 20) (σ 110 0) (σ 111 0) := rfl
              have e1 : (if (1 : Int) = 0 then σ 111 0 else σ 110 0) = σ 110 0 := rfl
              rw [e1, ea]
              unfold rgS
              first
                | (rw [if_neg (by omega), if_pos (by omega)])
                | (rw [if_neg (by omega), if_neg (by omega), if_pos (by omega)])
                | (rw [if_neg (by omega), if_neg (by omega), if_neg (by omega), if_pos (by omega)])
                | (rw [if_neg (by omega), if_neg (by omega), if_neg (by omega), if_neg (by omega)])
          · refine V_iload_n hE dX5_roughest_149 rfl ?_
            refine V_goto hE 184 dX5_roughest_150 (by decide) ?_
            refine V_ireturn hR dX5_roughest_184 ?_
            refine ⟨?_, hs2⟩
            have ea : itL (rgStep (σ 20) (σ 110 0) (σ 111 0)) 1 (σ 110 0).toNat (itL (rgStep (σ 20) (σ 110 0) (σ 111 0)) 0 (σ 111 0).toNat (-1, 0)) = rgA (σ 20) (σ 110 0) (σ 111 0) := rfl
            have e1 : (if (1 : Int) = 0 then σ 111 0 else σ 110 0) = σ 110 0 := rfl
            rw [e1, ea]
            unfold rgS
            first
              | (rw [if_neg (by omega), if_pos (by omega)])
              | (rw [if_neg (by omega), if_neg (by omega), if_pos (by omega)])
              | (rw [if_neg (by omega), if_neg (by omega), if_neg (by omega), if_pos (by omega)])
              | (rw [if_neg (by omega), if_neg (by omega), if_neg (by omega), if_neg (by omega)])
        · exfalso; omega
  · refine V_bipush hE dX5_roughest_12 (by decide) ?_
    refine V_ireturn hR dX5_roughest_14 ?_
    exact ⟨by unfold rgS; rw [if_pos (by omega)], SmM_rf hAt⟩
