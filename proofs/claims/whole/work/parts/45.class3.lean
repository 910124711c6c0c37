set_option maxRecDepth 100000 in
set_option maxHeartbeats 4000000 in
theorem c_X4_refusalOfLine {K : Ctx} {σ : Sto} {v k : Int} (hI : IC σ) (hv : InI v ∧ InI k) : CtI K mX4_refusalOfLine 1 [.ref (kA K 0), .int (i32 v), .int (i32 k)] σ (fun r σ' => r = refS (σ 100 0) (σ 101 0) v k ∧ σ' = σ) := by
  obtain ⟨hS, hW, hB, hRe, hLo, hHi, hO, hPu, hHe, hSc⟩ := id hI
  refine CtI_of (L := [some (.ref (kA K 0)), some (.int (i32 v)), some (.int (i32 k))]) (by decide) rfl rfl rfl ?_
  intro E hE hR
  refine V_iload_n hE dX4_refusalOfLine_0 rfl ?_
  refine V_iconst hE dX4_refusalOfLine_1 ?_
  refine V_iconst hE dX4_refusalOfLine_2 ?_
  refine cf_X4_61 hE rfl dX4_refusalOfLine_3 (c_X4_isNot (by omega)) rfl rfl ?_
  refine V_if_eq hE 12 dX4_refusalOfLine_6 (by decide) (by omega) (fun h6 => ?_) (fun h6 => ?_)
  · refine V_iload_n hE dX4_refusalOfLine_12 rfl ?_
    refine V_iconst hE dX4_refusalOfLine_13 ?_
    refine V_aload_n hE dX4_refusalOfLine_14 rfl ?_
    refine gf_X4_14 hE rfl dX4_refusalOfLine_15 ?_
    refine V_iload_n hE dX4_refusalOfLine_18 rfl ?_
    refine cf_X4_109 hE rfl dX4_refusalOfLine_19 (c_X0_linesOf (by omega)) rfl rfl ?_
    refine V_iconst hE dX4_refusalOfLine_22 ?_
    refine V_isub hE dX4_refusalOfLine_23 ?_
    refine cf_X4_61 hE rfl dX4_refusalOfLine_24 (c_X4_isNot (by omega)) rfl rfl ?_
    refine V_if_eq hE 34 dX4_refusalOfLine_27 (by decide) (by omega) (fun h27 => ?_) (fun h27 => ?_)
    · refine V_iconst hE dX4_refusalOfLine_34 ?_
      refine V_ireturn hR dX4_refusalOfLine_35 ?_
      exact ⟨by unfold refS; omega, rfl⟩
    · refine V_iconst hE dX4_refusalOfLine_30 ?_
      refine V_goto hE 35 dX4_refusalOfLine_31 (by decide) ?_
      refine V_ireturn hR dX4_refusalOfLine_35 ?_
      exact ⟨by unfold refS; omega, rfl⟩
  · refine V_bipush hE dX4_refusalOfLine_9 (by decide) ?_
    refine V_ireturn hR dX4_refusalOfLine_11 ?_
    exact ⟨by unfold refS; omega, rfl⟩
set_option maxRecDepth 100000 in
set_option maxHeartbeats 4000000 in
theorem c_X4_takeLine {K : Ctx} {σ : Sto} {v k : Int} (hI : IC σ) (hv : (v = 0 ∨ v = 1) ∧ 0 ≤ k ∧ k < (if v = 0 then σ 101 0 else σ 100 0)) : CtV K mX4_takeLine 3 [.ref (kA K 0), .int (i32 v), .int (i32 k)] σ (fun σ' => LayC σ v k σ') := by
  refine CtV_of (L := [some (.ref (kA K 0)), some (.int (i32 v)), some (.int (i32 k))]) (by decide) rfl rfl rfl ?_
  intro E hE hR
  refine V_aload_n hE dX4_takeLine_0 rfl ?_
  refine gf_X4_14 hE rfl dX4_takeLine_1 ?_
  refine V_iload_n hE dX4_takeLine_4 rfl ?_
  refine V_iload_n hE dX4_takeLine_5 rfl ?_
  refine V_aload_n hE dX4_takeLine_6 rfl ?_
  refine gf_X4_21 hE rfl dX4_takeLine_7 ?_
  refine cl_X4_196 hE rfl dX4_takeLine_10 (c_X0_layOut hI hv) rfl rfl ?_
  rintro σ1 hq
  refine V_return hR dX4_takeLine_13 ?_
  exact hq
set_option maxRecDepth 100000 in
set_option maxHeartbeats 4000000 in
theorem c_X4_hull {K : Ctx} {σ : Sto} {s l : Int} (hv : InI s ∧ InI l) : CtI K mX4_hull 1 [.ref (kA K 0), .int (i32 s), .int (i32 l)] σ (fun r σ' => ((5 ≤ s ∧ s ≤ 9 ∧ 4 ≤ l ∧ l ≤ 7) ∧ r = 1 ∧ HullQC σ s l σ') ∨ (¬(5 ≤ s ∧ s ≤ 9 ∧ 4 ≤ l ∧ l ≤ 7) ∧ r = -2 ∧ σ' = σ)) := by
  refine CtI_of (L := [some (.ref (kA K 0)), some (.int (i32 s)), some (.int (i32 l))]) (by decide) rfl rfl rfl ?_
  intro E hE hR
  refine V_iload_n hE dX4_hull_0 rfl ?_
  refine V_iconst hE dX4_hull_1 ?_
  refine V_bipush hE dX4_hull_2 (by decide) ?_
  refine cf_X4_61 hE rfl dX4_hull_4 (c_X4_isNot (by omega)) rfl rfl ?_
  refine V_if_ne hE 20 dX4_hull_7 (by decide) (by omega) (fun h7 => ?_) (fun h7 => ?_)
  · refine V_bipush hE dX4_hull_20 (by decide) ?_
    refine V_ireturn hR dX4_hull_22 ?_
    exact Or.inr ⟨by omega, rfl, rfl⟩
  · refine V_iload_n hE dX4_hull_10 rfl ?_
    refine V_iconst hE dX4_hull_11 ?_
    refine V_bipush hE dX4_hull_12 (by decide) ?_
    refine cf_X4_61 hE rfl dX4_hull_14 (c_X4_isNot (by omega)) rfl rfl ?_
    refine V_if_eq hE 23 dX4_hull_17 (by decide) (by omega) (fun h17 => ?_) (fun h17 => ?_)
    · refine V_aload_n hE dX4_hull_23 rfl ?_
      refine gf_X4_14 hE rfl dX4_hull_24 ?_
      refine V_iload_n hE dX4_hull_27 rfl ?_
      refine V_iload_n hE dX4_hull_28 rfl ?_
      refine cl_X4_57 hE rfl dX4_hull_29 (c_X0_renew) rfl rfl ?_
      rintro σ1 hq
      refine V_iconst hE dX4_hull_32 ?_
      refine V_ireturn hR dX4_hull_33 ?_
      exact Or.inl ⟨by omega, rfl, hq⟩
    · refine V_bipush hE dX4_hull_20 (by decide) ?_
      refine V_ireturn hR dX4_hull_22 ?_
      exact Or.inr ⟨by omega, rfl, rfl⟩
set_option maxRecDepth 100000 in
set_option maxHeartbeats 4000000 in
theorem c_X4_offset {K : Ctx} {σ : Sto} {s l v : Int} (hI : IC σ) (hv : InI s ∧ InI l ∧ InI v) : CtI K mX4_offset 1 [.ref (kA K 0), .int (i32 s), .int (i32 l), .int (i32 v)] σ (fun r σ' => r = (if ¬(0 ≤ s ∧ s < σ 100 0 ∧ 0 ≤ l ∧ l < σ 101 0) then -1 else if ¬(0 ≤ v ∧ v ≤ 999) then -2 else σ 8 (7 * s + l).toNat) ∧ σ' = (if (0 ≤ s ∧ s < σ 100 0 ∧ 0 ≤ l ∧ l < σ 101 0) ∧ 0 ≤ v ∧ v ≤ 999 then up (up σ 8 (7 * s + l).toNat v) 9 (7 * s + l).toNat v else σ)) := by
  obtain ⟨hS, hW, hB, hRe, hLo, hHi, hO, hPu, hHe, hSc⟩ := id hI
  refine CtI_of (L := [some (.ref (kA K 0)), some (.int (i32 s)), some (.int (i32 l)), some (.int (i32 v))]) (by decide) rfl rfl rfl ?_
  intro E hE hR
  refine V_aload_n hE dX4_offset_0 rfl ?_
  refine gf_X4_14 hE rfl dX4_offset_1 ?_
  refine V_iload_n hE dX4_offset_4 rfl ?_
  refine V_iload_n hE dX4_offset_5 rfl ?_
  refine cf_X4_65 hE rfl dX4_offset_6 (c_X0_hasPoint hI (by omega)) rfl rfl ?_
  refine V_if_ne hE 14 dX4_offset_9 (by decide) (by omega) (fun h9 => ?_) (fun h9 => ?_)
  · refine V_iload_n hE dX4_offset_14 rfl ?_
    refine V_iconst hE dX4_offset_15 ?_
    refine V_sipush hE dX4_offset_16 (by decide) ?_
    refine cf_X4_61 hE rfl dX4_offset_19 (c_X4_isNot (by omega)) rfl rfl ?_
    refine V_if_eq hE 28 dX4_offset_22 (by decide) (by omega) (fun h22 => ?_) (fun h22 => ?_)
    · refine V_aload_n hE dX4_offset_28 rfl ?_
      refine gf_X4_14 hE rfl dX4_offset_29 ?_
      refine V_iload_n hE dX4_offset_32 rfl ?_
      refine V_iload_n hE dX4_offset_33 rfl ?_
      refine cf_X4_69 hE rfl dX4_offset_34 (c_X4_cellOf) rfl rfl ?_
      refine V_iload_n hE dX4_offset_37 rfl ?_
      refine cf_X4_73 hE rfl dX4_offset_38 (c_X0_put (by omega)) rfl rfl ?_
      refine V_ireturn hR dX4_offset_41 ?_
      exact ⟨by omega, by rw [if_pos (by omega)]⟩
    · refine V_bipush hE dX4_offset_25 (by decide) ?_
      refine V_ireturn hR dX4_offset_27 ?_
      exact ⟨by omega, by rw [if_neg (by omega)]⟩
  · refine V_iconst hE dX4_offset_12 ?_
    refine V_ireturn hR dX4_offset_13 ?_
    exact ⟨by omega, by rw [if_neg (by omega)]⟩
set_option maxRecDepth 100000 in
set_option maxHeartbeats 4000000 in
theorem c_X4_hold {K : Ctx} {σ : Sto} {s l b : Int} (hI : IC σ) (hv : InI s ∧ InI l) (hb : b = 0 ∨ b = 1) : CtI K mX4_hold 1 [.ref (kA K 0), .int (i32 s), .int (i32 l), .int (i32 b)] σ (fun r σ' => r = (if ¬(0 ≤ s ∧ s < σ 100 0 ∧ 0 ≤ l ∧ l < σ 101 0) then -1 else if σ 10 (7 * s + l).toNat = b then 0 else 1) ∧ σ' = (if (0 ≤ s ∧ s < σ 100 0 ∧ 0 ≤ l ∧ l < σ 101 0) ∧ ¬ σ 10 (7 * s + l).toNat = b then up σ 10 (7 * s + l).toNat b else σ)) := by
  obtain ⟨hS, hW, hB, hRe, hLo, hHi, hO, hPu, hHe, hSc⟩ := id hI
  have h9 := hHe (7 * s + l).toNat
  refine CtI_of (L := [some (.ref (kA K 0)), some (.int (i32 s)), some (.int (i32 l)), some (.int (i32 b)), none]) (by decide) rfl rfl rfl ?_
  intro E hE hR
  refine V_aload_n hE dX4_hold_0 rfl ?_
  refine gf_X4_14 hE rfl dX4_hold_1 ?_
  refine V_iload_n hE dX4_hold_4 rfl ?_
  refine V_iload_n hE dX4_hold_5 rfl ?_
  refine cf_X4_65 hE rfl dX4_hold_6 (c_X0_hasPoint hI (by omega)) rfl rfl ?_
  refine V_if_ne hE 14 dX4_hold_9 (by decide) (by omega) (fun h9 => ?_) (fun h9 => ?_)
  · refine V_iload_n hE dX4_hold_14 rfl ?_
    refine V_iload_n hE dX4_hold_15 rfl ?_
    refine cf_X4_69 hE rfl dX4_hold_16 (c_X4_cellOf) rfl rfl ?_
    refine V_istore hE dX4_hold_19 rfl ?_
    refine V_aload_n hE dX4_hold_21 rfl ?_
    refine gf_X4_14 hE rfl dX4_hold_22 ?_
    refine gf_X4_76 hE rfl dX4_hold_25 ?_
    refine V_iload hE dX4_hold_28 rfl ?_
    refine V_baload hE dX4_hold_30 rfl (by omega) ?_
    refine V_iload_n hE dX4_hold_31 rfl ?_
    refine V_icmp_ne hE 37 dX4_hold_32 (by decide) (by omega) (fun h32 => ?_) (fun h32 => ?_)
    · refine V_aload_n hE dX4_hold_37 rfl ?_
      refine gf_X4_14 hE rfl dX4_hold_38 ?_
      refine gf_X4_76 hE rfl dX4_hold_41 ?_
      refine V_iload hE dX4_hold_44 rfl ?_
      refine V_iload_n hE dX4_hold_46 rfl ?_
      refine V_bastore hE dX4_hold_47 rfl (by omega) (by omega) ?_
      refine V_iconst hE dX4_hold_48 ?_
      refine V_ireturn hR dX4_hold_49 ?_
      exact ⟨by omega, by rw [if_pos (by omega)]⟩
    · refine V_iconst hE dX4_hold_35 ?_
      refine V_ireturn hR dX4_hold_36 ?_
      exact ⟨by omega, by rw [if_neg (by omega)]⟩
  · refine V_iconst hE dX4_hold_12 ?_
    refine V_ireturn hR dX4_hold_13 ?_
    exact ⟨by omega, by rw [if_neg (by omega)]⟩
set_option maxRecDepth 100000 in
set_option maxHeartbeats 4000000 in
theorem c_X4_setting {K : Ctx} {σ : Sto} {k v : Int} (hI : IC σ) (hv : InI k ∧ InI v) : CtI K mX4_setting 1 [.ref (kA K 0), .int (i32 k), .int (i32 v)] σ (fun r σ' => r = (if ((k = 0 ∧ 0 ≤ v ∧ v ≤ 999) ∨ (k = 1 ∧ 0 ≤ v ∧ v ≤ 3) ∨ ((k = 2 ∨ k = 3) ∧ 1 ≤ v ∧ v ≤ 99)) then σ 5 k.toNat else -2) ∧ σ' = (if ((k = 0 ∧ 0 ≤ v ∧ v ≤ 999) ∨ (k = 1 ∧ 0 ≤ v ∧ v ≤ 3) ∨ ((k = 2 ∨ k = 3) ∧ 1 ≤ v ∧ v ≤ 99)) then up σ 5 k.toNat v else σ)) := by
  obtain ⟨hS, hW, hB, hRe, hLo, hHi, hO, hPu, hHe, hSc⟩ := id hI
  refine CtI_of (L := [some (.ref (kA K 0)), some (.int (i32 k)), some (.int (i32 v)), none]) (by decide) rfl rfl rfl ?_
  intro E hE hR
  refine V_iload_n hE dX4_setting_0 rfl ?_
  refine V_if_lt hE 30 dX4_setting_1 (by decide) (by omega) (fun h1 => ?_) (fun h1 => ?_)
  · refine V_bipush hE dX4_setting_30 (by decide) ?_
    refine V_ireturn hR dX4_setting_32 ?_
    exact ⟨by rw [if_neg (by omega)], by rw [if_neg (by omega)]⟩
  · refine V_iload_n hE dX4_setting_4 rfl ?_
    refine V_aload_n hE dX4_setting_5 rfl ?_
    refine gf_X4_48 hE rfl dX4_setting_6 ?_
    refine V_alen hE dX4_setting_9 rfl (by decide) ?_
    refine V_icmp_ge hE 30 dX4_setting_10 (by decide) (by omega) (fun h10 => ?_) (fun h10 => ?_)
    · refine V_bipush hE dX4_setting_30 (by decide) ?_
      refine V_ireturn hR dX4_setting_32 ?_
      exact ⟨by rw [if_neg (by omega)], by rw [if_neg (by omega)]⟩
    · refine V_iload_n hE dX4_setting_13 rfl ?_
      refine V_low hE tw_fl_X4_80 dX4_setting_14 ?_
      refine V_iload_n hE dX4_setting_17 rfl ?_
      refine V_lowAt hE dX4_setting_18 (by omega) ?_
      refine V_top hE tw_fl_X4_83 dX4_setting_19 ?_
      refine V_iload_n hE dX4_setting_22 rfl ?_
      refine V_topAt hE dX4_setting_23 (by omega) ?_
      refine cf_X4_61 hE rfl dX4_setting_24 (c_X4_isNot (by omega)) rfl rfl ?_
      refine V_if_eq hE 33 dX4_setting_27 (by decide) (by omega) (fun h27 => ?_) (fun h27 => ?_)
      · refine V_aload_n hE dX4_setting_33 rfl ?_
        refine gf_X4_48 hE rfl dX4_setting_34 ?_
        refine V_iload_n hE dX4_setting_37 rfl ?_
        refine V_iaload hE dX4_setting_38 rfl (by omega) ?_
        refine V_istore_n hE dX4_setting_39 rfl ?_
        refine V_aload_n hE dX4_setting_40 rfl ?_
        refine gf_X4_48 hE rfl dX4_setting_41 ?_
        refine V_iload_n hE dX4_setting_44 rfl ?_
        refine V_iload_n hE dX4_setting_45 rfl ?_
        refine V_iastore hE dX4_setting_46 rfl (by omega) ?_
        refine V_iload_n hE dX4_setting_47 rfl ?_
        refine V_ireturn hR dX4_setting_48 ?_
        exact ⟨by rw [if_pos (by omega)], by rw [if_pos (by omega)]⟩
      · refine V_bipush hE dX4_setting_30 (by decide) ?_
        refine V_ireturn hR dX4_setting_32 ?_
        exact ⟨by rw [if_neg (by omega)], by rw [if_neg (by omega)]⟩
set_option maxRecDepth 100000 in
set_option maxHeartbeats 4000000 in
theorem c_X4_ofPoint {K : Ctx} {σ : Sto} {s l w : Int} (hI : IC σ) (hv : InI s ∧ InI l ∧ InI w) : CtI K mX4_ofPoint 1 [.ref (kA K 0), .int (i32 s), .int (i32 l), .int (i32 w)] σ (fun r σ' => r = ofPS (σ 8) (σ 9) (σ 10) (σ 100 0) (σ 101 0) s l w ∧ σ' = σ) := by
  obtain ⟨hS, hW, hB, hRe, hLo, hHi, hO, hPu, hHe, hSc⟩ := id hI
  have h9 := hHe (7 * s + l).toNat
  refine CtI_of (L := [some (.ref (kA K 0)), some (.int (i32 s)), some (.int (i32 l)), some (.int (i32 w)), none]) (by decide) rfl rfl rfl ?_
  intro E hE hR
  refine V_aload_n hE dX4_ofPoint_0 rfl ?_
  refine gf_X4_14 hE rfl dX4_ofPoint_1 ?_
  refine V_iload_n hE dX4_ofPoint_4 rfl ?_
  refine V_iload_n hE dX4_ofPoint_5 rfl ?_
  refine cf_X4_65 hE rfl dX4_ofPoint_6 (c_X0_hasPoint hI (by omega)) rfl rfl ?_
  refine V_if_ne hE 14 dX4_ofPoint_9 (by decide) (by omega) (fun h9 => ?_) (fun h9 => ?_)
  · refine V_iload_n hE dX4_ofPoint_14 rfl ?_
    refine V_iload_n hE dX4_ofPoint_15 rfl ?_
    refine cf_X4_69 hE rfl dX4_ofPoint_16 (c_X4_cellOf) rfl rfl ?_
    refine V_istore hE dX4_ofPoint_19 rfl ?_
    refine V_iload_n hE dX4_ofPoint_21 rfl ?_
    refine V_sw3 hE 48 59 78 88 dX4_ofPoint_22 (by omega) (by decide) (by decide) (by decide) (fun h22 => ?_) (fun h22 => ?_) (fun h22 => ?_) (fun h22 => ?_)
    · refine V_bipush hE dX4_ofPoint_88 (by decide) ?_
      refine V_ireturn hR dX4_ofPoint_90 ?_
      exact ⟨by unfold ofPS; omega, rfl⟩
    · refine V_aload_n hE dX4_ofPoint_48 rfl ?_
      refine gf_X4_14 hE rfl dX4_ofPoint_49 ?_
      refine gf_X4_86 hE rfl dX4_ofPoint_52 ?_
      refine V_iload hE dX4_ofPoint_55 rfl ?_
      refine V_iaload hE dX4_ofPoint_57 rfl (by omega) ?_
      refine V_ireturn hR dX4_ofPoint_58 ?_
      exact ⟨by unfold ofPS; omega, rfl⟩
    · refine V_aload_n hE dX4_ofPoint_59 rfl ?_
      refine gf_X4_14 hE rfl dX4_ofPoint_60 ?_
      refine gf_X4_76 hE rfl dX4_ofPoint_63 ?_
      refine V_iload hE dX4_ofPoint_66 rfl ?_
      refine V_baload hE dX4_ofPoint_68 rfl (by omega) ?_
      refine V_if_eq hE 76 dX4_ofPoint_69 (by decide) (by omega) (fun h69 => ?_) (fun h69 => ?_)
      · refine V_iconst hE dX4_ofPoint_76 ?_
        refine V_ireturn hR dX4_ofPoint_77 ?_
        exact ⟨by unfold ofPS; omega, rfl⟩
      · refine V_iconst hE dX4_ofPoint_72 ?_
        refine V_goto hE 77 dX4_ofPoint_73 (by decide) ?_
        refine V_ireturn hR dX4_ofPoint_77 ?_
        exact ⟨by unfold ofPS; omega, rfl⟩
    · refine V_aload_n hE dX4_ofPoint_78 rfl ?_
      refine gf_X4_14 hE rfl dX4_ofPoint_79 ?_
      refine V_iload hE dX4_ofPoint_82 rfl ?_
      refine cf_X4_89 hE rfl dX4_ofPoint_84 (c_X0_movedBy (by omega)) rfl rfl ?_
      refine V_ireturn hR dX4_ofPoint_87 ?_
      exact ⟨by unfold ofPS; omega, rfl⟩
  · refine V_iconst hE dX4_ofPoint_12 ?_
    refine V_ireturn hR dX4_ofPoint_13 ?_
    exact ⟨by unfold ofPS; omega, rfl⟩
set_option maxRecDepth 100000 in
set_option maxHeartbeats 4000000 in
theorem c_X4_bend {K : Ctx} {σ : Sto} {v k i : Int} (hI : IC σ) (hv : InI v ∧ InI k ∧ InI i) : CtI K mX4_bend 4 [.ref (kA K 0), .int (i32 v), .int (i32 k), .int (i32 i)] σ (fun r σ' => r = bendS (σ 8) (σ 100 0) (σ 101 0) v k i ∧ SmC σ σ') := by
  obtain ⟨hS, hW, hB, hRe, hLo, hHi, hO, hPu, hHe, hSc⟩ := id hI
  have href : refS (σ 100 0) (σ 101 0) v k = -2 ∨ refS (σ 100 0) (σ 101 0) v k = -1 ∨ refS (σ 100 0) (σ 101 0) v k = 0 := by unfold refS; omega
  have href0 : refS (σ 100 0) (σ 101 0) v k = 0 ↔ ((v = 0 ∨ v = 1) ∧ 0 ≤ k ∧ k < (if v = 0 then σ 101 0 else σ 100 0)) := by unfold refS; omega
  refine CtI_of (L := [some (.ref (kA K 0)), some (.int (i32 v)), some (.int (i32 k)), some (.int (i32 i)), none]) (by decide) rfl rfl rfl ?_
  intro E hE hR
  refine V_aload_n hE dX4_bend_0 rfl ?_
  refine V_iload_n hE dX4_bend_1 rfl ?_
  refine V_iload_n hE dX4_bend_2 rfl ?_
  refine cf_X4_93 hE rfl dX4_bend_3 (c_X4_refusalOfLine hI (by omega)) rfl rfl ?_
  refine V_istore hE dX4_bend_6 rfl ?_
  refine V_iload hE dX4_bend_8 rfl ?_
  refine V_if_eq hE 16 dX4_bend_10 (by decide) (by omega) (fun h10 => ?_) (fun h10 => ?_)
  · refine V_aload_n hE dX4_bend_16 rfl ?_
    refine V_iload_n hE dX4_bend_17 rfl ?_
    refine V_iload_n hE dX4_bend_18 rfl ?_
    refine cl_X4_96 hE rfl dX4_bend_19 (c_X4_takeLine hI (by omega)) rfl rfl ?_
    rintro σ1 hq
    have e102 := hq.2.1
    have hs := LayC_sm hI hq
    refine V_iload_n hE dX4_bend_22 rfl ?_
    refine V_iconst hE dX4_bend_23 ?_
    refine V_aload_n hE dX4_bend_24 rfl ?_
    refine gf_X4_21 hE rfl dX4_bend_25 ?_
    refine gf_X4_99 hE rfl dX4_bend_28 ?_
    refine V_iconst hE dX4_bend_31 ?_
    refine V_isub hE dX4_bend_32 ?_
    refine cf_X4_61 hE rfl dX4_bend_33 (c_X4_isNot (by omega)) rfl rfl ?_
    refine V_if_eq hE 44 dX4_bend_36 (by decide) (by omega) (fun h36 => ?_) (fun h36 => ?_)
    · refine V_aload_n hE dX4_bend_44 rfl ?_
      refine gf_X4_21 hE rfl dX4_bend_45 ?_
      refine V_iload_n hE dX4_bend_48 rfl ?_
      refine cf_X4_103 hE rfl dX4_bend_49 (c_X3_bendAt (by omega)) rfl rfl ?_
      have e : bd (σ1 11) i = bd (lnf (σ 8) v k) i := bd_congr hq.2.2.1 (by omega)
      refine V_ireturn hR dX4_bend_52 ?_
      first
        | exact ⟨by unfold bendS; refine Eq.symm ((if_neg (by unfold barS; omega)).trans ?_); exact e.symm, hs⟩
        | exact ⟨by unfold bendS barS; omega, hs⟩
    · refine V_bipush hE dX4_bend_39 (by decide) ?_
      refine V_goto hE 52 dX4_bend_41 (by decide) ?_
      refine V_ireturn hR dX4_bend_52 ?_
      first
        | exact ⟨by unfold bendS; refine Eq.symm ((if_neg (by unfold barS; omega)).trans ?_); exact e.symm, hs⟩
        | exact ⟨by unfold bendS barS; omega, hs⟩
  · refine V_iload hE dX4_bend_13 rfl ?_
    refine V_ireturn hR dX4_bend_15 ?_
    exact ⟨by unfold bendS barS; unfold refS at *; omega, SmC_rf hSc⟩
set_option maxRecDepth 100000 in
set_option maxHeartbeats 4000000 in
theorem c_X4_jump {K : Ctx} {σ : Sto} {v k i : Int} (hI : IC σ) (hv : InI v ∧ InI k ∧ InI i) : CtI K mX4_jump 4 [.ref (kA K 0), .int (i32 v), .int (i32 k), .int (i32 i)] σ (fun r σ' => r = jumpS (σ 8) (σ 100 0) (σ 101 0) v k i ∧ SmC σ σ') := by
  obtain ⟨hS, hW, hB, hRe, hLo, hHi, hO, hPu, hHe, hSc⟩ := id hI
  have href : refS (σ 100 0) (σ 101 0) v k = -2 ∨ refS (σ 100 0) (σ 101 0) v k = -1 ∨ refS (σ 100 0) (σ 101 0) v k = 0 := by unfold refS; omega
  have href0 : refS (σ 100 0) (σ 101 0) v k = 0 ↔ ((v = 0 ∨ v = 1) ∧ 0 ≤ k ∧ k < (if v = 0 then σ 101 0 else σ 100 0)) := by unfold refS; omega
  refine CtI_of (L := [some (.ref (kA K 0)), some (.int (i32 v)), some (.int (i32 k)), some (.int (i32 i)), none]) (by decide) rfl rfl rfl ?_
  intro E hE hR
  refine V_aload_n hE dX4_jump_0 rfl ?_
  refine V_iload_n hE dX4_jump_1 rfl ?_
  refine V_iload_n hE dX4_jump_2 rfl ?_
  refine cf_X4_93 hE rfl dX4_jump_3 (c_X4_refusalOfLine hI (by omega)) rfl rfl ?_
  refine V_istore hE dX4_jump_6 rfl ?_
  refine V_iload hE dX4_jump_8 rfl ?_
  refine V_if_eq hE 16 dX4_jump_10 (by decide) (by omega) (fun h10 => ?_) (fun h10 => ?_)
  · refine V_aload_n hE dX4_jump_16 rfl ?_
    refine V_iload_n hE dX4_jump_17 rfl ?_
    refine V_iload_n hE dX4_jump_18 rfl ?_
    refine cl_X4_96 hE rfl dX4_jump_19 (c_X4_takeLine hI (by omega)) rfl rfl ?_
    rintro σ1 hq
    have e102 := hq.2.1
    have hs := LayC_sm hI hq
    refine V_iload_n hE dX4_jump_22 rfl ?_
    refine V_iconst hE dX4_jump_23 ?_
    refine V_aload_n hE dX4_jump_24 rfl ?_
    refine gf_X4_21 hE rfl dX4_jump_25 ?_
    refine gf_X4_99 hE rfl dX4_jump_28 ?_
    refine V_iconst hE dX4_jump_31 ?_
    refine V_isub hE dX4_jump_32 ?_
    refine cf_X4_61 hE rfl dX4_jump_33 (c_X4_isNot (by omega)) rfl rfl ?_
    refine V_if_eq hE 44 dX4_jump_36 (by decide) (by omega) (fun h36 => ?_) (fun h36 => ?_)
    · refine V_aload_n hE dX4_jump_44 rfl ?_
      refine gf_X4_21 hE rfl dX4_jump_45 ?_
      refine V_iload_n hE dX4_jump_48 rfl ?_
      refine cf_X4_106 hE rfl dX4_jump_49 (c_X3_jumpAt (by omega)) rfl rfl ?_
      have e : jm (σ1 11) i = jm (lnf (σ 8) v k) i := jm_congr hq.2.2.1 (by omega)
      refine V_ireturn hR dX4_jump_52 ?_
      first
        | exact ⟨by unfold jumpS; refine Eq.symm ((if_neg (by unfold barS; omega)).trans ?_); exact e.symm, hs⟩
        | exact ⟨by unfold jumpS barS; omega, hs⟩
    · refine V_bipush hE dX4_jump_39 (by decide) ?_
      refine V_goto hE 52 dX4_jump_41 (by decide) ?_
      refine V_ireturn hR dX4_jump_52 ?_
      first
        | exact ⟨by unfold jumpS; refine Eq.symm ((if_neg (by unfold barS; omega)).trans ?_); exact e.symm, hs⟩
        | exact ⟨by unfold jumpS barS; omega, hs⟩
  · refine V_iload hE dX4_jump_13 rfl ?_
    refine V_ireturn hR dX4_jump_15 ?_
    exact ⟨by unfold jumpS barS; unfold refS at *; omega, SmC_rf hSc⟩
set_option maxRecDepth 100000 in
set_option maxHeartbeats 4000000 in
theorem c_X4_rough {K : Ctx} {σ : Sto} {v k : Int} (hI : IC σ) (hv : InI v ∧ InI k) : CtI K mX4_rough 4 [.ref (kA K 0), .int (i32 v), .int (i32 k)] σ (fun r σ' => r = roughS (σ 8) (σ 100 0) (σ 101 0) (σ 5 0) v k ∧ SmC σ σ') := by
  obtain ⟨hS, hW, hB, hRe, hLo, hHi, hO, hPu, hHe, hSc⟩ := id hI
  have href : refS (σ 100 0) (σ 101 0) v k = -2 ∨ refS (σ 100 0) (σ 101 0) v k = -1 ∨ refS (σ 100 0) (σ 101 0) v k = 0 := by unfold refS; omega
  have href0 : refS (σ 100 0) (σ 101 0) v k = 0 ↔ ((v = 0 ∨ v = 1) ∧ 0 ≤ k ∧ k < (if v = 0 then σ 101 0 else σ 100 0)) := by unfold refS; omega
  refine CtI_of (L := [some (.ref (kA K 0)), some (.int (i32 v)), some (.int (i32 k)), none]) (by decide) rfl rfl rfl ?_
  intro E hE hR
  refine V_aload_n hE dX4_rough_0 rfl ?_
  refine V_iload_n hE dX4_rough_1 rfl ?_
  refine V_iload_n hE dX4_rough_2 rfl ?_
  refine cf_X4_93 hE rfl dX4_rough_3 (c_X4_refusalOfLine hI (by omega)) rfl rfl ?_
  refine V_istore_n hE dX4_rough_6 rfl ?_
  refine V_iload_n hE dX4_rough_7 rfl ?_
  refine V_if_eq hE 13 dX4_rough_8 (by decide) (by omega) (fun h8 => ?_) (fun h8 => ?_)
  · refine V_aload_n hE dX4_rough_13 rfl ?_
    refine V_iload_n hE dX4_rough_14 rfl ?_
    refine V_iload_n hE dX4_rough_15 rfl ?_
    refine cl_X4_96 hE rfl dX4_rough_16 (c_X4_takeLine hI (by omega)) rfl rfl ?_
    rintro σ1 hq
    have e102 := hq.2.1
    have hs := LayC_sm hI hq
    have e5 : σ1 5 0 = σ 5 0 := by rw [hs.1 5 (by decide)]
    refine V_aload_n hE dX4_rough_19 rfl ?_
    refine gf_X4_21 hE rfl dX4_rough_20 ?_
    refine V_aload_n hE dX4_rough_23 rfl ?_
    refine gf_X4_48 hE rfl dX4_rough_24 ?_
    refine V_iconst hE dX4_rough_27 ?_
    refine V_iaload hE dX4_rough_28 rfl (by omega) ?_
    rw [show Int.toNat 0 = 0 from rfl]
    refine cf_X4_119 hE rfl dX4_rough_29 (c_X3_countJumpsBeyond (by omega) hq.2.2.2 (by omega)) rfl rfl ?_
    refine V_ireturn hR dX4_rough_32 ?_
    refine ⟨?_, hs⟩
    unfold roughS
    refine Eq.symm ((if_neg (by omega)).trans ?_)
    rw [e5, e102]
    exact (rc_congr _ hq.2.2.1 _ (by omega)).symm
  · refine V_iload_n hE dX4_rough_11 rfl ?_
    refine V_ireturn hR dX4_rough_12 ?_
    exact ⟨by unfold roughS; exact (if_pos (by omega)).symm, SmC_rf hSc⟩
set_option maxRecDepth 100000 in
set_option maxHeartbeats 4000000 in
theorem lp_X4_back_4 {K : Ctx} {E : ME} {σ : Sto} (hI : IC σ) (hE : Ok K E mX4_back 1) (hR : RetI K E mX4_back (fun r σ' => r = backS (σ 8) (σ 9) ∧ Fr [8] σ σ' ∧ σ' 8 = lay0 63 (σ 8) (σ 9))) : ∀ (n : Nat) (i : Int) (a : Int) (σ1 : Sto), 63 - i < n → (0 ≤ i ∧ i ≤ 63) → (a = cnt (fun i => decide (σ 8 i ≠ σ 9 i)) i.toNat) → (Fr [8] σ σ1) → (∀ j : Nat, σ1 8 j = if (j : Int) < i then σ 9 j else σ 8 j) → V K E mX4_back 4 [some (.ref (kA K 0)), some (.int (i32 a)), some (.int (i32 i))] [] σ1 := by
  intro n
  induction n with
  | zero =>
    intro i a σ1 hm hi ha hF h20
    exfalso; omega
  | succ n ih =>
    intro i a σ1 hm hi ha hF h20
    obtain ⟨hS, hW, hB, hRe, hLo, hHi, hO, hPu, hHe, hSc⟩ := id hI
    have e21 : σ1 9 = σ 9 := hF 9 (by decide)
    have e20 : σ1 8 i.toNat = σ 8 i.toNat := by rw [h20]; rw [if_neg (by omega)]
    have h8 := hO i.toNat
    have h7 := hPu i.toNat
    rw [← e21] at h7
    rw [← e20] at h8
    refine V_iload_n hE dX4_back_4 rfl ?_
    refine V_bipush hE dX4_back_5 (by decide) ?_
    refine V_icmp_ge hE 48 dX4_back_7 (by decide) (by omega) (fun h7 => ?_) (fun h7 => ?_)
    · refine V_iload_n hE dX4_back_48 rfl ?_
      refine V_ireturn hR dX4_back_49 ?_
      have e : i = 63 := by omega
      subst e
      refine ⟨by rw [ha]; rfl, hF, ?_⟩
      funext j; rw [h20 j, lay0]; simp only [show ((j : Int) < 63) = (j < 63) from by simp; omega]
    · refine V_aload_n hE dX4_back_10 rfl ?_
      refine gf_X4_14 hE rfl dX4_back_11 ?_
      refine V_iload_n hE dX4_back_14 rfl ?_
      refine cf_X4_89 hE rfl dX4_back_15 (c_X0_movedBy (by omega)) rfl rfl ?_
      refine V_if_eq hE 42 dX4_back_18 (by decide) (by omega) (fun h18 => ?_) (fun h18 => ?_)
      · refine V_iinc hE dX4_back_42 rfl rfl ?_
        refine V_goto hE 4 dX4_back_45 (by decide) ?_
        first
          | (refine ih _ _ _ (by omega) (by omega) ?_ (Fr_up hF (by decide)) ?_
             · rw [cnt_step _ (by omega), ← ha]
               rw [e20, e21] at h18
               have h19 : σ 8 i.toNat ≠ σ 9 i.toNat := by omega
               simp [h19]
             · intro j
               have h9 := h20 j
               by_cases e : j = i.toNat
               · subst e; rw [up_at, if_pos rfl, e21, if_pos (by omega)]
               · rw [up_at, if_neg e, h9]; split <;> split <;> omega)
          | (refine ih _ _ _ (by omega) (by omega) ?_ hF ?_
             · rw [cnt_step _ (by omega), ← ha]
               rw [e20, e21] at h18
               have h19 : σ 8 i.toNat = σ 9 i.toNat := by omega
               simp [h19]
             · intro j
               have h9 := h20 j
               by_cases e : j = i.toNat
               · subst e; rw [e21] at h18; rw [if_pos (by omega)]; omega
               · rw [h9]; split <;> split <;> omega)
      · refine V_aload_n hE dX4_back_21 rfl ?_
        refine gf_X4_14 hE rfl dX4_back_22 ?_
        refine gf_X4_86 hE rfl dX4_back_25 ?_
        refine V_iload_n hE dX4_back_28 rfl ?_
        refine V_aload_n hE dX4_back_29 rfl ?_
        refine gf_X4_14 hE rfl dX4_back_30 ?_
        refine gf_X4_138 hE rfl dX4_back_33 ?_
        refine V_iload_n hE dX4_back_36 rfl ?_
        refine V_iaload hE dX4_back_37 rfl (by omega) ?_
        refine V_iastore hE dX4_back_38 rfl (by omega) ?_
        refine V_iinc hE dX4_back_39 rfl rfl ?_
        refine V_iinc hE dX4_back_42 rfl rfl ?_
        refine V_goto hE 4 dX4_back_45 (by decide) ?_
        first
          | (refine ih _ _ _ (by omega) (by omega) ?_ (Fr_up hF (by decide)) ?_
             · rw [cnt_step _ (by omega), ← ha]
               rw [e20, e21] at h18
               have h19 : σ 8 i.toNat ≠ σ 9 i.toNat := by omega
               simp [h19]
             · intro j
               have h9 := h20 j
               by_cases e : j = i.toNat
               · subst e; rw [up_at, if_pos rfl, e21, if_pos (by omega)]
               · rw [up_at, if_neg e, h9]; split <;> split <;> omega)
          | (refine ih _ _ _ (by omega) (by omega) ?_ hF ?_
             · rw [cnt_step _ (by omega), ← ha]
               rw [e20, e21] at h18
               have h19 : σ 8 i.toNat = σ 9 i.toNat := by omega
               simp [h19]
             · intro j
               have h9 := h20 j
               by_cases e : j = i.toNat
               · subst e; rw [e21] at h18; rw [if_pos (by omega)]; omega
               · rw [h9]; split <;> split <;> omega)
set_option maxRecDepth 100000 in
set_option maxHeartbeats 4000000 in
theorem c_X4_back {K : Ctx} {σ : Sto} (hI : IC σ) : CtI K mX4_back 1 [.ref (kA K 0)] σ (fun r σ' => r = backS (σ 8) (σ 9) ∧ Fr [8] σ σ' ∧ σ' 8 = lay0 63 (σ 8) (σ 9)) := by
  refine CtI_of (L := [some (.ref (kA K 0)), none, none]) (by decide) rfl rfl rfl ?_
  intro E hE hR
  refine V_iconst hE dX4_back_0 ?_
  refine V_istore_n hE dX4_back_1 rfl ?_
  refine V_iconst hE dX4_back_2 ?_
  refine V_istore_n hE dX4_back_3 rfl ?_
  exact lp_X4_back_4 hI hE hR 100 0 0 σ (by omega) (by omega) rfl Fr_rf (fun j => by rw [if_neg (by omega)])
