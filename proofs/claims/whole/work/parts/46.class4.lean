set_option maxRecDepth 100000 in
set_option maxHeartbeats 4000000 in
theorem c_X4_areaInSixths {K : Ctx} {σ : Sto} {v k : Int} (hI : IC σ) (hv : (v = 0 ∨ v = 1) ∧ 0 ≤ k ∧ k < (if v = 0 then σ 101 0 else σ 100 0)) : CtI K mX4_areaInSixths 4 [.ref (kA K 0), .int (i32 v), .int (i32 k)] σ (fun r σ' => r = sx (lnf (σ 8) v k) (if v = 0 then σ 100 0 else σ 101 0) * (if v = 0 then σ 5 2 else σ 5 3) ∧ LayC σ v k σ') := by
  obtain ⟨hS, hW, hB, hRe, hLo, hHi, hO, hPu, hHe, hSc⟩ := id hI
  refine CtI_of (L := [some (.ref (kA K 0)), some (.int (i32 v)), some (.int (i32 k)), none]) (by decide) rfl rfl rfl ?_
  intro E hE hR
  refine V_aload_n hE dX4_areaInSixths_0 rfl ?_
  refine V_iload_n hE dX4_areaInSixths_1 rfl ?_
  refine V_iload_n hE dX4_areaInSixths_2 rfl ?_
  refine cl_X4_96 hE rfl dX4_areaInSixths_3 (c_X4_takeLine hI hv) rfl rfl ?_
  rintro σ1 hq
  have e102 := hq.2.1
  have e5 := hq.1 5 (by decide)
  refine V_iload_n hE dX4_areaInSixths_6 rfl ?_
  refine V_if_ne hE 19 dX4_areaInSixths_7 (by decide) (by omega) (fun h7 => ?_) (fun h7 => ?_)
  · refine V_aload_n hE dX4_areaInSixths_19 rfl ?_
    refine gf_X4_48 hE rfl dX4_areaInSixths_20 ?_
    refine V_iconst hE dX4_areaInSixths_23 ?_
    refine V_iaload hE dX4_areaInSixths_24 rfl (by omega) ?_
    rw [show Int.toNat 3 = 3 from rfl]
    refine V_istore_n hE dX4_areaInSixths_25 rfl ?_
    refine V_aload_n hE dX4_areaInSixths_26 rfl ?_
    refine gf_X4_21 hE rfl dX4_areaInSixths_27 ?_
    refine gf_X4_152 hE rfl dX4_areaInSixths_30 ?_
    refine V_aload_n hE dX4_areaInSixths_33 rfl ?_
    refine gf_X4_21 hE rfl dX4_areaInSixths_34 ?_
    refine gf_X4_99 hE rfl dX4_areaInSixths_37 ?_
    refine cf_X4_153 hE rfl dX4_areaInSixths_40 (c_X4_sumInSixths_11 (by omega)) rfl rfl ?_
    refine V_iload_n hE dX4_areaInSixths_43 rfl ?_
    refine V_imul hE dX4_areaInSixths_44 ?_
    refine V_ireturn hR dX4_areaInSixths_45 ?_
    refine ⟨?_, hq⟩
    rw [e102, e5, sx_congr (g := lnf (σ 8) v k) (by omega) hq.2.2.1]
    first | rw [if_pos (c := v = 0) (t := σ 5 2) h7] | rw [if_neg (c := v = 0) (t := σ 5 2) h7]
  · refine V_aload_n hE dX4_areaInSixths_10 rfl ?_
    refine gf_X4_48 hE rfl dX4_areaInSixths_11 ?_
    refine V_iconst hE dX4_areaInSixths_14 ?_
    refine V_iaload hE dX4_areaInSixths_15 rfl (by omega) ?_
    rw [show Int.toNat 2 = 2 from rfl]
    refine V_goto hE 25 dX4_areaInSixths_16 (by decide) ?_
    refine V_istore_n hE dX4_areaInSixths_25 rfl ?_
    refine V_aload_n hE dX4_areaInSixths_26 rfl ?_
    refine gf_X4_21 hE rfl dX4_areaInSixths_27 ?_
    refine gf_X4_152 hE rfl dX4_areaInSixths_30 ?_
    refine V_aload_n hE dX4_areaInSixths_33 rfl ?_
    refine gf_X4_21 hE rfl dX4_areaInSixths_34 ?_
    refine gf_X4_99 hE rfl dX4_areaInSixths_37 ?_
    refine cf_X4_153 hE rfl dX4_areaInSixths_40 (c_X4_sumInSixths_11 (by omega)) rfl rfl ?_
    refine V_iload_n hE dX4_areaInSixths_43 rfl ?_
    refine V_imul hE dX4_areaInSixths_44 ?_
    refine V_ireturn hR dX4_areaInSixths_45 ?_
    refine ⟨?_, hq⟩
    rw [e102, e5, sx_congr (g := lnf (σ 8) v k) (by omega) hq.2.2.1]
    first | rw [if_pos (c := v = 0) (t := σ 5 2) h7] | rw [if_neg (c := v = 0) (t := σ 5 2) h7]
set_option maxRecDepth 100000 in
set_option maxHeartbeats 4000000 in
theorem c_X4_area {K : Ctx} {σ : Sto} {v k w : Int} (hI : IC σ) (hv : InI v ∧ InI k ∧ InI w) : CtL K mX4_area 5 [.ref (kA K 0), .int (i32 v), .int (i32 k), .int (i32 w)] σ (fun r σ' => r = areaS (σ 8) (σ 100 0) (σ 101 0) (σ 5 2) (σ 5 3) v k w ∧ SmC σ σ') := by
  obtain ⟨hS, hW, hB, hRe, hLo, hHi, hO, hPu, hHe, hSc⟩ := id hI
  have href : refS (σ 100 0) (σ 101 0) v k = -2 ∨ refS (σ 100 0) (σ 101 0) v k = -1 ∨ refS (σ 100 0) (σ 101 0) v k = 0 := by unfold refS; omega
  have href0 : refS (σ 100 0) (σ 101 0) v k = 0 ↔ ((v = 0 ∨ v = 1) ∧ 0 ≤ k ∧ k < (if v = 0 then σ 101 0 else σ 100 0)) := by unfold refS; omega
  refine CtL_of (L := [some (.ref (kA K 0)), some (.int (i32 v)), some (.int (i32 k)), some (.int (i32 w))]) (by decide) rfl rfl rfl ?_
  intro E hE hR
  refine V_aload_n hE dX4_area_0 rfl ?_
  refine V_iload_n hE dX4_area_1 rfl ?_
  refine V_iload_n hE dX4_area_2 rfl ?_
  refine cf_X4_93 hE rfl dX4_area_3 (c_X4_refusalOfLine hI (by omega)) rfl rfl ?_
  refine V_if_ne hE 18 dX4_area_6 (by decide) (by omega) (fun h6 => ?_) (fun h6 => ?_)
  · refine V_ldc2 hE tw_cl_X4_141 dX4_area_18 ?_
    refine V_lreturn hR dX4_area_21 ?_
    exact ⟨by unfold areaS; exact (if_pos (by omega)).symm, SmC_rf hSc⟩
  · refine V_iload_n hE dX4_area_9 rfl ?_
    refine V_iconst hE dX4_area_10 ?_
    refine V_iconst hE dX4_area_11 ?_
    refine cf_X4_61 hE rfl dX4_area_12 (c_X4_isNot (by omega)) rfl rfl ?_
    refine V_if_eq hE 22 dX4_area_15 (by decide) (by omega) (fun h15 => ?_) (fun h15 => ?_)
    · refine V_aload_n hE dX4_area_22 rfl ?_
      refine V_iload_n hE dX4_area_23 rfl ?_
      refine V_iload_n hE dX4_area_24 rfl ?_
      refine cl_X4_143 hE rfl dX4_area_25 (c_X4_areaInSixths hI (by omega)) rfl rfl ?_
      rintro r σ1 ⟨rfl, hq⟩
      have hsx := sx_rng (f := lnf (σ 8) v k) (n := (if v = 0 then σ 100 0 else σ 101 0)) (M := 999) (by omega) (fun i _ => lnf_rng hO v k i)
      have hm1 := mul_rng hsx (b := (if v = 0 then σ 5 2 else σ 5 3)) (N := 99) (by omega)
      refine V_i2l hE dX4_area_28 (by omega) ?_
      refine V_ldc2 hE tw_cl_X4_146 dX4_area_29 ?_
      refine V_iload_n hE dX4_area_32 rfl ?_
      refine cf_X4_148 hE rfl dX4_area_33 (c_X4_toldShare (by omega) (by omega) (by omega)) rfl rfl ?_
      refine V_lreturn hR dX4_area_36 ?_
      exact ⟨by unfold areaS; exact (if_neg (by omega)).symm, LayC_sm hI hq⟩
    · refine V_ldc2 hE tw_cl_X4_141 dX4_area_18 ?_
      refine V_lreturn hR dX4_area_21 ?_
      exact ⟨by unfold areaS; exact (if_pos (by omega)).symm, SmC_rf hSc⟩
set_option maxRecDepth 100000 in
set_option maxHeartbeats 4000000 in
theorem lp_X4_centre_59 {K : Ctx} {E : ME} {σ σL : Sto} {v k w : Int} (hI : IC σ) (hv : InI v ∧ InI k ∧ InI w) (hg : ¬(¬(v = 0 ∨ v = 1) ∨ ¬(0 ≤ k ∧ k < (if v = 0 then σ 101 0 else σ 100 0)) ∨ ¬(w = 0 ∨ w = 1))) (hq : LayC σ v k σL) (h0 : ¬ sx (lnf (σ 8) v k) (if v = 0 then σ 100 0 else σ 101 0) = 0) (hE : Ok K E mX4_centre 4) (hR : RetL K E mX4_centre (fun r σ' => r = centS (σ 8) (σ 100 0) (σ 101 0) v k w ∧ SmC σ σ')) : ∀ (n : Nat) (i : Int) (σ1 : Sto), (if v = 0 then σ 100 0 else σ 101 0) - i < n → (0 ≤ i ∧ i ≤ (if v = 0 then σ 100 0 else σ 101 0)) → (Fr [7] σL σ1) → (∀ j : Nat, (j : Int) < i → σ1 7 j = σL 11 j * j) → V K E mX4_centre 59 [some (.ref (kA K 0)), some (.int (i32 v)), some (.int (i32 k)), some (.int (i32 w)), some (.int (i32 (sx (lnf (σ 8) v k) (if v = 0 then σ 100 0 else σ 101 0)))), some (.int (i32 i))] [] σ1 := by
  intro n
  induction n with
  | zero =>
    intro i σ1 hm hi hF hr
    exfalso; omega
  | succ n ih =>
    intro i σ1 hm hi hF hr
    obtain ⟨hS, hW, hB, hRe, hLo, hHi, hO, hPu, hHe, hSc⟩ := id hI
    have e102 := hq.2.1
    have f102 : σ1 102 0 = σL 102 0 := by rw [hF 102 (by decide)]
    have e11 : σ1 11 = σL 11 := hF 11 (by decide)
    have hr11 := hq.2.2.2 i.toNat
    rw [← e11] at hr11
    have hsx := sx_rng (f := lnf (σ 8) v k) (n := (if v = 0 then σ 100 0 else σ 101 0)) (M := 999) (by omega) (fun i _ => lnf_rng hO v k i)
    refine V_iload hE dX4_centre_59 rfl ?_
    refine V_aload_n hE dX4_centre_61 rfl ?_
    refine gf_X4_21 hE rfl dX4_centre_62 ?_
    refine gf_X4_99 hE rfl dX4_centre_65 ?_
    refine V_icmp_ge hE 97 dX4_centre_68 (by decide) (by omega) (fun h68 => ?_) (fun h68 => ?_)
    · refine V_aload_n hE dX4_centre_97 rfl ?_
      refine gf_X4_54 hE rfl dX4_centre_98 ?_
      refine V_aload_n hE dX4_centre_101 rfl ?_
      refine gf_X4_21 hE rfl dX4_centre_102 ?_
      refine gf_X4_99 hE rfl dX4_centre_105 ?_
      refine cf_X4_153 hE rfl dX4_centre_108 (c_X4_sumInSixths_7 (by omega)) rfl rfl ?_
      have es : sx (σ1 7) (σ1 102 0) = sx (fun i => lnf (σ 8) v k i * i) (if v = 0 then σ 100 0 else σ 101 0) := by
        rw [f102, e102]
        refine sx_congr (by omega) (fun j hj => ?_)
        rw [hr j (by omega), hq.2.2.1 j hj]
      rw [es]
      have hsx2 := sx_rng (f := fun i => lnf (σ 8) v k i * i) (n := (if v = 0 then σ 100 0 else σ 101 0)) (M := 999 * 9) (by omega) (fun i hi => mul_rng (lnf_rng hO v k i) (by omega))
      refine V_i2l hE dX4_centre_111 (by omega) ?_
      refine V_iload hE dX4_centre_112 rfl ?_
      refine V_i2l hE dX4_centre_114 (by omega) ?_
      refine V_iload_n hE dX4_centre_115 rfl ?_
      refine cf_X4_148 hE rfl dX4_centre_116 (c_X4_toldShare (by omega) (by omega) (by omega)) rfl rfl ?_
      refine V_lreturn hR dX4_centre_119 ?_
      refine ⟨?_, SmC_tr (LayC_sm hI hq) ⟨Fr_sub hF (by decide), ScC_fr (LayC_sm hI hq).2 hF (by decide)⟩⟩
      unfold centS
      exact Eq.symm ((if_neg hg).trans (if_neg h0))
    · refine V_aload_n hE dX4_centre_71 rfl ?_
      refine gf_X4_54 hE rfl dX4_centre_72 ?_
      refine V_iload hE dX4_centre_75 rfl ?_
      refine V_aload_n hE dX4_centre_77 rfl ?_
      refine gf_X4_21 hE rfl dX4_centre_78 ?_
      refine gf_X4_152 hE rfl dX4_centre_81 ?_
      refine V_iload hE dX4_centre_84 rfl ?_
      refine V_iaload hE dX4_centre_86 rfl (by omega) ?_
      refine V_iload hE dX4_centre_87 rfl ?_
      refine V_imul hE dX4_centre_89 ?_
      refine V_iastore hE dX4_centre_90 rfl (by omega) ?_
      refine V_iinc hE dX4_centre_91 rfl rfl ?_
      refine V_goto hE 59 dX4_centre_94 (by decide) ?_
      refine ih _ _ (by omega) (by omega) (Fr_up hF (by decide)) ?_
      intro j hj
      rw [up_at]
      split
      · subst j; rw [e11, show ((i.toNat : Nat) : Int) = i by omega]
      · exact hr j (by omega)
set_option maxRecDepth 100000 in
set_option maxHeartbeats 4000000 in
theorem c_X4_centre {K : Ctx} {σ : Sto} {v k w : Int} (hI : IC σ) (hv : InI v ∧ InI k ∧ InI w) : CtL K mX4_centre 4 [.ref (kA K 0), .int (i32 v), .int (i32 k), .int (i32 w)] σ (fun r σ' => r = centS (σ 8) (σ 100 0) (σ 101 0) v k w ∧ SmC σ σ') := by
  obtain ⟨hS, hW, hB, hRe, hLo, hHi, hO, hPu, hHe, hSc⟩ := id hI
  have href : refS (σ 100 0) (σ 101 0) v k = -2 ∨ refS (σ 100 0) (σ 101 0) v k = -1 ∨ refS (σ 100 0) (σ 101 0) v k = 0 := by unfold refS; omega
  have href0 : refS (σ 100 0) (σ 101 0) v k = 0 ↔ ((v = 0 ∨ v = 1) ∧ 0 ≤ k ∧ k < (if v = 0 then σ 101 0 else σ 100 0)) := by unfold refS; omega
  refine CtL_of (L := [some (.ref (kA K 0)), some (.int (i32 v)), some (.int (i32 k)), some (.int (i32 w)), none, none]) (by decide) rfl rfl rfl ?_
  intro E hE hR
  refine V_aload_n hE dX4_centre_0 rfl ?_
  refine V_iload_n hE dX4_centre_1 rfl ?_
  refine V_iload_n hE dX4_centre_2 rfl ?_
  refine cf_X4_93 hE rfl dX4_centre_3 (c_X4_refusalOfLine hI (by omega)) rfl rfl ?_
  refine V_if_ne hE 18 dX4_centre_6 (by decide) (by omega) (fun h6 => ?_) (fun h6 => ?_)
  · refine V_ldc2 hE tw_cl_X4_141 dX4_centre_18 ?_
    refine V_lreturn hR dX4_centre_21 ?_
    exact ⟨by unfold centS; exact (if_pos (by omega)).symm, SmC_rf hSc⟩
  · refine V_iload_n hE dX4_centre_9 rfl ?_
    refine V_iconst hE dX4_centre_10 ?_
    refine V_iconst hE dX4_centre_11 ?_
    refine cf_X4_61 hE rfl dX4_centre_12 (c_X4_isNot (by omega)) rfl rfl ?_
    refine V_if_eq hE 22 dX4_centre_15 (by decide) (by omega) (fun h15 => ?_) (fun h15 => ?_)
    · refine V_aload_n hE dX4_centre_22 rfl ?_
      refine V_iload_n hE dX4_centre_23 rfl ?_
      refine V_iload_n hE dX4_centre_24 rfl ?_
      refine cl_X4_96 hE rfl dX4_centre_25 (c_X4_takeLine hI (by omega)) rfl rfl ?_
      rintro σ1 hq
      have e102 := hq.2.1
      refine V_aload_n hE dX4_centre_28 rfl ?_
      refine gf_X4_21 hE rfl dX4_centre_29 ?_
      refine gf_X4_152 hE rfl dX4_centre_32 ?_
      refine V_aload_n hE dX4_centre_35 rfl ?_
      refine gf_X4_21 hE rfl dX4_centre_36 ?_
      refine gf_X4_99 hE rfl dX4_centre_39 ?_
      refine cf_X4_153 hE rfl dX4_centre_42 (c_X4_sumInSixths_11 (by omega)) rfl rfl ?_
      have es : sx (σ1 11) (σ1 102 0) = sx (lnf (σ 8) v k) (if v = 0 then σ 100 0 else σ 101 0) := by rw [e102]; exact sx_congr (by omega) hq.2.2.1
      rw [es]
      have hsx := sx_rng (f := lnf (σ 8) v k) (n := (if v = 0 then σ 100 0 else σ 101 0)) (M := 999) (by omega) (fun i _ => lnf_rng hO v k i)
      refine V_istore hE dX4_centre_45 rfl ?_
      refine V_iload hE dX4_centre_47 rfl ?_
      refine V_if_ne hE 56 dX4_centre_49 (by decide) (by omega) (fun h49 => ?_) (fun h49 => ?_)
      · refine V_iconst hE dX4_centre_56 ?_
        refine V_istore hE dX4_centre_57 rfl ?_
        exact lp_X4_centre_59 hI hv (by omega) hq h49 hE hR 100 0 σ1 (by omega) (by omega) Fr_rf (fun j hj => by omega)
      · refine V_ldc2 hE tw_cl_X4_141 dX4_centre_52 ?_
        refine V_lreturn hR dX4_centre_55 ?_
        refine ⟨?_, LayC_sm hI hq⟩
        unfold centS
        exact Eq.symm ((if_neg (by omega)).trans (if_pos h49))
    · refine V_ldc2 hE tw_cl_X4_141 dX4_centre_18 ?_
      refine V_lreturn hR dX4_centre_21 ?_
      exact ⟨by unfold centS; exact (if_pos (by omega)).symm, SmC_rf hSc⟩
set_option maxRecDepth 100000 in
set_option maxHeartbeats 4000000 in
theorem lp_X4_volume_34 {K : Ctx} {E : ME} {σ : Sto} {v w : Int} (hI : IC σ) (hv : InI v ∧ InI w) (hg : ¬(¬(v = 0 ∨ v = 1) ∨ ¬(w = 0 ∨ w = 1))) (hk : ∀ σ1 : Sto, SmC σ σ1 → (∀ j : Nat, (j : Int) < (if v = 0 then σ 101 0 else σ 100 0) → σ1 7 j = (fun k : Nat => sx (lnf (σ 8) v k) (if v = 0 then σ 100 0 else σ 101 0) * (if v = 0 then σ 5 2 else σ 5 3)) j) → V K E mX4_volume 60 [some (.ref (kA K 0)), some (.int (i32 v)), some (.int (i32 w)), some (.int (i32 (if v = 0 then σ 101 0 else σ 100 0))), some (.int (i32 (if v = 0 then σ 101 0 else σ 100 0))), none] [] σ1) (hE : Ok K E mX4_volume 5) : ∀ (n : Nat) (k : Int) (σ1 : Sto), (if v = 0 then σ 101 0 else σ 100 0) - k < n → (0 ≤ k ∧ k ≤ (if v = 0 then σ 101 0 else σ 100 0)) → (SmC σ σ1) → (∀ j : Nat, (j : Int) < k → σ1 7 j = (fun k : Nat => sx (lnf (σ 8) v k) (if v = 0 then σ 100 0 else σ 101 0) * (if v = 0 then σ 5 2 else σ 5 3)) j) → V K E mX4_volume 34 [some (.ref (kA K 0)), some (.int (i32 v)), some (.int (i32 w)), some (.int (i32 (if v = 0 then σ 101 0 else σ 100 0))), some (.int (i32 k)), none] [] σ1 := by
  intro n
  induction n with
  | zero =>
    intro k σ1 hm hk1 hs hr
    exfalso; omega
  | succ n ih =>
    intro k σ1 hm hk1 hs hr
    obtain ⟨hS, hW, hB, hRe, hLo, hHi, hO, hPu, hHe, hSc⟩ := id hI
    have e101 := congrFun (hs.1 101 (by decide)) 0
    have e100 := congrFun (hs.1 100 (by decide)) 0
    have e8 := hs.1 8 (by decide)
    have e5 := hs.1 5 (by decide)
    refine V_iload hE dX4_volume_34 rfl ?_
    refine V_iload_n hE dX4_volume_36 rfl ?_
    refine V_icmp_ge hE 60 dX4_volume_37 (by decide) (by omega) (fun h37 => ?_) (fun h37 => ?_)
    · have ek : k = (if v = 0 then σ 101 0 else σ 100 0) := by omega
      subst ek
      exact hk _ hs hr
    · refine V_aload_n hE dX4_volume_40 rfl ?_
      refine gf_X4_54 hE rfl dX4_volume_41 ?_
      refine V_iload hE dX4_volume_44 rfl ?_
      refine V_aload_n hE dX4_volume_46 rfl ?_
      refine V_iload_n hE dX4_volume_47 rfl ?_
      refine V_iload hE dX4_volume_48 rfl ?_
      refine cl_X4_143 hE rfl dX4_volume_50 (c_X4_areaInSixths (IC_sm hI hs) (by omega)) rfl rfl ?_
      rintro r σ2 ⟨rfl, hq⟩
      have hs2 := LayC_sm (IC_sm hI hs) hq
      refine V_iastore hE dX4_volume_53 rfl (by omega) ?_
      refine V_iinc hE dX4_volume_54 rfl rfl ?_
      refine V_goto hE 34 dX4_volume_57 (by decide) ?_
      refine ih _ _ (by omega) (by omega) (SmC_tr hs (SmC_tr hs2 ⟨Fr_up Fr_rf (by decide), ScC_fr hs2.2 (Fr_up (ks := [7]) Fr_rf (by decide)) (by decide)⟩)) ?_
      intro j hj
      rw [up_at]
      split
      · subst j
        rw [e100, e101, e8, e5]
        show _ = sx (lnf (σ 8) v ((k.toNat : Nat) : Int)) _ * _
        rw [show ((k.toNat : Nat) : Int) = k by omega]
      · rw [← hr j (by omega)]
        have h7 : σ2 7 = σ1 7 := hq.1 7 (by decide)
        rw [h7]
set_option maxRecDepth 100000 in
set_option maxHeartbeats 4000000 in
theorem c_X4_volume {K : Ctx} {σ : Sto} {v w : Int} (hI : IC σ) (hv : InI v ∧ InI w) : CtL K mX4_volume 5 [.ref (kA K 0), .int (i32 v), .int (i32 w)] σ (fun r σ' => r = volS (σ 8) (σ 100 0) (σ 101 0) (σ 5 2) (σ 5 3) v w ∧ SmC σ σ') := by
  obtain ⟨hS, hW, hB, hRe, hLo, hHi, hO, hPu, hHe, hSc⟩ := id hI
  refine CtL_of (L := [some (.ref (kA K 0)), some (.int (i32 v)), some (.int (i32 w)), none, none, none]) (by decide) rfl rfl rfl ?_
  intro E hE hR
  refine V_iload_n hE dX4_volume_0 rfl ?_
  refine V_iconst hE dX4_volume_1 ?_
  refine V_iconst hE dX4_volume_2 ?_
  refine cf_X4_61 hE rfl dX4_volume_3 (c_X4_isNot (by omega)) rfl rfl ?_
  refine V_if_ne hE 18 dX4_volume_6 (by decide) (by omega) (fun h6 => ?_) (fun h6 => ?_)
  · refine V_ldc2 hE tw_cl_X4_141 dX4_volume_18 ?_
    refine V_lreturn hR dX4_volume_21 ?_
    exact ⟨by unfold volS; exact (if_pos (by omega)).symm, SmC_rf hSc⟩
  · refine V_iload_n hE dX4_volume_9 rfl ?_
    refine V_iconst hE dX4_volume_10 ?_
    refine V_iconst hE dX4_volume_11 ?_
    refine cf_X4_61 hE rfl dX4_volume_12 (c_X4_isNot (by omega)) rfl rfl ?_
    refine V_if_eq hE 22 dX4_volume_15 (by decide) (by omega) (fun h15 => ?_) (fun h15 => ?_)
    · refine V_aload_n hE dX4_volume_22 rfl ?_
      refine gf_X4_14 hE rfl dX4_volume_23 ?_
      refine V_iload_n hE dX4_volume_26 rfl ?_
      refine cf_X4_109 hE rfl dX4_volume_27 (c_X0_linesOf (by omega)) rfl rfl ?_
      refine V_istore_n hE dX4_volume_30 rfl ?_
      refine V_iconst hE dX4_volume_31 ?_
      refine V_istore hE dX4_volume_32 rfl ?_
      refine lp_X4_volume_34 hI hv (by omega) ?_ hE 100 0 σ (by omega) (by omega) (SmC_rf hSc) (fun j hj => by omega)
      intro σ1 hs1 h7
      have e5 := hs1.1 5 (by decide)
      have e52 : σ1 5 2 = σ 5 2 := by rw [e5]
      have e53 : σ1 5 3 = σ 5 3 := by rw [e5]
      refine V_iload_n hE dX4_volume_60 rfl ?_
      refine V_if_ne hE 74 dX4_volume_61 (by decide) (by omega) (fun h61 => ?_) (fun h61 => ?_)
      · refine V_aload_n hE dX4_volume_74 rfl ?_
        refine gf_X4_48 hE rfl dX4_volume_75 ?_
        refine V_iconst hE dX4_volume_78 ?_
        refine V_iaload hE dX4_volume_79 rfl (by omega) ?_
        rw [show Int.toNat 2 = 2 from rfl]
        refine V_i2l hE dX4_volume_80 (by omega) ?_
        refine V_lstore hE dX4_volume_81 rfl ?_
        refine V_aload_n hE dX4_volume_83 rfl ?_
        refine gf_X4_54 hE rfl dX4_volume_84 ?_
        refine V_iload_n hE dX4_volume_87 rfl ?_
        refine cf_X4_153 hE rfl dX4_volume_88 (c_X4_sumInSixths_7 (by omega)) rfl rfl ?_
        have es : sx (σ1 7) (if v = 0 then σ 101 0 else σ 100 0) = sx (fun k : Nat => sx (lnf (σ 8) v k) (if v = 0 then σ 100 0 else σ 101 0)) (if v = 0 then σ 101 0 else σ 100 0) * (if v = 0 then σ 5 2 else σ 5 3) := by
          rw [sx_congr (g := (fun k : Nat => sx (lnf (σ 8) v k) (if v = 0 then σ 100 0 else σ 101 0) * (if v = 0 then σ 5 2 else σ 5 3))) (by omega) h7]
          exact sx_mul (fun k : Nat => sx (lnf (σ 8) v k) (if v = 0 then σ 100 0 else σ 101 0)) _ (by omega)
        rw [es]
        have hsx := sx_rng (f := (fun k : Nat => sx (lnf (σ 8) v k) (if v = 0 then σ 100 0 else σ 101 0))) (n := (if v = 0 then σ 101 0 else σ 100 0)) (M := 60 * 999) (by omega) (fun i hi => sx_rng (by omega) (fun j _ => lnf_rng hO v i j))
        have hm1 := mul_rng hsx (b := (if v = 0 then σ 5 2 else σ 5 3)) (N := 99) (by omega)
        have hm2 := mul_rng hm1 (b := σ1 5 3) (N := 99) (by omega)
        have hm3 := mul_rng hm1 (b := σ1 5 2) (N := 99) (by omega)
        refine V_i2l hE dX4_volume_91 (by omega) ?_
        refine V_lload hE dX4_volume_92 rfl ?_
        refine V_lmul hE dX4_volume_94 ?_
        refine V_ldc2 hE tw_cl_X4_157 dX4_volume_95 ?_
        refine V_iload_n hE dX4_volume_98 rfl ?_
        refine cf_X4_148 hE rfl dX4_volume_99 (c_X4_toldShare (by omega) (by omega) (by omega)) rfl rfl ?_
        refine V_lreturn hR dX4_volume_102 ?_
        refine ⟨?_, hs1⟩
        unfold volS
        refine Eq.symm ((if_neg (by omega)).trans ?_)
        first
          | (rw [e53, if_pos (c := v = 0) (t := σ 5 2) h61])
          | (rw [e52, if_neg (c := v = 0) (t := σ 5 2) h61, Int.mul_right_comm])
      · refine V_aload_n hE dX4_volume_64 rfl ?_
        refine gf_X4_48 hE rfl dX4_volume_65 ?_
        refine V_iconst hE dX4_volume_68 ?_
        refine V_iaload hE dX4_volume_69 rfl (by omega) ?_
        rw [show Int.toNat 3 = 3 from rfl]
        refine V_i2l hE dX4_volume_70 (by omega) ?_
        refine V_goto hE 81 dX4_volume_71 (by decide) ?_
        refine V_lstore hE dX4_volume_81 rfl ?_
        refine V_aload_n hE dX4_volume_83 rfl ?_
        refine gf_X4_54 hE rfl dX4_volume_84 ?_
        refine V_iload_n hE dX4_volume_87 rfl ?_
        refine cf_X4_153 hE rfl dX4_volume_88 (c_X4_sumInSixths_7 (by omega)) rfl rfl ?_
        have es : sx (σ1 7) (if v = 0 then σ 101 0 else σ 100 0) = sx (fun k : Nat => sx (lnf (σ 8) v k) (if v = 0 then σ 100 0 else σ 101 0)) (if v = 0 then σ 101 0 else σ 100 0) * (if v = 0 then σ 5 2 else σ 5 3) := by
          rw [sx_congr (g := (fun k : Nat => sx (lnf (σ 8) v k) (if v = 0 then σ 100 0 else σ 101 0) * (if v = 0 then σ 5 2 else σ 5 3))) (by omega) h7]
          exact sx_mul (fun k : Nat => sx (lnf (σ 8) v k) (if v = 0 then σ 100 0 else σ 101 0)) _ (by omega)
        rw [es]
        have hsx := sx_rng (f := (fun k : Nat => sx (lnf (σ 8) v k) (if v = 0 then σ 100 0 else σ 101 0))) (n := (if v = 0 then σ 101 0 else σ 100 0)) (M := 60 * 999) (by omega) (fun i hi => sx_rng (by omega) (fun j _ => lnf_rng hO v i j))
        have hm1 := mul_rng hsx (b := (if v = 0 then σ 5 2 else σ 5 3)) (N := 99) (by omega)
        have hm2 := mul_rng hm1 (b := σ1 5 3) (N := 99) (by omega)
        have hm3 := mul_rng hm1 (b := σ1 5 2) (N := 99) (by omega)
        refine V_i2l hE dX4_volume_91 (by omega) ?_
        refine V_lload hE dX4_volume_92 rfl ?_
        refine V_lmul hE dX4_volume_94 ?_
        refine V_ldc2 hE tw_cl_X4_157 dX4_volume_95 ?_
        refine V_iload_n hE dX4_volume_98 rfl ?_
        refine cf_X4_148 hE rfl dX4_volume_99 (c_X4_toldShare (by omega) (by omega) (by omega)) rfl rfl ?_
        refine V_lreturn hR dX4_volume_102 ?_
        refine ⟨?_, hs1⟩
        unfold volS
        refine Eq.symm ((if_neg (by omega)).trans ?_)
        first
          | (rw [e53, if_pos (c := v = 0) (t := σ 5 2) h61])
          | (rw [e52, if_neg (c := v = 0) (t := σ 5 2) h61, Int.mul_right_comm])
    · refine V_ldc2 hE tw_cl_X4_141 dX4_volume_18 ?_
      refine V_lreturn hR dX4_volume_21 ?_
      exact ⟨by unfold volS; exact (if_pos (by omega)).symm, SmC_rf hSc⟩
set_option maxRecDepth 100000 in
set_option maxHeartbeats 4000000 in
theorem c_X4_height {K : Ctx} {σ : Sto} {s b w : Int} (hI : IC σ) (hv : InI s ∧ InI b ∧ InI w) : CtL K mX4_height 2 [.ref (kA K 0), .int (i32 s), .int (i32 b), .int (i32 w)] σ (fun r σ' => r = heightS (σ 8) (σ 100 0) (σ 101 0) s b w ∧ SmC σ σ') := by
  obtain ⟨hS, hW, hB, hRe, hLo, hHi, hO, hPu, hHe, hSc⟩ := id hI
  refine CtL_of (L := [some (.ref (kA K 0)), some (.int (i32 s)), some (.int (i32 b)), some (.int (i32 w))]) (by decide) rfl rfl rfl ?_
  intro E hE hR
  refine V_iload_n hE dX4_height_0 rfl ?_
  refine V_iconst hE dX4_height_1 ?_
  refine V_aload_n hE dX4_height_2 rfl ?_
  refine gf_X4_14 hE rfl dX4_height_3 ?_
  refine gf_X4_159 hE rfl dX4_height_6 ?_
  refine V_iconst hE dX4_height_9 ?_
  refine V_isub hE dX4_height_10 ?_
  refine cf_X4_61 hE rfl dX4_height_11 (c_X4_isNot (by omega)) rfl rfl ?_
  refine V_if_ne hE 37 dX4_height_14 (by decide) (by omega) (fun h14 => ?_) (fun h14 => ?_)
  · refine V_ldc2 hE tw_cl_X4_141 dX4_height_37 ?_
    refine V_lreturn hR dX4_height_40 ?_
    exact ⟨by unfold heightS; exact (if_pos (by omega)).symm, SmC_rf hSc⟩
  · refine V_iload_n hE dX4_height_17 rfl ?_
    refine V_iconst hE dX4_height_18 ?_
    refine V_sipush hE dX4_height_19 (by decide) ?_
    refine cf_X4_61 hE rfl dX4_height_22 (c_X4_isNot (by omega)) rfl rfl ?_
    refine V_if_ne hE 37 dX4_height_25 (by decide) (by omega) (fun h25 => ?_) (fun h25 => ?_)
    · refine V_ldc2 hE tw_cl_X4_141 dX4_height_37 ?_
      refine V_lreturn hR dX4_height_40 ?_
      exact ⟨by unfold heightS; exact (if_pos (by omega)).symm, SmC_rf hSc⟩
    · refine V_iload_n hE dX4_height_28 rfl ?_
      refine V_iconst hE dX4_height_29 ?_
      refine V_iconst hE dX4_height_30 ?_
      refine cf_X4_61 hE rfl dX4_height_31 (c_X4_isNot (by omega)) rfl rfl ?_
      refine V_if_eq hE 41 dX4_height_34 (by decide) (by omega) (fun h34 => ?_) (fun h34 => ?_)
      · refine V_aload_n hE dX4_height_41 rfl ?_
        refine gf_X4_35 hE rfl dX4_height_42 ?_
        refine V_aload_n hE dX4_height_45 rfl ?_
        refine gf_X4_14 hE rfl dX4_height_46 ?_
        refine V_iload_n hE dX4_height_49 rfl ?_
        refine V_iload_n hE dX4_height_50 rfl ?_
        refine cl_X4_162 hE rfl dX4_height_51 (c_X1_measure hI (by omega) (by omega)) rfl rfl ?_
        rintro σ1 ⟨hF1, h17, h18⟩
        have hlr := htL_rng (lnf_rng hO 1 s) b hW
        have hur := htU_rng (lnf_rng hO 1 s) (b := b) (by omega) hW
        have e17 := h17 s.toNat
        have e18 := h18 s.toNat
        rw [if_pos rfl] at e17 e18
        refine V_aload_n hE dX4_height_54 rfl ?_
        refine gf_X4_35 hE rfl dX4_height_55 ?_
        refine V_iload_n hE dX4_height_58 rfl ?_
        refine cf_X4_166 hE rfl dX4_height_59 (c_X1_isThere (by omega) (by omega)) rfl rfl ?_
        refine V_if_ne hE 69 dX4_height_62 (by decide) (by omega) (fun h62 => ?_) (fun h62 => ?_)
        · refine V_aload_n hE dX4_height_69 rfl ?_
          refine gf_X4_35 hE rfl dX4_height_70 ?_
          refine gf_X4_170 hE rfl dX4_height_73 ?_
          refine V_iload_n hE dX4_height_76 rfl ?_
          refine V_laload hE dX4_height_77 rfl (by omega) ?_
          refine V_aload_n hE dX4_height_78 rfl ?_
          refine gf_X4_35 hE rfl dX4_height_79 ?_
          refine gf_X4_174 hE rfl dX4_height_82 ?_
          refine V_iload_n hE dX4_height_85 rfl ?_
          refine V_laload hE dX4_height_86 rfl (by omega) ?_
          refine V_iload_n hE dX4_height_87 rfl ?_
          refine cf_X4_148 hE rfl dX4_height_88 (c_X4_toldShare (by omega) (by omega) (by omega)) rfl rfl ?_
          refine V_lreturn hR dX4_height_91 ?_
          exact ⟨by rw [e17, e18]; unfold heightS; exact (if_neg (by omega)).symm, SmC_h hI hF1⟩
        · refine V_ldc2 hE tw_cl_X4_141 dX4_height_65 ?_
          refine V_lreturn hR dX4_height_68 ?_
          exact ⟨by unfold heightS; exact (if_pos (by omega)).symm, SmC_h hI hF1⟩
      · refine V_ldc2 hE tw_cl_X4_141 dX4_height_37 ?_
        refine V_lreturn hR dX4_height_40 ?_
        exact ⟨by unfold heightS; exact (if_pos (by omega)).symm, SmC_rf hSc⟩
set_option maxRecDepth 100000 in
set_option maxHeartbeats 4000000 in
theorem c_X4_breaks {K : Ctx} {σ : Sto} {b : Int} (hI : IC σ) (hv : InI b) : CtI K mX4_breaks 3 [.ref (kA K 0), .int (i32 b)] σ (fun r σ' => r = breaksS (σ 8) (σ 100 0) (σ 101 0) (σ 5 0) b ∧ SmC σ σ') := by
  obtain ⟨hS, hW, hB, hRe, hLo, hHi, hO, hPu, hHe, hSc⟩ := id hI
  refine CtI_of (L := [some (.ref (kA K 0)), some (.int (i32 b))]) (by decide) rfl rfl rfl ?_
  intro E hE hR
  refine V_iload_n hE dX4_breaks_0 rfl ?_
  refine V_iconst hE dX4_breaks_1 ?_
  refine V_sipush hE dX4_breaks_2 (by decide) ?_
  refine cf_X4_61 hE rfl dX4_breaks_5 (c_X4_isNot (by omega)) rfl rfl ?_
  refine V_if_eq hE 16 dX4_breaks_8 (by decide) (by omega) (fun h8 => ?_) (fun h8 => ?_)
  · refine V_aload_n hE dX4_breaks_16 rfl ?_
    refine gf_X4_35 hE rfl dX4_breaks_17 ?_
    refine V_aload_n hE dX4_breaks_20 rfl ?_
    refine gf_X4_14 hE rfl dX4_breaks_21 ?_
    refine V_iload_n hE dX4_breaks_24 rfl ?_
    refine V_aload_n hE dX4_breaks_25 rfl ?_
    refine gf_X4_48 hE rfl dX4_breaks_26 ?_
    refine V_iconst hE dX4_breaks_29 ?_
    refine V_iaload hE dX4_breaks_30 rfl (by omega) ?_
    rw [show Int.toNat 0 = 0 from rfl]
    refine cl_X4_177 hE rfl dX4_breaks_31 (c_X1_countBreaks hI (by omega) (by omega)) rfl rfl ?_
    rintro r σ1 ⟨rfl, hF1⟩
    refine V_ireturn hR dX4_breaks_34 ?_
    first | exact ⟨by unfold breaksS; exact (if_pos (by omega)).symm, SmC_h hI hF1⟩ | exact ⟨by unfold breaksS; exact (if_neg (by omega)).symm, SmC_rf hSc⟩
  · refine V_bipush hE dX4_breaks_11 (by decide) ?_
    refine V_goto hE 34 dX4_breaks_13 (by decide) ?_
    refine V_ireturn hR dX4_breaks_34 ?_
    first | exact ⟨by unfold breaksS; exact (if_pos (by omega)).symm, SmC_h hI hF1⟩ | exact ⟨by unfold breaksS; exact (if_neg (by omega)).symm, SmC_rf hSc⟩
set_option maxRecDepth 100000 in
set_option maxHeartbeats 4000000 in
theorem lp_X4_worst_15 {K : Ctx} {E : ME} {σ : Sto} (hI : IC σ) (hE : Ok K E mX4_worst 3) (hR : RetI K E mX4_worst (fun r σ' => r = (wsA (bkS (σ 8) (σ 100 0) (σ 101 0) (σ 5 0)) 999).1 ∧ SmC σ σ')) : ∀ (n : Nat) (b : Int) (a : Int × Int) (σ1 : Sto) (x5 : Option Value), 1000 - b < n → (1 ≤ b ∧ b ≤ mxA (σ 8) 63 + 1) → (a = wcA (bkS (σ 8) (σ 100 0) (σ 101 0) (σ 5 0)) (b - 1).toNat) → ((0 ≤ a.1 ∧ a.1 ≤ 6) ∧ 0 ≤ a.2 ∧ a.2 ≤ 999) → (Fr [17, 18] σ σ1) → V K E mX4_worst 15 [some (.ref (kA K 0)), some (.int (i32 (mxA (σ 8) 63))), some (.int (i32 a.1)), some (.int (i32 a.2)), some (.int (i32 b)), x5] [] σ1 := by
  intro n
  induction n with
  | zero =>
    intro b a σ1 x5 hm hi ha har hF
    exfalso; have := mxA_rng hI.2.2.2.2.2.2.1 63; omega
  | succ n ih =>
    intro b a σ1 x5 hm hi ha har hF
    obtain ⟨hS, hW, hB, hRe, hLo, hHi, hO, hPu, hHe, hSc⟩ := id hI
    have hmx := mxA_rng hO 63
    have hr := bkS_rng (σ 8) (σ 100 0) (σ 101 0) (σ 5 0) b hS
    have hs := SmC_h hI hF
    have e50 : σ1 5 0 = σ 5 0 := by rw [hF 5 (by decide)]
    refine V_iload hE dX4_worst_15 rfl ?_
    refine V_iload_n hE dX4_worst_17 rfl ?_
    refine V_icmp_gt hE 60 dX4_worst_18 (by decide) (by omega) (fun h18 => ?_) (fun h18 => ?_)
    · refine V_iload_n hE dX4_worst_60 rfl ?_
      refine V_ireturn hR dX4_worst_61 ?_
      have eb : b = mxA (σ 8) 63 + 1 := by omega
      refine ⟨?_, hs⟩
      rw [ha]
      refine worst_eq (fun b => (bkS_rng _ _ _ _ b hS).1) (by omega) (fun b' hb' => bkS_zero hS hW (fun i hi => ?_))
      have := mxA_le (σ 8) 63 i hi
      omega
    · refine V_aload_n hE dX4_worst_21 rfl ?_
      refine gf_X4_35 hE rfl dX4_worst_22 ?_
      refine V_aload_n hE dX4_worst_25 rfl ?_
      refine gf_X4_14 hE rfl dX4_worst_26 ?_
      refine V_iload hE dX4_worst_29 rfl ?_
      refine V_aload_n hE dX4_worst_31 rfl ?_
      refine gf_X4_48 hE rfl dX4_worst_32 ?_
      refine V_iconst hE dX4_worst_35 ?_
      refine V_iaload hE dX4_worst_36 rfl (by omega) ?_
      rw [show Int.toNat 0 = 0 from rfl]
      refine cl_X4_177 hE rfl dX4_worst_37 (c_X1_countBreaks (IC_sm hI hs) (by omega) (by omega)) rfl rfl ?_
      rintro r σ2 ⟨hr2, hF2⟩
      have hF3 := Fr_tr hF hF2 (fun _ h => h)
      rw [e50, hF 8 (by decide), hF 100 (by decide), hF 101 (by decide)] at hr2
      subst hr2
      refine V_istore hE dX4_worst_40 rfl ?_
      refine V_iload hE dX4_worst_42 rfl ?_
      refine V_iload_n hE dX4_worst_44 rfl ?_
      refine V_icmp_le hE 54 dX4_worst_45 (by decide) (by omega) (fun h45 => ?_) (fun h45 => ?_)
      · refine V_iinc hE dX4_worst_54 rfl rfl ?_
        refine V_goto hE 15 dX4_worst_57 (by decide) ?_
        first
          | (exfalso; omega)
          | (refine ih _ a _ _ (by omega) (by omega) ?_ har hF3
             rw [wcA_step _ (by omega), ← ha, if_neg (by omega)])
          | (refine ih _ (_, _) _ _ (by omega) (by omega) ?_ ?_ hF3
             · rw [wcA_step _ (by omega), ← ha, if_pos (by omega)]; rfl
             · exact ⟨⟨show 0 ≤ (bkS (σ 8) (σ 100 0) (σ 101 0) (σ 5 0)) b by omega, show (bkS (σ 8) (σ 100 0) (σ 101 0) (σ 5 0)) b ≤ 6 by omega⟩, show 0 ≤ b by omega, show b ≤ 999 by omega⟩)
      · refine V_iload hE dX4_worst_48 rfl ?_
        refine V_istore_n hE dX4_worst_50 rfl ?_
        refine V_iload hE dX4_worst_51 rfl ?_
        refine V_istore_n hE dX4_worst_53 rfl ?_
        refine V_iinc hE dX4_worst_54 rfl rfl ?_
        refine V_goto hE 15 dX4_worst_57 (by decide) ?_
        first
          | (exfalso; omega)
          | (refine ih _ a _ _ (by omega) (by omega) ?_ har hF3
             rw [wcA_step _ (by omega), ← ha, if_neg (by omega)])
          | (refine ih _ (_, _) _ _ (by omega) (by omega) ?_ ?_ hF3
             · rw [wcA_step _ (by omega), ← ha, if_pos (by omega)]; rfl
             · exact ⟨⟨show 0 ≤ (bkS (σ 8) (σ 100 0) (σ 101 0) (σ 5 0)) b by omega, show (bkS (σ 8) (σ 100 0) (σ 101 0) (σ 5 0)) b ≤ 6 by omega⟩, show 0 ≤ b by omega, show b ≤ 999 by omega⟩)
set_option maxRecDepth 100000 in
set_option maxHeartbeats 4000000 in
theorem c_X4_worst {K : Ctx} {σ : Sto} (hI : IC σ) : CtI K mX4_worst 3 [.ref (kA K 0)] σ (fun r σ' => r = (wsA (bkS (σ 8) (σ 100 0) (σ 101 0) (σ 5 0)) 999).1 ∧ SmC σ σ') := by
  obtain ⟨hS, hW, hB, hRe, hLo, hHi, hO, hPu, hHe, hSc⟩ := id hI
  have hmx := mxA_rng hO 63
  refine CtI_of (L := [some (.ref (kA K 0)), none, none, none, none, none]) (by decide) rfl rfl rfl ?_
  intro E hE hR
  refine V_aload_n hE dX4_worst_0 rfl ?_
  refine gf_X4_14 hE rfl dX4_worst_1 ?_
  refine cf_X4_181 hE rfl dX4_worst_4 (c_X0_broadest hI) rfl rfl ?_
  refine V_istore_n hE dX4_worst_7 rfl ?_
  refine V_iconst hE dX4_worst_8 ?_
  refine V_istore_n hE dX4_worst_9 rfl ?_
  refine V_iconst hE dX4_worst_10 ?_
  refine V_istore_n hE dX4_worst_11 rfl ?_
  refine V_iconst hE dX4_worst_12 ?_
  refine V_istore hE dX4_worst_13 rfl ?_
  exact lp_X4_worst_15 hI hE hR 1001 1 (0, 1) σ _ (by omega) (by omega) rfl ⟨⟨by decide, by decide⟩, by decide, by decide⟩ Fr_rf
set_option maxRecDepth 100000 in
set_option maxHeartbeats 4000000 in
theorem lp_X4_countUnfair_11 {K : Ctx} {E : ME} {σ : Sto} (hI : IC σ) {v a0 : Int} (hv : v = 0 ∨ v = 1) (ha0 : 0 ≤ a0 ∧ a0 ≤ 100) (hk : ∀ σ1 : Sto, SmC σ σ1 → V K E mX4_countUnfair 54 [some (.ref (kA K 0)), some (.int (i32 (itL (mrStep (σ 8) (σ 100 0) (σ 101 0) (σ 5 0)) v (if v = 0 then σ 101 0 else σ 100 0).toNat a0))), some (.int (i32 v)), some (.int (i32 (if v = 0 then σ 101 0 else σ 100 0)))] [] σ1) (hE : Ok K E mX4_countUnfair 4) : ∀ (n : Nat) (k : Int) (a : Int) (σ1 : Sto), (if v = 0 then σ 101 0 else σ 100 0) - k < n → (0 ≤ k ∧ k ≤ (if v = 0 then σ 101 0 else σ 100 0)) → (a = (itL (mrStep (σ 8) (σ 100 0) (σ 101 0) (σ 5 0)) v k.toNat a0)) → (SmC σ σ1) → V K E mX4_countUnfair 11 [some (.ref (kA K 0)), some (.int (i32 a)), some (.int (i32 v)), some (.int (i32 k))] [] σ1 := by
  intro n
  induction n with
  | zero =>
    intro k a σ1 hm hk1 ha hs
    exfalso; omega
  | succ n ih =>
    intro k a σ1 hm hk1 ha hs
    obtain ⟨hS, hW, hB, hRe, hLo, hHi, hO, hPu, hHe, hSc⟩ := id hI
    have e101 := congrFun (hs.1 101 (by decide)) 0
    have e100 := congrFun (hs.1 100 (by decide)) 0
    have hmr := mr_rng (σ 8) (σ 100 0) (σ 101 0) (σ 5 0) v a0 k.toNat
    refine V_iload_n hE dX4_countUnfair_11 rfl ?_
    refine V_aload_n hE dX4_countUnfair_12 rfl ?_
    refine gf_X4_14 hE rfl dX4_countUnfair_13 ?_
    refine V_iload_n hE dX4_countUnfair_16 rfl ?_
    refine cf_X4_109 hE rfl dX4_countUnfair_17 (c_X0_linesOf (by omega)) rfl rfl ?_
    refine V_icmp_ge hE 54 dX4_countUnfair_20 (by decide) (by omega) (fun h20 => ?_) (fun h20 => ?_)
    · have ek : k = (if v = 0 then σ 101 0 else σ 100 0) := by omega
      rw [ek] at ha
      rw [ha, ek]
      exact hk _ hs
    · refine V_aload_n hE dX4_countUnfair_23 rfl ?_
      refine V_iload_n hE dX4_countUnfair_24 rfl ?_
      refine V_iload_n hE dX4_countUnfair_25 rfl ?_
      refine cl_X4_96 hE rfl dX4_countUnfair_26 (c_X4_takeLine (IC_sm hI hs) (by omega)) rfl rfl ?_
      rintro σ2 hq
      have e102 := hq.2.1
      have hs2 := SmC_tr hs (LayC_sm (IC_sm hI hs) hq)
      refine V_aload_n hE dX4_countUnfair_29 rfl ?_
      refine gf_X4_21 hE rfl dX4_countUnfair_30 ?_
      refine cf_X4_112 hE rfl dX4_countUnfair_33 (c_X3_farthestJump hq.2.2.2 (by omega)) rfl rfl ?_
      have efj : fj (σ2 11) (σ2 102 0 - 3).toNat = fj (lnf (σ 8) v k) ((if v = 0 then σ 100 0 else σ 101 0) - 3).toNat := by
        rw [e102, e100, e101]
        refine fj_congr (n := (if v = 0 then σ 100 0 else σ 101 0)) (fun i hi => ?_) _ (by omega)
        rw [hq.2.2.1 i (by omega), hs.1 8 (by decide)]
      rw [efj]
      
      have hfr := fj_rng (lnf_rng hO v k) ((if v = 0 then σ 100 0 else σ 101 0) - 3).toNat
      have hrc := fj_rc (lnf (σ 8) v k) hB.1 ((if v = 0 then σ 100 0 else σ 101 0) - 3).toNat
      have e50 : σ2 5 0 = σ 5 0 := by rw [hs2.1 5 (by decide)]
      refine V_aload_n hE dX4_countUnfair_36 rfl ?_
      refine gf_X4_48 hE rfl dX4_countUnfair_37 ?_
      refine V_iconst hE dX4_countUnfair_40 ?_
      refine V_iaload hE dX4_countUnfair_41 rfl (by omega) ?_
      rw [show Int.toNat 0 = 0 from rfl]
      refine V_icmp_le hE 48 dX4_countUnfair_42 (by decide) (by omega) (fun h42 => ?_) (fun h42 => ?_)
      · refine V_iinc hE dX4_countUnfair_48 rfl rfl ?_
        refine V_goto hE 11 dX4_countUnfair_51 (by decide) ?_
        exact ih _ _ _ (by omega) (by omega) (by rw [itL_step _ _ _ (by omega), ← ha, mrStep]; omega) hs2
      · refine V_iinc hE dX4_countUnfair_45 rfl rfl ?_
        refine V_iinc hE dX4_countUnfair_48 rfl rfl ?_
        refine V_goto hE 11 dX4_countUnfair_51 (by decide) ?_
        exact ih _ _ _ (by omega) (by omega) (by rw [itL_step _ _ _ (by omega), ← ha, mrStep]; omega) hs2
set_option maxRecDepth 100000 in
set_option maxHeartbeats 4000000 in
theorem c_X4_countUnfair {K : Ctx} {σ : Sto} (hI : IC σ) : CtI K mX4_countUnfair 4 [.ref (kA K 0)] σ (fun r σ' => r = mrS (σ 8) (σ 100 0) (σ 101 0) (σ 5 0) ∧ SmC σ σ') := by
  obtain ⟨hS, hW, hB, hRe, hLo, hHi, hO, hPu, hHe, hSc⟩ := id hI
  refine CtI_of (L := [some (.ref (kA K 0)), none, none, none]) (by decide) rfl rfl rfl ?_
  intro E hE hR
  refine V_iconst hE dX4_countUnfair_0 ?_
  refine V_istore_n hE dX4_countUnfair_1 rfl ?_
  refine V_iconst hE dX4_countUnfair_2 ?_
  refine V_istore_n hE dX4_countUnfair_3 rfl ?_
  refine V_iload_n hE dX4_countUnfair_4 rfl ?_
  refine V_iconst hE dX4_countUnfair_5 ?_
  refine V_icmp_ge hE 60 dX4_countUnfair_6 (by decide) (by omega) (fun h6 => ?_) (fun h6 => ?_)
  · exfalso; omega
  · refine V_iconst hE dX4_countUnfair_9 ?_
    refine V_istore_n hE dX4_countUnfair_10 rfl ?_
    have hmr := mr_rng (σ 8) (σ 100 0) (σ 101 0) (σ 5 0) 0 0 (σ 101 0).toNat
    refine lp_X4_countUnfair_11 hI (v := 0) (a0 := 0) (Or.inl rfl) (by omega) ?_ hE 100 0 _ σ (by omega) (by omega) rfl (SmC_rf hSc)
    intro σ1 hs1
    refine V_iinc hE dX4_countUnfair_54 rfl rfl ?_
    refine V_goto hE 4 dX4_countUnfair_57 (by decide) ?_
    refine V_iload_n hE dX4_countUnfair_4 rfl ?_
    refine V_iconst hE dX4_countUnfair_5 ?_
    refine V_icmp_ge hE 60 dX4_countUnfair_6 (by decide) (by omega) (fun h6 => ?_) (fun h6 => ?_)
    · exfalso; omega
    · refine V_iconst hE dX4_countUnfair_9 ?_
      refine V_istore_n hE dX4_countUnfair_10 rfl ?_
      refine lp_X4_countUnfair_11 hI (v := 1) (a0 := itL (mrStep (σ 8) (σ 100 0) (σ 101 0) (σ 5 0)) 0 (σ 101 0).toNat 0) (Or.inr rfl) (by omega) ?_ hE 100 0 _ σ1 (by omega) (by omega) rfl hs1
      intro σ2 hs2
      refine V_iinc hE dX4_countUnfair_54 rfl rfl ?_
      refine V_goto hE 4 dX4_countUnfair_57 (by decide) ?_
      refine V_iload_n hE dX4_countUnfair_4 rfl ?_
      refine V_iconst hE dX4_countUnfair_5 ?_
      refine V_icmp_ge hE 60 dX4_countUnfair_6 (by decide) (by omega) (fun h6 => ?_) (fun h6 => ?_)
      · refine V_iload_n hE dX4_countUnfair_60 rfl ?_
        refine V_ireturn hR dX4_countUnfair_61 ?_
        refine ⟨?_, hs2⟩
        rfl
      · exfalso; omega
set_option maxRecDepth 100000 in
set_option maxHeartbeats 4000000 in
theorem c_X4_many {K : Ctx} {σ : Sto} {w : Int} (hI : IC σ) (hw : InI w) : CtI K mX4_many 5 [.ref (kA K 0), .int (i32 w)] σ (fun r σ' => r = manyS (σ 8) (σ 9) (σ 10) (σ 100 0) (σ 101 0) (σ 5 0) w ∧ SmC σ σ') := by
  obtain ⟨hS, hW, hB, hRe, hLo, hHi, hO, hPu, hHe, hSc⟩ := id hI
  refine CtI_of (L := [some (.ref (kA K 0)), some (.int (i32 w))]) (by decide) rfl rfl rfl ?_
  intro E hE hR
  refine V_iload_n hE dX4_many_0 rfl ?_
  refine V_sw5 hE 36 44 52 60 65 73 dX4_many_1 (by omega) (by decide) (by decide) (by decide) (fun h1 => ?_) (fun h1 => ?_) (fun h1 => ?_) (fun h1 => ?_) (fun h1 => ?_) (fun h1 => ?_)
  · refine V_bipush hE dX4_many_73 (by decide) ?_
    refine V_ireturn hR dX4_many_75 ?_
    exact ⟨by unfold manyS; rw [if_neg (by omega), if_neg (by omega), if_neg (by omega), if_neg (by omega), if_neg (by omega)], SmC_rf hSc⟩
  · refine V_aload_n hE dX4_many_36 rfl ?_
    refine gf_X4_14 hE rfl dX4_many_37 ?_
    refine gf_X4_159 hE rfl dX4_many_40 ?_
    refine V_ireturn hR dX4_many_43 ?_
    exact ⟨by unfold manyS; rw [if_pos h1], SmC_rf hSc⟩
  · refine V_aload_n hE dX4_many_44 rfl ?_
    refine gf_X4_14 hE rfl dX4_many_45 ?_
    refine gf_X4_184 hE rfl dX4_many_48 ?_
    refine V_ireturn hR dX4_many_51 ?_
    exact ⟨by unfold manyS; rw [if_neg (by omega), if_pos h1], SmC_rf hSc⟩
  · refine V_aload_n hE dX4_many_52 rfl ?_
    refine gf_X4_14 hE rfl dX4_many_53 ?_
    refine cf_X4_187 hE rfl dX4_many_56 (c_X0_countHeld hI) rfl rfl ?_
    refine V_ireturn hR dX4_many_59 ?_
    exact ⟨by unfold manyS; rw [if_neg (by omega), if_neg (by omega), if_pos h1], SmC_rf hSc⟩
  · refine V_aload_n hE dX4_many_60 rfl ?_
    refine cl_X4_190 hE rfl dX4_many_61 (c_X4_countUnfair hI) rfl rfl ?_
    rintro r σ1 ⟨hr, hs⟩
    refine V_ireturn hR dX4_many_64 ?_
    exact ⟨by unfold manyS; rw [if_neg (by omega), if_neg (by omega), if_neg (by omega), if_pos h1]; exact hr, hs⟩
  · refine V_aload_n hE dX4_many_65 rfl ?_
    refine gf_X4_14 hE rfl dX4_many_66 ?_
    refine cf_X4_193 hE rfl dX4_many_69 (c_X0_farFromPuts hI) rfl rfl ?_
    refine V_ireturn hR dX4_many_72 ?_
    exact ⟨by unfold manyS; rw [if_neg (by omega), if_neg (by omega), if_neg (by omega), if_neg (by omega), if_pos h1], SmC_rf hSc⟩
abbrev cgOk (S W : Int) (a : Int × Int × Int) : Prop := (0 ≤ a.1 ∧ a.1 ≤ 7992) ∧ (a.2.1 = 0 ∨ a.2.1 = 1) ∧ 0 ≤ a.2.2 ∧ a.2.2 < (if a.2.1 = 0 then W else S)
theorem cg_rg {o : Nat → Int} {S W : Int} (hS : 5 ≤ S ∧ S ≤ 9) (hW : 4 ≤ W ∧ W ≤ 7) : (rgA o S W).1 = (cgA o S W).1 ∧ (rgA o S W).2 / 100 = (cgA o S W).2.1 ∧ (rgA o S W).2 / 10 % 10 = (cgA o S W).2.2 ∧ ∀ r : Int, 1 ≤ r → r ≤ (if (cgA o S W).2.1 = 0 then S else W) - 3 → (∀ j : Int, 1 ≤ j → j < r → jA (lnf o (cgA o S W).2.1 (cgA o S W).2.2) j ≠ (cgA o S W).1) → (r < (if (cgA o S W).2.1 = 0 then S else W) - 3 → jA (lnf o (cgA o S W).2.1 (cgA o S W).2.2) r = (cgA o S W).1) → (rgA o S W).2 % 10 = r := by
  obtain ⟨h1, h2, h3, h4, p, h5, h6, h7, h8⟩ := RgR_all (o := o) hS hW
  have h4' := h4
  have h5' := h5
  generalize cgA o S W = c at *
  obtain ⟨c1, c2, c3⟩ := c
  dsimp only at *
  refine ⟨h1, by omega, by omega, ?_⟩
  intro r g1 g2 g3 g4
  have hpr : p = r := by
    by_cases ha : p < r
    · exact absurd h7 (g3 p h5.1 ha)
    · by_cases hb : r < p
      · exact absurd (g4 (by omega)) (h8 r g1 hb)
      · omega
  omega
set_option maxRecDepth 100000 in
set_option maxHeartbeats 4000000 in
theorem lp_X4_roughest_31 {K : Ctx} {E : ME} {σ : Sto} (hI : IC σ) {w v : Int} (hv : v = 0 ∨ v = 1) {a0 : Int × Int × Int} (hk : ∀ (σ1 : Sto), SmC σ σ1 → cgOk (σ 100 0) (σ 101 0) (itL (cgStep (σ 8) (σ 100 0) (σ 101 0)) v (if v = 0 then σ 101 0 else σ 100 0).toNat a0) → V K E mX4_roughest 85 [some (.ref (kA K 0)), some (.int (i32 w)), some (.int (i32 (itL (cgStep (σ 8) (σ 100 0) (σ 101 0)) v (if v = 0 then σ 101 0 else σ 100 0).toNat a0).1)), some (.int (i32 (itL (cgStep (σ 8) (σ 100 0) (σ 101 0)) v (if v = 0 then σ 101 0 else σ 100 0).toNat a0).2.1)), some (.int (i32 (itL (cgStep (σ 8) (σ 100 0) (σ 101 0)) v (if v = 0 then σ 101 0 else σ 100 0).toNat a0).2.2)), some (.int (i32 v)), some (.int (i32 (if v = 0 then σ 101 0 else σ 100 0)))] [] σ1) (hE : Ok K E mX4_roughest 4) : ∀ (n : Nat) (k : Int) (a : Int × Int × Int) (σ1 : Sto), (if v = 0 then σ 101 0 else σ 100 0) - k < n → (0 ≤ k ∧ k ≤ (if v = 0 then σ 101 0 else σ 100 0)) → (a = (itL (cgStep (σ 8) (σ 100 0) (σ 101 0)) v k.toNat a0)) → (cgOk (σ 100 0) (σ 101 0) a) → (SmC σ σ1) → V K E mX4_roughest 31 [some (.ref (kA K 0)), some (.int (i32 w)), some (.int (i32 a.1)), some (.int (i32 a.2.1)), some (.int (i32 a.2.2)), some (.int (i32 v)), some (.int (i32 k))] [] σ1 := by
  intro n
  induction n with
  | zero =>
    intro k a σ1 hm hk1 ha hok hs
    exfalso; omega
  | succ n ih =>
    intro k a σ1 hm hk1 ha hok hs
    obtain ⟨hS, hW, hB, hRe, hLo, hHi, hO, hPu, hHe, hSc⟩ := id hI
    have e101 := congrFun (hs.1 101 (by decide)) 0
    have e100 := congrFun (hs.1 100 (by decide)) 0
    refine V_iload hE dX4_roughest_31 rfl ?_
    refine V_aload_n hE dX4_roughest_33 rfl ?_
    refine gf_X4_14 hE rfl dX4_roughest_34 ?_
    refine V_iload hE dX4_roughest_37 rfl ?_
    refine cf_X4_109 hE rfl dX4_roughest_39 (c_X0_linesOf (by omega)) rfl rfl ?_
    refine V_icmp_ge hE 85 dX4_roughest_42 (by decide) (by omega) (fun h42 => ?_) (fun h42 => ?_)
    · have ek : k = (if v = 0 then σ 101 0 else σ 100 0) := by omega
      rw [ek] at ha
      rw [ha] at hok
      rw [ha, ek]
      exact hk _ hs hok
    · refine V_aload_n hE dX4_roughest_45 rfl ?_
      refine V_iload hE dX4_roughest_46 rfl ?_
      refine V_iload hE dX4_roughest_48 rfl ?_
      refine cl_X4_96 hE rfl dX4_roughest_50 (c_X4_takeLine (IC_sm hI hs) (by omega)) rfl rfl ?_
      rintro σ2 hq
      have e102 := hq.2.1
      have hs2 := SmC_tr hs (LayC_sm (IC_sm hI hs) hq)
      refine V_aload_n hE dX4_roughest_53 rfl ?_
      refine gf_X4_21 hE rfl dX4_roughest_54 ?_
      refine cf_X4_112 hE rfl dX4_roughest_57 (c_X3_farthestJump hq.2.2.2 (by omega)) rfl rfl ?_
      have efj : fj (σ2 11) (σ2 102 0 - 3).toNat = fj (lnf (σ 8) v k) ((if v = 0 then σ 100 0 else σ 101 0) - 3).toNat := by
        rw [e102, e100, e101]
        refine fj_congr (n := (if v = 0 then σ 100 0 else σ 101 0)) (fun i hi => ?_) _ (by omega)
        rw [hq.2.2.1 i (by omega), hs.1 8 (by decide)]
      rw [efj]
      
      have hfr := fj_rng (lnf_rng hO v k) ((if v = 0 then σ 100 0 else σ 101 0) - 3).toNat
      refine V_iload_n hE dX4_roughest_60 rfl ?_
      refine V_icmp_le hE 79 dX4_roughest_61 (by decide) (by omega) (fun h61 => ?_) (fun h61 => ?_)
      · refine V_iinc hE dX4_roughest_79 rfl rfl ?_
        refine V_goto hE 31 dX4_roughest_82 (by decide) ?_
        first
          | (exfalso; omega)
          | (refine ih _ a _ (by omega) (by omega) ?_ hok hs2
             rw [itL_step _ _ _ (by omega), ← ha, cgStep, if_neg (by omega)])
          | (refine ih _ (_, _, _) _ (by omega) (by omega) ?_ ?_ hs2
             · rw [itL_step _ _ _ (by omega), ← ha, cgStep]; exact (if_pos h61).symm
             · exact ⟨hfr, hv, hk1.1, by dsimp only; omega⟩)
      · refine V_aload_n hE dX4_roughest_64 rfl ?_
        refine gf_X4_21 hE rfl dX4_roughest_65 ?_
        refine cf_X4_112 hE rfl dX4_roughest_68 (c_X3_farthestJump hq.2.2.2 (by omega)) rfl rfl ?_
        rw [efj]
        refine V_istore_n hE dX4_roughest_71 rfl ?_
        refine V_iload hE dX4_roughest_72 rfl ?_
        refine V_istore_n hE dX4_roughest_74 rfl ?_
        refine V_iload hE dX4_roughest_75 rfl ?_
        refine V_istore hE dX4_roughest_77 rfl ?_
        refine V_iinc hE dX4_roughest_79 rfl rfl ?_
        refine V_goto hE 31 dX4_roughest_82 (by decide) ?_
        first
          | (exfalso; omega)
          | (refine ih _ a _ (by omega) (by omega) ?_ hok hs2
             rw [itL_step _ _ _ (by omega), ← ha, cgStep, if_neg (by omega)])
          | (refine ih _ (_, _, _) _ (by omega) (by omega) ?_ ?_ hs2
             · rw [itL_step _ _ _ (by omega), ← ha, cgStep]; exact (if_pos h61).symm
             · exact ⟨hfr, hv, hk1.1, by dsimp only; omega⟩)
set_option maxRecDepth 100000 in
set_option maxHeartbeats 4000000 in
theorem c_X4_roughest {K : Ctx} {σ : Sto} {w : Int} (hI : IC σ) (hw : InI w) : CtI K mX4_roughest 4 [.ref (kA K 0), .int (i32 w)] σ (fun r σ' => r = rgS (σ 8) (σ 100 0) (σ 101 0) w ∧ SmC σ σ') := by
  obtain ⟨hS, hW, hB, hRe, hLo, hHi, hO, hPu, hHe, hSc⟩ := id hI
  refine CtI_of (L := [some (.ref (kA K 0)), some (.int (i32 w)), none, none, none, none, none]) (by decide) rfl rfl rfl ?_
  intro E hE hR
  refine V_iload_n hE dX4_roughest_0 rfl ?_
  refine V_iconst hE dX4_roughest_1 ?_
  refine V_iconst hE dX4_roughest_2 ?_
  refine cf_X4_61 hE rfl dX4_roughest_3 (c_X4_isNot (by omega)) rfl rfl ?_
  refine V_if_eq hE 12 dX4_roughest_6 (by decide) (by omega) (fun h6 => ?_) (fun h6 => ?_)
  · refine V_iconst hE dX4_roughest_12 ?_
    refine V_istore_n hE dX4_roughest_13 rfl ?_
    refine V_iconst hE dX4_roughest_14 ?_
    refine V_istore_n hE dX4_roughest_15 rfl ?_
    refine V_iconst hE dX4_roughest_16 ?_
    refine V_istore hE dX4_roughest_17 rfl ?_
    refine V_iconst hE dX4_roughest_19 ?_
    refine V_istore hE dX4_roughest_20 rfl ?_
    refine V_iload hE dX4_roughest_22 rfl ?_
    refine V_iconst hE dX4_roughest_24 ?_
    refine V_icmp_ge hE 91 dX4_roughest_25 (by decide) (by omega) (fun h25 => ?_) (fun h25 => ?_)
    · exfalso; omega
    · refine V_iconst hE dX4_roughest_28 ?_
      refine V_istore hE dX4_roughest_29 rfl ?_
      refine lp_X4_roughest_31 hI (w := w) (v := 0) (a0 := (0, 0, 0)) (Or.inl rfl) ?_ hE 100 0 (0, 0, 0) σ (by omega) (by omega) rfl ⟨⟨by decide, by decide⟩, Or.inl rfl, Int.le_refl 0, by show (0 : Int) < (if (0 : Int) = 0 then σ 101 0 else σ 100 0); omega⟩ (SmC_rf hSc)
      intro σ1 hs1 hok1
      refine V_iinc hE dX4_roughest_85 rfl rfl ?_
      refine V_goto hE 22 dX4_roughest_88 (by decide) ?_
      refine V_iload hE dX4_roughest_22 rfl ?_
      refine V_iconst hE dX4_roughest_24 ?_
      refine V_icmp_ge hE 91 dX4_roughest_25 (by decide) (by omega) (fun h25 => ?_) (fun h25 => ?_)
      · exfalso; omega
      · refine V_iconst hE dX4_roughest_28 ?_
        refine V_istore hE dX4_roughest_29 rfl ?_
        refine lp_X4_roughest_31 hI (w := w) (v := 1) (a0 := itL (cgStep (σ 8) (σ 100 0) (σ 101 0)) 0 (σ 101 0).toNat (0, 0, 0)) (Or.inr rfl) ?_ hE 100 0 _ σ1 (by omega) (by omega) rfl hok1 hs1
        intro σ2 hs2 hok2
        have f101 := congrFun (hs2.1 101 (by decide)) 0
        have f100 := congrFun (hs2.1 100 (by decide)) 0
        
        have ea : itL (cgStep (σ 8) (σ 100 0) (σ 101 0)) 1 (σ 100 0).toNat (itL (cgStep (σ 8) (σ 100 0) (σ 101 0)) 0 (σ 101 0).toNat (0, 0, 0)) = cgA (σ 8) (σ 100 0) (σ 101 0) := rfl
        have e1 : (if (1 : Int) = 0 then σ 101 0 else σ 100 0) = σ 100 0 := rfl
        rw [e1, ea] at hok2 ⊢
        obtain ⟨q0, q1, q2, q3⟩ := cg_rg (o := σ 8) hS hW
        refine V_iinc hE dX4_roughest_85 rfl rfl ?_
        refine V_goto hE 22 dX4_roughest_88 (by decide) ?_
        refine V_iload hE dX4_roughest_22 rfl ?_
        refine V_iconst hE dX4_roughest_24 ?_
        refine V_icmp_ge hE 91 dX4_roughest_25 (by decide) (by omega) (fun h25 => ?_) (fun h25 => ?_)
        · refine V_iload_n hE dX4_roughest_91 rfl ?_
          refine V_sw3 hE 120 122 124 127 dX4_roughest_92 (by omega) (by decide) (by decide) (by decide) (fun h92 => ?_) (fun h92 => ?_) (fun h92 => ?_) (fun h92 => ?_)
          · refine V_aload_n hE dX4_roughest_127 rfl ?_
            refine V_iload_n hE dX4_roughest_128 rfl ?_
            refine V_iload hE dX4_roughest_129 rfl ?_
            refine cl_X4_96 hE rfl dX4_roughest_131 (c_X4_takeLine (IC_sm hI hs2) (by omega)) rfl rfl ?_
            rintro σ3 hq
            have e102 := hq.2.1
            have hl := hq.2.2.1
            rw [f100, f101] at e102 hl
            rw [hs2.1 8 (by decide)] at hl
            refine V_aload_n hE dX4_roughest_134 rfl ?_
            refine gf_X4_21 hE rfl dX4_roughest_135 ?_
            refine V_iload_n hE dX4_roughest_138 rfl ?_
            refine cl_X4_116 hE rfl dX4_roughest_139 (c_X3_firstJumpThatFar (by omega) hq.2.2.2 (by omega)) rfl rfl ?_
            rintro r σ3 ⟨⟨r1, r2, r3, r4⟩, rfl⟩
            refine V_ireturn hR dX4_roughest_142 ?_
            refine ⟨?_, SmC_tr hs2 (LayC_sm (IC_sm hI hs2) hq)⟩
            unfold rgS
            rw [if_neg (by omega), if_neg (by omega), if_neg (by omega), if_neg (by omega)]
            have ej : ∀ j : Int, 1 ≤ j → j ≤ (if (cgA (σ 8) (σ 100 0) (σ 101 0)).2.1 = 0 then σ 100 0 else σ 101 0) - 3 → jA (lnf (σ 8) (cgA (σ 8) (σ 100 0) (σ 101 0)).2.1 (cgA (σ 8) (σ 100 0) (σ 101 0)).2.2) j = (((jm (σ3 11) j).natAbs : Nat) : Int) := by
              intro j j1 j2
              have := jm_congr (n := if (cgA (σ 8) (σ 100 0) (σ 101 0)).2.1 = 0 then σ 100 0 else σ 101 0) hl (i := j) ⟨j1, j2⟩
              unfold jA
              rw [this]
            rw [e102] at r2 r4
            refine (q3 r r1 r2 (fun j j1 j2 => ?_) (fun j2 => ?_)).symm
            · rw [ej j j1 (by omega)]; exact r3 j j1 j2
            · rw [ej r r1 (by omega)]; exact r4 j2
          · refine V_iload_n hE dX4_roughest_120 rfl ?_
            refine V_ireturn hR dX4_roughest_121 ?_
            refine ⟨?_, hs2⟩
            unfold rgS
            rw [if_neg (by omega)]
            first
              | (rw [if_pos (by omega), q0])
              | (rw [if_neg (by omega), if_pos (by omega), q1])
              | (rw [if_neg (by omega), if_neg (by omega), if_pos (by omega), q2])
          · refine V_iload_n hE dX4_roughest_122 rfl ?_
            refine V_ireturn hR dX4_roughest_123 ?_
            refine ⟨?_, hs2⟩
            unfold rgS
            rw [if_neg (by omega)]
            first
              | (rw [if_pos (by omega), q0])
              | (rw [if_neg (by omega), if_pos (by omega), q1])
              | (rw [if_neg (by omega), if_neg (by omega), if_pos (by omega), q2])
          · refine V_iload hE dX4_roughest_124 rfl ?_
            refine V_ireturn hR dX4_roughest_126 ?_
            refine ⟨?_, hs2⟩
            unfold rgS
            rw [if_neg (by omega)]
            first
              | (rw [if_pos (by omega), q0])
              | (rw [if_neg (by omega), if_pos (by omega), q1])
              | (rw [if_neg (by omega), if_neg (by omega), if_pos (by omega), q2])
        · exfalso; omega
  · refine V_bipush hE dX4_roughest_9 (by decide) ?_
    refine V_ireturn hR dX4_roughest_11 ?_
    exact ⟨by unfold rgS; rw [if_pos (by omega)], SmC_rf hSc⟩
