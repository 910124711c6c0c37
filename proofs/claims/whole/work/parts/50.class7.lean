set_option maxRecDepth 100000 in
set_option maxHeartbeats 4000000 in
theorem lp_X4_seekLeast_63 {K : Ctx} {E : ME} {σ σL : Sto} {v k fr : Int} (hI : IC σ) (hv : (v = 0 ∨ v = 1) ∧ 0 ≤ k ∧ k < (if v = 0 then σ 101 0 else σ 100 0)) (hq : LayC σ v k σL) (hE : Ok K E mX4_seekLeast 5) (hR : RetI K E mX4_seekLeast (fun x σ' => Fr [102, 103, 104, 11, 12, 13, 14, 15, 16] σ σ' ∧ ScC σ' ∧ SkD σ' x (lnf (σ 8) v k) (lnf (σ 10) v k) (σ 5 0) (σ 5 1) (if v = 0 then σ 100 0 else σ 101 0))) : ∀ (n : Nat) (i : Int) (σ1 : Sto) (x7 : Option Value), (if v = 0 then σ 100 0 else σ 101 0) - i < n → (0 ≤ i ∧ i ≤ (if v = 0 then σ 100 0 else σ 101 0)) → (Fr [12, 13, 14] σL σ1) → (∀ j : Nat, (j : Int) < i → σ1 12 (j + 3) = lnf (σ 8) v k j ∧ σ1 13 (j + 3) = max (-(if lnf (σ 10) v k j = 0 then σ 5 1 else 0)) (-(lnf (σ 8) v k j)) ∧ σ1 14 (j + 3) = min (if lnf (σ 10) v k j = 0 then σ 5 1 else 0) (999 - lnf (σ 8) v k j)) → (∀ j : Nat, j < 3 → σ1 13 j = 0 ∧ σ1 14 j = 0) → V K E mX4_seekLeast 63 [some (.ref (kA K 0)), some (.int (i32 v)), some (.int (i32 k)), some (.int (i32 (σ 5 0))), some (.int (i32 (σ 5 1))), some (.int (i32 fr)), some (.int (i32 i)), x7] [] σ1 := by
  intro n
  induction n with
  | zero =>
    intro i σ1 x7 hm hi hF hp h3
    exfalso; omega
  | succ n ih =>
    intro i σ1 x7 hm hi hF hp h3
    obtain ⟨hS, hW, hB, hRe, hLo, hHi, hO, hPu, hHe, hSc⟩ := id hI
    have e102 : σ1 102 0 = (if v = 0 then σ 100 0 else σ 101 0) := by rw [hF 102 (by decide)]; exact hq.2.1
    have e11 : σ1 11 = σL 11 := hF 11 (by decide)
    have e10 : σ1 10 = σ 10 := by rw [hF 10 (by decide), hq.1 10 (by decide)]
    have hpt : i < (if v = 0 then σ 100 0 else σ 101 0) → 0 ≤ pt v k i ∧ pt v k i < 63 := by intro hlt; unfold pt; split <;> omega
    have h10 := hHe (pt v k i).toNat
    rw [← e10] at h10
    have h11 := hq.2.2.2 i.toNat
    rw [← e11] at h11
    have elf : i < (if v = 0 then σ 100 0 else σ 101 0) → σ1 11 i.toNat = lnf (σ 8) v k i.toNat := fun hlt => by rw [e11]; exact hq.2.2.1 _ (by omega)
    have elh : lnf (σ 10) v k i.toNat = σ1 10 (pt v k i).toNat := by rw [e10]; unfold lnf; rw [show ((i.toNat : Nat) : Int) = i by omega]
    refine V_iload hE dX4_seekLeast_63 rfl ?_
    refine V_aload_n hE dX4_seekLeast_65 rfl ?_
    refine gf_X4_21 hE rfl dX4_seekLeast_66 ?_
    refine gf_X4_99 hE rfl dX4_seekLeast_69 ?_
    refine V_icmp_ge hE 132 dX4_seekLeast_72 (by decide) (by omega) (fun h72 => ?_) (fun h72 => ?_)
    · have hFb : Fr [103, 104] σ1 (up (up σ1 103 0 (σ1 102 0)) 104 0 (σ 5 0)) := Fr_up (Fr_up Fr_rf (by decide)) (by decide)
      have hPS : PlC (up (up σ1 103 0 (σ1 102 0)) 104 0 (σ 5 0)) (lnf (σ 8) v k) (lnf (σ 10) v k) (σ 5 0) (σ 5 1) (σ1 102 0) := by
        refine ⟨⟨by omega, hB, hRe⟩, lnf_rng hO v k, ⟨by rw [up_ne _ _ _ (by decide : 103 ≠ 104), up_self], by rw [up_self]⟩, fun j hj => ?_, fun j hj => ?_⟩
        · rw [hFb 12 (by decide), hFb 13 (by decide), hFb 14 (by decide)]
          exact hp j (by omega)
        · rw [hFb 13 (by decide), hFb 14 (by decide)]
          exact h3 j hj
      have hz : ∀ j : Nat, j < 343 → σ1 16 j = 0 := fun j hj => by rw [hF 16 (by decide), hq.1 16 (by decide)]; exact hSc.2.1 j hj
      have hm0 : ∀ j : Nat, j < 3 → σ1 15 j = 0 := fun j hj => by rw [hF 15 (by decide), hq.1 15 (by decide)]; exact (hSc.2.2 j hj).2.2
      refine V_aload_n hE dX4_seekLeast_132 rfl ?_
      refine gf_X4_28 hE rfl dX4_seekLeast_133 ?_
      refine V_aload_n hE dX4_seekLeast_136 rfl ?_
      refine gf_X4_21 hE rfl dX4_seekLeast_137 ?_
      refine gf_X4_99 hE rfl dX4_seekLeast_140 ?_
      refine V_iload_n hE dX4_seekLeast_143 rfl ?_
      refine cl_X4_211 hE rfl dX4_seekLeast_144 (c_X2_seek hPS hz hm0) rfl rfl ?_
      rintro x σ2 ⟨hF2, ⟨hz2, hm2⟩, hsk⟩
      refine V_ireturn hR dX4_seekLeast_147 ?_
      rw [e102] at hsk
      refine ⟨Fr_tr (Fr_tr (Fr_sub hq.1 (by decide)) hF (by decide)) hF2 (by decide), ⟨?_, hz2, fun j hj => ?_⟩, hsk⟩
      · rw [hF2 11 (by decide), e11]; exact hq.2.2.2
      · have q3 := h3 j hj
        rw [hF2 13 (by decide), hF2 14 (by decide)]
        exact ⟨q3.1, q3.2, hm2 j hj⟩
    · refine V_aload_n hE dX4_seekLeast_75 rfl ?_
      refine gf_X4_14 hE rfl dX4_seekLeast_76 ?_
      refine gf_X4_76 hE rfl dX4_seekLeast_79 ?_
      refine V_aload_n hE dX4_seekLeast_82 rfl ?_
      refine gf_X4_14 hE rfl dX4_seekLeast_83 ?_
      refine V_iload_n hE dX4_seekLeast_86 rfl ?_
      refine V_iload_n hE dX4_seekLeast_87 rfl ?_
      refine V_iload hE dX4_seekLeast_88 rfl ?_
      refine cf_X4_203 hE rfl dX4_seekLeast_90 (c_X0_cell hv.1) rfl rfl ?_
      refine V_baload hE dX4_seekLeast_93 rfl (hpt (by omega)) ?_
      refine V_istore hE dX4_seekLeast_94 rfl ?_
      refine V_aload_n hE dX4_seekLeast_96 rfl ?_
      refine gf_X4_28 hE rfl dX4_seekLeast_97 ?_
      refine V_iload hE dX4_seekLeast_100 rfl ?_
      refine V_aload_n hE dX4_seekLeast_102 rfl ?_
      refine gf_X4_21 hE rfl dX4_seekLeast_103 ?_
      refine gf_X4_152 hE rfl dX4_seekLeast_106 ?_
      refine V_iload hE dX4_seekLeast_109 rfl ?_
      refine V_iaload hE dX4_seekLeast_111 rfl (by omega) ?_
      refine V_iload hE dX4_seekLeast_112 rfl ?_
      refine V_if_eq hE 121 dX4_seekLeast_114 (by decide) (by omega) (fun h114 => ?_) (fun h114 => ?_)
      · refine V_iload hE dX4_seekLeast_121 rfl ?_
        refine cl_X4_207 hE rfl dX4_seekLeast_123 (c_X2_place (by omega) h11 (by omega)) rfl rfl ?_
        rintro _ rfl
        refine V_iinc hE dX4_seekLeast_126 rfl rfl ?_
        refine V_goto hE 63 dX4_seekLeast_129 (by decide) ?_
        refine ih _ _ _ (by omega) (by omega) (Fr_up (Fr_up (Fr_up hF (by decide)) (by decide)) (by decide)) (fun j hj => ?_) (fun j hj => ?_)
        · rw [up_ne _ _ _ (by decide : 12 ≠ 14), up_ne _ _ _ (by decide : 12 ≠ 13), up_ne _ _ _ (by decide : 13 ≠ 14), up_at, up_at, up_at, up_ne _ _ _ (by decide : 13 ≠ 12), up_ne _ _ _ (by decide : 14 ≠ 13), up_ne _ _ _ (by decide : 14 ≠ 12)]
          by_cases ej : j = i.toNat
          · subst ej
            have hc3 : i.toNat + 3 = (i + 3).toNat := by omega
            rw [if_pos hc3, if_pos hc3, if_pos hc3, elh, elf (by omega)]
            first | rw [if_pos (by assumption)] | rw [if_neg (by assumption)]
            exact ⟨rfl, rfl, rfl⟩
          · have hc3 : ¬ j + 3 = (i + 3).toNat := by omega
            rw [if_neg hc3, if_neg hc3, if_neg hc3]
            exact hp j (by omega)
        · rw [up_ne _ _ _ (by decide : 13 ≠ 14), up_at, up_at, up_ne _ _ _ (by decide : 13 ≠ 12), up_ne _ _ _ (by decide : 14 ≠ 13), up_ne _ _ _ (by decide : 14 ≠ 12)]
          have hc3 : ¬ j = (i + 3).toNat := by omega
          rw [if_neg hc3, if_neg hc3]
          exact h3 j hj
      · refine V_iconst hE dX4_seekLeast_117 ?_
        refine V_goto hE 123 dX4_seekLeast_118 (by decide) ?_
        refine cl_X4_207 hE rfl dX4_seekLeast_123 (c_X2_place (by omega) h11 (by omega)) rfl rfl ?_
        rintro _ rfl
        refine V_iinc hE dX4_seekLeast_126 rfl rfl ?_
        refine V_goto hE 63 dX4_seekLeast_129 (by decide) ?_
        refine ih _ _ _ (by omega) (by omega) (Fr_up (Fr_up (Fr_up hF (by decide)) (by decide)) (by decide)) (fun j hj => ?_) (fun j hj => ?_)
        · rw [up_ne _ _ _ (by decide : 12 ≠ 14), up_ne _ _ _ (by decide : 12 ≠ 13), up_ne _ _ _ (by decide : 13 ≠ 14), up_at, up_at, up_at, up_ne _ _ _ (by decide : 13 ≠ 12), up_ne _ _ _ (by decide : 14 ≠ 13), up_ne _ _ _ (by decide : 14 ≠ 12)]
          by_cases ej : j = i.toNat
          · subst ej
            have hc3 : i.toNat + 3 = (i + 3).toNat := by omega
            rw [if_pos hc3, if_pos hc3, if_pos hc3, elh, elf (by omega)]
            first | rw [if_pos (by assumption)] | rw [if_neg (by assumption)]
            exact ⟨rfl, rfl, rfl⟩
          · have hc3 : ¬ j + 3 = (i + 3).toNat := by omega
            rw [if_neg hc3, if_neg hc3, if_neg hc3]
            exact hp j (by omega)
        · rw [up_ne _ _ _ (by decide : 13 ≠ 14), up_at, up_at, up_ne _ _ _ (by decide : 13 ≠ 12), up_ne _ _ _ (by decide : 14 ≠ 13), up_ne _ _ _ (by decide : 14 ≠ 12)]
          have hc3 : ¬ j = (i + 3).toNat := by omega
          rw [if_neg hc3, if_neg hc3]
          exact h3 j hj
set_option maxRecDepth 100000 in
set_option maxHeartbeats 4000000 in
theorem c_X4_seekLeast {K : Ctx} {σ : Sto} {v k : Int} (hI : IC σ) (hv : (v = 0 ∨ v = 1) ∧ 0 ≤ k ∧ k < (if v = 0 then σ 101 0 else σ 100 0)) : CtI K mX4_seekLeast 5 [.ref (kA K 0), .int (i32 v), .int (i32 k)] σ (fun x σ' => Fr [102, 103, 104, 11, 12, 13, 14, 15, 16] σ σ' ∧ ScC σ' ∧ SkD σ' x (lnf (σ 8) v k) (lnf (σ 10) v k) (σ 5 0) (σ 5 1) (if v = 0 then σ 100 0 else σ 101 0)) := by
  obtain ⟨hS, hW, hB, hRe, hLo, hHi, hO, hPu, hHe, hSc⟩ := id hI
  refine CtI_of (L := [some (.ref (kA K 0)), some (.int (i32 v)), some (.int (i32 k)), none, none, none, none, none]) (by decide) rfl rfl rfl ?_
  intro E hE hR
  refine V_aload_n hE dX4_seekLeast_0 rfl ?_
  refine gf_X4_48 hE rfl dX4_seekLeast_1 ?_
  refine V_iconst hE dX4_seekLeast_4 ?_
  refine V_iaload hE dX4_seekLeast_5 rfl (by omega) ?_
  rw [show Int.toNat 0 = 0 from rfl]
  refine V_istore_n hE dX4_seekLeast_6 rfl ?_
  refine V_aload_n hE dX4_seekLeast_7 rfl ?_
  refine gf_X4_48 hE rfl dX4_seekLeast_8 ?_
  refine V_iconst hE dX4_seekLeast_11 ?_
  refine V_iaload hE dX4_seekLeast_12 rfl (by omega) ?_
  rw [show Int.toNat 1 = 1 from rfl]
  refine V_istore hE dX4_seekLeast_13 rfl ?_
  refine V_aload_n hE dX4_seekLeast_15 rfl ?_
  refine V_iload_n hE dX4_seekLeast_16 rfl ?_
  refine V_iload_n hE dX4_seekLeast_17 rfl ?_
  refine cl_X4_96 hE rfl dX4_seekLeast_18 (c_X4_takeLine hI hv) rfl rfl ?_
  rintro σ1 hq
  have e102 := hq.2.1
  have hs1 := LayC_sm hI hq
  refine V_aload_n hE dX4_seekLeast_21 rfl ?_
  refine gf_X4_21 hE rfl dX4_seekLeast_22 ?_
  refine cf_X4_112 hE rfl dX4_seekLeast_25 (c_X3_farthestJump hq.2.2.2 (by omega)) rfl rfl ?_
  have efj : fj (σ1 11) (σ1 102 0 - 3).toNat = fj (lnf (σ 8) v k) ((if v = 0 then σ 100 0 else σ 101 0) - 3).toNat := by rw [e102]; exact fj_congr hq.2.2.1 _ (by omega)
  rw [efj]
  have hfr := fj_rng (lnf_rng hO v k) ((if v = 0 then σ 100 0 else σ 101 0) - 3).toNat
  refine V_istore hE dX4_seekLeast_28 rfl ?_
  refine V_iload hE dX4_seekLeast_30 rfl ?_
  refine V_iload_n hE dX4_seekLeast_32 rfl ?_
  refine V_icmp_gt hE 45 dX4_seekLeast_33 (by decide) (by omega) (fun h33 => ?_) (fun h33 => ?_)
  · refine V_iload hE dX4_seekLeast_45 rfl ?_
    refine V_iload_n hE dX4_seekLeast_47 rfl ?_
    refine V_bipush hE dX4_seekLeast_48 (by decide) ?_
    refine V_iload hE dX4_seekLeast_50 rfl ?_
    refine V_imul hE dX4_seekLeast_52 ?_
    refine V_iadd hE dX4_seekLeast_53 ?_
    refine V_icmp_le hE 60 dX4_seekLeast_54 (by decide) (by omega) (fun h54 => ?_) (fun h54 => ?_)
    · refine V_iconst hE dX4_seekLeast_60 ?_
      refine V_istore hE dX4_seekLeast_61 rfl ?_
      exact lp_X4_seekLeast_63 hI hv hq hE hR 100 0 σ1 _ (by omega) (by omega) Fr_rf (fun j hj => by omega) (fun j hj => by rw [hq.1 13 (by decide), hq.1 14 (by decide)]; exact ⟨(hSc.2.2 j hj).1, (hSc.2.2 j hj).2.1⟩)
    · refine V_bipush hE dX4_seekLeast_57 (by decide) ?_
      refine V_ireturn hR dX4_seekLeast_59 ?_
      exact ⟨Fr_sub hq.1 (by decide), hs1.2, Or.inl ⟨rfl, Ltt_far hRe hB.1 (by omega)⟩⟩
  · refine V_aload_n hE dX4_seekLeast_36 rfl ?_
    refine gf_X4_28 hE rfl dX4_seekLeast_37 ?_
    refine cl_X4_200 hE rfl dX4_seekLeast_40 (c_X2_stay) rfl rfl ?_
    rintro σ2 ⟨hF2, h0⟩
    refine V_iconst hE dX4_seekLeast_43 ?_
    refine V_ireturn hR dX4_seekLeast_44 ?_
    refine ⟨Fr_tr (Fr_sub hq.1 (by decide)) hF2 (by decide), ⟨?_, fun j hj => ?_, fun j hj => ?_⟩, Or.inr ⟨by omega, by omega, ?_, fun j hj => ?_⟩⟩
    · rw [hF2 11 (by decide)]; exact hq.2.2.2
    · rw [hF2 16 (by decide), hq.1 16 (by decide)]; exact hSc.2.1 j hj
    · have q3 := hSc.2.2 j hj
      rw [hF2 13 (by decide), hF2 14 (by decide), hq.1 13 (by decide), hq.1 14 (by decide)]
      exact ⟨q3.1, q3.2.1, h0 j (by omega)⟩
    · exact G0 (lnf_rng hO v k) hRe (by omega) _ (by omega)
    · rw [Lmv0 (lnf_rng hO v k) hRe (by omega) hj]
      exact h0 (j + 3) (by omega)
set_option maxRecDepth 100000 in
set_option maxHeartbeats 4000000 in
theorem lp_X4_addMoves_12 {K : Ctx} {E : ME} {σ : Sto} {v k : Int} {mv : Nat → Int} (hI : IC σ) (hv : (v = 0 ∨ v = 1) ∧ 0 ≤ k ∧ k < (if v = 0 then σ 101 0 else σ 100 0)) (hmv : ∀ j : Nat, (j : Int) < (if v = 0 then σ 100 0 else σ 101 0) → σ 15 (j + 3) = mv j) (hE : Ok K E mX4_addMoves 2) (hR : RetV K E mX4_addMoves (fun σ' => Fr [8] σ σ' ∧ σ' 8 = addN (σ 8) v k mv (if v = 0 then σ 100 0 else σ 101 0).toNat)) : ∀ (n : Nat) (i : Int) (σ1 : Sto), (if v = 0 then σ 100 0 else σ 101 0) - i < n → (0 ≤ i ∧ i ≤ (if v = 0 then σ 100 0 else σ 101 0)) → (Fr [8] σ σ1) → (∀ c : Nat, σ1 8 c = addN (σ 8) v k mv i.toNat c) → V K E mX4_addMoves 12 [some (.ref (kA K 0)), some (.int (i32 v)), some (.int (i32 k)), some (.int (i32 (if v = 0 then σ 100 0 else σ 101 0))), some (.int (i32 i))] [] σ1 := by
  intro n
  induction n with
  | zero =>
    intro i σ1 hm hi hF h8
    exfalso; omega
  | succ n ih =>
    intro i σ1 hm hi hF h8
    obtain ⟨hS, hW, hB, hRe, hLo, hHi, hO, hPu, hHe, hSc⟩ := id hI
    have hpt : i < (if v = 0 then σ 100 0 else σ 101 0) → 0 ≤ pt v k i ∧ pt v k i < 63 := by intro hlt; unfold pt; split <;> omega
    have e15 : i < (if v = 0 then σ 100 0 else σ 101 0) → σ1 15 (i + 3).toNat = mv i.toNat := fun hlt => by rw [hF 15 (by decide), show (i + 3).toNat = i.toNat + 3 by omega]; exact hmv _ (by omega)
    refine V_iload hE dX4_addMoves_12 rfl ?_
    refine V_iload_n hE dX4_addMoves_14 rfl ?_
    refine V_icmp_ge hE 55 dX4_addMoves_15 (by decide) (by omega) (fun h15 => ?_) (fun h15 => ?_)
    · refine V_return hR dX4_addMoves_55 ?_
      have ei : i = (if v = 0 then σ 100 0 else σ 101 0) := by omega
      refine ⟨hF, ?_⟩
      funext c
      rw [h8 c, ei]
    · refine V_aload_n hE dX4_addMoves_18 rfl ?_
      refine gf_X4_14 hE rfl dX4_addMoves_19 ?_
      refine gf_X4_86 hE rfl dX4_addMoves_22 ?_
      refine V_aload_n hE dX4_addMoves_25 rfl ?_
      refine gf_X4_14 hE rfl dX4_addMoves_26 ?_
      refine V_iload_n hE dX4_addMoves_29 rfl ?_
      refine V_iload_n hE dX4_addMoves_30 rfl ?_
      refine V_iload hE dX4_addMoves_31 rfl ?_
      refine cf_X4_203 hE rfl dX4_addMoves_33 (c_X0_cell hv.1) rfl rfl ?_
      refine V_dup2 hE dX4_addMoves_36 rfl rfl ?_
      refine V_iaload hE dX4_addMoves_37 rfl (hpt (by omega)) ?_
      refine V_aload_n hE dX4_addMoves_38 rfl ?_
      refine gf_X4_28 hE rfl dX4_addMoves_39 ?_
      refine V_iload hE dX4_addMoves_42 rfl ?_
      refine cf_X4_128 hE rfl dX4_addMoves_44 (c_X2_moveOf (by omega)) rfl rfl ?_
      refine V_iadd hE dX4_addMoves_47 ?_
      refine V_iastore hE dX4_addMoves_48 rfl (hpt (by omega)) ?_
      refine V_iinc hE dX4_addMoves_49 rfl rfl ?_
      refine V_goto hE 12 dX4_addMoves_52 (by decide) ?_
      refine ih _ _ (by omega) (by omega) (Fr_up hF (by decide)) (fun c => ?_)
      rw [up_at, addN_step _ _ _ _ (by omega), ← h8 c, e15 (by omega)]
      by_cases ec : c = (pt v k i).toNat
      · rw [if_pos ec, if_pos ec, ec]
      · rw [if_neg ec, if_neg ec]
set_option maxRecDepth 100000 in
set_option maxHeartbeats 4000000 in
theorem c_X4_addMoves {K : Ctx} {σ : Sto} {v k : Int} {mv : Nat → Int} (hI : IC σ) (hv : (v = 0 ∨ v = 1) ∧ 0 ≤ k ∧ k < (if v = 0 then σ 101 0 else σ 100 0)) (hmv : ∀ j : Nat, (j : Int) < (if v = 0 then σ 100 0 else σ 101 0) → σ 15 (j + 3) = mv j) : CtV K mX4_addMoves 2 [.ref (kA K 0), .int (i32 v), .int (i32 k)] σ (fun σ' => Fr [8] σ σ' ∧ σ' 8 = addN (σ 8) v k mv (if v = 0 then σ 100 0 else σ 101 0).toNat) := by
  obtain ⟨hS, hW, hB, hRe, hLo, hHi, hO, hPu, hHe, hSc⟩ := id hI
  refine CtV_of (L := [some (.ref (kA K 0)), some (.int (i32 v)), some (.int (i32 k)), none, none]) (by decide) rfl rfl rfl ?_
  intro E hE hR
  refine V_aload_n hE dX4_addMoves_0 rfl ?_
  refine gf_X4_14 hE rfl dX4_addMoves_1 ?_
  refine V_iload_n hE dX4_addMoves_4 rfl ?_
  refine cf_X4_122 hE rfl dX4_addMoves_5 (c_X0_pointsOf hv.1) rfl rfl ?_
  refine V_istore_n hE dX4_addMoves_8 rfl ?_
  refine V_iconst hE dX4_addMoves_9 ?_
  refine V_istore hE dX4_addMoves_10 rfl ?_
  exact lp_X4_addMoves_12 hI hv hmv hE hR 100 0 σ (by omega) (by omega) Fr_rf (fun c => rfl)
set_option maxRecDepth 100000 in
set_option maxHeartbeats 4000000 in
theorem c_X4_least {K : Ctx} {σ : Sto} {v k i : Int} (hI : IC σ) (hv : InI v ∧ InI k ∧ InI i) : CtI K mX4_least 6 [.ref (kA K 0), .int (i32 v), .int (i32 k), .int (i32 i)] σ (fun r σ' => r = leastS (σ 8) (σ 10) (σ 100 0) (σ 101 0) (σ 5 0) (σ 5 1) v k i ∧ SmC σ σ') := by
  obtain ⟨hS, hW, hB, hRe, hLo, hHi, hO, hPu, hHe, hSc⟩ := id hI
  have href : refS (σ 100 0) (σ 101 0) v k = -2 ∨ refS (σ 100 0) (σ 101 0) v k = -1 ∨ refS (σ 100 0) (σ 101 0) v k = 0 := by unfold refS; omega
  have href0 : refS (σ 100 0) (σ 101 0) v k = 0 ↔ ((v = 0 ∨ v = 1) ∧ 0 ≤ k ∧ k < (if v = 0 then σ 101 0 else σ 100 0)) := by unfold refS; omega
  refine CtI_of (L := [some (.ref (kA K 0)), some (.int (i32 v)), some (.int (i32 k)), some (.int (i32 i)), none, none]) (by decide) rfl rfl rfl ?_
  intro E hE hR
  refine V_aload_n hE dX4_least_0 rfl ?_
  refine V_iload_n hE dX4_least_1 rfl ?_
  refine V_iload_n hE dX4_least_2 rfl ?_
  refine cf_X4_93 hE rfl dX4_least_3 (c_X4_refusalOfLine hI (by omega)) rfl rfl ?_
  refine V_istore hE dX4_least_6 rfl ?_
  refine V_iload hE dX4_least_8 rfl ?_
  refine V_if_eq hE 16 dX4_least_10 (by decide) (by omega) (fun h10 => ?_) (fun h10 => ?_)
  · refine V_iload_n hE dX4_least_16 rfl ?_
    refine V_iconst hE dX4_least_17 ?_
    refine V_aload_n hE dX4_least_18 rfl ?_
    refine gf_X4_14 hE rfl dX4_least_19 ?_
    refine V_iload_n hE dX4_least_22 rfl ?_
    refine cf_X4_122 hE rfl dX4_least_23 (c_X0_pointsOf (by omega)) rfl rfl ?_
    refine V_iconst hE dX4_least_26 ?_
    refine V_isub hE dX4_least_27 ?_
    refine cf_X4_61 hE rfl dX4_least_28 (c_X4_isNot (by omega)) rfl rfl ?_
    refine V_if_eq hE 37 dX4_least_31 (by decide) (by omega) (fun h31 => ?_) (fun h31 => ?_)
    · refine V_aload_n hE dX4_least_37 rfl ?_
      refine V_iload_n hE dX4_least_38 rfl ?_
      refine V_iload_n hE dX4_least_39 rfl ?_
      refine cl_X4_125 hE rfl dX4_least_40 (c_X4_seekLeast hI (by omega)) rfl rfl ?_
      rintro x σ1 ⟨hF1, hSc1, hsk⟩
      have hxr := SkD_rng hsk
      have hs1 : SmC σ σ1 := ⟨Fr_sub hF1 (by decide), hSc1⟩
      have f101 : σ1 101 0 = σ 101 0 := by rw [hF1 101 (by decide)]
      have f100 : σ1 100 0 = σ 100 0 := by rw [hF1 100 (by decide)]
      refine V_istore hE dX4_least_43 rfl ?_
      refine V_iload hE dX4_least_45 rfl ?_
      refine V_bipush hE dX4_least_47 (by decide) ?_
      refine V_icmp_eq hE 56 dX4_least_49 (by decide) (by omega) (fun h49 => ?_) (fun h49 => ?_)
      · refine V_iload hE dX4_least_56 rfl ?_
        refine V_goto hE 69 dX4_least_58 (by decide) ?_
        refine V_ireturn hR dX4_least_69 ?_
        refine ⟨?_, hs1⟩
        unfold leastS
        refine Eq.symm ((if_neg (by omega)).trans ((if_neg (by omega)).trans ((if_neg (by omega)).trans ?_)))
        first
          | (rw [SkD_no hsk h49]; exact h49.symm)
          | (obtain ⟨g1, g2⟩ := SkD_yes hsk h49
             rw [g1]
             exact if_pos (by omega))
          | (obtain ⟨g1, g2⟩ := SkD_yes hsk h49
             rw [g1]
             refine (if_neg (by omega)).trans ?_
             rw [show (i + 3).toNat = i.toNat + 3 by omega]
             exact (g2 i.toNat (by omega)).symm)
      · refine V_iload_n hE dX4_least_52 rfl ?_
        refine V_if_ge hE 61 dX4_least_53 (by decide) (by omega) (fun h53 => ?_) (fun h53 => ?_)
        · refine V_aload_n hE dX4_least_61 rfl ?_
          refine gf_X4_28 hE rfl dX4_least_62 ?_
          refine V_iload_n hE dX4_least_65 rfl ?_
          refine cf_X4_128 hE rfl dX4_least_66 (c_X2_moveOf (by omega)) rfl rfl ?_
          refine V_ireturn hR dX4_least_69 ?_
          refine ⟨?_, hs1⟩
          unfold leastS
          refine Eq.symm ((if_neg (by omega)).trans ((if_neg (by omega)).trans ((if_neg (by omega)).trans ?_)))
          first
            | (rw [SkD_no hsk h49]; exact h49.symm)
            | (obtain ⟨g1, g2⟩ := SkD_yes hsk h49
               rw [g1]
               exact if_pos (by omega))
            | (obtain ⟨g1, g2⟩ := SkD_yes hsk h49
               rw [g1]
               refine (if_neg (by omega)).trans ?_
               rw [show (i + 3).toNat = i.toNat + 3 by omega]
               exact (g2 i.toNat (by omega)).symm)
        · refine V_iload hE dX4_least_56 rfl ?_
          refine V_goto hE 69 dX4_least_58 (by decide) ?_
          refine V_ireturn hR dX4_least_69 ?_
          refine ⟨?_, hs1⟩
          unfold leastS
          refine Eq.symm ((if_neg (by omega)).trans ((if_neg (by omega)).trans ((if_neg (by omega)).trans ?_)))
          first
            | (rw [SkD_no hsk h49]; exact h49.symm)
            | (obtain ⟨g1, g2⟩ := SkD_yes hsk h49
               rw [g1]
               exact if_pos (by omega))
            | (obtain ⟨g1, g2⟩ := SkD_yes hsk h49
               rw [g1]
               refine (if_neg (by omega)).trans ?_
               rw [show (i + 3).toNat = i.toNat + 3 by omega]
               exact (g2 i.toNat (by omega)).symm)
    · refine V_bipush hE dX4_least_34 (by decide) ?_
      refine V_ireturn hR dX4_least_36 ?_
      exact ⟨by unfold leastS; exact ((if_neg (by omega)).trans ((if_neg (by omega)).trans (if_pos (by omega)))).symm, SmC_rf hSc⟩
  · refine V_iload hE dX4_least_13 rfl ?_
    refine V_ireturn hR dX4_least_15 ?_
    exact ⟨by unfold leastS; unfold refS at *; first | exact (if_pos (by omega)).symm.trans (by omega) | (split <;> (try split) <;> omega), SmC_rf hSc⟩
def FairC (σ : Sto) (σ' : Sto) : Prop := Fr (8 :: scC) σ σ' ∧ ScC σ'
theorem IC_fair {σ σ' : Sto} (h : IC σ) (h2 : FairC σ σ') (h3 : Rng (σ' 8)) : IC σ' := by
  obtain ⟨hS, hW, hB, hRe, hLo, hHi, hO, hPu, hHe, hSc⟩ := h
  have e := h2.1
  unfold IC
  rw [e 100 (by decide), e 101 (by decide), e 5 (by decide), e 9 (by decide), e 10 (by decide)]
  exact ⟨hS, hW, hB, hRe, hLo, hHi, h3, hPu, hHe, h2.2⟩
theorem FairC_tr {σ σ1 σ2 : Sto} (h : FairC σ σ1) (h2 : FairC σ1 σ2) : FairC σ σ2 := ⟨Fr_tr h.1 h2.1 (fun _ q => q), h2.2⟩
theorem FairC_rf {σ : Sto} (h : ScC σ) : FairC σ σ := ⟨Fr_rf, h⟩
theorem fairO_no {h : Nat → Int} {S W bn r v k : Int} {o : Nat → Int} (hL : Ltt (lnf o v k) (lnf h v k) bn r (if v = 0 then S else W) = none) : fairO h S W bn r v k o = o := by
  unfold fairO
  rw [hL]
theorem fairO_yes {h : Nat → Int} {S W bn r v k t : Int} {o : Nat → Int} (hL : Ltt (lnf o v k) (lnf h v k) bn r (if v = 0 then S else W) = some t) : fairO h S W bn r v k o = addN o v k (Lmv (lnf o v k) (lnf h v k) bn r (if v = 0 then S else W)) (if v = 0 then S else W).toNat := by
  unfold fairO
  rw [hL]
set_option maxRecDepth 100000 in
set_option maxHeartbeats 4000000 in
theorem c_X4_fair {K : Ctx} {σ : Sto} {v k : Int} (hI : IC σ) (hv : InI v ∧ InI k) : CtI K mX4_fair 6 [.ref (kA K 0), .int (i32 v), .int (i32 k)] σ (fun r σ' => r = fairS (σ 8) (σ 10) (σ 100 0) (σ 101 0) (σ 5 0) (σ 5 1) v k ∧ FairC σ σ' ∧ σ' 8 = (if refS (σ 100 0) (σ 101 0) v k < 0 then σ 8 else fairO (σ 10) (σ 100 0) (σ 101 0) (σ 5 0) (σ 5 1) v k (σ 8))) := by
  obtain ⟨hS, hW, hB, hRe, hLo, hHi, hO, hPu, hHe, hSc⟩ := id hI
  have href : refS (σ 100 0) (σ 101 0) v k = -2 ∨ refS (σ 100 0) (σ 101 0) v k = -1 ∨ refS (σ 100 0) (σ 101 0) v k = 0 := by unfold refS; omega
  have href0 : refS (σ 100 0) (σ 101 0) v k = 0 ↔ ((v = 0 ∨ v = 1) ∧ 0 ≤ k ∧ k < (if v = 0 then σ 101 0 else σ 100 0)) := by unfold refS; omega
  refine CtI_of (L := [some (.ref (kA K 0)), some (.int (i32 v)), some (.int (i32 k)), none, none]) (by decide) rfl rfl rfl ?_
  intro E hE hR
  refine V_aload_n hE dX4_fair_0 rfl ?_
  refine V_iload_n hE dX4_fair_1 rfl ?_
  refine V_iload_n hE dX4_fair_2 rfl ?_
  refine cf_X4_93 hE rfl dX4_fair_3 (c_X4_refusalOfLine hI (by omega)) rfl rfl ?_
  refine V_istore_n hE dX4_fair_6 rfl ?_
  refine V_iload_n hE dX4_fair_7 rfl ?_
  refine V_if_eq hE 13 dX4_fair_8 (by decide) (by omega) (fun h8 => ?_) (fun h8 => ?_)
  · refine V_aload_n hE dX4_fair_13 rfl ?_
    refine V_iload_n hE dX4_fair_14 rfl ?_
    refine V_iload_n hE dX4_fair_15 rfl ?_
    refine cl_X4_125 hE rfl dX4_fair_16 (c_X4_seekLeast hI (by omega)) rfl rfl ?_
    rintro x σ1 ⟨hF1, hSc1, hsk⟩
    have hxr := SkD_rng hsk
    have hs1 : SmC σ σ1 := ⟨Fr_sub hF1 (by decide), hSc1⟩
    have f101 : σ1 101 0 = σ 101 0 := by rw [hF1 101 (by decide)]
    have f100 : σ1 100 0 = σ 100 0 := by rw [hF1 100 (by decide)]
    refine V_istore hE dX4_fair_19 rfl ?_
    refine V_iload hE dX4_fair_21 rfl ?_
    refine V_bipush hE dX4_fair_23 (by decide) ?_
    refine V_icmp_ne hE 31 dX4_fair_25 (by decide) (by omega) (fun h25 => ?_) (fun h25 => ?_)
    · refine V_aload_n hE dX4_fair_31 rfl ?_
      refine V_iload_n hE dX4_fair_32 rfl ?_
      refine V_iload_n hE dX4_fair_33 rfl ?_
      refine cl_X4_131 hE rfl dX4_fair_34 (c_X4_addMoves (mv := Lmv (lnf (σ 8) v k) (lnf (σ 10) v k) (σ 5 0) (σ 5 1) (if v = 0 then σ 100 0 else σ 101 0)) (IC_sm hI hs1) (by omega) (fun j hj => (SkD_yes hsk (by assumption)).2 j (by omega))) rfl rfl ?_
      rintro σ2 ⟨hF2, h2⟩
      have hfo : σ2 8 = fairO (σ 10) (σ 100 0) (σ 101 0) (σ 5 0) (σ 5 1) v k (σ 8) := by
        rw [h2, fairO_yes (SkD_yes hsk (by assumption)).1, hF1 8 (by decide), f100, f101]
      refine V_iload hE dX4_fair_37 rfl ?_
      refine V_ireturn hR dX4_fair_39 ?_
      refine ⟨?_, ⟨Fr_tr (Fr_sub hF1 (by decide)) hF2 (by decide), ScC_fr hSc1 hF2 (by decide)⟩, ?_⟩
      · unfold fairS
        refine Eq.symm ((if_neg (by omega)).trans ((if_neg (by omega)).trans ?_))
        rw [(SkD_yes hsk h25).1]
        rfl
      · rw [if_neg (by omega)]
        exact hfo
    · refine V_bipush hE dX4_fair_28 (by decide) ?_
      refine V_ireturn hR dX4_fair_30 ?_
      refine ⟨?_, ⟨Fr_sub hF1 (by decide), hSc1⟩, ?_⟩
      · unfold fairS
        refine Eq.symm ((if_neg (by omega)).trans ((if_neg (by omega)).trans ?_))
        rw [SkD_no hsk h25]
        rfl
      · rw [if_neg (by omega), fairO_no (SkD_no hsk h25), hF1 8 (by decide)]
  · refine V_iload_n hE dX4_fair_11 rfl ?_
    refine V_ireturn hR dX4_fair_12 ?_
    exact ⟨by unfold fairS; unfold refS at *; first | exact (if_pos (by omega)).symm.trans (by omega) | (split <;> (try split) <;> omega), FairC_rf hSc, (if_pos (by omega)).symm⟩
set_option maxRecDepth 100000 in
set_option maxHeartbeats 4000000 in
theorem lp_X4_roundChanges_27 {K : Ctx} {E : ME} {σ : Sto} (hI : IC σ) {v : Int} (hv : v = 0 ∨ v = 1) (hk : ∀ σ1 : Sto, Fr [8, 102, 103, 104, 11, 12, 13, 14, 15, 16] σ σ1 → ScC σ1 → σ1 8 = itL (fairO (σ 10) (σ 100 0) (σ 101 0) (σ 5 0) (σ 5 1)) v (if v = 0 then σ 101 0 else σ 100 0).toNat (σ 8) → V K E mX4_roundChanges 62 [some (.ref (kA K 0)), some (.int (i32 v)), some (.int (i32 (if v = 0 then σ 101 0 else σ 100 0)))] [] σ1) (hE : Ok K E mX4_roundChanges 6) : ∀ (n : Nat) (k : Int) (σ1 : Sto), (if v = 0 then σ 101 0 else σ 100 0) - k < n → (0 ≤ k ∧ k ≤ (if v = 0 then σ 101 0 else σ 100 0)) → (Fr [8, 102, 103, 104, 11, 12, 13, 14, 15, 16] σ σ1) → (ScC σ1) → (σ1 8 = itL (fairO (σ 10) (σ 100 0) (σ 101 0) (σ 5 0) (σ 5 1)) v k.toNat (σ 8)) → V K E mX4_roundChanges 27 [some (.ref (kA K 0)), some (.int (i32 v)), some (.int (i32 k))] [] σ1 := by
  intro n
  induction n with
  | zero =>
    intro k σ1 hm hk1 hF hSc1 h8
    exfalso; omega
  | succ n ih =>
    intro k σ1 hm hk1 hF hSc1 h8
    obtain ⟨hS, hW, hB, hRe, hLo, hHi, hO, hPu, hHe, hSc⟩ := id hI
    have e101 : σ1 101 0 = σ 101 0 := by rw [hF 101 (by decide)]
    have e100 : σ1 100 0 = σ 100 0 := by rw [hF 100 (by decide)]
    have hR1 : Rng (σ1 8) := by rw [h8]; exact itL_rng hS hW hRe hv hO _ (by omega)
    have hI1 : IC σ1 := IC_fair hI ⟨Fr_sub hF (by decide), hSc1⟩ hR1
    refine V_iload_n hE dX4_roundChanges_27 rfl ?_
    refine V_aload_n hE dX4_roundChanges_28 rfl ?_
    refine gf_X4_14 hE rfl dX4_roundChanges_29 ?_
    refine V_iload_n hE dX4_roundChanges_32 rfl ?_
    refine cf_X4_109 hE rfl dX4_roundChanges_33 (c_X0_linesOf (by omega)) rfl rfl ?_
    refine V_icmp_ge hE 62 dX4_roundChanges_36 (by decide) (by omega) (fun h36 => ?_) (fun h36 => ?_)
    · have ek : k = (if v = 0 then σ 101 0 else σ 100 0) := by omega
      subst ek
      exact hk _ hF hSc1 h8
    · refine V_aload_n hE dX4_roundChanges_39 rfl ?_
      refine V_iload_n hE dX4_roundChanges_40 rfl ?_
      refine V_iload_n hE dX4_roundChanges_41 rfl ?_
      refine cl_X4_125 hE rfl dX4_roundChanges_42 (c_X4_seekLeast hI1 (by omega)) rfl rfl ?_
      rintro x σ2 ⟨hF2, hSc2, hsk⟩
      have hxr := SkD_rng hsk
      have hs2 : SmC σ1 σ2 := ⟨Fr_sub hF2 (by decide), hSc2⟩
      have f101 : σ2 101 0 = σ1 101 0 := by rw [hF2 101 (by decide)]
      have f100 : σ2 100 0 = σ1 100 0 := by rw [hF2 100 (by decide)]
      refine V_bipush hE dX4_roundChanges_45 (by decide) ?_
      refine V_icmp_eq hE 56 dX4_roundChanges_47 (by decide) (by omega) (fun h47 => ?_) (fun h47 => ?_)
      · refine V_iinc hE dX4_roundChanges_56 rfl rfl ?_
        refine V_goto hE 27 dX4_roundChanges_59 (by decide) ?_
        first
          | (refine ih _ _ (by omega) (by omega) (Fr_tr hF (Fr_tr (Fr_sub hF2 (by decide)) hF3 (by decide)) (fun _ hkk => hkk)) (ScC_fr hSc2 hF3 (by decide)) ?_
             rw [itL_step _ _ _ (by omega), ← h8, hfo, hF 10 (by decide), e100, e101, hF 5 (by decide)])
          | (refine ih _ _ (by omega) (by omega) (Fr_tr hF (Fr_sub hF2 (by decide)) (fun _ hkk => hkk)) hSc2 ?_
             rw [itL_step _ _ _ (by omega), ← h8, hF2 8 (by decide)]
             have hno := fairO_no (SkD_no hsk h47)
             rw [hF 10 (by decide), e100, e101, hF 5 (by decide)] at hno
             exact hno.symm)
      · refine V_aload_n hE dX4_roundChanges_50 rfl ?_
        refine V_iload_n hE dX4_roundChanges_51 rfl ?_
        refine V_iload_n hE dX4_roundChanges_52 rfl ?_
        refine cl_X4_131 hE rfl dX4_roundChanges_53 (c_X4_addMoves (mv := Lmv (lnf (σ1 8) v k) (lnf (σ1 10) v k) (σ1 5 0) (σ1 5 1) (if v = 0 then σ1 100 0 else σ1 101 0)) (IC_sm hI1 hs2) (by omega) (fun j hj => (SkD_yes hsk (by assumption)).2 j (by omega))) rfl rfl ?_
        rintro σ3 ⟨hF3, h3⟩
        have hfo : σ3 8 = fairO (σ1 10) (σ1 100 0) (σ1 101 0) (σ1 5 0) (σ1 5 1) v k (σ1 8) := by
          rw [h3, fairO_yes (SkD_yes hsk (by assumption)).1, hF2 8 (by decide), f100, f101]
        refine V_iinc hE dX4_roundChanges_56 rfl rfl ?_
        refine V_goto hE 27 dX4_roundChanges_59 (by decide) ?_
        first
          | (refine ih _ _ (by omega) (by omega) (Fr_tr hF (Fr_tr (Fr_sub hF2 (by decide)) hF3 (by decide)) (fun _ hkk => hkk)) (ScC_fr hSc2 hF3 (by decide)) ?_
             rw [itL_step _ _ _ (by omega), ← h8, hfo, hF 10 (by decide), e100, e101, hF 5 (by decide)])
          | (refine ih _ _ (by omega) (by omega) (Fr_tr hF (Fr_sub hF2 (by decide)) (fun _ hkk => hkk)) hSc2 ?_
             rw [itL_step _ _ _ (by omega), ← h8, hF2 8 (by decide)]
             have hno := fairO_no (SkD_no hsk h47)
             rw [hF 10 (by decide), e100, e101, hF 5 (by decide)] at hno
             exact hno.symm)
theorem difB_mono {o o' : Nat → Int} {i j : Nat} (hx : difB o o' i = true) (hij : i ≤ j) : difB o o' j = true := by
  induction j with
  | zero => rw [show i = 0 by omega] at hx; exact hx
  | succ j ih =>
    by_cases e : i = j + 1
    · rw [← e]; exact hx
    · rw [difB, ih (by omega)]; rfl
set_option maxRecDepth 100000 in
set_option maxHeartbeats 4000000 in
theorem lp_X4_roundChanges_70 {K : Ctx} {E : ME} {σ σ1 : Sto} (hI : IC σ) (hFM : FairC σ σ1) (h8 : σ1 8 = (roundO (σ 10) (σ 100 0) (σ 101 0) (σ 5 0) (σ 5 1) (σ 8))) (h6 : ∀ j : Nat, (j : Int) < 63 → σ1 6 j = σ 8 j) {x2 : Option Value} (hE : Ok K E mX4_roundChanges 6) (hR : RetZ K E mX4_roundChanges (fun r σ' => r = (if difB (σ 8) (roundO (σ 10) (σ 100 0) (σ 101 0) (σ 5 0) (σ 5 1) (σ 8)) 63 = true then 1 else 0) ∧ FairC σ σ' ∧ σ' 8 = (roundO (σ 10) (σ 100 0) (σ 101 0) (σ 5 0) (σ 5 1) (σ 8)))) : ∀ (n : Nat) (i : Int), 63 - i < n → (0 ≤ i ∧ i ≤ 63) → (difB (σ 8) (σ1 8) i.toNat = false) → V K E mX4_roundChanges 70 [some (.ref (kA K 0)), some (.int (i32 i)), x2] [] σ1 := by
  intro n
  induction n with
  | zero =>
    intro i hm hi hd
    exfalso; omega
  | succ n ih =>
    intro i hm hi hd
    obtain ⟨hS, hW, hB, hRe, hLo, hHi, hO, hPu, hHe, hSc⟩ := id hI
    have hr0 := roundO_rng (h := σ 10) (bn := σ 5 0) hS hW hRe hO
    rw [← h8] at hr0
    have hr1 := hr0 i.toNat
    have hr2 := hO i.toNat
    refine V_iload_n hE dX4_roundChanges_70 rfl ?_
    refine V_bipush hE dX4_roundChanges_71 (by decide) ?_
    refine V_icmp_ge hE 102 dX4_roundChanges_73 (by decide) (by omega) (fun h73 => ?_) (fun h73 => ?_)
    · refine V_iconst hE dX4_roundChanges_102 ?_
      refine V_zreturn hR dX4_roundChanges_103 (by omega) ?_
      have ei : i = 63 := by omega
      subst ei
      refine ⟨?_, hFM, h8⟩
      rw [← h8]
      refine (if_neg (fun hx => ?_)).symm
      rw [show (63 : Nat) = (63 : Int).toNat from rfl, hd] at hx
      exact absurd hx (by decide)
    · have e6 := h6 i.toNat (by omega)
      refine V_aload_n hE dX4_roundChanges_76 rfl ?_
      refine gf_X4_14 hE rfl dX4_roundChanges_77 ?_
      refine gf_X4_86 hE rfl dX4_roundChanges_80 ?_
      refine V_iload_n hE dX4_roundChanges_83 rfl ?_
      refine V_iaload hE dX4_roundChanges_84 rfl (by omega) ?_
      refine V_aload_n hE dX4_roundChanges_85 rfl ?_
      refine gf_X4_51 hE rfl dX4_roundChanges_86 ?_
      refine V_iload_n hE dX4_roundChanges_89 rfl ?_
      refine V_iaload hE dX4_roundChanges_90 rfl (by omega) ?_
      refine V_icmp_eq hE 96 dX4_roundChanges_91 (by decide) (by omega) (fun h91 => ?_) (fun h91 => ?_)
      · refine V_iinc hE dX4_roundChanges_96 rfl rfl ?_
        refine V_goto hE 70 dX4_roundChanges_99 (by decide) ?_
        refine ih _ (by omega) (by omega) ?_
        rw [difB_step _ _ (by omega), hd, Bool.false_or, decide_eq_false (by omega)]
      · refine V_iconst hE dX4_roundChanges_94 ?_
        refine V_zreturn hR dX4_roundChanges_95 (by omega) ?_
        refine ⟨?_, hFM, h8⟩
        have hx : difB (σ 8) (σ1 8) (i + 1).toNat = true := by
          rw [difB_step _ _ (by omega), hd, Bool.false_or, decide_eq_true (by omega)]
        have hy : difB (σ 8) (σ1 8) 63 = true := difB_mono hx (by omega)
        rw [← h8, if_pos hy]
set_option maxRecDepth 100000 in
set_option maxHeartbeats 4000000 in
theorem c_X4_roundChanges {K : Ctx} {σ : Sto} (hI : IC σ) : CtI K mX4_roundChanges 6 [.ref (kA K 0)] σ (fun r σ' => r = (if difB (σ 8) (roundO (σ 10) (σ 100 0) (σ 101 0) (σ 5 0) (σ 5 1) (σ 8)) 63 = true then 1 else 0) ∧ FairC σ σ' ∧ σ' 8 = (roundO (σ 10) (σ 100 0) (σ 101 0) (σ 5 0) (σ 5 1) (σ 8))) := by
  obtain ⟨hS, hW, hB, hRe, hLo, hHi, hO, hPu, hHe, hSc⟩ := id hI
  refine CtZ_of (L := [some (.ref (kA K 0)), none, none]) (by decide) rfl rfl rfl ?_
  intro E hE hR
  refine V_aload_n hE dX4_roundChanges_0 rfl ?_
  refine gf_X4_14 hE rfl dX4_roundChanges_1 ?_
  refine gf_X4_86 hE rfl dX4_roundChanges_4 ?_
  refine V_iconst hE dX4_roundChanges_7 ?_
  refine V_aload_n hE dX4_roundChanges_8 rfl ?_
  refine gf_X4_51 hE rfl dX4_roundChanges_9 ?_
  refine V_iconst hE dX4_roundChanges_12 ?_
  refine V_bipush hE dX4_roundChanges_13 (by decide) ?_
  refine V_copy hE tw_ml_X4_214 dX4_roundChanges_15 rfl rfl ?_
  refine V_iconst hE dX4_roundChanges_18 ?_
  refine V_istore_n hE dX4_roundChanges_19 rfl ?_
  refine V_iload_n hE dX4_roundChanges_20 rfl ?_
  refine V_iconst hE dX4_roundChanges_21 ?_
  refine V_icmp_ge hE 68 dX4_roundChanges_22 (by decide) (by omega) (fun h22 => ?_) (fun h22 => ?_)
  · exfalso; omega
  · refine V_iconst hE dX4_roundChanges_25 ?_
    refine V_istore_n hE dX4_roundChanges_26 rfl ?_
    have hF1 : Fr [6] σ (fun k i => if k = 6 ∧ i < 63 then σ 8 i else σ k i) := fun k hk => by
      funext j
      exact if_neg (fun q => hk (by rw [q.1]; decide))
    have h6 : ∀ j : Nat, (j : Int) < 63 → (fun k i => if k = 6 ∧ i < 63 then σ 8 i else σ k i : Sto) 6 j = σ 8 j := fun j hj => if_pos ⟨rfl, by omega⟩
    generalize (fun k i => if k = 6 ∧ i < 63 then σ 8 i else σ k i : Sto) = σ1 at hF1 h6 ⊢
    have hI1 : IC σ1 := IC_sm hI ⟨Fr_sub hF1 (by decide), ScC_fr hSc hF1 (by decide)⟩
    have f100 : σ1 100 0 = σ 100 0 := by rw [hF1 100 (by decide)]
    have f101 : σ1 101 0 = σ 101 0 := by rw [hF1 101 (by decide)]
    refine lp_X4_roundChanges_27 hI1 (v := 0) (Or.inl rfl) ?_ hE 100 0 σ1 (by omega) (by omega) Fr_rf (IC_sc hI1) rfl
    intro σ2 hF2 hSc2 e2
    replace e2 : σ2 8 = itL (fairO (σ 10) (σ 100 0) (σ 101 0) (σ 5 0) (σ 5 1)) 0 (σ 101 0).toNat (σ1 8) := by
      rw [hF1 10 (by decide), f100, f101, hF1 5 (by decide)] at e2
      exact e2
    refine V_iinc hE dX4_roundChanges_62 rfl rfl ?_
    refine V_goto hE 20 dX4_roundChanges_65 (by decide) ?_
    refine V_iload_n hE dX4_roundChanges_20 rfl ?_
    refine V_iconst hE dX4_roundChanges_21 ?_
    refine V_icmp_ge hE 68 dX4_roundChanges_22 (by decide) (by omega) (fun h22 => ?_) (fun h22 => ?_)
    · exfalso; omega
    · refine V_iconst hE dX4_roundChanges_25 ?_
      refine V_istore_n hE dX4_roundChanges_26 rfl ?_
      have hI2 : IC σ2 := IC_fair hI ⟨Fr_tr (Fr_sub hF1 (by decide : ∀ k ∈ [6], k ∈ 8 :: scC)) hF2 (by decide), hSc2⟩ (by rw [e2, hF1 8 (by decide)]; exact itL_rng hS hW hRe (Or.inl rfl) hO _ (by omega))
      have g100 : σ2 100 0 = σ 100 0 := by rw [hF2 100 (by decide), hF1 100 (by decide)]
      have g101 : σ2 101 0 = σ 101 0 := by rw [hF2 101 (by decide), hF1 101 (by decide)]
      refine lp_X4_roundChanges_27 hI2 (v := 1) (Or.inr rfl) ?_ hE 100 0 σ2 (by omega) (by omega) Fr_rf hSc2 rfl
      intro σ3 hF3 hSc3 e3
      refine V_iinc hE dX4_roundChanges_62 rfl rfl ?_
      refine V_goto hE 20 dX4_roundChanges_65 (by decide) ?_
      refine V_iload_n hE dX4_roundChanges_20 rfl ?_
      refine V_iconst hE dX4_roundChanges_21 ?_
      refine V_icmp_ge hE 68 dX4_roundChanges_22 (by decide) (by omega) (fun h22 => ?_) (fun h22 => ?_)
      · refine V_iconst hE dX4_roundChanges_68 ?_
        refine V_istore_n hE dX4_roundChanges_69 rfl ?_
        refine lp_X4_roundChanges_70 hI ⟨Fr_tr (Fr_tr (Fr_sub hF1 (by decide : ∀ k ∈ [6], k ∈ 8 :: scC)) hF2 (by decide)) hF3 (by decide), hSc3⟩ ?_ ?_ hE hR 100 0 (by omega) (by omega) rfl
        · rw [e3, e2, g100, g101, hF2 10 (by decide), hF2 5 (by decide), hF1 10 (by decide), hF1 5 (by decide), hF1 8 (by decide)]
          rfl
        · intro j hj
          rw [hF3 6 (by decide), hF2 6 (by decide)]
          exact h6 j hj
      · exfalso; omega
set_option maxRecDepth 100000 in
set_option maxHeartbeats 4000000 in
theorem lp_X4_rounds_15 {K : Ctx} {E : ME} {σ : Sto} {n0 : Int} (hI : IC σ) (hn : 1 ≤ n0 ∧ n0 ≤ 20) (hE : Ok K E mX4_rounds 7) (hR : RetI K E mX4_rounds (fun r σ' => r = rdsS (σ 8) (σ 10) (σ 100 0) (σ 101 0) (σ 5 0) (σ 5 1) n0 ∧ FairC σ σ' ∧ σ' 8 = (if 1 ≤ n0 ∧ n0 ≤ 20 then (rrS (σ 10) (σ 100 0) (σ 101 0) (σ 5 0) (σ 5 1) (n0 - 1).toNat (σ 8)).2 else σ 8))) : ∀ (n : Nat) (i : Int) (σ1 : Sto), n0 - i + 1 < n → (1 ≤ i ∧ i ≤ n0) → (FairC σ σ1) → (Rng (σ1 8)) → (i + (rrS (σ 10) (σ 100 0) (σ 101 0) (σ 5 0) (σ 5 1) (n0 - i).toNat (σ1 8)).1 = 1 + (rrS (σ 10) (σ 100 0) (σ 101 0) (σ 5 0) (σ 5 1) (n0 - 1).toNat (σ 8)).1) → ((rrS (σ 10) (σ 100 0) (σ 101 0) (σ 5 0) (σ 5 1) (n0 - i).toNat (σ1 8)).2 = (rrS (σ 10) (σ 100 0) (σ 101 0) (σ 5 0) (σ 5 1) (n0 - 1).toNat (σ 8)).2) → V K E mX4_rounds 15 [some (.ref (kA K 0)), some (.int (i32 n0)), some (.int (i32 i))] [] σ1 := by
  intro n
  induction n with
  | zero =>
    intro i σ1 hm hi hFM hR1 hA hB1
    exfalso; omega
  | succ n ih =>
    intro i σ1 hm hi hFM hR1 hA hB1
    obtain ⟨hS, hW, hB, hRe, hLo, hHi, hO, hPu, hHe, hSc⟩ := id hI
    have hI1 : IC σ1 := IC_fair hI hFM hR1
    have e := hFM.1
    refine V_iload_n hE dX4_rounds_15 rfl ?_
    refine V_iload_n hE dX4_rounds_16 rfl ?_
    refine V_icmp_ge hE 35 dX4_rounds_17 (by decide) (by omega) (fun h17 => ?_) (fun h17 => ?_)
    · refine V_aload_n hE dX4_rounds_35 rfl ?_
      refine cl_X4_134 hE rfl dX4_rounds_36 (c_X4_roundChanges hI1) rfl rfl ?_
      rintro r σ2 ⟨hr, hFM2, h2⟩
      rw [e 10 (by decide), e 100 (by decide), e 101 (by decide), e 5 (by decide)] at hr h2
      have hFM3 := FairC_tr hFM hFM2
      have hR2 : Rng (σ2 8) := by rw [h2]; exact roundO_rng hS hW hRe hR1
      have hr01 : r = 0 ∨ r = 1 := by rw [hr]; split <;> simp
      refine V_pop hE dX4_rounds_39 rfl ?_
      refine V_iload_n hE dX4_rounds_40 rfl ?_
      refine V_ireturn hR dX4_rounds_41 ?_
      have key : (rrS (σ 10) (σ 100 0) (σ 101 0) (σ 5 0) (σ 5 1) (n0 - i).toNat (σ1 8)) = (0, σ2 8) := by
        by_cases hz : n0 - i = 0
        · rw [show (n0 - i).toNat = 0 by omega, rrS, ← h2]
        · rw [show (n0 - i).toNat = (n0 - i - 1).toNat + 1 by omega, rrS, ← h2]
          refine if_neg (fun hd => ?_)
          rw [← h2, if_pos hd] at hr
          omega
      rw [key] at hA hB1
      refine ⟨?_, hFM3, ?_⟩
      · unfold rdsS
        refine Eq.symm ((if_pos hn).trans ?_)
        rw [← hA]
        show i + 0 = _
        omega
      · rw [if_pos hn, ← hB1]
    · refine V_aload_n hE dX4_rounds_20 rfl ?_
      refine cl_X4_134 hE rfl dX4_rounds_21 (c_X4_roundChanges hI1) rfl rfl ?_
      rintro r σ2 ⟨hr, hFM2, h2⟩
      rw [e 10 (by decide), e 100 (by decide), e 101 (by decide), e 5 (by decide)] at hr h2
      have hFM3 := FairC_tr hFM hFM2
      have hR2 : Rng (σ2 8) := by rw [h2]; exact roundO_rng hS hW hRe hR1
      have hr01 : r = 0 ∨ r = 1 := by rw [hr]; split <;> simp
      refine V_if_ne hE 29 dX4_rounds_24 (by decide) (by omega) (fun h24 => ?_) (fun h24 => ?_)
      · refine V_iinc hE dX4_rounds_29 rfl rfl ?_
        refine V_goto hE 15 dX4_rounds_32 (by decide) ?_
        have hd : difB (σ1 8) (σ2 8) 63 = true := by
          cases hd : difB (σ1 8) (σ2 8) 63 with
          | true => rfl
          | false => rw [← h2, hd] at hr; simp at hr; omega
        rw [show (n0 - i).toNat = (n0 - (i + 1)).toNat + 1 by omega, rrS, ← h2, if_pos hd] at hA hB1
        refine ih _ _ (by omega) (by omega) hFM3 hR2 ?_ hB1
        rw [← hA]
        show _ = i + (_ + 1)
        omega
      · refine V_iload_n hE dX4_rounds_27 rfl ?_
        refine V_ireturn hR dX4_rounds_28 ?_
        have key : (rrS (σ 10) (σ 100 0) (σ 101 0) (σ 5 0) (σ 5 1) (n0 - i).toNat (σ1 8)) = (0, σ2 8) := by
          by_cases hz : n0 - i = 0
          · rw [show (n0 - i).toNat = 0 by omega, rrS, ← h2]
          · rw [show (n0 - i).toNat = (n0 - i - 1).toNat + 1 by omega, rrS, ← h2]
            refine if_neg (fun hd => ?_)
            rw [← h2, if_pos hd] at hr
            omega
        rw [key] at hA hB1
        refine ⟨?_, hFM3, ?_⟩
        · unfold rdsS
          refine Eq.symm ((if_pos hn).trans ?_)
          rw [← hA]
          show i + 0 = _
          omega
        · rw [if_pos hn, ← hB1]
set_option maxRecDepth 100000 in
set_option maxHeartbeats 4000000 in
theorem c_X4_rounds {K : Ctx} {σ : Sto} {n0 : Int} (hI : IC σ) (hv : InI n0) : CtI K mX4_rounds 7 [.ref (kA K 0), .int (i32 n0)] σ (fun r σ' => r = rdsS (σ 8) (σ 10) (σ 100 0) (σ 101 0) (σ 5 0) (σ 5 1) n0 ∧ FairC σ σ' ∧ σ' 8 = (if 1 ≤ n0 ∧ n0 ≤ 20 then (rrS (σ 10) (σ 100 0) (σ 101 0) (σ 5 0) (σ 5 1) (n0 - 1).toNat (σ 8)).2 else σ 8)) := by
  obtain ⟨hS, hW, hB, hRe, hLo, hHi, hO, hPu, hHe, hSc⟩ := id hI
  refine CtI_of (L := [some (.ref (kA K 0)), some (.int (i32 n0)), none]) (by decide) rfl rfl rfl ?_
  intro E hE hR
  refine V_iload_n hE dX4_rounds_0 rfl ?_
  refine V_iconst hE dX4_rounds_1 ?_
  refine V_bipush hE dX4_rounds_2 (by decide) ?_
  refine cf_X4_61 hE rfl dX4_rounds_4 (c_X4_isNot (by omega)) rfl rfl ?_
  refine V_if_eq hE 13 dX4_rounds_7 (by decide) (by omega) (fun h7 => ?_) (fun h7 => ?_)
  · refine V_iconst hE dX4_rounds_13 ?_
    refine V_istore_n hE dX4_rounds_14 rfl ?_
    exact lp_X4_rounds_15 hI (by omega) hE hR 100 1 σ (by omega) (by omega) (FairC_rf hSc) hO rfl rfl
  · refine V_bipush hE dX4_rounds_10 (by decide) ?_
    refine V_ireturn hR dX4_rounds_12 ?_
    exact ⟨by unfold rdsS; exact (if_neg (by omega)).symm, FairC_rf hSc, (if_neg (by omega)).symm⟩
