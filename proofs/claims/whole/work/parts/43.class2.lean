set_option maxRecDepth 100000 in
set_option maxHeartbeats 4000000 in
theorem c_X1_isThere {K : Ctx} {σ : Sto} {s : Int} (hs : 0 ≤ s ∧ s < 9) (hr : 0 ≤ σ 18 s.toNat ∧ σ 18 s.toNat ≤ 999) : CtI K mX1_isThere 0 [.ref (kA K 4), .int (i32 s)] σ (fun r σ' => r = (if 0 < σ 18 s.toNat then 1 else 0) ∧ σ' = σ) := by
  refine CtZ_of (L := [some (.ref (kA K 4)), some (.int (i32 s))]) (by decide) rfl rfl rfl ?_
  intro E hE hR
  refine V_aload_n hE dX1_isThere_0 rfl ?_
  refine gf_X1_15 hE rfl dX1_isThere_1 ?_
  refine V_iload_n hE dX1_isThere_4 rfl ?_
  refine V_laload hE dX1_isThere_5 rfl (by omega) ?_
  refine V_lconst0 hE dX1_isThere_6 ?_
  refine V_lcmp_le hE 15 dX1_isThere_7 dX1_isThere_8 (by decide) (by omega) (fun h7 => ?_) (fun h7 => ?_)
  · refine V_iconst hE dX1_isThere_15 ?_
    refine V_zreturn hR dX1_isThere_16 (by omega) ?_
    exact ⟨by omega, rfl⟩
  · refine V_iconst hE dX1_isThere_11 ?_
    refine V_goto hE 16 dX1_isThere_12 (by decide) ?_
    refine V_zreturn hR dX1_isThere_16 (by omega) ?_
    exact ⟨by omega, rfl⟩
set_option maxRecDepth 100000 in
set_option maxHeartbeats 4000000 in
theorem lp_X1_measure_3 {K : Ctx} {E : ME} {σ : Sto} {s b : Int} (hI : IC σ) (hs : 0 ≤ s ∧ s < σ 100 0) (hb : 1 ≤ b ∧ b ≤ 999) (hE : Ok K E mX1_measure 1) (hR : RetV K E mX1_measure (fun σ' => MeasQ σ s b σ')) : ∀ (n : Nat) (i : Int), σ 101 0 - i < n → (0 ≤ i ∧ i ≤ σ 101 0) → (fh (lnf (σ 8) 1 s) b (σ 101 0) = fhA (lnf (σ 8) 1 s) b (σ 101 0 - i).toNat i.toNat) → V K E mX1_measure 3 [some (.ref (kA K 4)), some (.ref (kA K 1)), some (.int (i32 s)), some (.int (i32 b)), some (.int (i32 i)), none] [] σ := by
  intro n
  induction n with
  | zero =>
    intro i hm hi hf
    exfalso; omega
  | succ n ih =>
    intro i hm hi hf
    obtain ⟨hS, hW, hB, hRe, hLo, hHi, hO, hPu, hHe, hSc⟩ := id hI
    have h9 := hO (7 * s + i).toNat
    have h8 := hO (7 * s + (i - 1)).toNat
    have eg : (lnf (σ 8) 1 s) i.toNat = σ 8 (7 * s + i).toNat := by unfold lnf pt; rw [if_neg (by decide), show ((i.toNat : Nat) : Int) = i by omega]
    refine V_iload hE dX1_measure_3 rfl ?_
    refine V_aload_n hE dX1_measure_5 rfl ?_
    refine gf_X1_18 hE rfl dX1_measure_6 ?_
    refine V_icmp_ge hE 33 dX1_measure_9 (by decide) (by omega) (fun h9 => ?_) (fun h9 => ?_)
    · have ef : fh (lnf (σ 8) 1 s) b (σ 101 0) = i.toNat := by
        rw [hf]
        first
          | (rw [show (σ 101 0 - i).toNat = 0 by omega]; rfl)
          | (rw [show (σ 101 0 - i).toNat = (σ 101 0 - i - 1).toNat + 1 by omega, fhA, if_pos (by rw [eg]; omega)])
      refine V_iload hE dX1_measure_33 rfl ?_
      refine V_aload_n hE dX1_measure_35 rfl ?_
      refine gf_X1_18 hE rfl dX1_measure_36 ?_
      refine V_icmp_ne hE 59 dX1_measure_39 (by decide) (by omega) (fun h39 => ?_) (fun h39 => ?_)
      · refine V_iload hE dX1_measure_59 rfl ?_
        refine V_if_ne hE 81 dX1_measure_61 (by decide) (by omega) (fun h61 => ?_) (fun h61 => ?_)
        · refine V_aload_n hE dX1_measure_81 rfl ?_
          refine gf_X1_24 hE rfl dX1_measure_82 ?_
          refine V_iload_n hE dX1_measure_85 rfl ?_
          refine V_iload hE dX1_measure_86 rfl ?_
          refine V_iconst hE dX1_measure_88 ?_
          refine V_isub hE dX1_measure_89 ?_
          refine cf_X1_28 hE rfl dX1_measure_90 (c_X4_cellOf) rfl rfl ?_
          refine V_iaload hE dX1_measure_93 rfl (by omega) ?_
          refine V_istore hE dX1_measure_94 rfl ?_
          refine V_aload_n hE dX1_measure_96 rfl ?_
          refine gf_X1_15 hE rfl dX1_measure_97 ?_
          refine V_iload_n hE dX1_measure_100 rfl ?_
          refine V_aload_n hE dX1_measure_101 rfl ?_
          refine gf_X1_24 hE rfl dX1_measure_102 ?_
          refine V_iload_n hE dX1_measure_105 rfl ?_
          refine V_iload hE dX1_measure_106 rfl ?_
          refine cf_X1_28 hE rfl dX1_measure_108 (c_X4_cellOf) rfl rfl ?_
          refine V_iaload hE dX1_measure_111 rfl (by omega) ?_
          refine V_iload hE dX1_measure_112 rfl ?_
          refine V_isub hE dX1_measure_114 ?_
          refine V_i2l hE dX1_measure_115 (by omega) ?_
          refine V_lastore hE dX1_measure_116 rfl (by omega) ?_
          refine V_aload_n hE dX1_measure_117 rfl ?_
          refine gf_X1_9 hE rfl dX1_measure_118 ?_
          refine V_iload_n hE dX1_measure_121 rfl ?_
          refine V_iload hE dX1_measure_122 rfl ?_
          refine V_iconst hE dX1_measure_124 ?_
          refine V_isub hE dX1_measure_125 ?_
          refine V_i2l hE dX1_measure_126 (by omega) ?_
          refine V_aload_n hE dX1_measure_127 rfl ?_
          refine gf_X1_15 hE rfl dX1_measure_128 ?_
          refine V_iload_n hE dX1_measure_131 rfl ?_
          refine V_laload hE dX1_measure_132 rfl (by omega) ?_
          refine V_lmul hE dX1_measure_133 ?_
          refine V_iload_n hE dX1_measure_134 rfl ?_
          refine V_i2l hE dX1_measure_135 (by omega) ?_
          refine V_ladd hE dX1_measure_136 ?_
          refine V_iload hE dX1_measure_137 rfl ?_
          refine V_i2l hE dX1_measure_139 (by omega) ?_
          refine V_lsub hE dX1_measure_140 ?_
          refine V_lastore hE dX1_measure_141 rfl (by omega) ?_
          refine V_return hR dX1_measure_142 ?_
          have elo : htL (lnf (σ 8) 1 s) b (σ 101 0) = (if (i.toNat : Int) < σ 101 0 then (if i.toNat = 0 then 1 else (lnf (σ 8) 1 s) i.toNat - (lnf (σ 8) 1 s) (i.toNat - 1)) else 0) := by unfold htL; rw [ef]
          have eup : htU (lnf (σ 8) 1 s) b (σ 101 0) = (if (i.toNat : Int) < σ 101 0 then (if i.toNat = 0 then 0 else ((i.toNat : Int) - 1) * htL (lnf (σ 8) 1 s) b (σ 101 0) + b - (lnf (σ 8) 1 s) (i.toNat - 1)) else 0) := by unfold htU; rw [ef]
          first
            | (exfalso; omega)
            | (rw [if_neg (by omega)] at elo eup
               refine ⟨Fr_up (Fr_up Fr_rf (by decide)) (by decide), fun j => ?_, fun j => ?_⟩
               · rw [eup, up_ne _ _ _ (by decide : 17 ≠ 18), up_at]
               · rw [elo, up_at, up_ne _ _ _ (by decide : 18 ≠ 17)])
            | (rw [if_pos (by omega), if_pos (by omega)] at elo eup
               refine ⟨Fr_up (Fr_up Fr_rf (by decide)) (by decide), fun j => ?_, fun j => ?_⟩
               · rw [eup, up_ne _ _ _ (by decide : 17 ≠ 18), up_at]
               · rw [elo, up_at, up_ne _ _ _ (by decide : 18 ≠ 17)])
            | (have eg1 : (lnf (σ 8) 1 s) (i.toNat - 1) = σ 8 (7 * s + (i - 1)).toNat := by unfold lnf pt; rw [if_neg (by decide), show ((i.toNat - 1 : Nat) : Int) = i - 1 by omega]
               rw [if_pos (by omega), if_neg (by omega)] at elo eup
               rw [eg, eg1] at elo
               rw [eg1, show ((i.toNat : Nat) : Int) = i by omega, elo] at eup
               refine ⟨Fr_up (Fr_up Fr_rf (by decide)) (by decide), fun j => ?_, fun j => ?_⟩
               · rw [up_at, eup, up_self, up_ne _ _ _ (by decide : 17 ≠ 18)]
               · rw [up_ne _ _ _ (by decide : 18 ≠ 17), up_at, elo])
        · refine V_aload_n hE dX1_measure_64 rfl ?_
          refine gf_X1_9 hE rfl dX1_measure_65 ?_
          refine V_iload_n hE dX1_measure_68 rfl ?_
          refine V_lconst0 hE dX1_measure_69 ?_
          refine V_lastore hE dX1_measure_70 rfl (by omega) ?_
          refine V_aload_n hE dX1_measure_71 rfl ?_
          refine gf_X1_15 hE rfl dX1_measure_72 ?_
          refine V_iload_n hE dX1_measure_75 rfl ?_
          refine V_lconst1 hE dX1_measure_76 ?_
          refine V_lastore hE dX1_measure_77 rfl (by omega) ?_
          refine V_goto hE 142 dX1_measure_78 (by decide) ?_
          refine V_return hR dX1_measure_142 ?_
          have elo : htL (lnf (σ 8) 1 s) b (σ 101 0) = (if (i.toNat : Int) < σ 101 0 then (if i.toNat = 0 then 1 else (lnf (σ 8) 1 s) i.toNat - (lnf (σ 8) 1 s) (i.toNat - 1)) else 0) := by unfold htL; rw [ef]
          have eup : htU (lnf (σ 8) 1 s) b (σ 101 0) = (if (i.toNat : Int) < σ 101 0 then (if i.toNat = 0 then 0 else ((i.toNat : Int) - 1) * htL (lnf (σ 8) 1 s) b (σ 101 0) + b - (lnf (σ 8) 1 s) (i.toNat - 1)) else 0) := by unfold htU; rw [ef]
          first
            | (exfalso; omega)
            | (rw [if_neg (by omega)] at elo eup
               refine ⟨Fr_up (Fr_up Fr_rf (by decide)) (by decide), fun j => ?_, fun j => ?_⟩
               · rw [eup, up_ne _ _ _ (by decide : 17 ≠ 18), up_at]
               · rw [elo, up_at, up_ne _ _ _ (by decide : 18 ≠ 17)])
            | (rw [if_pos (by omega), if_pos (by omega)] at elo eup
               refine ⟨Fr_up (Fr_up Fr_rf (by decide)) (by decide), fun j => ?_, fun j => ?_⟩
               · rw [eup, up_ne _ _ _ (by decide : 17 ≠ 18), up_at]
               · rw [elo, up_at, up_ne _ _ _ (by decide : 18 ≠ 17)])
            | (have eg1 : (lnf (σ 8) 1 s) (i.toNat - 1) = σ 8 (7 * s + (i - 1)).toNat := by unfold lnf pt; rw [if_neg (by decide), show ((i.toNat - 1 : Nat) : Int) = i - 1 by omega]
               rw [if_pos (by omega), if_neg (by omega)] at elo eup
               rw [eg, eg1] at elo
               rw [eg1, show ((i.toNat : Nat) : Int) = i by omega, elo] at eup
               refine ⟨Fr_up (Fr_up Fr_rf (by decide)) (by decide), fun j => ?_, fun j => ?_⟩
               · rw [up_at, eup, up_self, up_ne _ _ _ (by decide : 17 ≠ 18)]
               · rw [up_ne _ _ _ (by decide : 18 ≠ 17), up_at, elo])
      · refine V_aload_n hE dX1_measure_42 rfl ?_
        refine gf_X1_9 hE rfl dX1_measure_43 ?_
        refine V_iload_n hE dX1_measure_46 rfl ?_
        refine V_lconst0 hE dX1_measure_47 ?_
        refine V_lastore hE dX1_measure_48 rfl (by omega) ?_
        refine V_aload_n hE dX1_measure_49 rfl ?_
        refine gf_X1_15 hE rfl dX1_measure_50 ?_
        refine V_iload_n hE dX1_measure_53 rfl ?_
        refine V_lconst0 hE dX1_measure_54 ?_
        refine V_lastore hE dX1_measure_55 rfl (by omega) ?_
        refine V_goto hE 142 dX1_measure_56 (by decide) ?_
        refine V_return hR dX1_measure_142 ?_
        have elo : htL (lnf (σ 8) 1 s) b (σ 101 0) = (if (i.toNat : Int) < σ 101 0 then (if i.toNat = 0 then 1 else (lnf (σ 8) 1 s) i.toNat - (lnf (σ 8) 1 s) (i.toNat - 1)) else 0) := by unfold htL; rw [ef]
        have eup : htU (lnf (σ 8) 1 s) b (σ 101 0) = (if (i.toNat : Int) < σ 101 0 then (if i.toNat = 0 then 0 else ((i.toNat : Int) - 1) * htL (lnf (σ 8) 1 s) b (σ 101 0) + b - (lnf (σ 8) 1 s) (i.toNat - 1)) else 0) := by unfold htU; rw [ef]
        first
          | (exfalso; omega)
          | (rw [if_neg (by omega)] at elo eup
             refine ⟨Fr_up (Fr_up Fr_rf (by decide)) (by decide), fun j => ?_, fun j => ?_⟩
             · rw [eup, up_ne _ _ _ (by decide : 17 ≠ 18), up_at]
             · rw [elo, up_at, up_ne _ _ _ (by decide : 18 ≠ 17)])
          | (rw [if_pos (by omega), if_pos (by omega)] at elo eup
             refine ⟨Fr_up (Fr_up Fr_rf (by decide)) (by decide), fun j => ?_, fun j => ?_⟩
             · rw [eup, up_ne _ _ _ (by decide : 17 ≠ 18), up_at]
             · rw [elo, up_at, up_ne _ _ _ (by decide : 18 ≠ 17)])
          | (have eg1 : (lnf (σ 8) 1 s) (i.toNat - 1) = σ 8 (7 * s + (i - 1)).toNat := by unfold lnf pt; rw [if_neg (by decide), show ((i.toNat - 1 : Nat) : Int) = i - 1 by omega]
             rw [if_pos (by omega), if_neg (by omega)] at elo eup
             rw [eg, eg1] at elo
             rw [eg1, show ((i.toNat : Nat) : Int) = i by omega, elo] at eup
             refine ⟨Fr_up (Fr_up Fr_rf (by decide)) (by decide), fun j => ?_, fun j => ?_⟩
             · rw [up_at, eup, up_self, up_ne _ _ _ (by decide : 17 ≠ 18)]
             · rw [up_ne _ _ _ (by decide : 18 ≠ 17), up_at, elo])
    · refine V_aload_n hE dX1_measure_12 rfl ?_
      refine gf_X1_24 hE rfl dX1_measure_13 ?_
      refine V_iload_n hE dX1_measure_16 rfl ?_
      refine V_iload hE dX1_measure_17 rfl ?_
      refine cf_X1_28 hE rfl dX1_measure_19 (c_X4_cellOf) rfl rfl ?_
      refine V_iaload hE dX1_measure_22 rfl (by omega) ?_
      refine V_iload_n hE dX1_measure_23 rfl ?_
      refine V_icmp_ge hE 33 dX1_measure_24 (by decide) (by omega) (fun h24 => ?_) (fun h24 => ?_)
      · have ef : fh (lnf (σ 8) 1 s) b (σ 101 0) = i.toNat := by
          rw [hf]
          first
            | (rw [show (σ 101 0 - i).toNat = 0 by omega]; rfl)
            | (rw [show (σ 101 0 - i).toNat = (σ 101 0 - i - 1).toNat + 1 by omega, fhA, if_pos (by rw [eg]; omega)])
        refine V_iload hE dX1_measure_33 rfl ?_
        refine V_aload_n hE dX1_measure_35 rfl ?_
        refine gf_X1_18 hE rfl dX1_measure_36 ?_
        refine V_icmp_ne hE 59 dX1_measure_39 (by decide) (by omega) (fun h39 => ?_) (fun h39 => ?_)
        · refine V_iload hE dX1_measure_59 rfl ?_
          refine V_if_ne hE 81 dX1_measure_61 (by decide) (by omega) (fun h61 => ?_) (fun h61 => ?_)
          · refine V_aload_n hE dX1_measure_81 rfl ?_
            refine gf_X1_24 hE rfl dX1_measure_82 ?_
            refine V_iload_n hE dX1_measure_85 rfl ?_
            refine V_iload hE dX1_measure_86 rfl ?_
            refine V_iconst hE dX1_measure_88 ?_
            refine V_isub hE dX1_measure_89 ?_
            refine cf_X1_28 hE rfl dX1_measure_90 (c_X4_cellOf) rfl rfl ?_
            refine V_iaload hE dX1_measure_93 rfl (by omega) ?_
            refine V_istore hE dX1_measure_94 rfl ?_
            refine V_aload_n hE dX1_measure_96 rfl ?_
            refine gf_X1_15 hE rfl dX1_measure_97 ?_
            refine V_iload_n hE dX1_measure_100 rfl ?_
            refine V_aload_n hE dX1_measure_101 rfl ?_
            refine gf_X1_24 hE rfl dX1_measure_102 ?_
            refine V_iload_n hE dX1_measure_105 rfl ?_
            refine V_iload hE dX1_measure_106 rfl ?_
            refine cf_X1_28 hE rfl dX1_measure_108 (c_X4_cellOf) rfl rfl ?_
            refine V_iaload hE dX1_measure_111 rfl (by omega) ?_
            refine V_iload hE dX1_measure_112 rfl ?_
            refine V_isub hE dX1_measure_114 ?_
            refine V_i2l hE dX1_measure_115 (by omega) ?_
            refine V_lastore hE dX1_measure_116 rfl (by omega) ?_
            refine V_aload_n hE dX1_measure_117 rfl ?_
            refine gf_X1_9 hE rfl dX1_measure_118 ?_
            refine V_iload_n hE dX1_measure_121 rfl ?_
            refine V_iload hE dX1_measure_122 rfl ?_
            refine V_iconst hE dX1_measure_124 ?_
            refine V_isub hE dX1_measure_125 ?_
            refine V_i2l hE dX1_measure_126 (by omega) ?_
            refine V_aload_n hE dX1_measure_127 rfl ?_
            refine gf_X1_15 hE rfl dX1_measure_128 ?_
            refine V_iload_n hE dX1_measure_131 rfl ?_
            refine V_laload hE dX1_measure_132 rfl (by omega) ?_
            refine V_lmul hE dX1_measure_133 ?_
            refine V_iload_n hE dX1_measure_134 rfl ?_
            refine V_i2l hE dX1_measure_135 (by omega) ?_
            refine V_ladd hE dX1_measure_136 ?_
            refine V_iload hE dX1_measure_137 rfl ?_
            refine V_i2l hE dX1_measure_139 (by omega) ?_
            refine V_lsub hE dX1_measure_140 ?_
            refine V_lastore hE dX1_measure_141 rfl (by omega) ?_
            refine V_return hR dX1_measure_142 ?_
            have elo : htL (lnf (σ 8) 1 s) b (σ 101 0) = (if (i.toNat : Int) < σ 101 0 then (if i.toNat = 0 then 1 else (lnf (σ 8) 1 s) i.toNat - (lnf (σ 8) 1 s) (i.toNat - 1)) else 0) := by unfold htL; rw [ef]
            have eup : htU (lnf (σ 8) 1 s) b (σ 101 0) = (if (i.toNat : Int) < σ 101 0 then (if i.toNat = 0 then 0 else ((i.toNat : Int) - 1) * htL (lnf (σ 8) 1 s) b (σ 101 0) + b - (lnf (σ 8) 1 s) (i.toNat - 1)) else 0) := by unfold htU; rw [ef]
            first
              | (exfalso; omega)
              | (rw [if_neg (by omega)] at elo eup
                 refine ⟨Fr_up (Fr_up Fr_rf (by decide)) (by decide), fun j => ?_, fun j => ?_⟩
                 · rw [eup, up_ne _ _ _ (by decide : 17 ≠ 18), up_at]
                 · rw [elo, up_at, up_ne _ _ _ (by decide : 18 ≠ 17)])
              | (rw [if_pos (by omega), if_pos (by omega)] at elo eup
                 refine ⟨Fr_up (Fr_up Fr_rf (by decide)) (by decide), fun j => ?_, fun j => ?_⟩
                 · rw [eup, up_ne _ _ _ (by decide : 17 ≠ 18), up_at]
                 · rw [elo, up_at, up_ne _ _ _ (by decide : 18 ≠ 17)])
              | (have eg1 : (lnf (σ 8) 1 s) (i.toNat - 1) = σ 8 (7 * s + (i - 1)).toNat := by unfold lnf pt; rw [if_neg (by decide), show ((i.toNat - 1 : Nat) : Int) = i - 1 by omega]
                 rw [if_pos (by omega), if_neg (by omega)] at elo eup
                 rw [eg, eg1] at elo
                 rw [eg1, show ((i.toNat : Nat) : Int) = i by omega, elo] at eup
                 refine ⟨Fr_up (Fr_up Fr_rf (by decide)) (by decide), fun j => ?_, fun j => ?_⟩
                 · rw [up_at, eup, up_self, up_ne _ _ _ (by decide : 17 ≠ 18)]
                 · rw [up_ne _ _ _ (by decide : 18 ≠ 17), up_at, elo])
          · refine V_aload_n hE dX1_measure_64 rfl ?_
            refine gf_X1_9 hE rfl dX1_measure_65 ?_
            refine V_iload_n hE dX1_measure_68 rfl ?_
            refine V_lconst0 hE dX1_measure_69 ?_
            refine V_lastore hE dX1_measure_70 rfl (by omega) ?_
            refine V_aload_n hE dX1_measure_71 rfl ?_
            refine gf_X1_15 hE rfl dX1_measure_72 ?_
            refine V_iload_n hE dX1_measure_75 rfl ?_
            refine V_lconst1 hE dX1_measure_76 ?_
            refine V_lastore hE dX1_measure_77 rfl (by omega) ?_
            refine V_goto hE 142 dX1_measure_78 (by decide) ?_
            refine V_return hR dX1_measure_142 ?_
            have elo : htL (lnf (σ 8) 1 s) b (σ 101 0) = (if (i.toNat : Int) < σ 101 0 then (if i.toNat = 0 then 1 else (lnf (σ 8) 1 s) i.toNat - (lnf (σ 8) 1 s) (i.toNat - 1)) else 0) := by unfold htL; rw [ef]
            have eup : htU (lnf (σ 8) 1 s) b (σ 101 0) = (if (i.toNat : Int) < σ 101 0 then (if i.toNat = 0 then 0 else ((i.toNat : Int) - 1) * htL (lnf (σ 8) 1 s) b (σ 101 0) + b - (lnf (σ 8) 1 s) (i.toNat - 1)) else 0) := by unfold htU; rw [ef]
            first
              | (exfalso; omega)
              | (rw [if_neg (by omega)] at elo eup
                 refine ⟨Fr_up (Fr_up Fr_rf (by decide)) (by decide), fun j => ?_, fun j => ?_⟩
                 · rw [eup, up_ne _ _ _ (by decide : 17 ≠ 18), up_at]
                 · rw [elo, up_at, up_ne _ _ _ (by decide : 18 ≠ 17)])
              | (rw [if_pos (by omega), if_pos (by omega)] at elo eup
                 refine ⟨Fr_up (Fr_up Fr_rf (by decide)) (by decide), fun j => ?_, fun j => ?_⟩
                 · rw [eup, up_ne _ _ _ (by decide : 17 ≠ 18), up_at]
                 · rw [elo, up_at, up_ne _ _ _ (by decide : 18 ≠ 17)])
              | (have eg1 : (lnf (σ 8) 1 s) (i.toNat - 1) = σ 8 (7 * s + (i - 1)).toNat := by unfold lnf pt; rw [if_neg (by decide), show ((i.toNat - 1 : Nat) : Int) = i - 1 by omega]
                 rw [if_pos (by omega), if_neg (by omega)] at elo eup
                 rw [eg, eg1] at elo
                 rw [eg1, show ((i.toNat : Nat) : Int) = i by omega, elo] at eup
                 refine ⟨Fr_up (Fr_up Fr_rf (by decide)) (by decide), fun j => ?_, fun j => ?_⟩
                 · rw [up_at, eup, up_self, up_ne _ _ _ (by decide : 17 ≠ 18)]
                 · rw [up_ne _ _ _ (by decide : 18 ≠ 17), up_at, elo])
        · refine V_aload_n hE dX1_measure_42 rfl ?_
          refine gf_X1_9 hE rfl dX1_measure_43 ?_
          refine V_iload_n hE dX1_measure_46 rfl ?_
          refine V_lconst0 hE dX1_measure_47 ?_
          refine V_lastore hE dX1_measure_48 rfl (by omega) ?_
          refine V_aload_n hE dX1_measure_49 rfl ?_
          refine gf_X1_15 hE rfl dX1_measure_50 ?_
          refine V_iload_n hE dX1_measure_53 rfl ?_
          refine V_lconst0 hE dX1_measure_54 ?_
          refine V_lastore hE dX1_measure_55 rfl (by omega) ?_
          refine V_goto hE 142 dX1_measure_56 (by decide) ?_
          refine V_return hR dX1_measure_142 ?_
          have elo : htL (lnf (σ 8) 1 s) b (σ 101 0) = (if (i.toNat : Int) < σ 101 0 then (if i.toNat = 0 then 1 else (lnf (σ 8) 1 s) i.toNat - (lnf (σ 8) 1 s) (i.toNat - 1)) else 0) := by unfold htL; rw [ef]
          have eup : htU (lnf (σ 8) 1 s) b (σ 101 0) = (if (i.toNat : Int) < σ 101 0 then (if i.toNat = 0 then 0 else ((i.toNat : Int) - 1) * htL (lnf (σ 8) 1 s) b (σ 101 0) + b - (lnf (σ 8) 1 s) (i.toNat - 1)) else 0) := by unfold htU; rw [ef]
          first
            | (exfalso; omega)
            | (rw [if_neg (by omega)] at elo eup
               refine ⟨Fr_up (Fr_up Fr_rf (by decide)) (by decide), fun j => ?_, fun j => ?_⟩
               · rw [eup, up_ne _ _ _ (by decide : 17 ≠ 18), up_at]
               · rw [elo, up_at, up_ne _ _ _ (by decide : 18 ≠ 17)])
            | (rw [if_pos (by omega), if_pos (by omega)] at elo eup
               refine ⟨Fr_up (Fr_up Fr_rf (by decide)) (by decide), fun j => ?_, fun j => ?_⟩
               · rw [eup, up_ne _ _ _ (by decide : 17 ≠ 18), up_at]
               · rw [elo, up_at, up_ne _ _ _ (by decide : 18 ≠ 17)])
            | (have eg1 : (lnf (σ 8) 1 s) (i.toNat - 1) = σ 8 (7 * s + (i - 1)).toNat := by unfold lnf pt; rw [if_neg (by decide), show ((i.toNat - 1 : Nat) : Int) = i - 1 by omega]
               rw [if_pos (by omega), if_neg (by omega)] at elo eup
               rw [eg, eg1] at elo
               rw [eg1, show ((i.toNat : Nat) : Int) = i by omega, elo] at eup
               refine ⟨Fr_up (Fr_up Fr_rf (by decide)) (by decide), fun j => ?_, fun j => ?_⟩
               · rw [up_at, eup, up_self, up_ne _ _ _ (by decide : 17 ≠ 18)]
               · rw [up_ne _ _ _ (by decide : 18 ≠ 17), up_at, elo])
      · refine V_iinc hE dX1_measure_27 rfl rfl ?_
        refine V_goto hE 3 dX1_measure_30 (by decide) ?_
        refine ih _ (by omega) (by omega) ?_
        have em : (σ 101 0 - i).toNat = (σ 101 0 - (i + 1)).toNat + 1 := by omega
        rw [hf, em, fhA, if_neg (by rw [eg]; omega), show (i + 1).toNat = i.toNat + 1 by omega]
set_option maxRecDepth 100000 in
set_option maxHeartbeats 4000000 in
theorem c_X1_measure {K : Ctx} {σ : Sto} {s b : Int} (hI : IC σ) (hs : 0 ≤ s ∧ s < σ 100 0) (hb : 1 ≤ b ∧ b ≤ 999) : CtV K mX1_measure 1 [.ref (kA K 4), .ref (kA K 1), .int (i32 s), .int (i32 b)] σ (fun σ' => MeasQ σ s b σ') := by
  refine CtV_of (L := [some (.ref (kA K 4)), some (.ref (kA K 1)), some (.int (i32 s)), some (.int (i32 b)), none, none]) (by decide) rfl rfl rfl ?_
  intro E hE hR
  refine V_iconst hE dX1_measure_0 ?_
  refine V_istore hE dX1_measure_1 rfl ?_
  exact lp_X1_measure_3 hI hs hb hE hR 100 0 (by have := hI.2.1; omega) (by have := hI.2.1; omega) (by unfold fh; simp)
set_option maxRecDepth 100000 in
set_option maxHeartbeats 4000000 in
theorem c_X1_isBreak {K : Ctx} {σ : Sto} {s bb : Int} (hs : 0 ≤ s ∧ s ≤ 5) (hB : 0 ≤ bb ∧ bb ≤ 999) (h17 : ∀ j : Nat, (j : Int) < s + 4 → 0 ≤ σ 17 j ∧ σ 17 j ≤ 7992) (h18 : ∀ j : Nat, (j : Int) < s + 4 → 0 ≤ σ 18 j ∧ σ 18 j ≤ 999) : CtI K mX1_isBreak 1 [.ref (kA K 4), .int (i32 s), .int (i32 bb)] σ (fun r σ' => r = brW (σ 17) (σ 18) bb s ∧ σ' = σ) := by
  have a0 := h18 s.toNat (by omega)
  have b0 := h17 s.toNat (by omega)
  have a1 := h18 (s + 1).toNat (by omega)
  have b1 := h17 (s + 1).toNat (by omega)
  have a2 := h18 (s + 2).toNat (by omega)
  have b2 := h17 (s + 2).toNat (by omega)
  have a3 := h18 (s + 3).toNat (by omega)
  have b3 := h17 (s + 3).toNat (by omega)
  have hD := brD_rng a0 a1 a2 a3
  have hN := brN_rng a0 a1 a2 a3 b0 b1 b2 b3
  have hbD := mul_rng hB hD
  have eD : bb * (σ 18 s.toNat * σ 18 (s + 1).toNat) * (σ 18 (s + 2).toNat * σ 18 (s + 3).toNat) = bb * brD (σ 18 s.toNat) (σ 18 (s + 1).toNat) (σ 18 (s + 2).toNat) (σ 18 (s + 3).toNat) := by unfold brD; rw [Int.mul_assoc]
  have eN : (3 * σ 17 (s + 1).toNat * σ 18 s.toNat - σ 17 s.toNat * σ 18 (s + 1).toNat) * (σ 18 (s + 2).toNat * σ 18 (s + 3).toNat) + (σ 17 (s + 3).toNat * σ 18 (s + 2).toNat - 3 * σ 17 (s + 2).toNat * σ 18 (s + 3).toNat) * (σ 18 s.toNat * σ 18 (s + 1).toNat) = brN (σ 17 s.toNat) (σ 18 s.toNat) (σ 17 (s + 1).toNat) (σ 18 (s + 1).toNat) (σ 17 (s + 2).toNat) (σ 18 (s + 2).toNat) (σ 17 (s + 3).toNat) (σ 18 (s + 3).toNat) := rfl
  refine CtZ_of (L := [some (.ref (kA K 4)), some (.int (i32 s)), some (.int (i32 bb)), none, none, none, none, none, none, none, none]) (by decide) rfl rfl rfl ?_
  intro E hE hR
  refine V_aload_n hE dX1_isBreak_0 rfl ?_
  refine V_iload_n hE dX1_isBreak_1 rfl ?_
  refine cf_X1_43 hE rfl dX1_isBreak_2 (c_X1_isThere (by omega) (by assumption)) rfl rfl ?_
  refine V_if_eq hE 38 dX1_isBreak_5 (by decide) (by omega) (fun h5 => ?_) (fun h5 => ?_)
  · refine V_iconst hE dX1_isBreak_38 ?_
    refine V_zreturn hR dX1_isBreak_39 (by omega) ?_
    exact ⟨by unfold brW brS; exact (if_pos (by omega)).symm, rfl⟩
  · refine V_aload_n hE dX1_isBreak_8 rfl ?_
    refine V_iload_n hE dX1_isBreak_9 rfl ?_
    refine V_iconst hE dX1_isBreak_10 ?_
    refine V_iadd hE dX1_isBreak_11 ?_
    refine cf_X1_43 hE rfl dX1_isBreak_12 (c_X1_isThere (by omega) (by assumption)) rfl rfl ?_
    refine V_if_eq hE 38 dX1_isBreak_15 (by decide) (by omega) (fun h15 => ?_) (fun h15 => ?_)
    · refine V_iconst hE dX1_isBreak_38 ?_
      refine V_zreturn hR dX1_isBreak_39 (by omega) ?_
      exact ⟨by unfold brW brS; exact (if_pos (by omega)).symm, rfl⟩
    · refine V_aload_n hE dX1_isBreak_18 rfl ?_
      refine V_iload_n hE dX1_isBreak_19 rfl ?_
      refine V_iconst hE dX1_isBreak_20 ?_
      refine V_iadd hE dX1_isBreak_21 ?_
      refine cf_X1_43 hE rfl dX1_isBreak_22 (c_X1_isThere (by omega) (by assumption)) rfl rfl ?_
      refine V_if_eq hE 38 dX1_isBreak_25 (by decide) (by omega) (fun h25 => ?_) (fun h25 => ?_)
      · refine V_iconst hE dX1_isBreak_38 ?_
        refine V_zreturn hR dX1_isBreak_39 (by omega) ?_
        exact ⟨by unfold brW brS; exact (if_pos (by omega)).symm, rfl⟩
      · refine V_aload_n hE dX1_isBreak_28 rfl ?_
        refine V_iload_n hE dX1_isBreak_29 rfl ?_
        refine V_iconst hE dX1_isBreak_30 ?_
        refine V_iadd hE dX1_isBreak_31 ?_
        refine cf_X1_43 hE rfl dX1_isBreak_32 (c_X1_isThere (by omega) (by assumption)) rfl rfl ?_
        refine V_if_ne hE 40 dX1_isBreak_35 (by decide) (by omega) (fun h35 => ?_) (fun h35 => ?_)
        · refine V_aload_n hE dX1_isBreak_40 rfl ?_
          refine gf_X1_15 hE rfl dX1_isBreak_41 ?_
          refine V_iload_n hE dX1_isBreak_44 rfl ?_
          refine V_laload hE dX1_isBreak_45 rfl (by omega) ?_
          refine V_aload_n hE dX1_isBreak_46 rfl ?_
          refine gf_X1_15 hE rfl dX1_isBreak_47 ?_
          refine V_iload_n hE dX1_isBreak_50 rfl ?_
          refine V_iconst hE dX1_isBreak_51 ?_
          refine V_iadd hE dX1_isBreak_52 ?_
          refine V_laload hE dX1_isBreak_53 rfl (by omega) ?_
          refine V_lmul hE dX1_isBreak_54 ?_
          refine V_lstore_n hE dX1_isBreak_55 rfl ?_
          refine V_aload_n hE dX1_isBreak_56 rfl ?_
          refine gf_X1_15 hE rfl dX1_isBreak_57 ?_
          refine V_iload_n hE dX1_isBreak_60 rfl ?_
          refine V_iconst hE dX1_isBreak_61 ?_
          refine V_iadd hE dX1_isBreak_62 ?_
          refine V_laload hE dX1_isBreak_63 rfl (by omega) ?_
          refine V_aload_n hE dX1_isBreak_64 rfl ?_
          refine gf_X1_15 hE rfl dX1_isBreak_65 ?_
          refine V_iload_n hE dX1_isBreak_68 rfl ?_
          refine V_iconst hE dX1_isBreak_69 ?_
          refine V_iadd hE dX1_isBreak_70 ?_
          refine V_laload hE dX1_isBreak_71 rfl (by omega) ?_
          refine V_lmul hE dX1_isBreak_72 ?_
          refine V_lstore hE dX1_isBreak_73 rfl ?_
          refine V_ldc2 hE tw_cl_X1_47 dX1_isBreak_75 ?_
          refine V_aload_n hE dX1_isBreak_78 rfl ?_
          refine gf_X1_9 hE rfl dX1_isBreak_79 ?_
          refine V_iload_n hE dX1_isBreak_82 rfl ?_
          refine V_iconst hE dX1_isBreak_83 ?_
          refine V_iadd hE dX1_isBreak_84 ?_
          refine V_laload hE dX1_isBreak_85 rfl (by omega) ?_
          refine V_lmul hE dX1_isBreak_86 ?_
          refine V_aload_n hE dX1_isBreak_87 rfl ?_
          refine gf_X1_15 hE rfl dX1_isBreak_88 ?_
          refine V_iload_n hE dX1_isBreak_91 rfl ?_
          refine V_laload hE dX1_isBreak_92 rfl (by omega) ?_
          refine V_lmul hE dX1_isBreak_93 ?_
          refine V_aload_n hE dX1_isBreak_94 rfl ?_
          refine gf_X1_9 hE rfl dX1_isBreak_95 ?_
          refine V_iload_n hE dX1_isBreak_98 rfl ?_
          refine V_laload hE dX1_isBreak_99 rfl (by omega) ?_
          refine V_aload_n hE dX1_isBreak_100 rfl ?_
          refine gf_X1_15 hE rfl dX1_isBreak_101 ?_
          refine V_iload_n hE dX1_isBreak_104 rfl ?_
          refine V_iconst hE dX1_isBreak_105 ?_
          refine V_iadd hE dX1_isBreak_106 ?_
          refine V_laload hE dX1_isBreak_107 rfl (by omega) ?_
          refine V_lmul hE dX1_isBreak_108 ?_
          refine V_lsub hE dX1_isBreak_109 ?_
          refine V_lload hE dX1_isBreak_110 rfl ?_
          refine V_lmul hE dX1_isBreak_112 ?_
          refine V_lstore hE dX1_isBreak_113 rfl ?_
          refine V_aload_n hE dX1_isBreak_115 rfl ?_
          refine gf_X1_9 hE rfl dX1_isBreak_116 ?_
          refine V_iload_n hE dX1_isBreak_119 rfl ?_
          refine V_iconst hE dX1_isBreak_120 ?_
          refine V_iadd hE dX1_isBreak_121 ?_
          refine V_laload hE dX1_isBreak_122 rfl (by omega) ?_
          refine V_aload_n hE dX1_isBreak_123 rfl ?_
          refine gf_X1_15 hE rfl dX1_isBreak_124 ?_
          refine V_iload_n hE dX1_isBreak_127 rfl ?_
          refine V_iconst hE dX1_isBreak_128 ?_
          refine V_iadd hE dX1_isBreak_129 ?_
          refine V_laload hE dX1_isBreak_130 rfl (by omega) ?_
          refine V_lmul hE dX1_isBreak_131 ?_
          refine V_ldc2 hE tw_cl_X1_47 dX1_isBreak_132 ?_
          refine V_aload_n hE dX1_isBreak_135 rfl ?_
          refine gf_X1_9 hE rfl dX1_isBreak_136 ?_
          refine V_iload_n hE dX1_isBreak_139 rfl ?_
          refine V_iconst hE dX1_isBreak_140 ?_
          refine V_iadd hE dX1_isBreak_141 ?_
          refine V_laload hE dX1_isBreak_142 rfl (by omega) ?_
          refine V_lmul hE dX1_isBreak_143 ?_
          refine V_aload_n hE dX1_isBreak_144 rfl ?_
          refine gf_X1_15 hE rfl dX1_isBreak_145 ?_
          refine V_iload_n hE dX1_isBreak_148 rfl ?_
          refine V_iconst hE dX1_isBreak_149 ?_
          refine V_iadd hE dX1_isBreak_150 ?_
          refine V_laload hE dX1_isBreak_151 rfl (by omega) ?_
          refine V_lmul hE dX1_isBreak_152 ?_
          refine V_lsub hE dX1_isBreak_153 ?_
          refine V_lload_n hE dX1_isBreak_154 rfl ?_
          refine V_lmul hE dX1_isBreak_155 ?_
          refine V_lstore hE dX1_isBreak_156 rfl ?_
          refine V_ldc2 hE tw_cl_X1_49 dX1_isBreak_158 ?_
          refine V_lload hE dX1_isBreak_161 rfl ?_
          refine V_lload hE dX1_isBreak_163 rfl ?_
          refine V_ladd hE dX1_isBreak_165 ?_
          rw [eN]
          refine V_absL hE tw_ml_X1_51 dX1_isBreak_166 rfl rfl (by omega) ?_
          refine V_lmul hE dX1_isBreak_169 ?_
          refine V_iload_n hE dX1_isBreak_170 rfl ?_
          refine V_i2l hE dX1_isBreak_171 (by omega) ?_
          refine V_lload_n hE dX1_isBreak_172 rfl ?_
          refine V_lmul hE dX1_isBreak_173 ?_
          refine V_lload hE dX1_isBreak_174 rfl ?_
          refine V_lmul hE dX1_isBreak_176 ?_
          rw [eD]
          refine V_lcmp_le hE 185 dX1_isBreak_177 dX1_isBreak_178 (by decide) (by omega) (fun h177 => ?_) (fun h177 => ?_)
          · refine V_iconst hE dX1_isBreak_185 ?_
            refine V_zreturn hR dX1_isBreak_186 (by omega) ?_
            refine ⟨?_, rfl⟩
            unfold brW brS
            refine Eq.symm ((if_neg (by omega)).trans ?_)
            first | exact if_pos (by omega) | exact if_neg (by omega)
          · refine V_iconst hE dX1_isBreak_181 ?_
            refine V_goto hE 186 dX1_isBreak_182 (by decide) ?_
            refine V_zreturn hR dX1_isBreak_186 (by omega) ?_
            refine ⟨?_, rfl⟩
            unfold brW brS
            refine Eq.symm ((if_neg (by omega)).trans ?_)
            first | exact if_pos (by omega) | exact if_neg (by omega)
        · refine V_iconst hE dX1_isBreak_38 ?_
          refine V_zreturn hR dX1_isBreak_39 (by omega) ?_
          exact ⟨by unfold brW brS; exact (if_pos (by omega)).symm, rfl⟩
set_option maxRecDepth 100000 in
set_option maxHeartbeats 4000000 in
theorem lp_X1_countBreaks_32 {K : Ctx} {E : ME} {σ σL : Sto} {b bb : Int} (hI : IC σ) (hb : 1 ≤ b ∧ b ≤ 999) (hB : 0 ≤ bb ∧ bb ≤ 999) (hF : Fr [17, 18] σ σL) (hU : ∀ j : Nat, (j : Int) < σ 100 0 → σL 17 j = (bkU (σ 8) (σ 101 0) b) j ∧ σL 18 j = (bkL (σ 8) (σ 101 0) b) j) (hE : Ok K E mX1_countBreaks 2) (hR : RetI K E mX1_countBreaks (fun r σ' => r = bkS (σ 8) (σ 100 0) (σ 101 0) bb b ∧ Fr [17, 18] σ σ')) : ∀ (n : Nat) (s a : Int), σ 100 0 - s < n → (0 ≤ s ∧ s ≤ σ 100 0 - 3) → (a = fsum (brAt (bkU (σ 8) (σ 101 0) b) (bkL (σ 8) (σ 101 0) b) bb) s.toNat) → V K E mX1_countBreaks 32 [some (.ref (kA K 4)), some (.ref (kA K 1)), some (.int (i32 b)), some (.int (i32 bb)), some (.int (i32 a)), some (.int (i32 s))] [] σL := by
  intro n
  induction n with
  | zero =>
    intro s a hm hi ha
    exfalso; omega
  | succ n ih =>
    intro s a hm hi ha
    obtain ⟨hS, hW, hB0, hRe, hLo, hHi, hO, hPu, hHe, hSc⟩ := id hI
    have e100 : σL 100 0 = σ 100 0 := by rw [hF 100 (by decide)]
    refine V_iload hE dX1_countBreaks_32 rfl ?_
    refine V_aload_n hE dX1_countBreaks_34 rfl ?_
    refine gf_X1_32 hE rfl dX1_countBreaks_35 ?_
    refine V_iconst hE dX1_countBreaks_38 ?_
    refine V_isub hE dX1_countBreaks_39 ?_
    refine V_icmp_ge hE 62 dX1_countBreaks_40 (by decide) (by omega) (fun h40 => ?_) (fun h40 => ?_)
    · refine V_iload hE dX1_countBreaks_62 rfl ?_
      refine V_ireturn hR dX1_countBreaks_64 ?_
      have es : s = σ 100 0 - 3 := by omega
      exact ⟨by rw [ha, es]; rfl, hF⟩
    · refine V_aload_n hE dX1_countBreaks_43 rfl ?_
      refine V_iload hE dX1_countBreaks_44 rfl ?_
      refine V_iload_n hE dX1_countBreaks_46 rfl ?_
      refine cf_X1_39 hE rfl dX1_countBreaks_47 (c_X1_isBreak (by omega) hB (fun j hj => by rw [(hU j (by omega)).1]; exact htU_rng (lnf_rng hO 1 j) hb hW) (fun j hj => by rw [(hU j (by omega)).2]; exact (htL_rng (lnf_rng hO 1 j) b hW).1)) rfl rfl ?_
      have ez : brW (σL 17) (σL 18) bb s = brAt (bkU (σ 8) (σ 101 0) b) (bkL (σ 8) (σ 101 0) b) bb s.toNat := by
        rw [brW_eq _ _ _ hi.1]
        unfold brAt
        rw [(hU s.toNat (by omega)).1, (hU s.toNat (by omega)).2, (hU (s.toNat + 1) (by omega)).1, (hU (s.toNat + 1) (by omega)).2, (hU (s.toNat + 2) (by omega)).1, (hU (s.toNat + 2) (by omega)).2, (hU (s.toNat + 3) (by omega)).1, (hU (s.toNat + 3) (by omega)).2]
      rw [ez]
      have hbr := brAt_rng (bkU (σ 8) (σ 101 0) b) (bkL (σ 8) (σ 101 0) b) bb s.toNat
      refine V_if_eq hE 56 dX1_countBreaks_50 (by decide) (by omega) (fun h50 => ?_) (fun h50 => ?_)
      · refine V_iinc hE dX1_countBreaks_56 rfl rfl ?_
        refine V_goto hE 32 dX1_countBreaks_59 (by decide) ?_
        exact ih _ _ (by omega) (by omega) (by rw [fsum_step _ (by omega), ← ha]; omega)
      · refine V_iinc hE dX1_countBreaks_53 rfl rfl ?_
        refine V_iinc hE dX1_countBreaks_56 rfl rfl ?_
        refine V_goto hE 32 dX1_countBreaks_59 (by decide) ?_
        exact ih _ _ (by omega) (by omega) (by rw [fsum_step _ (by omega), ← ha]; omega)
set_option maxRecDepth 100000 in
set_option maxHeartbeats 4000000 in
theorem lp_X1_countBreaks_3 {K : Ctx} {E : ME} {σ : Sto} {b bb : Int} (hI : IC σ) (hb : 1 ≤ b ∧ b ≤ 999) (hk : ∀ (σ1 : Sto) (x4 : Option Value), Fr [17, 18] σ σ1 → (∀ j : Nat, (j : Int) < σ 100 0 → σ1 17 j = (bkU (σ 8) (σ 101 0) b) j ∧ σ1 18 j = (bkL (σ 8) (σ 101 0) b) j) → V K E mX1_countBreaks 26 [some (.ref (kA K 4)), some (.ref (kA K 1)), some (.int (i32 b)), some (.int (i32 bb)), x4, none] [] σ1) (hE : Ok K E mX1_countBreaks 2) : ∀ (n : Nat) (s : Int) (σ1 : Sto), σ 100 0 - s < n → (0 ≤ s ∧ s ≤ σ 100 0) → (Fr [17, 18] σ σ1) → (∀ j : Nat, (j : Int) < s → σ1 17 j = (bkU (σ 8) (σ 101 0) b) j ∧ σ1 18 j = (bkL (σ 8) (σ 101 0) b) j) → V K E mX1_countBreaks 3 [some (.ref (kA K 4)), some (.ref (kA K 1)), some (.int (i32 b)), some (.int (i32 bb)), some (.int (i32 s)), none] [] σ1 := by
  intro n
  induction n with
  | zero =>
    intro s σ1 hm hi hF hU
    exfalso; omega
  | succ n ih =>
    intro s σ1 hm hi hF hU
    obtain ⟨hS, hW, hB, hRe, hLo, hHi, hO, hPu, hHe, hSc⟩ := id hI
    have e100 : σ1 100 0 = σ 100 0 := by rw [hF 100 (by decide)]
    have e101 : σ1 101 0 = σ 101 0 := by rw [hF 101 (by decide)]
    have e8 := hF 8 (by decide)
    have elo : (bkL (σ 8) (σ 101 0) b) s.toNat = htL (lnf (σ 8) 1 s) b (σ 101 0) := by unfold bkL; rw [show ((s.toNat : Nat) : Int) = s by omega]
    have eup : (bkU (σ 8) (σ 101 0) b) s.toNat = htU (lnf (σ 8) 1 s) b (σ 101 0) := by unfold bkU; rw [show ((s.toNat : Nat) : Int) = s by omega]
    refine V_iload hE dX1_countBreaks_3 rfl ?_
    refine V_aload_n hE dX1_countBreaks_5 rfl ?_
    refine gf_X1_32 hE rfl dX1_countBreaks_6 ?_
    refine V_icmp_ge hE 26 dX1_countBreaks_9 (by decide) (by omega) (fun h9 => ?_) (fun h9 => ?_)
    · have es : s = σ 100 0 := by omega
      exact hk _ _ hF (fun j hj => hU j (by omega))
    · refine V_aload_n hE dX1_countBreaks_12 rfl ?_
      refine V_aload_n hE dX1_countBreaks_13 rfl ?_
      refine V_iload hE dX1_countBreaks_14 rfl ?_
      refine V_iload_n hE dX1_countBreaks_16 rfl ?_
      refine cl_X1_35 hE rfl dX1_countBreaks_17 (c_X1_measure (IC_sm hI (SmC_h hI hF)) (by omega) hb) rfl rfl ?_
      rintro σ2 ⟨hF2, h17, h18⟩
      rw [e8, e101] at h17 h18
      refine V_iinc hE dX1_countBreaks_20 rfl rfl ?_
      refine V_goto hE 3 dX1_countBreaks_23 (by decide) ?_
      refine ih _ _ (by omega) (by omega) (Fr_tr hF hF2 (fun _ h => h)) ?_
      intro j hj
      rw [h17 j, h18 j]
      by_cases ej : j = s.toNat
      · rw [if_pos ej, if_pos ej, ej, elo, eup]
        exact ⟨rfl, rfl⟩
      · rw [if_neg ej, if_neg ej]
        exact hU j (by omega)
set_option maxRecDepth 100000 in
set_option maxHeartbeats 4000000 in
theorem c_X1_countBreaks {K : Ctx} {σ : Sto} {b bb : Int} (hI : IC σ) (hb : 1 ≤ b ∧ b ≤ 999) (hB : 0 ≤ bb ∧ bb ≤ 999) : CtI K mX1_countBreaks 2 [.ref (kA K 4), .ref (kA K 1), .int (i32 b), .int (i32 bb)] σ (fun r σ' => r = bkS (σ 8) (σ 100 0) (σ 101 0) bb b ∧ Fr [17, 18] σ σ') := by
  have hS := hI.1
  refine CtI_of (L := [some (.ref (kA K 4)), some (.ref (kA K 1)), some (.int (i32 b)), some (.int (i32 bb)), none, none]) (by decide) rfl rfl rfl ?_
  intro E hE hR
  refine V_iconst hE dX1_countBreaks_0 ?_
  refine V_istore hE dX1_countBreaks_1 rfl ?_
  refine lp_X1_countBreaks_3 hI hb ?_ hE 100 0 σ (by omega) (by omega) Fr_rf (fun j hj => by omega)
  intro σ1 x4 hF1 hU1
  refine V_iconst hE dX1_countBreaks_26 ?_
  refine V_istore hE dX1_countBreaks_27 rfl ?_
  refine V_iconst hE dX1_countBreaks_29 ?_
  refine V_istore hE dX1_countBreaks_30 rfl ?_
  exact lp_X1_countBreaks_32 hI hb hB hF1 hU1 hE hR 100 0 0 (by omega) (by omega) rfl
