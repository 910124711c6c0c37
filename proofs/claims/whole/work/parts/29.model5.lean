set_option maxRecDepth 100000 in
set_option maxHeartbeats 4000000 in
theorem lp_X5_findHeight_2 {K : Ctx} {E : ME} {σ : Sto} {s b : Int} (hI : IM σ) (hs : 0 ≤ s ∧ s < σ 110 0) (hb : 1 ≤ b ∧ b ≤ 999) (hE : Ok K E mX5_findHeight 0) (hR : RetZ K E mX5_findHeight (fun r σ' => r = (if (fh (lnf (σ 20) 1 s) b (σ 111 0) : Int) < σ 111 0 then 1 else 0) ∧ σ' = (if (fh (lnf (σ 20) 1 s) b (σ 111 0) : Int) < σ 111 0 then up (up σ 119 0 (htL (lnf (σ 20) 1 s) b (σ 111 0))) 118 0 (htU (lnf (σ 20) 1 s) b (σ 111 0)) else σ))) : ∀ (n : Nat) (i : Int) (x4 x5 : Option Value), σ 111 0 - i < n → (0 ≤ i ∧ i ≤ σ 111 0) → (fh (lnf (σ 20) 1 s) b (σ 111 0) = fhA (lnf (σ 20) 1 s) b (σ 111 0 - i).toNat i.toNat) → V K E mX5_findHeight 2 [some (.ref (kA K 19)), some (.int (i32 s)), some (.int (i32 b)), some (.int (i32 i)), x4, x5] [] σ := by
  intro n
  induction n with
  | zero =>
    intro i x4 x5 hm hi hf
    exfalso; omega
  | succ n ih =>
    intro i x4 x5 hm hi hf
    obtain ⟨hS, hW, hB, hRe, hLo, hHi, hO, hPu, hHe, hAt⟩ := id hI
    have h9 := hO (7 * s + i).toNat
    have h8 := hO (7 * s + i - 1).toNat
    refine V_iload_n hE dX5_findHeight_2 rfl ?_
    refine V_aload_n hE dX5_findHeight_3 rfl ?_
    refine gf_X5_64 hE rfl dX5_findHeight_4 ?_
    refine V_icmp_ge hE 106 dX5_findHeight_7 (by decide) (by omega) (fun h7 => ?_) (fun h7 => ?_)
    · refine V_iconst hE dX5_findHeight_106 ?_
      refine V_zreturn hR dX5_findHeight_107 (by omega) ?_
      have ei : i = σ 111 0 := by omega
      have ef : (fh (lnf (σ 20) 1 s) b (σ 111 0) : Int) = σ 111 0 := by rw [hf, ei]; simp [fhA]; omega
      exact ⟨by rw [if_neg (by omega)], by rw [if_neg (by omega)]⟩
    · refine V_aload_n hE dX5_findHeight_10 rfl ?_
      refine gf_X5_22 hE rfl dX5_findHeight_11 ?_
      refine V_bipush hE dX5_findHeight_14 (by decide) ?_
      refine V_iload_n hE dX5_findHeight_16 rfl ?_
      refine V_imul hE dX5_findHeight_17 ?_
      refine V_iload_n hE dX5_findHeight_18 rfl ?_
      refine V_iadd hE dX5_findHeight_19 ?_
      refine V_iaload hE dX5_findHeight_20 rfl (by omega) ?_
      refine V_istore hE dX5_findHeight_21 rfl ?_
      refine V_iload hE dX5_findHeight_23 rfl ?_
      refine V_iload_n hE dX5_findHeight_25 rfl ?_
      refine V_icmp_lt hE 100 dX5_findHeight_26 (by decide) (by omega) (fun h26 => ?_) (fun h26 => ?_)
      · refine V_iinc hE dX5_findHeight_100 rfl rfl ?_
        refine V_goto hE 2 dX5_findHeight_103 (by decide) ?_
        refine ih _ _ _ (by omega) (by omega) ?_
        have em : (σ 111 0 - i).toNat = (σ 111 0 - (i + 1)).toNat + 1 := by omega
        have eg : (lnf (σ 20) 1 s) i.toNat = σ 20 (7 * s + i).toNat := by unfold lnf pt; rw [if_neg (by decide), show ((i.toNat : Nat) : Int) = i by omega]
        rw [hf, em, fhA, if_neg (by rw [eg]; omega), show (i + 1).toNat = i.toNat + 1 by omega]
      · refine V_iload_n hE dX5_findHeight_29 rfl ?_
        refine V_if_ne hE 37 dX5_findHeight_30 (by decide) (by omega) (fun h30 => ?_) (fun h30 => ?_)
        · refine V_aload_n hE dX5_findHeight_37 rfl ?_
          refine gf_X5_22 hE rfl dX5_findHeight_38 ?_
          refine V_bipush hE dX5_findHeight_41 (by decide) ?_
          refine V_iload_n hE dX5_findHeight_43 rfl ?_
          refine V_imul hE dX5_findHeight_44 ?_
          refine V_iload_n hE dX5_findHeight_45 rfl ?_
          refine V_iadd hE dX5_findHeight_46 ?_
          refine V_iconst hE dX5_findHeight_47 ?_
          refine V_isub hE dX5_findHeight_48 ?_
          refine V_iaload hE dX5_findHeight_49 rfl (by omega) ?_
          refine V_istore hE dX5_findHeight_50 rfl ?_
          refine V_aload_n hE dX5_findHeight_52 rfl ?_
          refine V_iload_n hE dX5_findHeight_53 rfl ?_
          refine V_if_ne hE 61 dX5_findHeight_54 (by decide) (by omega) (fun h54 => ?_) (fun h54 => ?_)
          · refine V_iload hE dX5_findHeight_61 rfl ?_
            refine V_iload hE dX5_findHeight_63 rfl ?_
            refine V_isub hE dX5_findHeight_65 ?_
            refine V_i2l hE dX5_findHeight_66 (by omega) ?_
            refine pf_X5_191 hE rfl dX5_findHeight_67 ?_
            refine V_aload_n hE dX5_findHeight_70 rfl ?_
            refine V_iload_n hE dX5_findHeight_71 rfl ?_
            refine V_if_ne hE 79 dX5_findHeight_72 (by decide) (by omega) (fun h72 => ?_) (fun h72 => ?_)
            · refine V_iload_n hE dX5_findHeight_79 rfl ?_
              refine V_i2l hE dX5_findHeight_80 (by omega) ?_
              refine V_lconst1 hE dX5_findHeight_81 ?_
              refine V_lsub hE dX5_findHeight_82 ?_
              refine V_aload_n hE dX5_findHeight_83 rfl ?_
              refine gf_X5_191 hE rfl dX5_findHeight_84 ?_
              refine V_lmul hE dX5_findHeight_87 ?_
              refine V_iload_n hE dX5_findHeight_88 rfl ?_
              refine V_i2l hE dX5_findHeight_89 (by omega) ?_
              refine V_ladd hE dX5_findHeight_90 ?_
              refine V_iload hE dX5_findHeight_91 rfl ?_
              refine V_i2l hE dX5_findHeight_93 (by omega) ?_
              refine V_lsub hE dX5_findHeight_94 ?_
              refine pf_X5_195 hE rfl dX5_findHeight_95 ?_
              refine V_iconst hE dX5_findHeight_98 ?_
              refine V_zreturn hR dX5_findHeight_99 (by omega) ?_
              have em : (σ 111 0 - i).toNat = (σ 111 0 - i - 1).toNat + 1 := by omega
              have eg : (lnf (σ 20) 1 s) i.toNat = σ 20 (7 * s + i).toNat := by unfold lnf pt; rw [if_neg (by decide), show ((i.toNat : Nat) : Int) = i by omega]
              have ef : fh (lnf (σ 20) 1 s) b (σ 111 0) = i.toNat := by rw [hf, em, fhA, if_pos (by rw [eg]; omega)]
              have elo : htL (lnf (σ 20) 1 s) b (σ 111 0) = (if i.toNat = 0 then 1 else (lnf (σ 20) 1 s) i.toNat - (lnf (σ 20) 1 s) (i.toNat - 1)) := by unfold htL; rw [ef]; exact if_pos (by omega)
              have eup : htU (lnf (σ 20) 1 s) b (σ 111 0) = (if i.toNat = 0 then 0 else ((i.toNat : Int) - 1) * htL (lnf (σ 20) 1 s) b (σ 111 0) + b - (lnf (σ 20) 1 s) (i.toNat - 1)) := by unfold htU; rw [ef]; exact if_pos (by omega)
              refine ⟨by rw [ef]; exact (if_pos (by omega)).symm, ?_⟩
              rw [ef, if_pos (by omega)]
              first
                | (exfalso; omega)
                | (have e0 : i = 0 := by assumption
                   subst e0
                   rw [eup, elo]
                   rfl)
                | (have eg1 : (lnf (σ 20) 1 s) (i.toNat - 1) = σ 20 (7 * s + i - 1).toNat := by unfold lnf pt; rw [if_neg (by decide), show ((i.toNat - 1 : Nat) : Int) = i - 1 by omega, show 7 * s + (i - 1) = 7 * s + i - 1 by omega]
                   rw [if_neg (by omega)] at elo eup
                   rw [eg, eg1] at elo
                   rw [eg1, show ((i.toNat : Nat) : Int) = i by omega] at eup
                   rw [eup, elo, up_self])
            · refine V_lconst0 hE dX5_findHeight_75 ?_
              refine V_goto hE 95 dX5_findHeight_76 (by decide) ?_
              refine pf_X5_195 hE rfl dX5_findHeight_95 ?_
              refine V_iconst hE dX5_findHeight_98 ?_
              refine V_zreturn hR dX5_findHeight_99 (by omega) ?_
              have em : (σ 111 0 - i).toNat = (σ 111 0 - i - 1).toNat + 1 := by omega
              have eg : (lnf (σ 20) 1 s) i.toNat = σ 20 (7 * s + i).toNat := by unfold lnf pt; rw [if_neg (by decide), show ((i.toNat : Nat) : Int) = i by omega]
              have ef : fh (lnf (σ 20) 1 s) b (σ 111 0) = i.toNat := by rw [hf, em, fhA, if_pos (by rw [eg]; omega)]
              have elo : htL (lnf (σ 20) 1 s) b (σ 111 0) = (if i.toNat = 0 then 1 else (lnf (σ 20) 1 s) i.toNat - (lnf (σ 20) 1 s) (i.toNat - 1)) := by unfold htL; rw [ef]; exact if_pos (by omega)
              have eup : htU (lnf (σ 20) 1 s) b (σ 111 0) = (if i.toNat = 0 then 0 else ((i.toNat : Int) - 1) * htL (lnf (σ 20) 1 s) b (σ 111 0) + b - (lnf (σ 20) 1 s) (i.toNat - 1)) := by unfold htU; rw [ef]; exact if_pos (by omega)
              refine ⟨by rw [ef]; exact (if_pos (by omega)).symm, ?_⟩
              rw [ef, if_pos (by omega)]
              first
                | (exfalso; omega)
                | (have e0 : i = 0 := by assumption
                   subst e0
                   rw [eup, elo]
                   rfl)
                | (have eg1 : (lnf (σ 20) 1 s) (i.toNat - 1) = σ 20 (7 * s + i - 1).toNat := by unfold lnf pt; rw [if_neg (by decide), show ((i.toNat - 1 : Nat) : Int) = i - 1 by omega, show 7 * s + (i - 1) = 7 * s + i - 1 by omega]
                   rw [if_neg (by omega)] at elo eup
                   rw [eg, eg1] at elo
                   rw [eg1, show ((i.toNat : Nat) : Int) = i by omega] at eup
                   rw [eup, elo, up_self])
          · refine V_lconst1 hE dX5_findHeight_57 ?_
            refine V_goto hE 67 dX5_findHeight_58 (by decide) ?_
            refine pf_X5_191 hE rfl dX5_findHeight_67 ?_
            refine V_aload_n hE dX5_findHeight_70 rfl ?_
            refine V_iload_n hE dX5_findHeight_71 rfl ?_
            refine V_if_ne hE 79 dX5_findHeight_72 (by decide) (by omega) (fun h72 => ?_) (fun h72 => ?_)
            · refine V_iload_n hE dX5_findHeight_79 rfl ?_
              refine V_i2l hE dX5_findHeight_80 (by omega) ?_
              refine V_lconst1 hE dX5_findHeight_81 ?_
              refine V_lsub hE dX5_findHeight_82 ?_
              refine V_aload_n hE dX5_findHeight_83 rfl ?_
              refine gf_X5_191 hE rfl dX5_findHeight_84 ?_
              refine V_lmul hE dX5_findHeight_87 ?_
              refine V_iload_n hE dX5_findHeight_88 rfl ?_
              refine V_i2l hE dX5_findHeight_89 (by omega) ?_
              refine V_ladd hE dX5_findHeight_90 ?_
              refine V_iload hE dX5_findHeight_91 rfl ?_
              refine V_i2l hE dX5_findHeight_93 (by omega) ?_
              refine V_lsub hE dX5_findHeight_94 ?_
              refine pf_X5_195 hE rfl dX5_findHeight_95 ?_
              refine V_iconst hE dX5_findHeight_98 ?_
              refine V_zreturn hR dX5_findHeight_99 (by omega) ?_
              have em : (σ 111 0 - i).toNat = (σ 111 0 - i - 1).toNat + 1 := by omega
              have eg : (lnf (σ 20) 1 s) i.toNat = σ 20 (7 * s + i).toNat := by unfold lnf pt; rw [if_neg (by decide), show ((i.toNat : Nat) : Int) = i by omega]
              have ef : fh (lnf (σ 20) 1 s) b (σ 111 0) = i.toNat := by rw [hf, em, fhA, if_pos (by rw [eg]; omega)]
              have elo : htL (lnf (σ 20) 1 s) b (σ 111 0) = (if i.toNat = 0 then 1 else (lnf (σ 20) 1 s) i.toNat - (lnf (σ 20) 1 s) (i.toNat - 1)) := by unfold htL; rw [ef]; exact if_pos (by omega)
              have eup : htU (lnf (σ 20) 1 s) b (σ 111 0) = (if i.toNat = 0 then 0 else ((i.toNat : Int) - 1) * htL (lnf (σ 20) 1 s) b (σ 111 0) + b - (lnf (σ 20) 1 s) (i.toNat - 1)) := by unfold htU; rw [ef]; exact if_pos (by omega)
              refine ⟨by rw [ef]; exact (if_pos (by omega)).symm, ?_⟩
              rw [ef, if_pos (by omega)]
              first
                | (exfalso; omega)
                | (have e0 : i = 0 := by assumption
                   subst e0
                   rw [eup, elo]
                   rfl)
                | (have eg1 : (lnf (σ 20) 1 s) (i.toNat - 1) = σ 20 (7 * s + i - 1).toNat := by unfold lnf pt; rw [if_neg (by decide), show ((i.toNat - 1 : Nat) : Int) = i - 1 by omega, show 7 * s + (i - 1) = 7 * s + i - 1 by omega]
                   rw [if_neg (by omega)] at elo eup
                   rw [eg, eg1] at elo
                   rw [eg1, show ((i.toNat : Nat) : Int) = i by omega] at eup
                   rw [eup, elo, up_self])
            · refine V_lconst0 hE dX5_findHeight_75 ?_
              refine V_goto hE 95 dX5_findHeight_76 (by decide) ?_
              refine pf_X5_195 hE rfl dX5_findHeight_95 ?_
              refine V_iconst hE dX5_findHeight_98 ?_
              refine V_zreturn hR dX5_findHeight_99 (by omega) ?_
              have em : (σ 111 0 - i).toNat = (σ 111 0 - i - 1).toNat + 1 := by omega
              have eg : (lnf (σ 20) 1 s) i.toNat = σ 20 (7 * s + i).toNat := by unfold lnf pt; rw [if_neg (by decide), show ((i.toNat : Nat) : Int) = i by omega]
              have ef : fh (lnf (σ 20) 1 s) b (σ 111 0) = i.toNat := by rw [hf, em, fhA, if_pos (by rw [eg]; omega)]
              have elo : htL (lnf (σ 20) 1 s) b (σ 111 0) = (if i.toNat = 0 then 1 else (lnf (σ 20) 1 s) i.toNat - (lnf (σ 20) 1 s) (i.toNat - 1)) := by unfold htL; rw [ef]; exact if_pos (by omega)
              have eup : htU (lnf (σ 20) 1 s) b (σ 111 0) = (if i.toNat = 0 then 0 else ((i.toNat : Int) - 1) * htL (lnf (σ 20) 1 s) b (σ 111 0) + b - (lnf (σ 20) 1 s) (i.toNat - 1)) := by unfold htU; rw [ef]; exact if_pos (by omega)
              refine ⟨by rw [ef]; exact (if_pos (by omega)).symm, ?_⟩
              rw [ef, if_pos (by omega)]
              first
                | (exfalso; omega)
                | (have e0 : i = 0 := by assumption
                   subst e0
                   rw [eup, elo]
                   rfl)
                | (have eg1 : (lnf (σ 20) 1 s) (i.toNat - 1) = σ 20 (7 * s + i - 1).toNat := by unfold lnf pt; rw [if_neg (by decide), show ((i.toNat - 1 : Nat) : Int) = i - 1 by omega, show 7 * s + (i - 1) = 7 * s + i - 1 by omega]
                   rw [if_neg (by omega)] at elo eup
                   rw [eg, eg1] at elo
                   rw [eg1, show ((i.toNat : Nat) : Int) = i by omega] at eup
                   rw [eup, elo, up_self])
        · refine V_iconst hE dX5_findHeight_33 ?_
          refine V_goto hE 50 dX5_findHeight_34 (by decide) ?_
          refine V_istore hE dX5_findHeight_50 rfl ?_
          refine V_aload_n hE dX5_findHeight_52 rfl ?_
          refine V_iload_n hE dX5_findHeight_53 rfl ?_
          refine V_if_ne hE 61 dX5_findHeight_54 (by decide) (by omega) (fun h54 => ?_) (fun h54 => ?_)
          · refine V_iload hE dX5_findHeight_61 rfl ?_
            refine V_iload hE dX5_findHeight_63 rfl ?_
            refine V_isub hE dX5_findHeight_65 ?_
            refine V_i2l hE dX5_findHeight_66 (by omega) ?_
            refine pf_X5_191 hE rfl dX5_findHeight_67 ?_
            refine V_aload_n hE dX5_findHeight_70 rfl ?_
            refine V_iload_n hE dX5_findHeight_71 rfl ?_
            refine V_if_ne hE 79 dX5_findHeight_72 (by decide) (by omega) (fun h72 => ?_) (fun h72 => ?_)
            · refine V_iload_n hE dX5_findHeight_79 rfl ?_
              refine V_i2l hE dX5_findHeight_80 (by omega) ?_
              refine V_lconst1 hE dX5_findHeight_81 ?_
              refine V_lsub hE dX5_findHeight_82 ?_
              refine V_aload_n hE dX5_findHeight_83 rfl ?_
              refine gf_X5_191 hE rfl dX5_findHeight_84 ?_
              refine V_lmul hE dX5_findHeight_87 ?_
              refine V_iload_n hE dX5_findHeight_88 rfl ?_
              refine V_i2l hE dX5_findHeight_89 (by omega) ?_
              refine V_ladd hE dX5_findHeight_90 ?_
              refine V_iload hE dX5_findHeight_91 rfl ?_
              refine V_i2l hE dX5_findHeight_93 (by omega) ?_
              refine V_lsub hE dX5_findHeight_94 ?_
              refine pf_X5_195 hE rfl dX5_findHeight_95 ?_
              refine V_iconst hE dX5_findHeight_98 ?_
              refine V_zreturn hR dX5_findHeight_99 (by omega) ?_
              have em : (σ 111 0 - i).toNat = (σ 111 0 - i - 1).toNat + 1 := by omega
              have eg : (lnf (σ 20) 1 s) i.toNat = σ 20 (7 * s + i).toNat := by unfold lnf pt; rw [if_neg (by decide), show ((i.toNat : Nat) : Int) = i by omega]
              have ef : fh (lnf (σ 20) 1 s) b (σ 111 0) = i.toNat := by rw [hf, em, fhA, if_pos (by rw [eg]; omega)]
              have elo : htL (lnf (σ 20) 1 s) b (σ 111 0) = (if i.toNat = 0 then 1 else (lnf (σ 20) 1 s) i.toNat - (lnf (σ 20) 1 s) (i.toNat - 1)) := by unfold htL; rw [ef]; exact if_pos (by omega)
              have eup : htU (lnf (σ 20) 1 s) b (σ 111 0) = (if i.toNat = 0 then 0 else ((i.toNat : Int) - 1) * htL (lnf (σ 20) 1 s) b (σ 111 0) + b - (lnf (σ 20) 1 s) (i.toNat - 1)) := by unfold htU; rw [ef]; exact if_pos (by omega)
              refine ⟨by rw [ef]; exact (if_pos (by omega)).symm, ?_⟩
              rw [ef, if_pos (by omega)]
              first
                | (exfalso; omega)
                | (have e0 : i = 0 := by assumption
                   subst e0
                   rw [eup, elo]
                   rfl)
                | (have eg1 : (lnf (σ 20) 1 s) (i.toNat - 1) = σ 20 (7 * s + i - 1).toNat := by unfold lnf pt; rw [if_neg (by decide), show ((i.toNat - 1 : Nat) : Int) = i - 1 by omega, show 7 * s + (i - 1) = 7 * s + i - 1 by omega]
                   rw [if_neg (by omega)] at elo eup
                   rw [eg, eg1] at elo
                   rw [eg1, show ((i.toNat : Nat) : Int) = i by omega] at eup
                   rw [eup, elo, up_self])
            · refine V_lconst0 hE dX5_findHeight_75 ?_
              refine V_goto hE 95 dX5_findHeight_76 (by decide) ?_
              refine pf_X5_195 hE rfl dX5_findHeight_95 ?_
              refine V_iconst hE dX5_findHeight_98 ?_
              refine V_zreturn hR dX5_findHeight_99 (by omega) ?_
              have em : (σ 111 0 - i).toNat = (σ 111 0 - i - 1).toNat + 1 := by omega
              have eg : (lnf (σ 20) 1 s) i.toNat = σ 20 (7 * s + i).toNat := by unfold lnf pt; rw [if_neg (by decide), show ((i.toNat : Nat) : Int) = i by omega]
              have ef : fh (lnf (σ 20) 1 s) b (σ 111 0) = i.toNat := by rw [hf, em, fhA, if_pos (by rw [eg]; omega)]
              have elo : htL (lnf (σ 20) 1 s) b (σ 111 0) = (if i.toNat = 0 then 1 else (lnf (σ 20) 1 s) i.toNat - (lnf (σ 20) 1 s) (i.toNat - 1)) := by unfold htL; rw [ef]; exact if_pos (by omega)
              have eup : htU (lnf (σ 20) 1 s) b (σ 111 0) = (if i.toNat = 0 then 0 else ((i.toNat : Int) - 1) * htL (lnf (σ 20) 1 s) b (σ 111 0) + b - (lnf (σ 20) 1 s) (i.toNat - 1)) := by unfold htU; rw [ef]; exact if_pos (by omega)
              refine ⟨by rw [ef]; exact (if_pos (by omega)).symm, ?_⟩
              rw [ef, if_pos (by omega)]
              first
                | (exfalso; omega)
                | (have e0 : i = 0 := by assumption
                   subst e0
                   rw [eup, elo]
                   rfl)
                | (have eg1 : (lnf (σ 20) 1 s) (i.toNat - 1) = σ 20 (7 * s + i - 1).toNat := by unfold lnf pt; rw [if_neg (by decide), show ((i.toNat - 1 : Nat) : Int) = i - 1 by omega, show 7 * s + (i - 1) = 7 * s + i - 1 by omega]
                   rw [if_neg (by omega)] at elo eup
                   rw [eg, eg1] at elo
                   rw [eg1, show ((i.toNat : Nat) : Int) = i by omega] at eup
                   rw [eup, elo, up_self])
          · refine V_lconst1 hE dX5_findHeight_57 ?_
            refine V_goto hE 67 dX5_findHeight_58 (by decide) ?_
            refine pf_X5_191 hE rfl dX5_findHeight_67 ?_
            refine V_aload_n hE dX5_findHeight_70 rfl ?_
            refine V_iload_n hE dX5_findHeight_71 rfl ?_
            refine V_if_ne hE 79 dX5_findHeight_72 (by decide) (by omega) (fun h72 => ?_) (fun h72 => ?_)
            · refine V_iload_n hE dX5_findHeight_79 rfl ?_
              refine V_i2l hE dX5_findHeight_80 (by omega) ?_
              refine V_lconst1 hE dX5_findHeight_81 ?_
              refine V_lsub hE dX5_findHeight_82 ?_
              refine V_aload_n hE dX5_findHeight_83 rfl ?_
              refine gf_X5_191 hE rfl dX5_findHeight_84 ?_
              refine V_lmul hE dX5_findHeight_87 ?_
              refine V_iload_n hE dX5_findHeight_88 rfl ?_
              refine V_i2l hE dX5_findHeight_89 (by omega) ?_
              refine V_ladd hE dX5_findHeight_90 ?_
              refine V_iload hE dX5_findHeight_91 rfl ?_
              refine V_i2l hE dX5_findHeight_93 (by omega) ?_
              refine V_lsub hE dX5_findHeight_94 ?_
              refine pf_X5_195 hE rfl dX5_findHeight_95 ?_
              refine V_iconst hE dX5_findHeight_98 ?_
              refine V_zreturn hR dX5_findHeight_99 (by omega) ?_
              have em : (σ 111 0 - i).toNat = (σ 111 0 - i - 1).toNat + 1 := by omega
              have eg : (lnf (σ 20) 1 s) i.toNat = σ 20 (7 * s + i).toNat := by unfold lnf pt; rw [if_neg (by decide), show ((i.toNat : Nat) : Int) = i by omega]
              have ef : fh (lnf (σ 20) 1 s) b (σ 111 0) = i.toNat := by rw [hf, em, fhA, if_pos (by rw [eg]; omega)]
              have elo : htL (lnf (σ 20) 1 s) b (σ 111 0) = (if i.toNat = 0 then 1 else (lnf (σ 20) 1 s) i.toNat - (lnf (σ 20) 1 s) (i.toNat - 1)) := by unfold htL; rw [ef]; exact if_pos (by omega)
              have eup : htU (lnf (σ 20) 1 s) b (σ 111 0) = (if i.toNat = 0 then 0 else ((i.toNat : Int) - 1) * htL (lnf (σ 20) 1 s) b (σ 111 0) + b - (lnf (σ 20) 1 s) (i.toNat - 1)) := by unfold htU; rw [ef]; exact if_pos (by omega)
              refine ⟨by rw [ef]; exact (if_pos (by omega)).symm, ?_⟩
              rw [ef, if_pos (by omega)]
              first
                | (exfalso; omega)
                | (have e0 : i = 0 := by assumption
                   subst e0
                   rw [eup, elo]
                   rfl)
                | (have eg1 : (lnf (σ 20) 1 s) (i.toNat - 1) = σ 20 (7 * s + i - 1).toNat := by unfold lnf pt; rw [if_neg (by decide), show ((i.toNat - 1 : Nat) : Int) = i - 1 by omega, show 7 * s + (i - 1) = 7 * s + i - 1 by omega]
                   rw [if_neg (by omega)] at elo eup
                   rw [eg, eg1] at elo
                   rw [eg1, show ((i.toNat : Nat) : Int) = i by omega] at eup
                   rw [eup, elo, up_self])
            · refine V_lconst0 hE dX5_findHeight_75 ?_
              refine V_goto hE 95 dX5_findHeight_76 (by decide) ?_
              refine pf_X5_195 hE rfl dX5_findHeight_95 ?_
              refine V_iconst hE dX5_findHeight_98 ?_
              refine V_zreturn hR dX5_findHeight_99 (by omega) ?_
              have em : (σ 111 0 - i).toNat = (σ 111 0 - i - 1).toNat + 1 := by omega
              have eg : (lnf (σ 20) 1 s) i.toNat = σ 20 (7 * s + i).toNat := by unfold lnf pt; rw [if_neg (by decide), show ((i.toNat : Nat) : Int) = i by omega]
              have ef : fh (lnf (σ 20) 1 s) b (σ 111 0) = i.toNat := by rw [hf, em, fhA, if_pos (by rw [eg]; omega)]
              have elo : htL (lnf (σ 20) 1 s) b (σ 111 0) = (if i.toNat = 0 then 1 else (lnf (σ 20) 1 s) i.toNat - (lnf (σ 20) 1 s) (i.toNat - 1)) := by unfold htL; rw [ef]; exact if_pos (by omega)
              have eup : htU (lnf (σ 20) 1 s) b (σ 111 0) = (if i.toNat = 0 then 0 else ((i.toNat : Int) - 1) * htL (lnf (σ 20) 1 s) b (σ 111 0) + b - (lnf (σ 20) 1 s) (i.toNat - 1)) := by unfold htU; rw [ef]; exact if_pos (by omega)
              refine ⟨by rw [ef]; exact (if_pos (by omega)).symm, ?_⟩
              rw [ef, if_pos (by omega)]
              first
                | (exfalso; omega)
                | (have e0 : i = 0 := by assumption
                   subst e0
                   rw [eup, elo]
                   rfl)
                | (have eg1 : (lnf (σ 20) 1 s) (i.toNat - 1) = σ 20 (7 * s + i - 1).toNat := by unfold lnf pt; rw [if_neg (by decide), show ((i.toNat - 1 : Nat) : Int) = i - 1 by omega, show 7 * s + (i - 1) = 7 * s + i - 1 by omega]
                   rw [if_neg (by omega)] at elo eup
                   rw [eg, eg1] at elo
                   rw [eg1, show ((i.toNat : Nat) : Int) = i by omega] at eup
                   rw [eup, elo, up_self])
set_option maxRecDepth 100000 in
set_option maxHeartbeats 4000000 in
theorem c_X5_findHeight {K : Ctx} {σ : Sto} {s b : Int} (hI : IM σ) (hs : 0 ≤ s ∧ s < σ 110 0) (hb : 1 ≤ b ∧ b ≤ 999) : CtI K mX5_findHeight 0 [.ref (kA K 19), .int (i32 s), .int (i32 b)] σ (fun r σ' => r = (if (fh (lnf (σ 20) 1 s) b (σ 111 0) : Int) < σ 111 0 then 1 else 0) ∧ σ' = (if (fh (lnf (σ 20) 1 s) b (σ 111 0) : Int) < σ 111 0 then up (up σ 119 0 (htL (lnf (σ 20) 1 s) b (σ 111 0))) 118 0 (htU (lnf (σ 20) 1 s) b (σ 111 0)) else σ)) := by
  refine CtZ_of (L := [some (.ref (kA K 19)), some (.int (i32 s)), some (.int (i32 b)), none, none, none]) (by decide) rfl rfl rfl ?_
  intro E hE hR
  refine V_iconst hE dX5_findHeight_0 ?_
  refine V_istore_n hE dX5_findHeight_1 rfl ?_
  exact lp_X5_findHeight_2 hI hs hb hE hR 100 0 _ _ (by have := hI.2.1; omega) (by have := hI.2.1; omega) (by unfold fh; simp)
set_option maxRecDepth 100000 in
set_option maxHeartbeats 4000000 in
theorem c_X5_height {K : Ctx} {σ : Sto} {s b w : Int} (hI : IM σ) (hv : InI s ∧ InI b ∧ InI w) : CtL K mX5_height 2 [.ref (kA K 19), .int (i32 s), .int (i32 b), .int (i32 w)] σ (fun r σ' => r = heightS (σ 20) (σ 110 0) (σ 111 0) s b w ∧ SmM σ σ') := by
  obtain ⟨hS, hW, hB, hRe, hLo, hHi, hO, hPu, hHe, hAt⟩ := id hI
  refine CtL_of (L := [some (.ref (kA K 19)), some (.int (i32 s)), some (.int (i32 b)), some (.int (i32 w))]) (by decide) rfl rfl rfl ?_
  intro E hE hR
  refine V_iload_n hE dX5_height_0 rfl ?_
  refine V_i2l hE dX5_height_1 (by omega) ?_
  refine V_lconst0 hE dX5_height_2 ?_
  refine V_aload_n hE dX5_height_3 rfl ?_
  refine gf_X5_61 hE rfl dX5_height_4 ?_
  refine V_iconst hE dX5_height_7 ?_
  refine V_isub hE dX5_height_8 ?_
  refine V_i2l hE dX5_height_9 (by omega) ?_
  refine cf_X5_67 hE rfl dX5_height_10 (c_X5_within (by omega)) rfl rfl ?_
  refine V_if_eq hE 39 dX5_height_13 (by decide) (by omega) (fun h13 => ?_) (fun h13 => ?_)
  · refine V_ldc2 hE tw_cl_X5_177 dX5_height_39 ?_
    refine V_lreturn hR dX5_height_42 ?_
    first | exact ⟨by unfold heightS; exact (if_pos (by omega)).symm, SmM_rf hAt⟩ | exact ⟨by unfold heightS; exact (if_pos (by omega)).symm, hs1⟩
  · refine V_iload_n hE dX5_height_16 rfl ?_
    refine cf_X5_198 hE rfl dX5_height_17 (c_X5_isBreadth (by omega)) rfl rfl ?_
    refine V_if_eq hE 39 dX5_height_20 (by decide) (by omega) (fun h20 => ?_) (fun h20 => ?_)
    · refine V_ldc2 hE tw_cl_X5_177 dX5_height_39 ?_
      refine V_lreturn hR dX5_height_42 ?_
      first | exact ⟨by unfold heightS; exact (if_pos (by omega)).symm, SmM_rf hAt⟩ | exact ⟨by unfold heightS; exact (if_pos (by omega)).symm, hs1⟩
    · refine V_iload_n hE dX5_height_23 rfl ?_
      refine cf_X5_174 hE rfl dX5_height_24 (c_X5_isWhich (by omega)) rfl rfl ?_
      refine V_if_eq hE 39 dX5_height_27 (by decide) (by omega) (fun h27 => ?_) (fun h27 => ?_)
      · refine V_ldc2 hE tw_cl_X5_177 dX5_height_39 ?_
        refine V_lreturn hR dX5_height_42 ?_
        first | exact ⟨by unfold heightS; exact (if_pos (by omega)).symm, SmM_rf hAt⟩ | exact ⟨by unfold heightS; exact (if_pos (by omega)).symm, hs1⟩
      · refine V_aload_n hE dX5_height_30 rfl ?_
        refine V_iload_n hE dX5_height_31 rfl ?_
        refine V_iload_n hE dX5_height_32 rfl ?_
        refine cl_X5_201 hE rfl dX5_height_33 (c_X5_findHeight hI (by omega) (by omega)) rfl rfl ?_
        rintro r σ1 ⟨rfl, hq⟩
        have hs1 : SmM σ σ1 := by
          rw [hq]
          split
          · exact ⟨Fr_up (Fr_up Fr_rf (by decide)) (by decide), hAt⟩
          · exact SmM_rf hAt
        refine V_if_ne hE 43 dX5_height_36 (by decide) (by omega) (fun h36 => ?_) (fun h36 => ?_)
        · have hlr := htL_rng (lnf_rng hO 1 s) b hW
          have hur := htU_rng (lnf_rng hO 1 s) (b := b) (by omega) hW
          rw [if_pos (by omega)] at hq
          have e118 : σ1 118 0 = htU (lnf (σ 20) 1 s) b (σ 111 0) := by rw [hq, up_self]
          have e119 : σ1 119 0 = htL (lnf (σ 20) 1 s) b (σ 111 0) := by rw [hq, up_ne _ _ _ (by decide : 119 ≠ 118), up_self]
          refine V_aload_n hE dX5_height_43 rfl ?_
          refine gf_X5_195 hE rfl dX5_height_44 ?_
          refine V_aload_n hE dX5_height_47 rfl ?_
          refine gf_X5_191 hE rfl dX5_height_48 ?_
          refine V_iload_n hE dX5_height_51 rfl ?_
          refine cf_X5_185 hE rfl dX5_height_52 (c_X5_told (by omega) (by omega) (by omega)) rfl rfl ?_
          refine V_lreturn hR dX5_height_55 ?_
          refine ⟨?_, hs1⟩
          unfold heightS
          refine Eq.symm ((if_neg (by omega)).trans ?_)
          rw [e118, e119]
        · refine V_ldc2 hE tw_cl_X5_177 dX5_height_39 ?_
          refine V_lreturn hR dX5_height_42 ?_
          first | exact ⟨by unfold heightS; exact (if_pos (by omega)).symm, SmM_rf hAt⟩ | exact ⟨by unfold heightS; exact (if_pos (by omega)).symm, hs1⟩
def brZ (u l : Nat → Int) (b s : Int) : Int := brS (u (s + 0).toNat) (l (s + 0).toNat) (u (s + (0 + 1)).toNat) (l (s + (0 + 1)).toNat) (u (s + (0 + 1 + 1)).toNat) (l (s + (0 + 1 + 1)).toNat) (u (s + (0 + 1 + 1 + 1)).toNat) (l (s + (0 + 1 + 1 + 1)).toNat) b
theorem brZ_eq (u l : Nat → Int) (b : Int) {s : Int} (h : 0 ≤ s) : brZ u l b s = brAt u l b s.toNat := by
  unfold brZ brAt
  rw [show (s + 0).toNat = s.toNat by omega, show (s + (0 + 1)).toNat = s.toNat + 1 by omega, show (s + (0 + 1 + 1)).toNat = s.toNat + 2 by omega, show (s + (0 + 1 + 1 + 1)).toNat = s.toNat + 3 by omega]
set_option maxRecDepth 100000 in
set_option maxHeartbeats 4000000 in
theorem c_X5_isBreak {K : Ctx} {σ : Sto} {s : Int} (hI : IM σ) (hs : 0 ≤ s ∧ s ≤ 5) (h30 : ∀ j : Nat, (j : Int) < s + 4 → 0 ≤ σ 30 j ∧ σ 30 j ≤ 7992) (h31 : ∀ j : Nat, (j : Int) < s + 4 → 0 ≤ σ 31 j ∧ σ 31 j ≤ 999) : CtI K mX5_isBreak 0 [.ref (kA K 19), .int (i32 s)] σ (fun r σ' => r = brZ (σ 30) (σ 31) (σ 112 0) s ∧ σ' = σ) := by
  obtain ⟨hS, hW, hB, hRe, hLo, hHi, hO, hPu, hHe, hAt⟩ := id hI
  have a0 := h31 (s + 0).toNat (by omega)
  have b0 := h30 (s + 0).toNat (by omega)
  have a1 := h31 (s + (0 + 1)).toNat (by omega)
  have b1 := h30 (s + (0 + 1)).toNat (by omega)
  have a2 := h31 (s + (0 + 1 + 1)).toNat (by omega)
  have b2 := h30 (s + (0 + 1 + 1)).toNat (by omega)
  have a3 := h31 (s + (0 + 1 + 1 + 1)).toNat (by omega)
  have b3 := h30 (s + (0 + 1 + 1 + 1)).toNat (by omega)
  refine CtZ_of (L := [some (.ref (kA K 19)), some (.int (i32 s)), none, none, none, none, none, none, none]) (by decide) rfl rfl rfl ?_
  intro E hE hR
  refine V_lconst1 hE dX5_isBreak_0 ?_
  refine V_lstore_n hE dX5_isBreak_1 rfl ?_
  refine V_iconst hE dX5_isBreak_2 ?_
  refine V_istore hE dX5_isBreak_3 rfl ?_
  refine V_eqL (L' := [some (.ref (kA K 19)), some (.int (i32 s)), some (.long (i64 (1))), none, some (.int (i32 0)), none, none, none, none]) rfl ?_
  refine V_iload hE dX5_isBreak_5 rfl ?_
  refine V_iconst hE dX5_isBreak_7 ?_
  refine V_icmp_ge hE 45 dX5_isBreak_8 (by decide) (by omega) (fun h8 => ?_) (fun h8 => ?_)
  · exfalso; omega
  · refine V_aload_n hE dX5_isBreak_11 rfl ?_
    refine gf_X5_58 hE rfl dX5_isBreak_12 ?_
    refine V_iload_n hE dX5_isBreak_15 rfl ?_
    refine V_iload hE dX5_isBreak_16 rfl ?_
    refine V_iadd hE dX5_isBreak_18 ?_
    refine V_laload hE dX5_isBreak_19 rfl (by omega) ?_
    refine V_lconst0 hE dX5_isBreak_20 ?_
    refine V_lcmp_ne hE 27 dX5_isBreak_21 dX5_isBreak_22 (by decide) (by omega) (fun h21 => ?_) (fun h21 => ?_)
    · refine V_lload_n hE dX5_isBreak_27 rfl ?_
      refine V_aload_n hE dX5_isBreak_28 rfl ?_
      refine gf_X5_58 hE rfl dX5_isBreak_29 ?_
      refine V_iload_n hE dX5_isBreak_32 rfl ?_
      refine V_iload hE dX5_isBreak_33 rfl ?_
      refine V_iadd hE dX5_isBreak_35 ?_
      refine V_laload hE dX5_isBreak_36 rfl (by omega) ?_
      refine V_lmul hE dX5_isBreak_37 ?_
      refine V_lstore_n hE dX5_isBreak_38 rfl ?_
      refine V_iinc hE dX5_isBreak_39 rfl rfl ?_
      refine V_goto hE 5 dX5_isBreak_42 (by decide) ?_
      refine V_eqL (L' := [some (.ref (kA K 19)), some (.int (i32 s)), some (.long (i64 (1 * σ 31 (s + 0).toNat))), none, some (.int (i32 (0 + 1))), none, none, none, none]) rfl ?_
      refine V_iload hE dX5_isBreak_5 rfl ?_
      refine V_iconst hE dX5_isBreak_7 ?_
      refine V_icmp_ge hE 45 dX5_isBreak_8 (by decide) (by omega) (fun h8_1 => ?_) (fun h8_1 => ?_)
      · exfalso; omega
      · refine V_aload_n hE dX5_isBreak_11 rfl ?_
        refine gf_X5_58 hE rfl dX5_isBreak_12 ?_
        refine V_iload_n hE dX5_isBreak_15 rfl ?_
        refine V_iload hE dX5_isBreak_16 rfl ?_
        refine V_iadd hE dX5_isBreak_18 ?_
        refine V_laload hE dX5_isBreak_19 rfl (by omega) ?_
        refine V_lconst0 hE dX5_isBreak_20 ?_
        refine V_lcmp_ne hE 27 dX5_isBreak_21 dX5_isBreak_22 (by decide) (by omega) (fun h21_1 => ?_) (fun h21_1 => ?_)
        · refine V_lload_n hE dX5_isBreak_27 rfl ?_
          refine V_aload_n hE dX5_isBreak_28 rfl ?_
          refine gf_X5_58 hE rfl dX5_isBreak_29 ?_
          refine V_iload_n hE dX5_isBreak_32 rfl ?_
          refine V_iload hE dX5_isBreak_33 rfl ?_
          refine V_iadd hE dX5_isBreak_35 ?_
          refine V_laload hE dX5_isBreak_36 rfl (by omega) ?_
          refine V_lmul hE dX5_isBreak_37 ?_
          refine V_lstore_n hE dX5_isBreak_38 rfl ?_
          refine V_iinc hE dX5_isBreak_39 rfl rfl ?_
          refine V_goto hE 5 dX5_isBreak_42 (by decide) ?_
          refine V_eqL (L' := [some (.ref (kA K 19)), some (.int (i32 s)), some (.long (i64 (1 * σ 31 (s + 0).toNat * σ 31 (s + (0 + 1)).toNat))), none, some (.int (i32 (0 + 1 + 1))), none, none, none, none]) rfl ?_
          refine V_iload hE dX5_isBreak_5 rfl ?_
          refine V_iconst hE dX5_isBreak_7 ?_
          refine V_icmp_ge hE 45 dX5_isBreak_8 (by decide) (by omega) (fun h8_2 => ?_) (fun h8_2 => ?_)
          · exfalso; omega
          · refine V_aload_n hE dX5_isBreak_11 rfl ?_
            refine gf_X5_58 hE rfl dX5_isBreak_12 ?_
            refine V_iload_n hE dX5_isBreak_15 rfl ?_
            refine V_iload hE dX5_isBreak_16 rfl ?_
            refine V_iadd hE dX5_isBreak_18 ?_
            refine V_laload hE dX5_isBreak_19 rfl (by omega) ?_
            refine V_lconst0 hE dX5_isBreak_20 ?_
            refine V_lcmp_ne hE 27 dX5_isBreak_21 dX5_isBreak_22 (by decide) (by omega) (fun h21_2 => ?_) (fun h21_2 => ?_)
            · refine V_lload_n hE dX5_isBreak_27 rfl ?_
              refine V_aload_n hE dX5_isBreak_28 rfl ?_
              refine gf_X5_58 hE rfl dX5_isBreak_29 ?_
              refine V_iload_n hE dX5_isBreak_32 rfl ?_
              refine V_iload hE dX5_isBreak_33 rfl ?_
              refine V_iadd hE dX5_isBreak_35 ?_
              refine V_laload hE dX5_isBreak_36 rfl (by omega) ?_
              refine V_lmul hE dX5_isBreak_37 ?_
              refine V_lstore_n hE dX5_isBreak_38 rfl ?_
              refine V_iinc hE dX5_isBreak_39 rfl rfl ?_
              refine V_goto hE 5 dX5_isBreak_42 (by decide) ?_
              refine V_eqL (L' := [some (.ref (kA K 19)), some (.int (i32 s)), some (.long (i64 (1 * σ 31 (s + 0).toNat * σ 31 (s + (0 + 1)).toNat * σ 31 (s + (0 + 1 + 1)).toNat))), none, some (.int (i32 (0 + 1 + 1 + 1))), none, none, none, none]) rfl ?_
              refine V_iload hE dX5_isBreak_5 rfl ?_
              refine V_iconst hE dX5_isBreak_7 ?_
              refine V_icmp_ge hE 45 dX5_isBreak_8 (by decide) (by omega) (fun h8_3 => ?_) (fun h8_3 => ?_)
              · exfalso; omega
              · refine V_aload_n hE dX5_isBreak_11 rfl ?_
                refine gf_X5_58 hE rfl dX5_isBreak_12 ?_
                refine V_iload_n hE dX5_isBreak_15 rfl ?_
                refine V_iload hE dX5_isBreak_16 rfl ?_
                refine V_iadd hE dX5_isBreak_18 ?_
                refine V_laload hE dX5_isBreak_19 rfl (by omega) ?_
                refine V_lconst0 hE dX5_isBreak_20 ?_
                refine V_lcmp_ne hE 27 dX5_isBreak_21 dX5_isBreak_22 (by decide) (by omega) (fun h21_3 => ?_) (fun h21_3 => ?_)
                · refine V_lload_n hE dX5_isBreak_27 rfl ?_
                  refine V_aload_n hE dX5_isBreak_28 rfl ?_
                  refine gf_X5_58 hE rfl dX5_isBreak_29 ?_
                  refine V_iload_n hE dX5_isBreak_32 rfl ?_
                  refine V_iload hE dX5_isBreak_33 rfl ?_
                  refine V_iadd hE dX5_isBreak_35 ?_
                  refine V_laload hE dX5_isBreak_36 rfl (by omega) ?_
                  refine V_lmul hE dX5_isBreak_37 ?_
                  refine V_lstore_n hE dX5_isBreak_38 rfl ?_
                  refine V_iinc hE dX5_isBreak_39 rfl rfl ?_
                  refine V_goto hE 5 dX5_isBreak_42 (by decide) ?_
                  refine V_eqL (L' := [some (.ref (kA K 19)), some (.int (i32 s)), some (.long (i64 (1 * σ 31 (s + 0).toNat * σ 31 (s + (0 + 1)).toNat * σ 31 (s + (0 + 1 + 1)).toNat * σ 31 (s + (0 + 1 + 1 + 1)).toNat))), none, some (.int (i32 (0 + 1 + 1 + 1 + 1))), none, none, none, none]) rfl ?_
                  refine V_iload hE dX5_isBreak_5 rfl ?_
                  refine V_iconst hE dX5_isBreak_7 ?_
                  refine V_icmp_ge hE 45 dX5_isBreak_8 (by decide) (by omega) (fun h8_4 => ?_) (fun h8_4 => ?_)
                  · obtain ⟨e0, e1, e2, e3⟩ := br_div h21 h21_1 h21_2 h21_3
                    have hD := brD_rng a0 a1 a2 a3
                    have hN := brN_rng a0 a1 a2 a3 b0 b1 b2 b3
                    have hbD := mul_rng hB hD
                    have eD := br_all (σ 31 (s + 0).toNat) (σ 31 (s + (0 + 1)).toNat) (σ 31 (s + (0 + 1 + 1)).toNat) (σ 31 (s + (0 + 1 + 1 + 1)).toNat)
                    rw [← eD] at hD
                    refine V_lconst0 hE dX5_isBreak_45 ?_
                    refine V_lstore hE dX5_isBreak_46 rfl ?_
                    refine V_iconst hE dX5_isBreak_48 ?_
                    refine V_istore hE dX5_isBreak_49 rfl ?_
                    refine V_eqL (L' := [some (.ref (kA K 19)), some (.int (i32 s)), some (.long (i64 (1 * σ 31 (s + 0).toNat * σ 31 (s + (0 + 1)).toNat * σ 31 (s + (0 + 1 + 1)).toNat * σ 31 (s + (0 + 1 + 1 + 1)).toNat))), none, some (.long (i64 (0))), none, some (.int (i32 0)), none, none]) rfl ?_
                    refine V_iload hE dX5_isBreak_51 rfl ?_
                    refine V_iconst hE dX5_isBreak_53 ?_
                    refine V_icmp_ge hE 130 dX5_isBreak_54 (by decide) (by omega) (fun h54 => ?_) (fun h54 => ?_)
                    · exfalso; omega
                    · refine V_iload hE dX5_isBreak_57 rfl ?_
                      refine V_if_ne hE 68 dX5_isBreak_59 (by decide) (by omega) (fun h59 => ?_) (fun h59 => ?_)
                      · exfalso; omega
                      · refine V_ldc2 hE tw_cl_X5_155 dX5_isBreak_62 ?_
                        refine V_goto hE 93 dX5_isBreak_65 (by decide) ?_
                        refine V_lstore hE dX5_isBreak_93 rfl ?_
                        refine V_lload hE dX5_isBreak_95 rfl ?_
                        refine V_lload hE dX5_isBreak_97 rfl ?_
                        refine V_aload_n hE dX5_isBreak_99 rfl ?_
                        refine gf_X5_55 hE rfl dX5_isBreak_100 ?_
                        refine V_iload_n hE dX5_isBreak_103 rfl ?_
                        refine V_iload hE dX5_isBreak_104 rfl ?_
                        refine V_iadd hE dX5_isBreak_106 ?_
                        refine V_laload hE dX5_isBreak_107 rfl (by omega) ?_
                        refine V_lmul hE dX5_isBreak_108 ?_
                        refine V_lload_n hE dX5_isBreak_109 rfl ?_
                        refine V_aload_n hE dX5_isBreak_110 rfl ?_
                        refine gf_X5_58 hE rfl dX5_isBreak_111 ?_
                        refine V_iload_n hE dX5_isBreak_114 rfl ?_
                        refine V_iload hE dX5_isBreak_115 rfl ?_
                        refine V_iadd hE dX5_isBreak_117 ?_
                        refine V_laload hE dX5_isBreak_118 rfl (by omega) ?_
                        refine V_ldiv hE dX5_isBreak_119 (by omega) (by omega) ?_
                        refine V_lmul hE dX5_isBreak_120 ?_
                        refine V_ladd hE dX5_isBreak_121 ?_
                        refine V_lstore hE dX5_isBreak_122 rfl ?_
                        refine V_iinc hE dX5_isBreak_124 rfl rfl ?_
                        refine V_goto hE 51 dX5_isBreak_127 (by decide) ?_
                        refine V_eqL (L' := [some (.ref (kA K 19)), some (.int (i32 s)), some (.long (i64 (1 * σ 31 (s + 0).toNat * σ 31 (s + (0 + 1)).toNat * σ 31 (s + (0 + 1 + 1)).toNat * σ 31 (s + (0 + 1 + 1 + 1)).toNat))), none, some (.long (i64 (0 + -1 * σ 30 (s + 0).toNat * ((1 * σ 31 (s + 0).toNat * σ 31 (s + (0 + 1)).toNat * σ 31 (s + (0 + 1 + 1)).toNat * σ 31 (s + (0 + 1 + 1 + 1)).toNat) / σ 31 (s + 0).toNat)))), none, some (.int (i32 (0 + 1))), some (.long (i64 (-1))), none]) rfl ?_
                        refine V_iload hE dX5_isBreak_51 rfl ?_
                        refine V_iconst hE dX5_isBreak_53 ?_
                        refine V_icmp_ge hE 130 dX5_isBreak_54 (by decide) (by omega) (fun h54_1 => ?_) (fun h54_1 => ?_)
                        · exfalso; omega
                        · refine V_iload hE dX5_isBreak_57 rfl ?_
                          refine V_if_ne hE 68 dX5_isBreak_59 (by decide) (by omega) (fun h59_1 => ?_) (fun h59_1 => ?_)
                          · refine V_iload hE dX5_isBreak_68 rfl ?_
                            refine V_iconst hE dX5_isBreak_70 ?_
                            refine V_icmp_ne hE 80 dX5_isBreak_71 (by decide) (by omega) (fun h71 => ?_) (fun h71 => ?_)
                            · exfalso; omega
                            · refine V_ldc2 hE tw_cl_X5_89 dX5_isBreak_74 ?_
                              refine V_goto hE 93 dX5_isBreak_77 (by decide) ?_
                              refine V_lstore hE dX5_isBreak_93 rfl ?_
                              refine V_lload hE dX5_isBreak_95 rfl ?_
                              refine V_lload hE dX5_isBreak_97 rfl ?_
                              refine V_aload_n hE dX5_isBreak_99 rfl ?_
                              refine gf_X5_55 hE rfl dX5_isBreak_100 ?_
                              refine V_iload_n hE dX5_isBreak_103 rfl ?_
                              refine V_iload hE dX5_isBreak_104 rfl ?_
                              refine V_iadd hE dX5_isBreak_106 ?_
                              refine V_laload hE dX5_isBreak_107 rfl (by omega) ?_
                              refine V_lmul hE dX5_isBreak_108 ?_
                              refine V_lload_n hE dX5_isBreak_109 rfl ?_
                              refine V_aload_n hE dX5_isBreak_110 rfl ?_
                              refine gf_X5_58 hE rfl dX5_isBreak_111 ?_
                              refine V_iload_n hE dX5_isBreak_114 rfl ?_
                              refine V_iload hE dX5_isBreak_115 rfl ?_
                              refine V_iadd hE dX5_isBreak_117 ?_
                              refine V_laload hE dX5_isBreak_118 rfl (by omega) ?_
                              refine V_ldiv hE dX5_isBreak_119 (by omega) (by omega) ?_
                              refine V_lmul hE dX5_isBreak_120 ?_
                              refine V_ladd hE dX5_isBreak_121 ?_
                              refine V_lstore hE dX5_isBreak_122 rfl ?_
                              refine V_iinc hE dX5_isBreak_124 rfl rfl ?_
                              refine V_goto hE 51 dX5_isBreak_127 (by decide) ?_
                              refine V_eqL (L' := [some (.ref (kA K 19)), some (.int (i32 s)), some (.long (i64 (1 * σ 31 (s + 0).toNat * σ 31 (s + (0 + 1)).toNat * σ 31 (s + (0 + 1 + 1)).toNat * σ 31 (s + (0 + 1 + 1 + 1)).toNat))), none, some (.long (i64 (0 + -1 * σ 30 (s + 0).toNat * ((1 * σ 31 (s + 0).toNat * σ 31 (s + (0 + 1)).toNat * σ 31 (s + (0 + 1 + 1)).toNat * σ 31 (s + (0 + 1 + 1 + 1)).toNat) / σ 31 (s + 0).toNat) + 3 * σ 30 (s + (0 + 1)).toNat * ((1 * σ 31 (s + 0).toNat * σ 31 (s + (0 + 1)).toNat * σ 31 (s + (0 + 1 + 1)).toNat * σ 31 (s + (0 + 1 + 1 + 1)).toNat) / σ 31 (s + (0 + 1)).toNat)))), none, some (.int (i32 (0 + 1 + 1))), some (.long (i64 (3))), none]) rfl ?_
                              refine V_iload hE dX5_isBreak_51 rfl ?_
                              refine V_iconst hE dX5_isBreak_53 ?_
                              refine V_icmp_ge hE 130 dX5_isBreak_54 (by decide) (by omega) (fun h54_2 => ?_) (fun h54_2 => ?_)
                              · exfalso; omega
                              · refine V_iload hE dX5_isBreak_57 rfl ?_
                                refine V_if_ne hE 68 dX5_isBreak_59 (by decide) (by omega) (fun h59_2 => ?_) (fun h59_2 => ?_)
                                · refine V_iload hE dX5_isBreak_68 rfl ?_
                                  refine V_iconst hE dX5_isBreak_70 ?_
                                  refine V_icmp_ne hE 80 dX5_isBreak_71 (by decide) (by omega) (fun h71_1 => ?_) (fun h71_1 => ?_)
                                  · refine V_iload hE dX5_isBreak_80 rfl ?_
                                    refine V_iconst hE dX5_isBreak_82 ?_
                                    refine V_icmp_ne hE 92 dX5_isBreak_83 (by decide) (by omega) (fun h83 => ?_) (fun h83 => ?_)
                                    · exfalso; omega
                                    · refine V_ldc2 hE tw_cl_X5_204 dX5_isBreak_86 ?_
                                      refine V_goto hE 93 dX5_isBreak_89 (by decide) ?_
                                      refine V_lstore hE dX5_isBreak_93 rfl ?_
                                      refine V_lload hE dX5_isBreak_95 rfl ?_
                                      refine V_lload hE dX5_isBreak_97 rfl ?_
                                      refine V_aload_n hE dX5_isBreak_99 rfl ?_
                                      refine gf_X5_55 hE rfl dX5_isBreak_100 ?_
                                      refine V_iload_n hE dX5_isBreak_103 rfl ?_
                                      refine V_iload hE dX5_isBreak_104 rfl ?_
                                      refine V_iadd hE dX5_isBreak_106 ?_
                                      refine V_laload hE dX5_isBreak_107 rfl (by omega) ?_
                                      refine V_lmul hE dX5_isBreak_108 ?_
                                      refine V_lload_n hE dX5_isBreak_109 rfl ?_
                                      refine V_aload_n hE dX5_isBreak_110 rfl ?_
                                      refine gf_X5_58 hE rfl dX5_isBreak_111 ?_
                                      refine V_iload_n hE dX5_isBreak_114 rfl ?_
                                      refine V_iload hE dX5_isBreak_115 rfl ?_
                                      refine V_iadd hE dX5_isBreak_117 ?_
                                      refine V_laload hE dX5_isBreak_118 rfl (by omega) ?_
                                      refine V_ldiv hE dX5_isBreak_119 (by omega) (by omega) ?_
                                      refine V_lmul hE dX5_isBreak_120 ?_
                                      refine V_ladd hE dX5_isBreak_121 ?_
                                      refine V_lstore hE dX5_isBreak_122 rfl ?_
                                      refine V_iinc hE dX5_isBreak_124 rfl rfl ?_
                                      refine V_goto hE 51 dX5_isBreak_127 (by decide) ?_
                                      refine V_eqL (L' := [some (.ref (kA K 19)), some (.int (i32 s)), some (.long (i64 (1 * σ 31 (s + 0).toNat * σ 31 (s + (0 + 1)).toNat * σ 31 (s + (0 + 1 + 1)).toNat * σ 31 (s + (0 + 1 + 1 + 1)).toNat))), none, some (.long (i64 (0 + -1 * σ 30 (s + 0).toNat * ((1 * σ 31 (s + 0).toNat * σ 31 (s + (0 + 1)).toNat * σ 31 (s + (0 + 1 + 1)).toNat * σ 31 (s + (0 + 1 + 1 + 1)).toNat) / σ 31 (s + 0).toNat) + 3 * σ 30 (s + (0 + 1)).toNat * ((1 * σ 31 (s + 0).toNat * σ 31 (s + (0 + 1)).toNat * σ 31 (s + (0 + 1 + 1)).toNat * σ 31 (s + (0 + 1 + 1 + 1)).toNat) / σ 31 (s + (0 + 1)).toNat) + -3 * σ 30 (s + (0 + 1 + 1)).toNat * ((1 * σ 31 (s + 0).toNat * σ 31 (s + (0 + 1)).toNat * σ 31 (s + (0 + 1 + 1)).toNat * σ 31 (s + (0 + 1 + 1 + 1)).toNat) / σ 31 (s + (0 + 1 + 1)).toNat)))), none, some (.int (i32 (0 + 1 + 1 + 1))), some (.long (i64 (-3))), none]) rfl ?_
                                      refine V_iload hE dX5_isBreak_51 rfl ?_
                                      refine V_iconst hE dX5_isBreak_53 ?_
                                      refine V_icmp_ge hE 130 dX5_isBreak_54 (by decide) (by omega) (fun h54_3 => ?_) (fun h54_3 => ?_)
                                      · exfalso; omega
                                      · refine V_iload hE dX5_isBreak_57 rfl ?_
                                        refine V_if_ne hE 68 dX5_isBreak_59 (by decide) (by omega) (fun h59_3 => ?_) (fun h59_3 => ?_)
                                        · refine V_iload hE dX5_isBreak_68 rfl ?_
                                          refine V_iconst hE dX5_isBreak_70 ?_
                                          refine V_icmp_ne hE 80 dX5_isBreak_71 (by decide) (by omega) (fun h71_2 => ?_) (fun h71_2 => ?_)
                                          · refine V_iload hE dX5_isBreak_80 rfl ?_
                                            refine V_iconst hE dX5_isBreak_82 ?_
                                            refine V_icmp_ne hE 92 dX5_isBreak_83 (by decide) (by omega) (fun h83_1 => ?_) (fun h83_1 => ?_)
                                            · refine V_lconst1 hE dX5_isBreak_92 ?_
                                              refine V_lstore hE dX5_isBreak_93 rfl ?_
                                              refine V_lload hE dX5_isBreak_95 rfl ?_
                                              refine V_lload hE dX5_isBreak_97 rfl ?_
                                              refine V_aload_n hE dX5_isBreak_99 rfl ?_
                                              refine gf_X5_55 hE rfl dX5_isBreak_100 ?_
                                              refine V_iload_n hE dX5_isBreak_103 rfl ?_
                                              refine V_iload hE dX5_isBreak_104 rfl ?_
                                              refine V_iadd hE dX5_isBreak_106 ?_
                                              refine V_laload hE dX5_isBreak_107 rfl (by omega) ?_
                                              refine V_lmul hE dX5_isBreak_108 ?_
                                              refine V_lload_n hE dX5_isBreak_109 rfl ?_
                                              refine V_aload_n hE dX5_isBreak_110 rfl ?_
                                              refine gf_X5_58 hE rfl dX5_isBreak_111 ?_
                                              refine V_iload_n hE dX5_isBreak_114 rfl ?_
                                              refine V_iload hE dX5_isBreak_115 rfl ?_
                                              refine V_iadd hE dX5_isBreak_117 ?_
                                              refine V_laload hE dX5_isBreak_118 rfl (by omega) ?_
                                              refine V_ldiv hE dX5_isBreak_119 (by omega) (by omega) ?_
                                              refine V_lmul hE dX5_isBreak_120 ?_
                                              refine V_ladd hE dX5_isBreak_121 ?_
                                              refine V_lstore hE dX5_isBreak_122 rfl ?_
                                              refine V_iinc hE dX5_isBreak_124 rfl rfl ?_
                                              refine V_goto hE 51 dX5_isBreak_127 (by decide) ?_
                                              refine V_eqL (L' := [some (.ref (kA K 19)), some (.int (i32 s)), some (.long (i64 (1 * σ 31 (s + 0).toNat * σ 31 (s + (0 + 1)).toNat * σ 31 (s + (0 + 1 + 1)).toNat * σ 31 (s + (0 + 1 + 1 + 1)).toNat))), none, some (.long (i64 (0 + -1 * σ 30 (s + 0).toNat * ((1 * σ 31 (s + 0).toNat * σ 31 (s + (0 + 1)).toNat * σ 31 (s + (0 + 1 + 1)).toNat * σ 31 (s + (0 + 1 + 1 + 1)).toNat) / σ 31 (s + 0).toNat) + 3 * σ 30 (s + (0 + 1)).toNat * ((1 * σ 31 (s + 0).toNat * σ 31 (s + (0 + 1)).toNat * σ 31 (s + (0 + 1 + 1)).toNat * σ 31 (s + (0 + 1 + 1 + 1)).toNat) / σ 31 (s + (0 + 1)).toNat) + -3 * σ 30 (s + (0 + 1 + 1)).toNat * ((1 * σ 31 (s + 0).toNat * σ 31 (s + (0 + 1)).toNat * σ 31 (s + (0 + 1 + 1)).toNat * σ 31 (s + (0 + 1 + 1 + 1)).toNat) / σ 31 (s + (0 + 1 + 1)).toNat) + 1 * σ 30 (s + (0 + 1 + 1 + 1)).toNat * ((1 * σ 31 (s + 0).toNat * σ 31 (s + (0 + 1)).toNat * σ 31 (s + (0 + 1 + 1)).toNat * σ 31 (s + (0 + 1 + 1 + 1)).toNat) / σ 31 (s + (0 + 1 + 1 + 1)).toNat)))), none, some (.int (i32 (0 + 1 + 1 + 1 + 1))), some (.long (i64 (1))), none]) rfl ?_
                                              refine V_iload hE dX5_isBreak_51 rfl ?_
                                              refine V_iconst hE dX5_isBreak_53 ?_
                                              refine V_icmp_ge hE 130 dX5_isBreak_54 (by decide) (by omega) (fun h54_4 => ?_) (fun h54_4 => ?_)
                                              · rw [e0, e1, e2, e3, br_its, eD]
                                                refine V_lload hE dX5_isBreak_130 rfl ?_
                                                refine V_lconst0 hE dX5_isBreak_132 ?_
                                                refine V_lcmp_ge hE 143 dX5_isBreak_133 dX5_isBreak_134 (by decide) (by omega) (fun h133 => ?_) (fun h133 => ?_)
                                                · refine V_lload hE dX5_isBreak_143 rfl ?_
                                                  refine V_lstore hE dX5_isBreak_145 rfl ?_
                                                  refine V_ldc2 hE tw_cl_X5_206 dX5_isBreak_147 ?_
                                                  refine V_lload hE dX5_isBreak_150 rfl ?_
                                                  refine V_lmul hE dX5_isBreak_152 ?_
                                                  refine V_aload_n hE dX5_isBreak_153 rfl ?_
                                                  refine gf_X5_7 hE rfl dX5_isBreak_154 ?_
                                                  refine V_i2l hE dX5_isBreak_157 (by omega) ?_
                                                  refine V_lload_n hE dX5_isBreak_158 rfl ?_
                                                  refine V_lmul hE dX5_isBreak_159 ?_
                                                  refine V_lcmp_le hE 168 dX5_isBreak_160 dX5_isBreak_161 (by decide) (by omega) (fun h160 => ?_) (fun h160 => ?_)
                                                  · refine V_iconst hE dX5_isBreak_168 ?_
                                                    refine V_zreturn hR dX5_isBreak_169 (by omega) ?_
                                                    refine ⟨?_, rfl⟩
                                                    unfold brZ brS
                                                    refine Eq.symm ((if_neg (by omega)).trans ?_)
                                                    first | exact if_pos (by omega) | exact if_neg (by omega)
                                                  · refine V_iconst hE dX5_isBreak_164 ?_
                                                    refine V_goto hE 169 dX5_isBreak_165 (by decide) ?_
                                                    refine V_zreturn hR dX5_isBreak_169 (by omega) ?_
                                                    refine ⟨?_, rfl⟩
                                                    unfold brZ brS
                                                    refine Eq.symm ((if_neg (by omega)).trans ?_)
                                                    first | exact if_pos (by omega) | exact if_neg (by omega)
                                                · refine V_lload hE dX5_isBreak_137 rfl ?_
                                                  refine V_lneg hE dX5_isBreak_139 ?_
                                                  refine V_goto hE 145 dX5_isBreak_140 (by decide) ?_
                                                  refine V_lstore hE dX5_isBreak_145 rfl ?_
                                                  refine V_ldc2 hE tw_cl_X5_206 dX5_isBreak_147 ?_
                                                  refine V_lload hE dX5_isBreak_150 rfl ?_
                                                  refine V_lmul hE dX5_isBreak_152 ?_
                                                  refine V_aload_n hE dX5_isBreak_153 rfl ?_
                                                  refine gf_X5_7 hE rfl dX5_isBreak_154 ?_
                                                  refine V_i2l hE dX5_isBreak_157 (by omega) ?_
                                                  refine V_lload_n hE dX5_isBreak_158 rfl ?_
                                                  refine V_lmul hE dX5_isBreak_159 ?_
                                                  refine V_lcmp_le hE 168 dX5_isBreak_160 dX5_isBreak_161 (by decide) (by omega) (fun h160 => ?_) (fun h160 => ?_)
                                                  · refine V_iconst hE dX5_isBreak_168 ?_
                                                    refine V_zreturn hR dX5_isBreak_169 (by omega) ?_
                                                    refine ⟨?_, rfl⟩
                                                    unfold brZ brS
                                                    refine Eq.symm ((if_neg (by omega)).trans ?_)
                                                    first | exact if_pos (by omega) | exact if_neg (by omega)
                                                  · refine V_iconst hE dX5_isBreak_164 ?_
                                                    refine V_goto hE 169 dX5_isBreak_165 (by decide) ?_
                                                    refine V_zreturn hR dX5_isBreak_169 (by omega) ?_
                                                    refine ⟨?_, rfl⟩
                                                    unfold brZ brS
                                                    refine Eq.symm ((if_neg (by omega)).trans ?_)
                                                    first | exact if_pos (by omega) | exact if_neg (by omega)
                                              · exfalso; omega
                                            · exfalso; omega
                                          · exfalso; omega
                                        · exfalso; omega
                                  · exfalso; omega
                                · exfalso; omega
                          · exfalso; omega
                  · exfalso; omega
                · refine V_iconst hE dX5_isBreak_25 ?_
                  refine V_zreturn hR dX5_isBreak_26 (by omega) ?_
                  exact ⟨by unfold brZ brS; exact (if_pos (by omega)).symm, rfl⟩
            · refine V_iconst hE dX5_isBreak_25 ?_
              refine V_zreturn hR dX5_isBreak_26 (by omega) ?_
              exact ⟨by unfold brZ brS; exact (if_pos (by omega)).symm, rfl⟩
        · refine V_iconst hE dX5_isBreak_25 ?_
          refine V_zreturn hR dX5_isBreak_26 (by omega) ?_
          exact ⟨by unfold brZ brS; exact (if_pos (by omega)).symm, rfl⟩
    · refine V_iconst hE dX5_isBreak_25 ?_
      refine V_zreturn hR dX5_isBreak_26 (by omega) ?_
      exact ⟨by unfold brZ brS; exact (if_pos (by omega)).symm, rfl⟩
set_option maxRecDepth 100000 in
set_option maxHeartbeats 4000000 in
theorem lp_X5_breaksAt_63 {K : Ctx} {E : ME} {σ σL : Sto} {b : Int} (hI : IM σ) (hb : 1 ≤ b ∧ b ≤ 999) (hsL : SmM σ σL) (hU : ∀ j : Nat, (j : Int) < σ 110 0 → σL 30 j = (bkU (σ 20) (σ 111 0) b) j ∧ σL 31 j = (bkL (σ 20) (σ 111 0) b) j) (hE : Ok K E mX5_breaksAt 1) (hR : RetI K E mX5_breaksAt (fun r σ' => r = bkS (σ 20) (σ 110 0) (σ 111 0) (σ 112 0) b ∧ SmM σ σ')) : ∀ (n : Nat) (s a : Int), σ 110 0 - s < n → (0 ≤ s ∧ s ≤ σ 110 0 - 3) → (a = fsum (brAt (bkU (σ 20) (σ 111 0) b) (bkL (σ 20) (σ 111 0) b) (σ 112 0)) s.toNat) → V K E mX5_breaksAt 63 [some (.ref (kA K 19)), some (.int (i32 b)), some (.int (i32 a)), some (.int (i32 s))] [] σL := by
  intro n
  induction n with
  | zero =>
    intro s a hm hi ha
    exfalso; omega
  | succ n ih =>
    intro s a hm hi ha
    obtain ⟨hS, hW, hB, hRe, hLo, hHi, hO, hPu, hHe, hAt⟩ := id hI
    have e110 : σL 110 0 = σ 110 0 := by rw [hsL.1 110 (by decide)]
    have e112 : σL 112 0 = σ 112 0 := by rw [hsL.1 112 (by decide)]
    refine V_iload_n hE dX5_breaksAt_63 rfl ?_
    refine V_iconst hE dX5_breaksAt_64 ?_
    refine V_iadd hE dX5_breaksAt_65 ?_
    refine V_aload_n hE dX5_breaksAt_66 rfl ?_
    refine gf_X5_61 hE rfl dX5_breaksAt_67 ?_
    refine V_icmp_ge hE 95 dX5_breaksAt_70 (by decide) (by omega) (fun h70 => ?_) (fun h70 => ?_)
    · refine V_iload_n hE dX5_breaksAt_95 rfl ?_
      refine V_ireturn hR dX5_breaksAt_96 ?_
      have es : s = σ 110 0 - 3 := by omega
      exact ⟨by rw [ha, es]; rfl, hsL⟩
    · refine V_iload_n hE dX5_breaksAt_73 rfl ?_
      refine V_aload_n hE dX5_breaksAt_74 rfl ?_
      refine V_iload_n hE dX5_breaksAt_75 rfl ?_
      refine cf_X5_208 hE rfl dX5_breaksAt_76 (c_X5_isBreak (IM_sm hI hsL) (by omega) (fun j hj => by rw [(hU j (by omega)).1]; exact htU_rng (lnf_rng hO 1 j) hb hW) (fun j hj => by rw [(hU j (by omega)).2]; exact (htL_rng (lnf_rng hO 1 j) b hW).1)) rfl rfl ?_
      have ez : brZ (σL 30) (σL 31) (σL 112 0) s = brAt (bkU (σ 20) (σ 111 0) b) (bkL (σ 20) (σ 111 0) b) (σ 112 0) s.toNat := by
        rw [brZ_eq _ _ _ hi.1, e112]
        unfold brAt
        rw [(hU s.toNat (by omega)).1, (hU s.toNat (by omega)).2, (hU (s.toNat + 1) (by omega)).1, (hU (s.toNat + 1) (by omega)).2, (hU (s.toNat + 2) (by omega)).1, (hU (s.toNat + 2) (by omega)).2, (hU (s.toNat + 3) (by omega)).1, (hU (s.toNat + 3) (by omega)).2]
      rw [ez]
      have hbr := brAt_rng (bkU (σ 20) (σ 111 0) b) (bkL (σ 20) (σ 111 0) b) (σ 112 0) s.toNat
      refine V_if_eq hE 86 dX5_breaksAt_79 (by decide) (by omega) (fun h79 => ?_) (fun h79 => ?_)
      · refine V_iconst hE dX5_breaksAt_86 ?_
        refine V_iadd hE dX5_breaksAt_87 ?_
        refine V_istore_n hE dX5_breaksAt_88 rfl ?_
        refine V_iinc hE dX5_breaksAt_89 rfl rfl ?_
        refine V_goto hE 63 dX5_breaksAt_92 (by decide) ?_
        exact ih _ _ (by omega) (by omega) (by rw [fsum_step _ (by omega), ← ha]; omega)
      · refine V_iconst hE dX5_breaksAt_82 ?_
        refine V_goto hE 87 dX5_breaksAt_83 (by decide) ?_
        refine V_iadd hE dX5_breaksAt_87 ?_
        refine V_istore_n hE dX5_breaksAt_88 rfl ?_
        refine V_iinc hE dX5_breaksAt_89 rfl rfl ?_
        refine V_goto hE 63 dX5_breaksAt_92 (by decide) ?_
        exact ih _ _ (by omega) (by omega) (by rw [fsum_step _ (by omega), ← ha]; omega)
set_option maxRecDepth 100000 in
set_option maxHeartbeats 4000000 in
theorem lp_X5_breaksAt_2 {K : Ctx} {E : ME} {σ : Sto} {b : Int} (hI : IM σ) (hb : 1 ≤ b ∧ b ≤ 999) (hk : ∀ (σ1 : Sto) (x2 x3 : Option Value), SmM σ σ1 → (∀ j : Nat, (j : Int) < σ 110 0 → σ1 30 j = (bkU (σ 20) (σ 111 0) b) j ∧ σ1 31 j = (bkL (σ 20) (σ 111 0) b) j) → V K E mX5_breaksAt 59 [some (.ref (kA K 19)), some (.int (i32 b)), x2, x3] [] σ1) (hE : Ok K E mX5_breaksAt 1) : ∀ (n : Nat) (s : Int) (σ1 : Sto) (x3 : Option Value), σ 110 0 - s < n → (0 ≤ s ∧ s ≤ σ 110 0) → (SmM σ σ1) → (∀ j : Nat, (j : Int) < s → σ1 30 j = (bkU (σ 20) (σ 111 0) b) j ∧ σ1 31 j = (bkL (σ 20) (σ 111 0) b) j) → V K E mX5_breaksAt 2 [some (.ref (kA K 19)), some (.int (i32 b)), some (.int (i32 s)), x3] [] σ1 := by
  intro n
  induction n with
  | zero =>
    intro s σ1 x3 hm hi hs hU
    exfalso; omega
  | succ n ih =>
    intro s σ1 x3 hm hi hs hU
    obtain ⟨hS, hW, hB, hRe, hLo, hHi, hO, hPu, hHe, hAt⟩ := id hI
    have e110 : σ1 110 0 = σ 110 0 := by rw [hs.1 110 (by decide)]
    have e111 : σ1 111 0 = σ 111 0 := by rw [hs.1 111 (by decide)]
    have e20 := hs.1 20 (by decide)
    have elo : (bkL (σ 20) (σ 111 0) b) s.toNat = htL (lnf (σ 20) 1 s) b (σ 111 0) := by unfold bkL; rw [show ((s.toNat : Nat) : Int) = s by omega]
    have eup : (bkU (σ 20) (σ 111 0) b) s.toNat = htU (lnf (σ 20) 1 s) b (σ 111 0) := by unfold bkU; rw [show ((s.toNat : Nat) : Int) = s by omega]
    refine V_iload_n hE dX5_breaksAt_2 rfl ?_
    refine V_aload_n hE dX5_breaksAt_3 rfl ?_
    refine gf_X5_61 hE rfl dX5_breaksAt_4 ?_
    refine V_icmp_ge hE 59 dX5_breaksAt_7 (by decide) (by omega) (fun h7 => ?_) (fun h7 => ?_)
    · have es : s = σ 110 0 := by omega
      exact hk _ _ _ hs (fun j hj => hU j (by omega))
    · refine V_aload_n hE dX5_breaksAt_10 rfl ?_
      refine V_iload_n hE dX5_breaksAt_11 rfl ?_
      refine V_iload_n hE dX5_breaksAt_12 rfl ?_
      refine cl_X5_201 hE rfl dX5_breaksAt_13 (c_X5_findHeight (IM_sm hI hs) (by omega) hb) rfl rfl ?_
      rintro r σ2 ⟨rfl, hq⟩
      rw [e20, e111] at *
      have hs2 : SmM σ σ2 := by
        rw [hq]
        split
        · exact ⟨Fr_up (Fr_up hs.1 (by decide)) (by decide), hs.2⟩
        · exact hs
      have f30 : σ2 30 = σ1 30 := by rw [hq]; split <;> rfl
      have f31 : σ2 31 = σ1 31 := by rw [hq]; split <;> rfl
      refine V_istore_n hE dX5_breaksAt_16 rfl ?_
      refine V_aload_n hE dX5_breaksAt_17 rfl ?_
      refine gf_X5_55 hE rfl dX5_breaksAt_18 ?_
      refine V_iload_n hE dX5_breaksAt_21 rfl ?_
      refine V_iload_n hE dX5_breaksAt_22 rfl ?_
      refine V_if_eq hE 33 dX5_breaksAt_23 (by decide) (by omega) (fun h23 => ?_) (fun h23 => ?_)
      · refine V_lconst0 hE dX5_breaksAt_33 ?_
        refine V_lastore hE dX5_breaksAt_34 rfl (by omega) ?_
        refine V_aload_n hE dX5_breaksAt_35 rfl ?_
        refine gf_X5_58 hE rfl dX5_breaksAt_36 ?_
        refine V_iload_n hE dX5_breaksAt_39 rfl ?_
        refine V_iload_n hE dX5_breaksAt_40 rfl ?_
        refine V_if_eq hE 51 dX5_breaksAt_41 (by decide) (by omega) (fun h41 => ?_) (fun h41 => ?_)
        · refine V_lconst0 hE dX5_breaksAt_51 ?_
          refine V_lastore hE dX5_breaksAt_52 rfl (by omega) ?_
          refine V_iinc hE dX5_breaksAt_53 rfl rfl ?_
          refine V_goto hE 2 dX5_breaksAt_56 (by decide) ?_
          refine ih _ _ _ (by omega) (by omega) ⟨Fr_up (Fr_up hs2.1 (by decide)) (by decide), hs2.2⟩ ?_
          intro j hj
          rw [up_at, up_ne _ _ _ (by decide : 30 ≠ 31), up_at, up_ne _ _ _ (by decide : 31 ≠ 30)]
          by_cases ej : j = s.toNat
          · rw [if_pos ej, if_pos ej, ej, elo, eup]
            first
              | (exfalso; omega)
              | (have hc : (fh (lnf (σ 20) 1 s) b (σ 111 0) : Int) < σ 111 0 := by omega
                 rw [if_pos hc] at hq
                 have e118 : σ2 118 0 = htU (lnf (σ 20) 1 s) b (σ 111 0) := by rw [hq, up_self]
                 have e119 : σ2 119 0 = htL (lnf (σ 20) 1 s) b (σ 111 0) := by rw [hq, up_ne _ _ _ (by decide : 119 ≠ 118), up_self]
                 rw [up_ne _ _ _ (by decide : 119 ≠ 30), e118, e119]
                 exact ⟨rfl, rfl⟩)
              | (have hc : ¬ (fh (lnf (σ 20) 1 s) b (σ 111 0) : Int) < σ 111 0 := by omega
                 unfold htL htU
                 rw [if_neg hc, if_neg hc]
                 exact ⟨rfl, rfl⟩)
          · rw [if_neg ej, if_neg ej, f30, f31]
            exact hU j (by omega)
        · refine V_aload_n hE dX5_breaksAt_44 rfl ?_
          refine gf_X5_191 hE rfl dX5_breaksAt_45 ?_
          refine V_goto hE 52 dX5_breaksAt_48 (by decide) ?_
          refine V_lastore hE dX5_breaksAt_52 rfl (by omega) ?_
          refine V_iinc hE dX5_breaksAt_53 rfl rfl ?_
          refine V_goto hE 2 dX5_breaksAt_56 (by decide) ?_
          refine ih _ _ _ (by omega) (by omega) ⟨Fr_up (Fr_up hs2.1 (by decide)) (by decide), hs2.2⟩ ?_
          intro j hj
          rw [up_at, up_ne _ _ _ (by decide : 30 ≠ 31), up_at, up_ne _ _ _ (by decide : 31 ≠ 30)]
          by_cases ej : j = s.toNat
          · rw [if_pos ej, if_pos ej, ej, elo, eup]
            first
              | (exfalso; omega)
              | (have hc : (fh (lnf (σ 20) 1 s) b (σ 111 0) : Int) < σ 111 0 := by omega
                 rw [if_pos hc] at hq
                 have e118 : σ2 118 0 = htU (lnf (σ 20) 1 s) b (σ 111 0) := by rw [hq, up_self]
                 have e119 : σ2 119 0 = htL (lnf (σ 20) 1 s) b (σ 111 0) := by rw [hq, up_ne _ _ _ (by decide : 119 ≠ 118), up_self]
                 rw [up_ne _ _ _ (by decide : 119 ≠ 30), e118, e119]
                 exact ⟨rfl, rfl⟩)
              | (have hc : ¬ (fh (lnf (σ 20) 1 s) b (σ 111 0) : Int) < σ 111 0 := by omega
                 unfold htL htU
                 rw [if_neg hc, if_neg hc]
                 exact ⟨rfl, rfl⟩)
          · rw [if_neg ej, if_neg ej, f30, f31]
            exact hU j (by omega)
      · refine V_aload_n hE dX5_breaksAt_26 rfl ?_
        refine gf_X5_195 hE rfl dX5_breaksAt_27 ?_
        refine V_goto hE 34 dX5_breaksAt_30 (by decide) ?_
        refine V_lastore hE dX5_breaksAt_34 rfl (by omega) ?_
        refine V_aload_n hE dX5_breaksAt_35 rfl ?_
        refine gf_X5_58 hE rfl dX5_breaksAt_36 ?_
        refine V_iload_n hE dX5_breaksAt_39 rfl ?_
        refine V_iload_n hE dX5_breaksAt_40 rfl ?_
        refine V_if_eq hE 51 dX5_breaksAt_41 (by decide) (by omega) (fun h41 => ?_) (fun h41 => ?_)
        · refine V_lconst0 hE dX5_breaksAt_51 ?_
          refine V_lastore hE dX5_breaksAt_52 rfl (by omega) ?_
          refine V_iinc hE dX5_breaksAt_53 rfl rfl ?_
          refine V_goto hE 2 dX5_breaksAt_56 (by decide) ?_
          refine ih _ _ _ (by omega) (by omega) ⟨Fr_up (Fr_up hs2.1 (by decide)) (by decide), hs2.2⟩ ?_
          intro j hj
          rw [up_at, up_ne _ _ _ (by decide : 30 ≠ 31), up_at, up_ne _ _ _ (by decide : 31 ≠ 30)]
          by_cases ej : j = s.toNat
          · rw [if_pos ej, if_pos ej, ej, elo, eup]
            first
              | (exfalso; omega)
              | (have hc : (fh (lnf (σ 20) 1 s) b (σ 111 0) : Int) < σ 111 0 := by omega
                 rw [if_pos hc] at hq
                 have e118 : σ2 118 0 = htU (lnf (σ 20) 1 s) b (σ 111 0) := by rw [hq, up_self]
                 have e119 : σ2 119 0 = htL (lnf (σ 20) 1 s) b (σ 111 0) := by rw [hq, up_ne _ _ _ (by decide : 119 ≠ 118), up_self]
                 rw [up_ne _ _ _ (by decide : 119 ≠ 30), e118, e119]
                 exact ⟨rfl, rfl⟩)
              | (have hc : ¬ (fh (lnf (σ 20) 1 s) b (σ 111 0) : Int) < σ 111 0 := by omega
                 unfold htL htU
                 rw [if_neg hc, if_neg hc]
                 exact ⟨rfl, rfl⟩)
          · rw [if_neg ej, if_neg ej, f30, f31]
            exact hU j (by omega)
        · refine V_aload_n hE dX5_breaksAt_44 rfl ?_
          refine gf_X5_191 hE rfl dX5_breaksAt_45 ?_
          refine V_goto hE 52 dX5_breaksAt_48 (by decide) ?_
          refine V_lastore hE dX5_breaksAt_52 rfl (by omega) ?_
          refine V_iinc hE dX5_breaksAt_53 rfl rfl ?_
          refine V_goto hE 2 dX5_breaksAt_56 (by decide) ?_
          refine ih _ _ _ (by omega) (by omega) ⟨Fr_up (Fr_up hs2.1 (by decide)) (by decide), hs2.2⟩ ?_
          intro j hj
          rw [up_at, up_ne _ _ _ (by decide : 30 ≠ 31), up_at, up_ne _ _ _ (by decide : 31 ≠ 30)]
          by_cases ej : j = s.toNat
          · rw [if_pos ej, if_pos ej, ej, elo, eup]
            first
              | (exfalso; omega)
              | (have hc : (fh (lnf (σ 20) 1 s) b (σ 111 0) : Int) < σ 111 0 := by omega
                 rw [if_pos hc] at hq
                 have e118 : σ2 118 0 = htU (lnf (σ 20) 1 s) b (σ 111 0) := by rw [hq, up_self]
                 have e119 : σ2 119 0 = htL (lnf (σ 20) 1 s) b (σ 111 0) := by rw [hq, up_ne _ _ _ (by decide : 119 ≠ 118), up_self]
                 rw [up_ne _ _ _ (by decide : 119 ≠ 30), e118, e119]
                 exact ⟨rfl, rfl⟩)
              | (have hc : ¬ (fh (lnf (σ 20) 1 s) b (σ 111 0) : Int) < σ 111 0 := by omega
                 unfold htL htU
                 rw [if_neg hc, if_neg hc]
                 exact ⟨rfl, rfl⟩)
          · rw [if_neg ej, if_neg ej, f30, f31]
            exact hU j (by omega)
set_option maxRecDepth 100000 in
set_option maxHeartbeats 4000000 in
theorem c_X5_breaksAt {K : Ctx} {σ : Sto} {b : Int} (hI : IM σ) (hb : 1 ≤ b ∧ b ≤ 999) : CtI K mX5_breaksAt 1 [.ref (kA K 19), .int (i32 b)] σ (fun r σ' => r = bkS (σ 20) (σ 110 0) (σ 111 0) (σ 112 0) b ∧ SmM σ σ') := by
  obtain ⟨hS, hW, hB, hRe, hLo, hHi, hO, hPu, hHe, hAt⟩ := id hI
  refine CtI_of (L := [some (.ref (kA K 19)), some (.int (i32 b)), none, none]) (by decide) rfl rfl rfl ?_
  intro E hE hR
  refine V_iconst hE dX5_breaksAt_0 ?_
  refine V_istore_n hE dX5_breaksAt_1 rfl ?_
  refine lp_X5_breaksAt_2 hI hb ?_ hE 100 0 σ _ (by omega) (by omega) (SmM_rf hAt) (fun j hj => by omega)
  intro σ1 x2 x3 hs1 hU1
  refine V_iconst hE dX5_breaksAt_59 ?_
  refine V_istore_n hE dX5_breaksAt_60 rfl ?_
  refine V_iconst hE dX5_breaksAt_61 ?_
  refine V_istore_n hE dX5_breaksAt_62 rfl ?_
  exact lp_X5_breaksAt_63 hI hb hs1 hU1 hE hR 100 0 0 (by omega) (by omega) rfl
theorem bkS_rng (o : Nat → Int) (S W bnd b : Int) (hS : 5 ≤ S ∧ S ≤ 9) : 0 ≤ bkS o S W bnd b ∧ bkS o S W bnd b ≤ 6 := by
  have h := fsum_rng (f := brAt (bkU o W b) (bkL o W b) bnd) (M := 1) (fun i => brAt_rng _ _ _ i) (S - 3).toNat
  unfold bkS
  omega
set_option maxRecDepth 100000 in
set_option maxHeartbeats 4000000 in
theorem c_X5_breaks {K : Ctx} {σ : Sto} {b : Int} (hI : IM σ) (hv : InI b) : CtI K mX5_breaks 2 [.ref (kA K 19), .int (i32 b)] σ (fun r σ' => r = breaksS (σ 20) (σ 110 0) (σ 111 0) (σ 112 0) b ∧ SmM σ σ') := by
  obtain ⟨hS, hW, hB, hRe, hLo, hHi, hO, hPu, hHe, hAt⟩ := id hI
  refine CtI_of (L := [some (.ref (kA K 19)), some (.int (i32 b))]) (by decide) rfl rfl rfl ?_
  intro E hE hR
  refine V_iload_n hE dX5_breaks_0 rfl ?_
  refine cf_X5_198 hE rfl dX5_breaks_1 (c_X5_isBreadth (by omega)) rfl rfl ?_
  refine V_if_eq hE 15 dX5_breaks_4 (by decide) (by omega) (fun h4 => ?_) (fun h4 => ?_)
  · refine V_bipush hE dX5_breaks_15 (by decide) ?_
    refine V_ireturn hR dX5_breaks_17 ?_
    first | exact ⟨by unfold breaksS; exact (if_pos (by omega)).symm, hs1⟩ | exact ⟨by unfold breaksS; exact (if_neg (by omega)).symm, SmM_rf hAt⟩
  · refine V_aload_n hE dX5_breaks_7 rfl ?_
    refine V_iload_n hE dX5_breaks_8 rfl ?_
    refine cl_X5_211 hE rfl dX5_breaks_9 (c_X5_breaksAt hI (by omega)) rfl rfl ?_
    rintro r σ1 ⟨rfl, hs1⟩
    refine V_goto hE 17 dX5_breaks_12 (by decide) ?_
    refine V_ireturn hR dX5_breaks_17 ?_
    first | exact ⟨by unfold breaksS; exact (if_pos (by omega)).symm, hs1⟩ | exact ⟨by unfold breaksS; exact (if_neg (by omega)).symm, SmM_rf hAt⟩
set_option maxRecDepth 100000 in
set_option maxHeartbeats 4000000 in
theorem lp_X5_worst_6 {K : Ctx} {E : ME} {σ : Sto} (hI : IM σ) (hE : Ok K E mX5_worst 2) (hR : RetI K E mX5_worst (fun r σ' => r = (wsA (bkS (σ 20) (σ 110 0) (σ 111 0) (σ 112 0)) 999).1 ∧ SmM σ σ')) : ∀ (n : Nat) (b : Int) (a : Int × Int) (σ1 : Sto) (x4 : Option Value), 1000 - b < n → (1 ≤ b ∧ b ≤ 1000) → (a = wsA (bkS (σ 20) (σ 110 0) (σ 111 0) (σ 112 0)) (b - 1).toNat) → ((0 ≤ a.1 ∧ a.1 ≤ 999) ∧ -1 ≤ a.2 ∧ a.2 ≤ 6) → (SmM σ σ1) → V K E mX5_worst 6 [some (.ref (kA K 19)), some (.int (i32 a.1)), some (.int (i32 a.2)), some (.int (i32 b)), x4] [] σ1 := by
  intro n
  induction n with
  | zero =>
    intro b a σ1 x4 hm hi ha har hs
    exfalso; omega
  | succ n ih =>
    intro b a σ1 x4 hm hi ha har hs
    obtain ⟨hS, hW, hB, hRe, hLo, hHi, hO, hPu, hHe, hAt⟩ := id hI
    have hr := bkS_rng (σ 20) (σ 110 0) (σ 111 0) (σ 112 0) b hS
    refine V_iload_n hE dX5_worst_6 rfl ?_
    refine V_sipush hE dX5_worst_7 (by decide) ?_
    refine V_icmp_gt hE 51 dX5_worst_10 (by decide) (by omega) (fun h10 => ?_) (fun h10 => ?_)
    · refine V_iload_n hE dX5_worst_51 rfl ?_
      refine V_ireturn hR dX5_worst_52 ?_
      have eb : b = 1000 := by omega
      exact ⟨by rw [ha, eb]; rfl, hs⟩
    · refine V_aload_n hE dX5_worst_13 rfl ?_
      refine V_iload_n hE dX5_worst_14 rfl ?_
      refine cl_X5_211 hE rfl dX5_worst_15 (c_X5_breaksAt (IM_sm hI hs) (by omega)) rfl rfl ?_
      rintro r σ2 ⟨hr2, hs2⟩
      have hs3 := SmM_tr hs hs2
      rw [hs.1 20 (by decide), hs.1 110 (by decide), hs.1 111 (by decide), hs.1 112 (by decide)] at hr2
      subst hr2
      refine V_istore hE dX5_worst_18 rfl ?_
      refine V_iload hE dX5_worst_20 rfl ?_
      refine V_iload_n hE dX5_worst_22 rfl ?_
      refine V_icmp_le hE 30 dX5_worst_23 (by decide) (by omega) (fun h23 => ?_) (fun h23 => ?_)
      · refine V_iload_n hE dX5_worst_30 rfl ?_
        refine V_istore_n hE dX5_worst_31 rfl ?_
        refine V_iload hE dX5_worst_32 rfl ?_
        refine V_iload_n hE dX5_worst_34 rfl ?_
        refine V_icmp_le hE 43 dX5_worst_35 (by decide) (by omega) (fun h35 => ?_) (fun h35 => ?_)
        · refine V_iload_n hE dX5_worst_43 rfl ?_
          refine V_istore_n hE dX5_worst_44 rfl ?_
          refine V_iinc hE dX5_worst_45 rfl rfl ?_
          refine V_goto hE 6 dX5_worst_48 (by decide) ?_
          first
            | (exfalso; omega)
            | (refine ih _ a _ _ (by omega) (by omega) ?_ har hs3
               rw [wsA_step _ (by omega), ← ha, if_neg (by omega)])
            | (refine ih _ (_, _) _ _ (by omega) (by omega) ?_ ?_ hs3
               · rw [wsA_step _ (by omega), ← ha, if_pos (by omega)]; rfl
               · exact ⟨⟨show 0 ≤ b by omega, show b ≤ 999 by omega⟩, show -1 ≤ (bkS (σ 20) (σ 110 0) (σ 111 0) (σ 112 0)) b by omega, show (bkS (σ 20) (σ 110 0) (σ 111 0) (σ 112 0)) b ≤ 6 by omega⟩)
        · refine V_iload hE dX5_worst_38 rfl ?_
          refine V_goto hE 44 dX5_worst_40 (by decide) ?_
          refine V_istore_n hE dX5_worst_44 rfl ?_
          refine V_iinc hE dX5_worst_45 rfl rfl ?_
          refine V_goto hE 6 dX5_worst_48 (by decide) ?_
          first
            | (exfalso; omega)
            | (refine ih _ a _ _ (by omega) (by omega) ?_ har hs3
               rw [wsA_step _ (by omega), ← ha, if_neg (by omega)])
            | (refine ih _ (_, _) _ _ (by omega) (by omega) ?_ ?_ hs3
               · rw [wsA_step _ (by omega), ← ha, if_pos (by omega)]; rfl
               · exact ⟨⟨show 0 ≤ b by omega, show b ≤ 999 by omega⟩, show -1 ≤ (bkS (σ 20) (σ 110 0) (σ 111 0) (σ 112 0)) b by omega, show (bkS (σ 20) (σ 110 0) (σ 111 0) (σ 112 0)) b ≤ 6 by omega⟩)
      · refine V_iload_n hE dX5_worst_26 rfl ?_
        refine V_goto hE 31 dX5_worst_27 (by decide) ?_
        refine V_istore_n hE dX5_worst_31 rfl ?_
        refine V_iload hE dX5_worst_32 rfl ?_
        refine V_iload_n hE dX5_worst_34 rfl ?_
        refine V_icmp_le hE 43 dX5_worst_35 (by decide) (by omega) (fun h35 => ?_) (fun h35 => ?_)
        · refine V_iload_n hE dX5_worst_43 rfl ?_
          refine V_istore_n hE dX5_worst_44 rfl ?_
          refine V_iinc hE dX5_worst_45 rfl rfl ?_
          refine V_goto hE 6 dX5_worst_48 (by decide) ?_
          first
            | (exfalso; omega)
            | (refine ih _ a _ _ (by omega) (by omega) ?_ har hs3
               rw [wsA_step _ (by omega), ← ha, if_neg (by omega)])
            | (refine ih _ (_, _) _ _ (by omega) (by omega) ?_ ?_ hs3
               · rw [wsA_step _ (by omega), ← ha, if_pos (by omega)]; rfl
               · exact ⟨⟨show 0 ≤ b by omega, show b ≤ 999 by omega⟩, show -1 ≤ (bkS (σ 20) (σ 110 0) (σ 111 0) (σ 112 0)) b by omega, show (bkS (σ 20) (σ 110 0) (σ 111 0) (σ 112 0)) b ≤ 6 by omega⟩)
        · refine V_iload hE dX5_worst_38 rfl ?_
          refine V_goto hE 44 dX5_worst_40 (by decide) ?_
          refine V_istore_n hE dX5_worst_44 rfl ?_
          refine V_iinc hE dX5_worst_45 rfl rfl ?_
          refine V_goto hE 6 dX5_worst_48 (by decide) ?_
          first
            | (exfalso; omega)
            | (refine ih _ a _ _ (by omega) (by omega) ?_ har hs3
               rw [wsA_step _ (by omega), ← ha, if_neg (by omega)])
            | (refine ih _ (_, _) _ _ (by omega) (by omega) ?_ ?_ hs3
               · rw [wsA_step _ (by omega), ← ha, if_pos (by omega)]; rfl
               · exact ⟨⟨show 0 ≤ b by omega, show b ≤ 999 by omega⟩, show -1 ≤ (bkS (σ 20) (σ 110 0) (σ 111 0) (σ 112 0)) b by omega, show (bkS (σ 20) (σ 110 0) (σ 111 0) (σ 112 0)) b ≤ 6 by omega⟩)
set_option maxRecDepth 100000 in
set_option maxHeartbeats 4000000 in
theorem c_X5_worst {K : Ctx} {σ : Sto} (hI : IM σ) : CtI K mX5_worst 2 [.ref (kA K 19)] σ (fun r σ' => r = (wsA (bkS (σ 20) (σ 110 0) (σ 111 0) (σ 112 0)) 999).1 ∧ SmM σ σ') := by
  refine CtI_of (L := [some (.ref (kA K 19)), none, none, none, none]) (by decide) rfl rfl rfl ?_
  intro E hE hR
  refine V_iconst hE dX5_worst_0 ?_
  refine V_istore_n hE dX5_worst_1 rfl ?_
  refine V_iconst hE dX5_worst_2 ?_
  refine V_istore_n hE dX5_worst_3 rfl ?_
  refine V_iconst hE dX5_worst_4 ?_
  refine V_istore_n hE dX5_worst_5 rfl ?_
  exact lp_X5_worst_6 hI hE hR 1000 1 (0, -1) σ _ (by omega) (by omega) rfl ⟨⟨by decide, by decide⟩, by decide, by decide⟩ (SmM_rf (IM_at hI))
