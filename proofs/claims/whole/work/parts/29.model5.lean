set_option maxRecDepth 100000 in
set_option maxHeartbeats 4000000 in
theorem lp_X5_findHeight_2 {K : Ctx} {E : ME} {σ : Sto} {s b : Int} (hI : IM σ) (hs : 0 ≤ s ∧ s < σ 110 0) (hb : 1 ≤ b ∧ b ≤ 999) (hE : Ok K E mX5_findHeight 0) (hR : RetZ K E mX5_findHeight (fun r σ' => r = (if (fh (lnf (σ 20) 1 s) b (σ 111 0) : Int) < σ 111 0 then 1 else 0) ∧ σ' = (if (fh (lnf (σ 20) 1 s) b (σ 111 0) : Int) < σ 111 0 then up (up σ 119 0 (htL (lnf (σ 20) 1 s) b (σ 111 0))) 118 0 (htU (lnf (σ 20) 1 s) b (σ 111 0)) else σ))) : ∀ (n : Nat) (i : Int) (x4 x5 : Option Value), σ 111 0 - i < n → (0 ≤ i ∧ i ≤ σ 111 0) → (fh (lnf (σ 20) 1 s) b (σ 111 0) = fhA (lnf (σ 20) 1 s) b (σ 111 0 - i).toNat i.toNat) → V K E mX5_findHeight 2 [some (.ref (kA K 19)), some (.int (i32 s)), some (.int (i32 b)), some (.int (i32 i)), x4, x5] [] σ := by
  intro n
  induction n with
  | zero =>
    intro i x4 x5 hm hi hf
    exfalso; omega
  | succ n ih =>
    intro i x4 x5 hm hi hf
    obtain ⟨hS, hW, hB, hRe, hLo, hHi, hO, hPu, hHe, hAt⟩ := id hI
    have h9 := hO (7 * s + i).toNat
    have h8 := hO (7 * s + i - 1).toNat
    refine V_iload_n hE dX5_findHeight_2 rfl ?_
    refine V_aload_n hE dX5_findHeight_3 rfl ?_
    refine gf_X5_64 hE rfl dX5_findHeight_4 ?_
    refine V_icmp_ge hE 106 dX5_findHeight_7 (by decide) (by omega) (fun h7 => ?_) (fun h7 => ?_)
    · refine V_iconst hE dX5_findHeight_106 ?_
      refine V_zreturn hR dX5_findHeight_107 (by omega) ?_
      have ei : i = σ 111 0 := by omega
      have ef : (fh (lnf (σ 20) 1 s) b (σ 111 0) : Int) = σ 111 0 := by rw [hf, ei]; simp [fhA]; omega
      exact ⟨by rw [if_neg (by omega)], by rw [if_neg (by omega)]⟩
    · refine V_aload_n hE dX5_findHeight_10 rfl ?_
      refine gf_X5_22 hE rfl dX5_findHeight_11 ?_
      refine V_bipush hE dX5_findHeight_14 (by decide) ?_
      refine V_iload_n hE dX5_findHeight_16 rfl ?_
      refine V_imul hE dX5_findHeight_17 ?_
      refine V_iload_n hE dX5_findHeight_18 rfl ?_
      refine V_iadd hE dX5_findHeight_19 ?_
      refine V_iaload hE dX5_findHeight_20 rfl (by omega) ?_
      refine V_istore hE dX5_findHeight_21 rfl ?_
      refine V_iload hE dX5_findHeight_23 rfl ?_
      refine V_iload_n hE dX5_findHeight_25 rfl ?_
      refine V_icmp_lt hE 100 dX5_findHeight_26 (by decide) (by omega) (fun h26 => ?_) (fun h26 => ?_)
      · refine V_iinc hE dX5_findHeight_100 rfl rfl ?_
        refine V_goto hE 2 dX5_findHeight_103 (by decide) ?_
        refine ih _ _ _ (by omega) (by omega) ?_
        have em : (σ 111 0 - i).toNat = (σ 111 0 - (i + 1)).toNat + 1 := by omega
        have eg : (lnf (σ 20) 1 s) i.toNat = σ 20 (7 * s + i).toNat := by unfold lnf pt; rw [if_neg (by decide), show ((i.toNat : Nat) : Int) = i by omega]
        rw [hf, em, fhA, if_neg (by rw [eg]; omega), show (i + 1).toNat = i.toNat + 1 by omega]
      · refine V_iload_n hE dX5_findHeight_29 rfl ?_
        refine V_if_ne hE 37 dX5_findHeight_30 (by decide) (by omega) (fun h30 => ?_) (fun h30 => ?_)
        · refine V_aload_n hE dX5_findHeight_37 rfl ?_
          refine gf_X5_22 hE rfl dX5_findHeight_38 ?_
          refine V_bipush hE dX5_findHeight_41 (by decide) ?_
          refine V_iload_n hE dX5_findHeight_43 rfl ?_
          refine V_imul hE dX5_findHeight_44 ?_
          refine V_iload_n hE dX5_findHeight_45 rfl ?_
          refine V_iadd hE dX5_findHeight_46 ?_
          refine V_iconst hE dX5_findHeight_47 ?_
          refine V_isub hE dX5_findHeight_48 ?_
          refine V_iaload hE dX5_findHeight_49 rfl (by omega) ?_
          refine V_istore hE dX5_findHeight_50 rfl ?_
          refine V_aload_n hE dX5_findHeight_52 rfl ?_
          refine V_iload_n hE dX5_findHeight_53 rfl ?_
          refine V_if_ne hE 61 dX5_findHeight_54 (by decide) (by omega) (fun h54 => ?_) (fun h54 => ?_)
          · refine V_iload hE dX5_findHeight_61 rfl ?_
            refine V_iload hE dX5_findHeight_63 rfl ?_
            refine V_isub hE dX5_findHeight_65 ?_
            refine V_i2l hE dX5_findHeight_66 (by omega) ?_
            refine pf_X5_191 hE rfl dX5_findHeight_67 ?_
            refine V_aload_n hE dX5_findHeight_70 rfl ?_
            refine V_iload_n hE dX5_findHeight_71 rfl ?_
            refine V_if_ne hE 79 dX5_findHeight_72 (by decide) (by omega) (fun h72 => ?_) (fun h72 => ?_)
            · refine V_iload_n hE dX5_findHeight_79 rfl ?_
              refine V_i2l hE dX5_findHeight_80 (by omega) ?_
              refine V_lconst1 hE dX5_findHeight_81 ?_
              refine V_lsub hE dX5_findHeight_82 ?_
              refine V_aload_n hE dX5_findHeight_83 rfl ?_
              refine gf_X5_191 hE rfl dX5_findHeight_84 ?_
              refine V_lmul hE dX5_findHeight_87 ?_
              refine V_iload_n hE dX5_findHeight_88 rfl ?_
              refine V_i2l hE dX5_findHeight_89 (by omega) ?_
              refine V_ladd hE dX5_findHeight_90 ?_
              refine V_iload hE dX5_findHeight_91 rfl ?_
              refine V_i2l hE dX5_findHeight_93 (by omega) ?_
              refine V_lsub hE dX5_findHeight_94 ?_
              refine pf_X5_195 hE rfl dX5_findHeight_95 ?_
              refine V_iconst hE dX5_findHeight_98 ?_
              refine V_zreturn hR dX5_findHeight_99 (by omega) ?_
              have em : (σ 111 0 - i).toNat = (σ 111 0 - i - 1).toNat + 1 := by omega
              have eg : (lnf (σ 20) 1 s) i.toNat = σ 20 (7 * s + i).toNat := by unfold lnf pt; rw [if_neg (by decide), show ((i.toNat : Nat) : Int) = i by omega]
              have ef : fh (lnf (σ 20) 1 s) b (σ 111 0) = i.toNat := by rw [hf, em, fhA, if_pos (by rw [eg]; omega)]
              have elo : htL (lnf (σ 20) 1 s) b (σ 111 0) = (if i.toNat = 0 then 1 else (lnf (σ 20) 1 s) i.toNat - (lnf (σ 20) 1 s) (i.toNat - 1)) := by unfold htL; rw [ef]; exact if_pos (by omega)
              have eup : htU (lnf (σ 20) 1 s) b (σ 111 0) = (if i.toNat = 0 then 0 else ((i.toNat : Int) - 1) * htL (lnf (σ 20) 1 s) b (σ 111 0) + b - (lnf (σ 20) 1 s) (i.toNat - 1)) := by unfold htU; rw [ef]; exact if_pos (by omega)
              refine ⟨by rw [ef]; exact (if_pos (by omega)).symm, ?_⟩
              rw [ef, if_pos (by omega)]
              first
                | (exfalso; omega)
                | (have e0 : i = 0 := by assumption
                   subst e0
                   rw [eup, elo]
                   rfl)
                | (have eg1 : (lnf (σ 20) 1 s) (i.toNat - 1) = σ 20 (7 * s + i - 1).toNat := by unfold lnf pt; rw [if_neg (by decide), show ((i.toNat - 1 : Nat) : Int) = i - 1 by omega, show 7 * s + (i - 1) = 7 * s + i - 1 by omega]
                   rw [if_neg (by omega)] at elo eup
                   rw [eg, eg1] at elo
                   rw [eg1, show ((i.toNat : Nat) : Int) = i by omega] at eup
                   rw [eup, elo, up_self])
            · refine V_lconst0 hE dX5_findHeight_75 ?_
              refine V_goto hE 95 dX5_findHeight_76 (by decide) ?_
              refine pf_X5_195 hE rfl dX5_findHeight_95 ?_
              refine V_iconst hE dX5_findHeight_98 ?_
              refine V_zreturn hR dX5_findHeight_99 (by omega) ?_
              have em : (σ 111 0 - i).toNat = (σ 111 0 - i - 1).toNat + 1 := by omega
              have eg : (lnf (σ 20) 1 s) i.toNat = σ 20 (7 * s + i).toNat := by unfold lnf pt; rw [if_neg (by decide), show ((i.toNat : Nat) : Int) = i by omega]
              have ef : fh (lnf (σ 20) 1 s) b (σ 111 0) = i.toNat := by rw [hf, em, fhA, if_pos (by rw [eg]; omega)]
              have elo : htL (lnf (σ 20) 1 s) b (σ 111 0) = (if i.toNat = 0 then 1 else (lnf (σ 20) 1 s) i.toNat - (lnf (σ 20) 1 s) (i.toNat - 1)) := by unfold htL; rw [ef]; exact if_pos (by omega)
              have eup : htU (lnf (σ 20) 1 s) b (σ 111 0) = (if i.toNat = 0 then 0 else ((i.toNat : Int) - 1) * htL (lnf (σ 20) 1 s) b (σ 111 0) + b - (lnf (σ 20) 1 s) (i.toNat - 1)) := by unfold htU; rw [ef]; exact if_pos (by omega)
              refine ⟨by rw [ef]; exact (if_pos (by omega)).symm, ?_⟩
              rw [ef, if_pos (by omega)]
              first
                | (exfalso; omega)
                | (have e0 : i = 0 := by assumption
                   subst e0
                   rw [eup, elo]
                   rfl)
                | (have eg1 : (lnf (σ 20) 1 s) (i.toNat - 1) = σ 20 (7 * s + i - 1).toNat := by unfold lnf pt; rw [if_neg (by decide), show ((i.toNat - 1 : Nat) : Int) = i - 1 by omega, show 7 * s + (i - 1) = 7 * s + i - 1 by omega]
                   rw [if_neg (by omega)] at elo eup
                   rw [eg, eg1] at elo
                   rw [eg1, show ((i.toNat : Nat) : Int) = i by omega] at eup
                   rw [eup, elo, up_self])
          · refine V_lconst1 hE dX5_findHeight_57 ?_
            refine V_goto hE 67 dX5_findHeight_58 (by decide) ?_
            refine pf_X5_191 hE rfl dX5_findHeight_67 ?_
            refine V_aload_n hE dX5_findHeight_70 rfl ?_
            refine V_iload_n hE dX5_findHeight_71 rfl ?_
            refine V_if_ne hE 79 dX5_findHeight_72 (by decide) (by omega) (fun h72 => ?_) (fun h72 => ?_)
            · refine V_iload_n hE dX5_findHeight_79 rfl ?_
              refine V_i2l hE dX5_findHeight_80 (by omega) ?_
              refine V_lconst1 hE dX5_findHeight_81 ?_
              refine V_lsub hE dX5_findHeight_82 ?_
              refine V_aload_n hE dX5_findHeight_83 rfl ?_
              refine gf_X5_191 hE rfl dX5_findHeight_84 ?_
              refine V_lmul hE dX5_findHeight_87 ?_
              refine V_iload_n hE dX5_findHeight_88 rfl ?_
              refine V_i2l hE dX5_findHeight_89 (by omega) ?_
              refine V_ladd hE dX5_findHeight_90 ?_
              refine V_iload hE dX5_findHeight_91 rfl ?_
              refine V_i2l hE dX5_findHeight_93 (by omega) ?_
              refine V_lsub hE dX5_findHeight_94 ?_
              refine pf_X5_195 hE rfl dX5_findHeight_95 ?_
              refine V_iconst hE dX5_findHeight_98 ?_
              refine V_zreturn hR dX5_findHeight_99 (by omega) ?_
              have em : (σ 111 0 - i).toNat = (σ 111 0 - i - 1).toNat + 1 := by omega
              have eg : (lnf (σ 20) 1 s) i.toNat = σ 20 (7 * s + i).toNat := by unfold lnf pt; rw [if_neg (by decide), show ((i.toNat : Nat) : Int) = i by omega]
              have ef : fh (lnf (σ 20) 1 s) b (σ 111 0) = i.toNat := by rw [hf, em, fhA, if_pos (by rw [eg]; omega)]
              have elo : htL (lnf (σ 20) 1 s) b (σ 111 0) = (if i.toNat = 0 then 1 else (lnf (σ 20) 1 s) i.toNat - (lnf (σ 20) 1 s) (i.toNat - 1)) := by unfold htL; rw [ef]; exact if_pos (by omega)
              have eup : htU (lnf (σ 20) 1 s) b (σ 111 0) = (if i.toNat = 0 then 0 else ((i.toNat : Int) - 1) * htL (lnf (σ 20) 1 s) b (σ 111 0) + b - (lnf (σ 20) 1 s) (i.toNat - 1)) := by unfold htU; rw [ef]; exact if_pos (by omega)
              refine ⟨by rw [ef]; exact (if_pos (by omega)).symm, ?_⟩
              rw [ef, if_pos (by omega)]
              first
                | (exfalso; omega)
                | (have e0 : i = 0 := by assumption
                   subst e0
                   rw [eup, elo]
                   rfl)
                | (have eg1 : (lnf (σ 20) 1 s) (i.toNat - 1) = σ 20 (7 * s + i - 1).toNat := by unfold lnf pt; rw [if_neg (by decide), show ((i.toNat - 1 : Nat) : Int) = i - 1 by omega, show 7 * s + (i - 1) = 7 * s + i - 1 by omega]
                   rw [if_neg (by omega)] at elo eup
                   rw [eg, eg1] at elo
                   rw [eg1, show ((i.toNat : Nat) : Int) = i by omega] at eup
                   rw [eup, elo, up_self])
            · refine V_lconst0 hE dX5_findHeight_75 ?_
              refine V_goto hE 95 dX5_findHeight_76 (by decide) ?_
              refine pf_X5_195 hE rfl dX5_findHeight_95 ?_
              refine V_iconst hE dX5_findHeight_98 ?_
              refine V_zreturn hR dX5_findHeight_99 (by omega) ?_
              have em : (σ 111 0 - i).toNat = (σ 111 0 - i - 1).toNat + 1 := by omega
              have eg : (lnf (σ 20) 1 s) i.toNat = σ 20 (7 * s + i).toNat := by unfold lnf pt; rw [if_neg (by decide), show ((i.toNat : Nat) : Int) = i by omega]
              have ef : fh (lnf (σ 20) 1 s) b (σ 111 0) = i.toNat := by rw [hf, em, fhA, if_pos (by rw [eg]; omega)]
              have elo : htL (lnf (σ 20) 1 s) b (σ 111 0) = (if i.toNat = 0 then 1 else (lnf (σ 20) 1 s) i.toNat - (lnf (σ 20) 1 s) (i.toNat - 1)) := by unfold htL; rw [ef]; exact if_pos (by omega)
              have eup : htU (lnf (σ 20) 1 s) b (σ 111 0) = (if i.toNat = 0 then 0 else ((i.toNat : Int) - 1) * htL (lnf (σ 20) 1 s) b (σ 111 0) + b - (lnf (σ 20) 1 s) (i.toNat - 1)) := by unfold htU; rw [ef]; exact if_pos (by omega)
              refine ⟨by rw [ef]; exact (if_pos (by omega)).symm, ?_⟩
              rw [ef, if_pos (by omega)]
              first
                | (exfalso; omega)
                | (have e0 : i = 0 := by assumption
                   subst e0
                   rw [eup, elo]
                   rfl)
                | (have eg1 : (lnf (σ 20) 1 s) (i.toNat - 1) = σ 20 (7 * s + i - 1).toNat := by unfold lnf pt; rw [if_neg (by decide), show ((i.toNat - 1 : Nat) : Int) = i - 1 by omega, show 7 * s + (i - 1) = 7 * s + i - 1 by omega]
                   rw [if_neg (by omega)] at elo eup
                   rw [eg, eg1] at elo
                   rw [eg1, show ((i.toNat : Nat) : Int) = i by omega] at eup
                   rw [eup, elo, up_self])
        · refine V_iconst hE dX5_findHeight_33 ?_
          refine V_goto hE 50 dX5_findHeight_34 (by decide) ?_
          refine V_istore hE dX5_findHeight_50 rfl ?_
          refine V_aload_n hE dX5_findHeight_52 rfl ?_
          refine V_iload_n hE dX5_findHeight_53 rfl ?_
          refine V_if_ne hE 61 dX5_findHeight_54 (by decide) (by omega) (fun h54 => ?_) (fun h54 => ?_)
          · refine V_iload hE dX5_findHeight_61 rfl ?_
            refine V_iload hE dX5_findHeight_63 rfl ?_
            refine V_isub hE dX5_findHeight_65 ?_
            refine V_i2l hE dX5_findHeight_66 (by omega) ?_
            refine pf_X5_191 hE rfl dX5_findHeight_67 ?_
            refine V_aload_n hE dX5_findHeight_70 rfl ?_
            refine V_iload_n hE dX5_findHeight_71 rfl ?_
            refine V_if_ne hE 79 dX5_findHeight_72 (by decide) (by omega) (fun h72 => ?_) (fun h72 => ?_)
            · refine V_iload_n hE dX5_findHeight_79 rfl ?_
              refine V_i2l hE dX5_findHeight_80 (by omega) ?_
              refine V_lconst1 hE dX5_findHeight_81 ?_
              refine V_lsub hE dX5_findHeight_82 ?_
              refine V_aload_n hE dX5_findHeight_83 rfl ?_
              refine gf_X5_191 hE rfl dX5_findHeight_84 ?_
              refine V_lmul hE dX5_findHeight_87 ?_
              refine V_iload_n hE dX5_findHeight_88 rfl ?_
              refine V_i2l hE dX5_findHeight_89 (by omega) ?_
              refine V_ladd hE dX5_findHeight_90 ?_
              refine V_iload hE dX5_findHeight_91 rfl ?_
              refine V_i2l hE dX5_findHeight_93 (by omega) ?_
              refine V_lsub hE dX5_findHeight_94 ?_
              refine pf_X5_195 hE rfl dX5_findHeight_95 ?_
              refine V_iconst hE dX5_findHeight_98 ?_
              refine V_zreturn hR dX5_findHeight_99 (by omega) ?_
              have em : (σ 111 0 - i).toNat = (σ 111 0 - i - 1).toNat + 1 := by omega
              have eg : (lnf (σ 20) 1 s) i.toNat = σ 20 (7 * s + i).toNat := by unfold lnf pt; rw [if_neg (by decide), show ((i.toNat : Nat) : Int) = i by omega]
              have ef : fh (lnf (σ 20) 1 s) b (σ 111 0) = i.toNat := by rw [hf, em, fhA, if_pos (by rw [eg]; omega)]
              have elo : htL (lnf (σ 20) 1 s) b (σ 111 0) = (if i.toNat = 0 then 1 else (lnf (σ 20) 1 s) i.toNat - (lnf (σ 20) 1 s) (i.toNat - 1)) := by unfold htL; rw [ef]; exact if_pos (by omega)
              have eup : htU (lnf (σ 20) 1 s) b (σ 111 0) = (if i.toNat = 0 then 0 else ((i.toNat : Int) - 1) * htL (lnf (σ 20) 1 s) b (σ 111 0) + b - (lnf (σ 20) 1 s) (i.toNat - 1)) := by unfold htU; rw [ef]; exact if_pos (by omega)
              refine ⟨by rw [ef]; exact (if_pos (by omega)).symm, ?_⟩
              rw [ef, if_pos (by omega)]
              first
                | (exfalso; omega)
                | (have e0 : i = 0 := by assumption
                   subst e0
                   rw [eup, elo]
                   rfl)
                | (have eg1 : (lnf (σ 20) 1 s) (i.toNat - 1) = σ 20 (7 * s + i - 1).toNat := by unfold lnf pt; rw [if_neg (by decide), show ((i.toNat - 1 : Nat) : Int) = i - 1 by omega, show 7 * s + (i - 1) = 7 * s + i - 1 by omega]
                   rw [if_neg (by omega)] at elo eup
                   rw [eg, eg1] at elo
                   rw [eg1, show ((i.toNat : Nat) : Int) = i by omega] at eup
                   rw [eup, elo, up_self])
            · refine V_lconst0 hE dX5_findHeight_75 ?_
              refine V_goto hE 95 dX5_findHeight_76 (by decide) ?_
              refine pf_X5_195 hE rfl dX5_findHeight_95 ?_
              refine V_iconst hE dX5_findHeight_98 ?_
              refine V_zreturn hR dX5_findHeight_99 (by omega) ?_
              have em : (σ 111 0 - i).toNat = (σ 111 0 - i - 1).toNat + 1 := by omega
              have eg : (lnf (σ 20) 1 s) i.toNat = σ 20 (7 * s + i).toNat := by unfold lnf pt; rw [if_neg (by decide), show ((i.toNat : Nat) : Int) = i by omega]
              have ef : fh (lnf (σ 20) 1 s) b (σ 111 0) = i.toNat := by rw [hf, em, fhA, if_pos (by rw [eg]; omega)]
              have elo : htL (lnf (σ 20) 1 s) b (σ 111 0) = (if i.toNat = 0 then 1 else (lnf (σ 20) 1 s) i.toNat - (lnf (σ 20) 1 s) (i.toNat - 1)) := by unfold htL; rw [ef]; exact if_pos (by omega)
              have eup : htU (lnf (σ 20) 1 s) b (σ 111 0) = (if i.toNat = 0 then 0 else ((i.toNat : Int) - 1) * htL (lnf (σ 20) 1 s) b (σ 111 0) + b - (lnf (σ 20) 1 s) (i.toNat - 1)) := by unfold htU; rw [ef]; exact if_pos (by omega)
              refine ⟨by rw [ef]; exact (if_pos (by omega)).symm, ?_⟩
              rw [ef, if_pos (by omega)]
              first
                | (exfalso; omega)
                | (have e0 : i = 0 := by assumption
                   subst e0
                   rw [eup, elo]
                   rfl)
                | (have eg1 : (lnf (σ 20) 1 s) (i.toNat - 1) = σ 20 (7 * s + i - 1).toNat := by unfold lnf pt; rw [if_neg (by decide), show ((i.toNat - 1 : Nat) : Int) = i - 1 by omega, show 7 * s + (i - 1) = 7 * s + i - 1 by omega]
                   rw [if_neg (by omega)] at elo eup
                   rw [eg, eg1] at elo
                   rw [eg1, show ((i.toNat : Nat) : Int) = i by omega] at eup
                   rw [eup, elo, up_self])
          · refine V_lconst1 hE dX5_findHeight_57 ?_
            refine V_goto hE 67 dX5_findHeight_58 (by decide) ?_
            refine pf_X5_191 hE rfl dX5_findHeight_67 ?_
            refine V_aload_n hE dX5_findHeight_70 rfl ?_
            refine V_iload_n hE dX5_findHeight_71 rfl ?_
            refine V_if_ne hE 79 dX5_findHeight_72 (by decide) (by omega) (fun h72 => ?_) (fun h72 => ?_)
            · refine V_iload_n hE dX5_findHeight_79 rfl ?_
              refine V_i2l hE dX5_findHeight_80 (by omega) ?_
              refine V_lconst1 hE dX5_findHeight_81 ?_
              refine V_lsub hE dX5_findHeight_82 ?_
              refine V_aload_n hE dX5_findHeight_83 rfl ?_
              refine gf_X5_191 hE rfl dX5_findHeight_84 ?_
              refine V_lmul hE dX5_findHeight_87 ?_
              refine V_iload_n hE dX5_findHeight_88 rfl ?_
              refine V_i2l hE dX5_findHeight_89 (by omega) ?_
              refine V_ladd hE dX5_findHeight_90 ?_
              refine V_iload hE dX5_findHeight_91 rfl ?_
              refine V_i2l hE dX5_findHeight_93 (by omega) ?_
              refine V_lsub hE dX5_findHeight_94 ?_
              refine pf_X5_195 hE rfl dX5_findHeight_95 ?_
              refine V_iconst hE dX5_findHeight_98 ?_
              refine V_zreturn hR dX5_findHeight_99 (by omega) ?_
              have em : (σ 111 0 - i).toNat = (σ 111 0 - i - 1).toNat + 1 := by omega
              have eg : (lnf (σ 20) 1 s) i.toNat = σ 20 (7 * s + i).toNat := by unfold lnf pt; rw [if_neg (by decide), show ((i.toNat : Nat) : Int) = i by omega]
              have ef : fh (lnf (σ 20) 1 s) b (σ 111 0) = i.toNat := by rw [hf, em, fhA, if_pos (by rw [eg]; omega)]
              have elo : htL (lnf (σ 20) 1 s) b (σ 111 0) = (if i.toNat = 0 then 1 else (lnf (σ 20) 1 s) i.toNat - (lnf (σ 20) 1 s) (i.toNat - 1)) := by unfold htL; rw [ef]; exact if_pos (by omega)
              have eup : htU (lnf (σ 20) 1 s) b (σ 111 0) = (if i.toNat = 0 then 0 else ((i.toNat : Int) - 1) * htL (lnf (σ 20) 1 s) b (σ 111 0) + b - (lnf (σ 20) 1 s) (i.toNat - 1)) := by unfold htU; rw [ef]; exact if_pos (by omega)
              refine ⟨by rw [ef]; exact (if_pos (by omega)).symm, ?_⟩
              rw [ef, if_pos (by omega)]
              first
                | (exfalso; omega)
                | (have e0 : i = 0 := by assumption
                   subst e0
                   rw [eup, elo]
                   rfl)
                | (have eg1 : (lnf (σ 20) 1 s) (i.toNat - 1) = σ 20 (7 * s + i - 1).toNat := by unfold lnf pt; rw [if_neg (by decide), show ((i.toNat - 1 : Nat) : Int) = i - 1 by omega, show 7 * s + (i - 1) = 7 * s + i - 1 by omega]
                   rw [if_neg (by omega)] at elo eup
                   rw [eg, eg1] at elo
                   rw [eg1, show ((i.toNat : Nat) : Int) = i by omega] at eup
                   rw [eup, elo, up_self])
            · refine V_lconst0 hE dX5_findHeight_75 ?_
              refine V_goto hE 95 dX5_findHeight_76 (by decide) ?_
              refine pf_X5_195 hE rfl dX5_findHeight_95 ?_
              refine V_iconst hE dX5_findHeight_98 ?_
              refine V_zreturn hR dX5_findHeight_99 (by omega) ?_
              have em : (σ 111 0 - i).toNat = (σ 111 0 - i - 1).toNat + 1 := by omega
              have eg : (lnf (σ 20) 1 s) i.toNat = σ 20 (7 * s + i).toNat := by unfold lnf pt; rw [if_neg (by decide), show ((i.toNat : Nat) : Int) = i by omega]
              have ef : fh (lnf (σ 20) 1 s) b (σ 111 0) = i.toNat := by rw [hf, em, fhA, if_pos (by rw [eg]; omega)]
              have elo : htL (lnf (σ 20) 1 s) b (σ 111 0) = (if i.toNat = 0 then 1 else (lnf (σ 20) 1 s) i.toNat - (lnf (σ 20) 1 s) (i.toNat - 1)) := by unfold htL; rw [ef]; exact if_pos (by omega)
              have eup : htU (lnf (σ 20) 1 s) b (σ 111 0) = (if i.toNat = 0 then 0 else ((i.toNat : Int) - 1) * htL (lnf (σ 20) 1 s) b (σ 111 0) + b - (lnf (σ 20) 1 s) (i.toNat - 1)) := by unfold htU; rw [ef]; exact if_pos (by omega)
              refine ⟨by rw [ef]; exact (if_pos (by omega)).symm, ?_⟩
              rw [ef, if_pos (by omega)]
              first
                | (exfalso; omega)
                | (have e0 : i = 0 := by assumption
                   subst e0
                   rw [eup, elo]
                   rfl)
                | (have eg1 : (lnf (σ 20) 1 s) (i.toNat - 1) = σ 20 (7 * s + i - 1).toNat := by unfold lnf pt; rw [if_neg (by decide), show ((i.toNat - 1 : Nat) : Int) = i - 1 by omega, show 7 * s + (i - 1) = 7 * s + i - 1 by omega]
                   rw [if_neg (by omega)] at elo eup
                   rw [eg, eg1] at elo
                   rw [eg1, show ((i.toNat : Nat) : Int) = i by omega] at eup
                   rw [eup, elo, up_self])
set_option maxRecDepth 100000 in
set_option maxHeartbeats 4000000 in
theorem c_X5_findHeight {K : Ctx} {σ : Sto} {s b : Int} (hI : IM σ) (hs : 0 ≤ s ∧ s < σ 110 0) (hb : 1 ≤ b ∧ b ≤ 999) : CtI K mX5_findHeight 0 [.ref (kA K 19), .int (i32 s), .int (i32 b)] σ (fun r σ' => r = (if (fh (lnf (σ 20) 1 s) b (σ 111 0) : Int) < σ 111 0 then 1 else 0) ∧ σ' = (if (fh (lnf (σ 20) 1 s) b (σ 111 0) : Int) < σ 111 0 then up (up σ 119 0 (htL (lnf (σ 20) 1 s) b (σ 111 0))) 118 0 (htU (lnf (σ 20) 1 s) b (σ 111 0)) else σ)) := by
  refine CtZ_of (L := [some (.ref (kA K 19)), some (.int (i32 s)), some (.int (i32 b)), none, none, none]) (by decide) rfl rfl rfl ?_
  intro E hE hR
  refine V_iconst hE dX5_findHeight_0 ?_
  refine V_istore_n hE dX5_findHeight_1 rfl ?_
  exact lp_X5_findHeight_2 hI hs hb hE hR 100 0 _ _ (by have := hI.2.1; omega) (by have := hI.2.1; omega) (by unfold fh; simp)
set_option maxRecDepth 100000 in
set_option maxHeartbeats 4000000 in
theorem c_X5_height {K : Ctx} {σ : Sto} {s b w : Int} (hI : IM σ) (hv : InI s ∧ InI b ∧ InI w) : CtL K mX5_height 2 [.ref (kA K 19), .int (i32 s), .int (i32 b), .int (i32 w)] σ (fun r σ' => r = heightS (σ 20) (σ 110 0) (σ 111 0) s b w ∧ SmM σ σ') := by
  obtain ⟨hS, hW, hB, hRe, hLo, hHi, hO, hPu, hHe, hAt⟩ := id hI
  refine CtL_of (L := [some (.ref (kA K 19)), some (.int (i32 s)), some (.int (i32 b)), some (.int (i32 w))]) (by decide) rfl rfl rfl ?_
  intro E hE hR
  refine V_iload_n hE dX5_height_0 rfl ?_
  refine V_i2l hE dX5_height_1 (by omega) ?_
  refine V_lconst0 hE dX5_height_2 ?_
  refine V_aload_n hE dX5_height_3 rfl ?_
  refine gf_X5_61 hE rfl dX5_height_4 ?_
  refine V_iconst hE dX5_height_7 ?_
  refine V_isub hE dX5_height_8 ?_
  refine V_i2l hE dX5_height_9 (by omega) ?_
  refine cf_X5_67 hE rfl dX5_height_10 (c_X5_within (by omega)) rfl rfl ?_
  refine V_if_eq hE 39 dX5_height_13 (by decide) (by omega) (fun h13 => ?_) (fun h13 => ?_)
  · refine V_ldc2 hE tw_cl_X5_177 dX5_height_39 ?_
    refine V_lreturn hR dX5_height_42 ?_
    first | exact ⟨by unfold heightS; exact (if_pos (by omega)).symm, SmM_rf hAt⟩ | exact ⟨by unfold heightS; exact (if_pos (by omega)).symm, hs1⟩
  · refine V_iload_n hE dX5_height_16 rfl ?_
    refine cf_X5_198 hE rfl dX5_height_17 (c_X5_isBreadth (by omega)) rfl rfl ?_
    refine V_if_eq hE 39 dX5_height_20 (by decide) (by omega) (fun h20 => ?_) (fun h20 => ?_)
    · refine V_ldc2 hE tw_cl_X5_177 dX5_height_39 ?_
      refine V_lreturn hR dX5_height_42 ?_
      first | exact ⟨by unfold heightS; exact (if_pos (by omega)).symm, SmM_rf hAt⟩ | exact ⟨by unfold heightS; exact (if_pos (by omega)).symm, hs1⟩
    · refine V_iload_n hE dX5_height_23 rfl ?_
      refine cf_X5_174 hE rfl dX5_height_24 (c_X5_isWhich (by omega)) rfl rfl ?_
      refine V_if_eq hE 39 dX5_height_27 (by decide) (by omega) (fun h27 => ?_) (fun h27 => ?_)
      · refine V_ldc2 hE tw_cl_X5_177 dX5_height_39 ?_
        refine V_lreturn hR dX5_height_42 ?_
        first | exact ⟨by unfold heightS; exact (if_pos (by omega)).symm, SmM_rf hAt⟩ | exact ⟨by unfold heightS; exact (if_pos (by omega)).symm, hs1⟩
      · refine V_aload_n hE dX5_height_30 rfl ?_
        refine V_iload_n hE dX5_height_31 rfl ?_
        refine V_iload_n hE dX5_height_32 rfl ?_
        refine cl_X5_201 hE rfl dX5_height_33 (c_X5_findHeight hI (by omega) (by omega)) rfl rfl ?_
        rintro r σ1 ⟨rfl, hq⟩
        have hs1 : SmM σ σ1 := by
          rw [hq]
          split
          · exact ⟨Fr_up (Fr_up Fr_rf (by decide)) (by decide), hAt⟩
          · exact SmM_rf hAt
        refine V_if_ne hE 43 dX5_height_36 (by decide) (by omega) (fun h36 => ?_) (fun h36 => ?_)
        · have hlr := htL_rng (lnf_rng hO 1 s) b hW
          have hur := htU_rng (lnf_rng hO 1 s) (b := b) (by omega) hW
          rw [if_pos (by omega)] at hq
          have e118 : σ1 118 0 = htU (lnf (σ 20) 1 s) b (σ 111 0) := by rw [hq, up_self]
          have e119 : σ1 119 0 = htL (lnf (σ 20) 1 s) b (σ 111 0) := by rw [hq, up_ne _ _ _ (by decide : 119 ≠ 118), up_self]
          refine V_aload_n hE dX5_height_43 rfl ?_
          refine gf_X5_195 hE rfl dX5_height_44 ?_
          refine V_aload_n hE dX5_height_47 rfl ?_
          refine gf_X5_191 hE rfl dX5_height_48 ?_
          refine V_iload_n hE dX5_height_51 rfl ?_
          refine cf_X5_185 hE rfl dX5_height_52 (c_X5_told (by omega) (by omega) (by omega)) rfl rfl ?_
          refine V_lreturn hR dX5_height_55 ?_
          refine ⟨?_, hs1⟩
          unfold heightS
          refine Eq.symm ((if_neg (by omega)).trans ?_)
          rw [e118, e119]
        · refine V_ldc2 hE tw_cl_X5_177 dX5_height_39 ?_
          refine V_lreturn hR dX5_height_42 ?_
          first | exact ⟨by unfold heightS; exact (if_pos (by omega)).symm, SmM_rf hAt⟩ | exact ⟨by unfold heightS; exact (if_pos (by omega)).symm, hs1⟩
