theorem IM_25 {σ σ1 : Sto} {ks : List Nat} (hI : IM σ) (hF : Fr ks σ σ1) (hk : ∀ k ∈ ks, k ∈ scM) (h24 : 24 ∉ ks) : IM σ1 := IM_sm hI ⟨Fr_sub hF hk, by rw [hF 24 h24]; exact IM_at hI⟩
theorem Laid_of {σ σ' : Sto} {v k : Int} (hI : IM σ) (hv : (v = 0 ∨ v = 1) ∧ 0 ≤ k ∧ k < (if v = 0 then σ 111 0 else σ 110 0)) (h : LaysQ σ v k σ') : Laid σ' (lnf (σ 20) v k) (lnf (σ 22) v k) := by
  obtain ⟨hS, hW, hB, hRe, hLo, hHi, hO, hPu, hHe, hAt⟩ := id hI
  obtain ⟨hF, h116, hi, hr⟩ := h
  refine ⟨by omega, lnf_rng hO v k, fun i hi1 => ?_⟩
  obtain ⟨e1, e2⟩ := hi i (by omega)
  refine ⟨e2, ?_, ?_⟩
  · rw [e1]; unfold pt; split <;> omega
  · rw [e1, hF 22 (by decide)]; rfl
def NeedAll (σ : Sto) (f hd : Nat → Int) : Prop := ∀ p : Int, 0 ≤ p → p ≤ σ 116 0 - 3 → NeedAt σ f hd p
theorem NeedAll_fr {σ σ1 : Sto} {f hd : Nat → Int} {ks : List Nat} (h : NeedAll σ f hd) (hF : Fr ks σ σ1) (hk : 112 ∉ ks ∧ 113 ∉ ks ∧ 116 ∉ ks ∧ 25 ∉ ks) : NeedAll σ1 f hd := by
  unfold NeedAll NeedAt
  rw [hF 112 hk.1, hF 113 hk.2.1, hF 116 hk.2.2.1, hF 25 hk.2.2.2]
  exact h
set_option maxRecDepth 100000 in
set_option maxHeartbeats 4000000 in
theorem lp_X5_findNeeds_13 {K : Ctx} {E : ME} {σ : Sto} {f hd : Nat → Int} {p : Int} (hI : IM σ) (hl : Laid σ f hd) (hp : 0 ≤ p ∧ p ≤ σ 116 0 - 3) (hk : ∀ (σ1 : Sto) (x3 x4 x5 x6 : Option Value), Fr [25] σ σ1 → (∀ p1 : Int, p ≤ p1 → p1 ≤ σ 116 0 - 3 → NeedAt σ1 f hd p1) → V K E mX5_findNeeds 138 [some (.ref (kA K 19)), some (.int (i32 p)), some (.int (i32 343)), x3, x4, x5, x6] [] σ1) (hE : Ok K E mX5_findNeeds 4) : ∀ (n : Nat) (x : Int) (σ1 : Sto) (x3 x4 x5 x6 : Option Value), 343 - x < n → (0 ≤ x ∧ x ≤ 343) → (Fr [25] σ σ1) → (∀ p1 : Int, p < p1 → p1 ≤ σ 116 0 - 3 → NeedAt σ1 f hd p1) → (∀ y : Int, 0 ≤ y → y < x → σ1 25 (343 * p + y).toNat = ndV f hd (σ 112 0) (σ 113 0) (σ 116 0) p y) → V K E mX5_findNeeds 13 [some (.ref (kA K 19)), some (.int (i32 p)), some (.int (i32 x)), x3, x4, x5, x6] [] σ1 := by
  intro n
  induction n with
  | zero =>
    intro x σ1 x3 x4 x5 x6 hm hx hF hN hX
    exfalso; omega
  | succ n ih =>
    intro x σ1 x3 x4 x5 x6 hm hx hF hN hX
    obtain ⟨hS, hW, hB, hRe, hLo, hHi, hO, hPu, hHe, hAt⟩ := id hI
    have hn9 := hl.1
    have hI1 : IM σ1 := IM_25 hI hF (by decide) (by decide)
    have hl1 : Laid σ1 f hd := Laid_fr hl hF (by decide)
    have e112 : σ1 112 0 = σ 112 0 := by rw [hF 112 (by decide)]
    have e113 : σ1 113 0 = σ 113 0 := by rw [hF 113 (by decide)]
    have e116 : σ1 116 0 = σ 116 0 := by rw [hF 116 (by decide)]
    refine V_iload_n hE dX5_findNeeds_13 rfl ?_
    refine V_sipush hE dX5_findNeeds_14 (by decide) ?_
    refine V_icmp_ge hE 138 dX5_findNeeds_17 (by decide) (by omega) (fun h17 => ?_) (fun h17 => ?_)
    · have ex : x = 343 := by omega
      subst ex
      refine hk _ _ _ _ _ hF (fun p1 h1 h2 => ?_)
      rcases Int.lt_or_eq_of_le h1 with h | h
      · exact hN p1 h h2
      · subst h
        intro y h3 h4
        rw [hX y h3 h4, e112, e113, e116]
    · refine V_iload_n hE dX5_findNeeds_20 rfl ?_
      refine V_bipush hE dX5_findNeeds_21 (by decide) ?_
      refine V_idiv hE dX5_findNeeds_23 (by omega) (by omega) ?_
      refine V_iconst hE dX5_findNeeds_24 ?_
      refine V_isub hE dX5_findNeeds_25 ?_
      refine V_istore_n hE dX5_findNeeds_26 rfl ?_
      refine V_iload_n hE dX5_findNeeds_27 rfl ?_
      refine V_bipush hE dX5_findNeeds_28 (by decide) ?_
      refine V_idiv hE dX5_findNeeds_30 (by omega) (by omega) ?_
      refine V_bipush hE dX5_findNeeds_31 (by decide) ?_
      refine V_irem hE dX5_findNeeds_33 (by omega) (by omega) ?_
      refine V_iconst hE dX5_findNeeds_34 ?_
      refine V_isub hE dX5_findNeeds_35 ?_
      refine V_istore hE dX5_findNeeds_36 rfl ?_
      refine V_iload_n hE dX5_findNeeds_38 rfl ?_
      refine V_bipush hE dX5_findNeeds_39 (by decide) ?_
      refine V_irem hE dX5_findNeeds_41 (by omega) (by omega) ?_
      refine V_iconst hE dX5_findNeeds_42 ?_
      refine V_isub hE dX5_findNeeds_43 ?_
      refine V_istore hE dX5_findNeeds_44 rfl ?_
      refine V_aload_n hE dX5_findNeeds_46 rfl ?_
      refine V_iload_n hE dX5_findNeeds_47 rfl ?_
      refine V_iload_n hE dX5_findNeeds_48 rfl ?_
      refine cf_X5_128 hE rfl dX5_findNeeds_49 (c_X5_may hI1 hl1 (by omega) (by omega)) rfl rfl ?_
      refine V_if_eq hE 83 dX5_findNeeds_52 (by decide) (by omega) (fun h52 => ?_) (fun h52 => ?_)
      · refine V_iconst hE dX5_findNeeds_83 ?_
        refine V_istore hE dX5_findNeeds_84 rfl ?_
        refine V_aload_n hE dX5_findNeeds_86 rfl ?_
        refine gf_X5_39 hE rfl dX5_findNeeds_87 ?_
        refine V_sipush hE dX5_findNeeds_90 (by decide) ?_
        refine V_iload_n hE dX5_findNeeds_93 rfl ?_
        refine V_imul hE dX5_findNeeds_94 ?_
        refine V_iload_n hE dX5_findNeeds_95 rfl ?_
        refine V_iadd hE dX5_findNeeds_96 ?_
        refine V_iload hE dX5_findNeeds_97 rfl ?_
        refine V_if_ne hE 107 dX5_findNeeds_99 (by decide) (by omega) (fun h99 => ?_) (fun h99 => ?_)
        · exfalso; omega
        · refine V_ldc hE tw_ci_X5_127 dX5_findNeeds_102 ?_
          refine V_goto hE 131 dX5_findNeeds_104 (by decide) ?_
          refine V_iastore hE dX5_findNeeds_131 rfl (by omega) ?_
          refine V_iinc hE dX5_findNeeds_132 rfl rfl ?_
          refine V_goto hE 13 dX5_findNeeds_135 (by decide) ?_
          refine ih _ _ _ _ _ _ (by omega) (by omega) (Fr_up hF (by decide)) ?_ ?_
          · intro p1 h1 h2 y h3 h4
            rw [up_at, if_neg (by omega), up_ne _ _ _ (by decide : 112 ≠ 25), up_ne _ _ _ (by decide : 113 ≠ 25), up_ne _ _ _ (by decide : 116 ≠ 25)]
            exact hN p1 h1 h2 y h3 h4
          · intro y h3 h4
            rw [up_at]
            by_cases e : y = x
            · subst e
              rw [if_pos rfl, ← e112, ← e113, ← e116]
              unfold ndV
              first
                | exact (if_neg (fun h => ite_eq0 h52 h.1)).symm
                | exact (if_neg (fun h => ite_eq0 h64 h.2.1)).symm
                | exact (if_neg (fun h => ite_eq0 h76 h.2.2)).symm
                | (refine Eq.symm ((if_pos ⟨ite_ne0 h52, ite_ne0 h64, ite_ne0 h76⟩).trans ?_)
                   rw [show (σ1 116 0 - p - 3).toNat = 0 by omega]
                   rfl)
                | (refine Eq.symm ((if_pos ⟨ite_ne0 h52, ite_ne0 h64, ite_ne0 h76⟩).trans ?_)
                   rw [show (σ1 116 0 - p - 3).toNat = (σ1 116 0 - p - 4).toNat + 1 by omega])
            · rw [if_neg (by omega)]
              exact hX y h3 (by omega)
      · refine V_aload_n hE dX5_findNeeds_55 rfl ?_
        refine V_iload_n hE dX5_findNeeds_56 rfl ?_
        refine V_iconst hE dX5_findNeeds_57 ?_
        refine V_iadd hE dX5_findNeeds_58 ?_
        refine V_iload hE dX5_findNeeds_59 rfl ?_
        refine cf_X5_128 hE rfl dX5_findNeeds_61 (c_X5_may hI1 hl1 (by omega) (by omega)) rfl rfl ?_
        refine V_if_eq hE 83 dX5_findNeeds_64 (by decide) (by omega) (fun h64 => ?_) (fun h64 => ?_)
        · refine V_iconst hE dX5_findNeeds_83 ?_
          refine V_istore hE dX5_findNeeds_84 rfl ?_
          refine V_aload_n hE dX5_findNeeds_86 rfl ?_
          refine gf_X5_39 hE rfl dX5_findNeeds_87 ?_
          refine V_sipush hE dX5_findNeeds_90 (by decide) ?_
          refine V_iload_n hE dX5_findNeeds_93 rfl ?_
          refine V_imul hE dX5_findNeeds_94 ?_
          refine V_iload_n hE dX5_findNeeds_95 rfl ?_
          refine V_iadd hE dX5_findNeeds_96 ?_
          refine V_iload hE dX5_findNeeds_97 rfl ?_
          refine V_if_ne hE 107 dX5_findNeeds_99 (by decide) (by omega) (fun h99 => ?_) (fun h99 => ?_)
          · exfalso; omega
          · refine V_ldc hE tw_ci_X5_127 dX5_findNeeds_102 ?_
            refine V_goto hE 131 dX5_findNeeds_104 (by decide) ?_
            refine V_iastore hE dX5_findNeeds_131 rfl (by omega) ?_
            refine V_iinc hE dX5_findNeeds_132 rfl rfl ?_
            refine V_goto hE 13 dX5_findNeeds_135 (by decide) ?_
            refine ih _ _ _ _ _ _ (by omega) (by omega) (Fr_up hF (by decide)) ?_ ?_
            · intro p1 h1 h2 y h3 h4
              rw [up_at, if_neg (by omega), up_ne _ _ _ (by decide : 112 ≠ 25), up_ne _ _ _ (by decide : 113 ≠ 25), up_ne _ _ _ (by decide : 116 ≠ 25)]
              exact hN p1 h1 h2 y h3 h4
            · intro y h3 h4
              rw [up_at]
              by_cases e : y = x
              · subst e
                rw [if_pos rfl, ← e112, ← e113, ← e116]
                unfold ndV
                first
                  | exact (if_neg (fun h => ite_eq0 h52 h.1)).symm
                  | exact (if_neg (fun h => ite_eq0 h64 h.2.1)).symm
                  | exact (if_neg (fun h => ite_eq0 h76 h.2.2)).symm
                  | (refine Eq.symm ((if_pos ⟨ite_ne0 h52, ite_ne0 h64, ite_ne0 h76⟩).trans ?_)
                     rw [show (σ1 116 0 - p - 3).toNat = 0 by omega]
                     rfl)
                  | (refine Eq.symm ((if_pos ⟨ite_ne0 h52, ite_ne0 h64, ite_ne0 h76⟩).trans ?_)
                     rw [show (σ1 116 0 - p - 3).toNat = (σ1 116 0 - p - 4).toNat + 1 by omega])
              · rw [if_neg (by omega)]
                exact hX y h3 (by omega)
        · refine V_aload_n hE dX5_findNeeds_67 rfl ?_
          refine V_iload_n hE dX5_findNeeds_68 rfl ?_
          refine V_iconst hE dX5_findNeeds_69 ?_
          refine V_iadd hE dX5_findNeeds_70 ?_
          refine V_iload hE dX5_findNeeds_71 rfl ?_
          refine cf_X5_128 hE rfl dX5_findNeeds_73 (c_X5_may hI1 hl1 (by omega) (by omega)) rfl rfl ?_
          refine V_if_eq hE 83 dX5_findNeeds_76 (by decide) (by omega) (fun h76 => ?_) (fun h76 => ?_)
          · refine V_iconst hE dX5_findNeeds_83 ?_
            refine V_istore hE dX5_findNeeds_84 rfl ?_
            refine V_aload_n hE dX5_findNeeds_86 rfl ?_
            refine gf_X5_39 hE rfl dX5_findNeeds_87 ?_
            refine V_sipush hE dX5_findNeeds_90 (by decide) ?_
            refine V_iload_n hE dX5_findNeeds_93 rfl ?_
            refine V_imul hE dX5_findNeeds_94 ?_
            refine V_iload_n hE dX5_findNeeds_95 rfl ?_
            refine V_iadd hE dX5_findNeeds_96 ?_
            refine V_iload hE dX5_findNeeds_97 rfl ?_
            refine V_if_ne hE 107 dX5_findNeeds_99 (by decide) (by omega) (fun h99 => ?_) (fun h99 => ?_)
            · exfalso; omega
            · refine V_ldc hE tw_ci_X5_127 dX5_findNeeds_102 ?_
              refine V_goto hE 131 dX5_findNeeds_104 (by decide) ?_
              refine V_iastore hE dX5_findNeeds_131 rfl (by omega) ?_
              refine V_iinc hE dX5_findNeeds_132 rfl rfl ?_
              refine V_goto hE 13 dX5_findNeeds_135 (by decide) ?_
              refine ih _ _ _ _ _ _ (by omega) (by omega) (Fr_up hF (by decide)) ?_ ?_
              · intro p1 h1 h2 y h3 h4
                rw [up_at, if_neg (by omega), up_ne _ _ _ (by decide : 112 ≠ 25), up_ne _ _ _ (by decide : 113 ≠ 25), up_ne _ _ _ (by decide : 116 ≠ 25)]
                exact hN p1 h1 h2 y h3 h4
              · intro y h3 h4
                rw [up_at]
                by_cases e : y = x
                · subst e
                  rw [if_pos rfl, ← e112, ← e113, ← e116]
                  unfold ndV
                  first
                    | exact (if_neg (fun h => ite_eq0 h52 h.1)).symm
                    | exact (if_neg (fun h => ite_eq0 h64 h.2.1)).symm
                    | exact (if_neg (fun h => ite_eq0 h76 h.2.2)).symm
                    | (refine Eq.symm ((if_pos ⟨ite_ne0 h52, ite_ne0 h64, ite_ne0 h76⟩).trans ?_)
                       rw [show (σ1 116 0 - p - 3).toNat = 0 by omega]
                       rfl)
                    | (refine Eq.symm ((if_pos ⟨ite_ne0 h52, ite_ne0 h64, ite_ne0 h76⟩).trans ?_)
                       rw [show (σ1 116 0 - p - 3).toNat = (σ1 116 0 - p - 4).toNat + 1 by omega])
                · rw [if_neg (by omega)]
                  exact hX y h3 (by omega)
          · refine V_iconst hE dX5_findNeeds_79 ?_
            refine V_goto hE 84 dX5_findNeeds_80 (by decide) ?_
            refine V_istore hE dX5_findNeeds_84 rfl ?_
            refine V_aload_n hE dX5_findNeeds_86 rfl ?_
            refine gf_X5_39 hE rfl dX5_findNeeds_87 ?_
            refine V_sipush hE dX5_findNeeds_90 (by decide) ?_
            refine V_iload_n hE dX5_findNeeds_93 rfl ?_
            refine V_imul hE dX5_findNeeds_94 ?_
            refine V_iload_n hE dX5_findNeeds_95 rfl ?_
            refine V_iadd hE dX5_findNeeds_96 ?_
            refine V_iload hE dX5_findNeeds_97 rfl ?_
            refine V_if_ne hE 107 dX5_findNeeds_99 (by decide) (by omega) (fun h99 => ?_) (fun h99 => ?_)
            · refine V_iload_n hE dX5_findNeeds_107 rfl ?_
              refine V_aload_n hE dX5_findNeeds_108 rfl ?_
              refine gf_X5_97 hE rfl dX5_findNeeds_109 ?_
              refine V_iconst hE dX5_findNeeds_112 ?_
              refine V_isub hE dX5_findNeeds_113 ?_
              refine V_icmp_ne hE 121 dX5_findNeeds_114 (by decide) (by omega) (fun h114 => ?_) (fun h114 => ?_)
              · refine V_aload_n hE dX5_findNeeds_121 rfl ?_
                refine V_iload_n hE dX5_findNeeds_122 rfl ?_
                refine V_iload_n hE dX5_findNeeds_123 rfl ?_
                refine V_iload hE dX5_findNeeds_124 rfl ?_
                refine V_iload hE dX5_findNeeds_126 rfl ?_
                refine cf_X5_139 hE rfl dX5_findNeeds_128 (c_X5_needFrom (q := (σ1 116 0 - p - 4).toNat) hI1 hl1 (by omega) (by omega) (by omega) (ite_ne0 h64) (ite_ne0 h76) (hN (p + 1) (by omega) (by omega))) rfl rfl ?_
                refine V_iastore hE dX5_findNeeds_131 rfl (by omega) ?_
                refine V_iinc hE dX5_findNeeds_132 rfl rfl ?_
                refine V_goto hE 13 dX5_findNeeds_135 (by decide) ?_
                refine ih _ _ _ _ _ _ (by omega) (by omega) (Fr_up hF (by decide)) ?_ ?_
                · intro p1 h1 h2 y h3 h4
                  rw [up_at, if_neg (by omega), up_ne _ _ _ (by decide : 112 ≠ 25), up_ne _ _ _ (by decide : 113 ≠ 25), up_ne _ _ _ (by decide : 116 ≠ 25)]
                  exact hN p1 h1 h2 y h3 h4
                · intro y h3 h4
                  rw [up_at]
                  by_cases e : y = x
                  · subst e
                    rw [if_pos rfl, ← e112, ← e113, ← e116]
                    unfold ndV
                    first
                      | exact (if_neg (fun h => ite_eq0 h52 h.1)).symm
                      | exact (if_neg (fun h => ite_eq0 h64 h.2.1)).symm
                      | exact (if_neg (fun h => ite_eq0 h76 h.2.2)).symm
                      | (refine Eq.symm ((if_pos ⟨ite_ne0 h52, ite_ne0 h64, ite_ne0 h76⟩).trans ?_)
                         rw [show (σ1 116 0 - p - 3).toNat = 0 by omega]
                         rfl)
                      | (refine Eq.symm ((if_pos ⟨ite_ne0 h52, ite_ne0 h64, ite_ne0 h76⟩).trans ?_)
                         rw [show (σ1 116 0 - p - 3).toNat = (σ1 116 0 - p - 4).toNat + 1 by omega])
                  · rw [if_neg (by omega)]
                    exact hX y h3 (by omega)
              · refine V_iconst hE dX5_findNeeds_117 ?_
                refine V_goto hE 131 dX5_findNeeds_118 (by decide) ?_
                refine V_iastore hE dX5_findNeeds_131 rfl (by omega) ?_
                refine V_iinc hE dX5_findNeeds_132 rfl rfl ?_
                refine V_goto hE 13 dX5_findNeeds_135 (by decide) ?_
                refine ih _ _ _ _ _ _ (by omega) (by omega) (Fr_up hF (by decide)) ?_ ?_
                · intro p1 h1 h2 y h3 h4
                  rw [up_at, if_neg (by omega), up_ne _ _ _ (by decide : 112 ≠ 25), up_ne _ _ _ (by decide : 113 ≠ 25), up_ne _ _ _ (by decide : 116 ≠ 25)]
                  exact hN p1 h1 h2 y h3 h4
                · intro y h3 h4
                  rw [up_at]
                  by_cases e : y = x
                  · subst e
                    rw [if_pos rfl, ← e112, ← e113, ← e116]
                    unfold ndV
                    first
                      | exact (if_neg (fun h => ite_eq0 h52 h.1)).symm
                      | exact (if_neg (fun h => ite_eq0 h64 h.2.1)).symm
                      | exact (if_neg (fun h => ite_eq0 h76 h.2.2)).symm
                      | (refine Eq.symm ((if_pos ⟨ite_ne0 h52, ite_ne0 h64, ite_ne0 h76⟩).trans ?_)
                         rw [show (σ1 116 0 - p - 3).toNat = 0 by omega]
                         rfl)
                      | (refine Eq.symm ((if_pos ⟨ite_ne0 h52, ite_ne0 h64, ite_ne0 h76⟩).trans ?_)
                         rw [show (σ1 116 0 - p - 3).toNat = (σ1 116 0 - p - 4).toNat + 1 by omega])
                  · rw [if_neg (by omega)]
                    exact hX y h3 (by omega)
            · exfalso; omega
set_option maxRecDepth 100000 in
set_option maxHeartbeats 4000000 in
theorem lp_X5_findNeeds_7 {K : Ctx} {E : ME} {σ : Sto} {f hd : Nat → Int} (hI : IM σ) (hl : Laid σ f hd) (hE : Ok K E mX5_findNeeds 4) (hR : RetV K E mX5_findNeeds (fun σ' => Fr [25] σ σ' ∧ NeedAll σ' f hd)) : ∀ (n : Nat) (p : Int) (σ1 : Sto) (x2 x3 x4 x5 x6 : Option Value), p + 1 < n → (-1 ≤ p ∧ p ≤ σ 116 0 - 3) → (Fr [25] σ σ1) → (∀ p1 : Int, p < p1 → p1 ≤ σ 116 0 - 3 → NeedAt σ1 f hd p1) → V K E mX5_findNeeds 7 [some (.ref (kA K 19)), some (.int (i32 p)), x2, x3, x4, x5, x6] [] σ1 := by
  intro n
  induction n with
  | zero =>
    intro p σ1 x2 x3 x4 x5 x6 hm hp hF hN
    exfalso; omega
  | succ n ih =>
    intro p σ1 x2 x3 x4 x5 x6 hm hp hF hN
    have hn9 := hl.1
    have hI1 : IM σ1 := IM_25 hI hF (by decide) (by decide)
    have hl1 : Laid σ1 f hd := Laid_fr hl hF (by decide)
    have e116 : σ1 116 0 = σ 116 0 := by rw [hF 116 (by decide)]
    refine V_iload_n hE dX5_findNeeds_7 rfl ?_
    refine V_if_lt hE 144 dX5_findNeeds_8 (by decide) (by omega) (fun h8 => ?_) (fun h8 => ?_)
    · refine V_return hR dX5_findNeeds_144 ?_
      exact ⟨hF, fun p1 h1 h2 => hN p1 (by omega) (by omega)⟩
    · refine V_iconst hE dX5_findNeeds_11 ?_
      refine V_istore_n hE dX5_findNeeds_12 rfl ?_
      refine lp_X5_findNeeds_13 hI1 hl1 (p := p) (by omega) ?_ hE 400 0 σ1 _ _ _ _ (by omega) (by omega) Fr_rf (fun p1 h1 h2 => hN p1 h1 (by omega)) (fun y h1 h2 => by omega)
      intro σ2 y3 y4 y5 y6 hF2 hN2
      refine V_iinc hE dX5_findNeeds_138 rfl rfl ?_
      refine V_goto hE 7 dX5_findNeeds_141 (by decide) ?_
      exact ih _ _ _ _ _ _ _ (by omega) (by omega) (Fr_tr hF hF2 (by decide)) (fun p1 h1 h2 => hN2 p1 (by omega) (by omega))
set_option maxRecDepth 100000 in
set_option maxHeartbeats 4000000 in
theorem c_X5_findNeeds {K : Ctx} {σ : Sto} {f hd : Nat → Int} (hI : IM σ) (hl : Laid σ f hd) : CtV K mX5_findNeeds 4 [.ref (kA K 19)] σ (fun σ' => Fr [25] σ σ' ∧ NeedAll σ' f hd) := by
  have hn9 := hl.1
  refine CtV_of (L := [some (.ref (kA K 19)), none, none, none, none, none, none]) (by decide) rfl rfl rfl ?_
  intro E hE hR
  refine V_aload_n hE dX5_findNeeds_0 rfl ?_
  refine gf_X5_97 hE rfl dX5_findNeeds_1 ?_
  refine V_iconst hE dX5_findNeeds_4 ?_
  refine V_isub hE dX5_findNeeds_5 ?_
  refine V_istore_n hE dX5_findNeeds_6 rfl ?_
  exact lp_X5_findNeeds_7 hI hl hE hR 100 _ _ _ _ _ _ _ (by omega) (by omega) Fr_rf (fun p1 h1 h2 => by omega)
set_option maxRecDepth 100000 in
set_option maxHeartbeats 4000000 in
theorem lp_X5_begins_7 {K : Ctx} {E : ME} {σ : Sto} {f hd : Nat → Int} (hI : IM σ) (hl : Laid σ f hd) (hN : NeedAt σ f hd 0) (hE : Ok K E mX5_begins 1) (hR : RetZ K E mX5_begins (fun r σ' => Fr [117, 26] σ σ' ∧ ((r = 0 ∧ Ltt f hd (σ 112 0) (σ 113 0) (σ 116 0) = none) ∨ (r = 1 ∧ ∃ t, Ltt f hd (σ 112 0) (σ 113 0) (σ 116 0) = some t ∧ σ' 117 0 = t ∧ σ' 26 0 = Lmv f hd (σ 112 0) (σ 113 0) (σ 116 0) 0 ∧ σ' 26 1 = Lmv f hd (σ 112 0) (σ 113 0) (σ 116 0) 1 ∧ σ' 26 2 = Lmv f hd (σ 112 0) (σ 113 0) (σ 116 0) 2)))) : ∀ (n : Nat) (x y g : Int) (x4 : Option Value), 343 - x < n → (0 ≤ x ∧ x ≤ 343) → (0 ≤ g ∧ g ≤ 342) → (0 ≤ y ∧ y ≤ 1000000) → ((y = 1000000 ∧ ∀ z : Int, 0 ≤ z → z < x → 1000000 ≤ cxV f hd (σ 112 0) (σ 113 0) (σ 116 0) z) ∨ (g < x ∧ y = cxV f hd (σ 112 0) (σ 113 0) (σ 116 0) g ∧ y < 1000000 ∧ (∀ z : Int, 0 ≤ z → z < x → y ≤ cxV f hd (σ 112 0) (σ 113 0) (σ 116 0) z) ∧ ∀ z : Int, 0 ≤ z → z < g → y < cxV f hd (σ 112 0) (σ 113 0) (σ 116 0) z)) → V K E mX5_begins 7 [some (.ref (kA K 19)), some (.int (i32 y)), some (.int (i32 g)), some (.int (i32 x)), x4] [] σ := by
  intro n
  induction n with
  | zero =>
    intro x y g x4 hm hx hg hy hb
    exfalso; omega
  | succ n ih =>
    intro x y g x4 hm hx hg hy hb
    obtain ⟨hS, hW, hB, hRe, hLo, hHi, hO, hPu, hHe, hAt⟩ := id hI
    have hn9 := hl.1
    have hnv := ndV_rng (f := f) (hd := hd) (bn := σ 112 0) hRe hn9 (p := 0) (by omega) x
    have ecx : cxV f hd (σ 112 0) (σ 113 0) (σ 116 0) x = (((x / 49 - 3).natAbs : Nat) : Int) + (((x / 7 % 7 - 3).natAbs : Nat) : Int) + (((x % 7 - 3).natAbs : Nat) : Int) + ndV f hd (σ 112 0) (σ 113 0) (σ 116 0) 0 x := rfl
    refine V_iload_n hE dX5_begins_7 rfl ?_
    refine V_sipush hE dX5_begins_8 (by decide) ?_
    refine V_icmp_ge hE 86 dX5_begins_11 (by decide) (by omega) (fun h11 => ?_) (fun h11 => ?_)
    · refine V_aload_n hE dX5_begins_86 rfl ?_
      refine V_iload_n hE dX5_begins_87 rfl ?_
      refine pf_X5_142 hE rfl dX5_begins_88 ?_
      refine V_aload_n hE dX5_begins_91 rfl ?_
      refine gf_X5_42 hE rfl dX5_begins_92 ?_
      refine V_iconst hE dX5_begins_95 ?_
      refine V_iload_n hE dX5_begins_96 rfl ?_
      refine V_bipush hE dX5_begins_97 (by decide) ?_
      refine V_idiv hE dX5_begins_99 (by omega) (by omega) ?_
      refine V_iconst hE dX5_begins_100 ?_
      refine V_isub hE dX5_begins_101 ?_
      refine V_iastore hE dX5_begins_102 rfl (by omega) ?_
      refine V_aload_n hE dX5_begins_103 rfl ?_
      refine gf_X5_42 hE rfl dX5_begins_104 ?_
      refine V_iconst hE dX5_begins_107 ?_
      refine V_iload_n hE dX5_begins_108 rfl ?_
      refine V_bipush hE dX5_begins_109 (by decide) ?_
      refine V_idiv hE dX5_begins_111 (by omega) (by omega) ?_
      refine V_bipush hE dX5_begins_112 (by decide) ?_
      refine V_irem hE dX5_begins_114 (by omega) (by omega) ?_
      refine V_iconst hE dX5_begins_115 ?_
      refine V_isub hE dX5_begins_116 ?_
      refine V_iastore hE dX5_begins_117 rfl (by omega) ?_
      refine V_aload_n hE dX5_begins_118 rfl ?_
      refine gf_X5_42 hE rfl dX5_begins_119 ?_
      refine V_iconst hE dX5_begins_122 ?_
      refine V_iload_n hE dX5_begins_123 rfl ?_
      refine V_bipush hE dX5_begins_124 (by decide) ?_
      refine V_irem hE dX5_begins_126 (by omega) (by omega) ?_
      refine V_iconst hE dX5_begins_127 ?_
      refine V_isub hE dX5_begins_128 ?_
      refine V_iastore hE dX5_begins_129 rfl (by omega) ?_
      refine V_iload_n hE dX5_begins_130 rfl ?_
      refine V_ldc hE tw_ci_X5_127 dX5_begins_131 ?_
      refine V_icmp_ge hE 140 dX5_begins_133 (by decide) (by omega) (fun h133 => ?_) (fun h133 => ?_)
      · refine V_iconst hE dX5_begins_140 ?_
        refine V_zreturn hR dX5_begins_141 (by omega) ?_
        have ex : x = 343 := by omega
        subst ex
        refine ⟨Fr_up (Fr_up (Fr_up (Fr_up Fr_rf (by decide)) (by decide)) (by decide)) (by decide), ?_⟩
        first
          | (refine Or.inl ⟨rfl, ?_⟩
             rcases hb with ⟨h1, h2⟩ | ⟨h1, h2, h3, h4, h5⟩
             · exact bg_none hRe hn9 h2
             · exfalso; omega)
          | (refine Or.inr ⟨rfl, ?_⟩
             rcases hb with ⟨h1, h2⟩ | ⟨h1, h2, h3, h4, h5⟩
             · exfalso; omega
             · obtain ⟨q1, q2, q3, q4⟩ := bg_some hRe hn9 (F := g) (best := y) (by omega) h2 h3 h4 h5
               refine ⟨y, q1, ?_, ?_, ?_, ?_⟩
               · simp [up]
               · exact Eq.trans (by simp [up]) q2.symm
               · exact Eq.trans (by simp [up]) q3.symm
               · have q5 := congrArg (fun z => z.2.2) q4
                 exact Eq.trans (by simp [up]) q5.symm)
      · refine V_iconst hE dX5_begins_136 ?_
        refine V_goto hE 141 dX5_begins_137 (by decide) ?_
        refine V_zreturn hR dX5_begins_141 (by omega) ?_
        have ex : x = 343 := by omega
        subst ex
        refine ⟨Fr_up (Fr_up (Fr_up (Fr_up Fr_rf (by decide)) (by decide)) (by decide)) (by decide), ?_⟩
        first
          | (refine Or.inl ⟨rfl, ?_⟩
             rcases hb with ⟨h1, h2⟩ | ⟨h1, h2, h3, h4, h5⟩
             · exact bg_none hRe hn9 h2
             · exfalso; omega)
          | (refine Or.inr ⟨rfl, ?_⟩
             rcases hb with ⟨h1, h2⟩ | ⟨h1, h2, h3, h4, h5⟩
             · exfalso; omega
             · obtain ⟨q1, q2, q3, q4⟩ := bg_some hRe hn9 (F := g) (best := y) (by omega) h2 h3 h4 h5
               refine ⟨y, q1, ?_, ?_, ?_, ?_⟩
               · simp [up]
               · exact Eq.trans (by simp [up]) q2.symm
               · exact Eq.trans (by simp [up]) q3.symm
               · have q5 := congrArg (fun z => z.2.2) q4
                 exact Eq.trans (by simp [up]) q5.symm)
    · refine V_iload_n hE dX5_begins_14 rfl ?_
      refine V_bipush hE dX5_begins_15 (by decide) ?_
      refine V_idiv hE dX5_begins_17 (by omega) (by omega) ?_
      refine V_iconst hE dX5_begins_18 ?_
      refine V_isub hE dX5_begins_19 ?_
      refine cf_X5_120 hE rfl dX5_begins_20 (c_X5_far (by omega)) rfl rfl ?_
      refine V_iload_n hE dX5_begins_23 rfl ?_
      refine V_bipush hE dX5_begins_24 (by decide) ?_
      refine V_idiv hE dX5_begins_26 (by omega) (by omega) ?_
      refine V_bipush hE dX5_begins_27 (by decide) ?_
      refine V_irem hE dX5_begins_29 (by omega) (by omega) ?_
      refine V_iconst hE dX5_begins_30 ?_
      refine V_isub hE dX5_begins_31 ?_
      refine cf_X5_120 hE rfl dX5_begins_32 (c_X5_far (by omega)) rfl rfl ?_
      refine V_iadd hE dX5_begins_35 ?_
      refine V_iload_n hE dX5_begins_36 rfl ?_
      refine V_bipush hE dX5_begins_37 (by decide) ?_
      refine V_irem hE dX5_begins_39 (by omega) (by omega) ?_
      refine V_iconst hE dX5_begins_40 ?_
      refine V_isub hE dX5_begins_41 ?_
      refine cf_X5_120 hE rfl dX5_begins_42 (c_X5_far (by omega)) rfl rfl ?_
      refine V_iadd hE dX5_begins_45 ?_
      refine V_aload_n hE dX5_begins_46 rfl ?_
      refine gf_X5_39 hE rfl dX5_begins_47 ?_
      refine V_iload_n hE dX5_begins_50 rfl ?_
      refine V_iaload hE dX5_begins_51 rfl (by omega) ?_
      refine V_iadd hE dX5_begins_52 ?_
      have en : σ 25 x.toNat = ndV f hd (σ 112 0) (σ 113 0) (σ 116 0) 0 x := by rw [← hN x (by omega) (by omega), show (343 * 0 + x).toNat = x.toNat by omega]
      rw [en, ← ecx]
      refine V_istore hE dX5_begins_53 rfl ?_
      refine V_iload hE dX5_begins_55 rfl ?_
      refine V_iload_n hE dX5_begins_57 rfl ?_
      refine V_icmp_ge hE 65 dX5_begins_58 (by decide) (by omega) (fun h58 => ?_) (fun h58 => ?_)
      · refine V_iload_n hE dX5_begins_65 rfl ?_
        refine V_istore_n hE dX5_begins_66 rfl ?_
        refine V_iload hE dX5_begins_67 rfl ?_
        refine V_iload_n hE dX5_begins_69 rfl ?_
        refine V_icmp_ge hE 78 dX5_begins_70 (by decide) (by omega) (fun h70 => ?_) (fun h70 => ?_)
        · refine V_iload_n hE dX5_begins_78 rfl ?_
          refine V_istore_n hE dX5_begins_79 rfl ?_
          refine V_iinc hE dX5_begins_80 rfl rfl ?_
          refine V_goto hE 7 dX5_begins_83 (by decide) ?_
          first
            | (exfalso; omega)
            | (refine ih _ _ _ _ (by omega) (by omega) (by omega) (by omega) (Or.inr ⟨by omega, rfl, by omega, ?_, ?_⟩)
               · intro z h1 h2
                 rcases hb with ⟨g1, g2⟩ | ⟨g1, g2, g3, g4, g5⟩
                 · by_cases e : z = x
                   · subst e; omega
                   · have := g2 z h1 (by omega); omega
                 · by_cases e : z = x
                   · subst e; omega
                   · have := g4 z h1 (by omega); omega
               · intro z h1 h2
                 rcases hb with ⟨g1, g2⟩ | ⟨g1, g2, g3, g4, g5⟩
                 · have := g2 z h1 (by omega); omega
                 · have := g4 z h1 (by omega); omega)
            | (refine ih _ _ _ _ (by omega) (by omega) (by omega) (by omega) ?_
               rcases hb with ⟨g1, g2⟩ | ⟨g1, g2, g3, g4, g5⟩
               · refine Or.inl ⟨g1, fun z h1 h2 => ?_⟩
                 by_cases e : z = x
                 · subst e; omega
                 · exact g2 z h1 (by omega)
               · refine Or.inr ⟨by omega, g2, g3, fun z h1 h2 => ?_, g5⟩
                 by_cases e : z = x
                 · subst e; omega
                 · exact g4 z h1 (by omega))
        · refine V_iload hE dX5_begins_73 rfl ?_
          refine V_goto hE 79 dX5_begins_75 (by decide) ?_
          refine V_istore_n hE dX5_begins_79 rfl ?_
          refine V_iinc hE dX5_begins_80 rfl rfl ?_
          refine V_goto hE 7 dX5_begins_83 (by decide) ?_
          first
            | (exfalso; omega)
            | (refine ih _ _ _ _ (by omega) (by omega) (by omega) (by omega) (Or.inr ⟨by omega, rfl, by omega, ?_, ?_⟩)
               · intro z h1 h2
                 rcases hb with ⟨g1, g2⟩ | ⟨g1, g2, g3, g4, g5⟩
                 · by_cases e : z = x
                   · subst e; omega
                   · have := g2 z h1 (by omega); omega
                 · by_cases e : z = x
                   · subst e; omega
                   · have := g4 z h1 (by omega); omega
               · intro z h1 h2
                 rcases hb with ⟨g1, g2⟩ | ⟨g1, g2, g3, g4, g5⟩
                 · have := g2 z h1 (by omega); omega
                 · have := g4 z h1 (by omega); omega)
            | (refine ih _ _ _ _ (by omega) (by omega) (by omega) (by omega) ?_
               rcases hb with ⟨g1, g2⟩ | ⟨g1, g2, g3, g4, g5⟩
               · refine Or.inl ⟨g1, fun z h1 h2 => ?_⟩
                 by_cases e : z = x
                 · subst e; omega
                 · exact g2 z h1 (by omega)
               · refine Or.inr ⟨by omega, g2, g3, fun z h1 h2 => ?_, g5⟩
                 by_cases e : z = x
                 · subst e; omega
                 · exact g4 z h1 (by omega))
      · refine V_iload_n hE dX5_begins_61 rfl ?_
        refine V_goto hE 66 dX5_begins_62 (by decide) ?_
        refine V_istore_n hE dX5_begins_66 rfl ?_
        refine V_iload hE dX5_begins_67 rfl ?_
        refine V_iload_n hE dX5_begins_69 rfl ?_
        refine V_icmp_ge hE 78 dX5_begins_70 (by decide) (by omega) (fun h70 => ?_) (fun h70 => ?_)
        · refine V_iload_n hE dX5_begins_78 rfl ?_
          refine V_istore_n hE dX5_begins_79 rfl ?_
          refine V_iinc hE dX5_begins_80 rfl rfl ?_
          refine V_goto hE 7 dX5_begins_83 (by decide) ?_
          first
            | (exfalso; omega)
            | (refine ih _ _ _ _ (by omega) (by omega) (by omega) (by omega) (Or.inr ⟨by omega, rfl, by omega, ?_, ?_⟩)
               · intro z h1 h2
                 rcases hb with ⟨g1, g2⟩ | ⟨g1, g2, g3, g4, g5⟩
                 · by_cases e : z = x
                   · subst e; omega
                   · have := g2 z h1 (by omega); omega
                 · by_cases e : z = x
                   · subst e; omega
                   · have := g4 z h1 (by omega); omega
               · intro z h1 h2
                 rcases hb with ⟨g1, g2⟩ | ⟨g1, g2, g3, g4, g5⟩
                 · have := g2 z h1 (by omega); omega
                 · have := g4 z h1 (by omega); omega)
            | (refine ih _ _ _ _ (by omega) (by omega) (by omega) (by omega) ?_
               rcases hb with ⟨g1, g2⟩ | ⟨g1, g2, g3, g4, g5⟩
               · refine Or.inl ⟨g1, fun z h1 h2 => ?_⟩
                 by_cases e : z = x
                 · subst e; omega
                 · exact g2 z h1 (by omega)
               · refine Or.inr ⟨by omega, g2, g3, fun z h1 h2 => ?_, g5⟩
                 by_cases e : z = x
                 · subst e; omega
                 · exact g4 z h1 (by omega))
        · refine V_iload hE dX5_begins_73 rfl ?_
          refine V_goto hE 79 dX5_begins_75 (by decide) ?_
          refine V_istore_n hE dX5_begins_79 rfl ?_
          refine V_iinc hE dX5_begins_80 rfl rfl ?_
          refine V_goto hE 7 dX5_begins_83 (by decide) ?_
          first
            | (exfalso; omega)
            | (refine ih _ _ _ _ (by omega) (by omega) (by omega) (by omega) (Or.inr ⟨by omega, rfl, by omega, ?_, ?_⟩)
               · intro z h1 h2
                 rcases hb with ⟨g1, g2⟩ | ⟨g1, g2, g3, g4, g5⟩
                 · by_cases e : z = x
                   · subst e; omega
                   · have := g2 z h1 (by omega); omega
                 · by_cases e : z = x
                   · subst e; omega
                   · have := g4 z h1 (by omega); omega
               · intro z h1 h2
                 rcases hb with ⟨g1, g2⟩ | ⟨g1, g2, g3, g4, g5⟩
                 · have := g2 z h1 (by omega); omega
                 · have := g4 z h1 (by omega); omega)
            | (refine ih _ _ _ _ (by omega) (by omega) (by omega) (by omega) ?_
               rcases hb with ⟨g1, g2⟩ | ⟨g1, g2, g3, g4, g5⟩
               · refine Or.inl ⟨g1, fun z h1 h2 => ?_⟩
                 by_cases e : z = x
                 · subst e; omega
                 · exact g2 z h1 (by omega)
               · refine Or.inr ⟨by omega, g2, g3, fun z h1 h2 => ?_, g5⟩
                 by_cases e : z = x
                 · subst e; omega
                 · exact g4 z h1 (by omega))
set_option maxRecDepth 100000 in
set_option maxHeartbeats 4000000 in
theorem c_X5_begins {K : Ctx} {σ : Sto} {f hd : Nat → Int} (hI : IM σ) (hl : Laid σ f hd) (hN : NeedAt σ f hd 0) : CtI K mX5_begins 1 [.ref (kA K 19)] σ (fun r σ' => Fr [117, 26] σ σ' ∧ ((r = 0 ∧ Ltt f hd (σ 112 0) (σ 113 0) (σ 116 0) = none) ∨ (r = 1 ∧ ∃ t, Ltt f hd (σ 112 0) (σ 113 0) (σ 116 0) = some t ∧ σ' 117 0 = t ∧ σ' 26 0 = Lmv f hd (σ 112 0) (σ 113 0) (σ 116 0) 0 ∧ σ' 26 1 = Lmv f hd (σ 112 0) (σ 113 0) (σ 116 0) 1 ∧ σ' 26 2 = Lmv f hd (σ 112 0) (σ 113 0) (σ 116 0) 2))) := by
  refine CtZ_of (L := [some (.ref (kA K 19)), none, none, none, none]) (by decide) rfl rfl rfl ?_
  intro E hE hR
  refine V_ldc hE tw_ci_X5_127 dX5_begins_0 ?_
  refine V_istore_n hE dX5_begins_2 rfl ?_
  refine V_iconst hE dX5_begins_3 ?_
  refine V_istore_n hE dX5_begins_4 rfl ?_
  refine V_iconst hE dX5_begins_5 ?_
  refine V_istore_n hE dX5_begins_6 rfl ?_
  exact lp_X5_begins_7 hI hl hN hE hR 400 0 1000000 0 _ (by omega) (by omega) (by omega) (by omega) (Or.inl ⟨rfl, fun z h1 h2 => by omega⟩)
