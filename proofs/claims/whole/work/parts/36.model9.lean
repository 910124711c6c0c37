theorem difB_congr {o1 o2 o : Nat → Int} (m : Nat) (h : ∀ i, i < m → o1 i = o2 i) : difB o1 o m = difB o2 o m := by
  induction m with
  | zero => rfl
  | succ m ih => rw [difB, difB, ih (fun i hi => h i (by omega)), h m (by omega)]
theorem FairM_tr {σ σ1 σ2 : Sto} (h : FairM σ σ1) (h2 : FairM σ1 σ2) : FairM σ σ2 := ⟨Fr_tr h.1 h2.1 (fun _ q => q), h2.2⟩
theorem FairM_rf {σ : Sto} (h : Rng (σ 24)) : FairM σ σ := ⟨Fr_rf, h⟩
def rdsS (o h : Nat → Int) (S W bn r n : Int) : Int := if 1 ≤ n ∧ n ≤ 20 then 1 + (rrS h S W bn r (n - 1).toNat o).1 else -2
theorem rr_rng (h : Nat → Int) (S W bn r : Int) (k : Nat) (o : Nat → Int) : 0 ≤ (rrS h S W bn r k o).1 ∧ (rrS h S W bn r k o).1 ≤ k := by
  induction k generalizing o with
  | zero => simp [rrS]
  | succ k ih =>
    have := ih (roundO h S W bn r o)
    rw [rrS]
    split
    · show 0 ≤ _ + 1 ∧ _ + 1 ≤ _
      omega
    · show (0 : Int) ≤ 0 ∧ (0 : Int) ≤ _
      omega
set_option maxRecDepth 100000 in
set_option maxHeartbeats 4000000 in
theorem lp_X5_round_2 {K : Ctx} {E : ME} {σ : Sto} (hI : IM σ) (hk : ∀ σ1 : Sto, Fr [27] σ σ1 → (∀ j : Nat, (j : Int) < 63 → σ1 27 j = σ 20 j) → V K E mX5_round 26 [some (.ref (kA K 19)), some (.int (i32 63)), none] [] σ1) (hE : Ok K E mX5_round 7) : ∀ (n : Nat) (i : Int) (σ1 : Sto), 63 - i < n → (0 ≤ i ∧ i ≤ 63) → (Fr [27] σ σ1) → (∀ j : Nat, (j : Int) < i → σ1 27 j = σ 20 j) → V K E mX5_round 2 [some (.ref (kA K 19)), some (.int (i32 i)), none] [] σ1 := by
  intro n
  induction n with
  | zero =>
    intro i σ1 hm hi hF h27
    exfalso; omega
  | succ n ih =>
    intro i σ1 hm hi hF h27
    refine V_iload_n hE dX5_round_2 rfl ?_
    refine V_bipush hE dX5_round_3 (by decide) ?_
    refine V_icmp_ge hE 26 dX5_round_5 (by decide) (by omega) (fun h5 => ?_) (fun h5 => ?_)
    · have ei : i = 63 := by omega
      subst ei
      exact hk _ hF h27
    · refine V_aload_n hE dX5_round_8 rfl ?_
      refine gf_X5_45 hE rfl dX5_round_9 ?_
      refine V_iload_n hE dX5_round_12 rfl ?_
      refine V_aload_n hE dX5_round_13 rfl ?_
      refine gf_X5_22 hE rfl dX5_round_14 ?_
      refine V_iload_n hE dX5_round_17 rfl ?_
      refine V_iaload hE dX5_round_18 rfl (by omega) ?_
      refine V_iastore hE dX5_round_19 rfl (by omega) ?_
      refine V_iinc hE dX5_round_20 rfl rfl ?_
      refine V_goto hE 2 dX5_round_23 (by decide) ?_
      refine ih _ _ (by omega) (by omega) (Fr_up hF (by decide)) (fun j hj => ?_)
      rw [up_at]
      split
      · subst j; rw [hF 20 (by decide)]
      · exact h27 j (by omega)
set_option maxRecDepth 100000 in
set_option maxHeartbeats 4000000 in
theorem lp_X5_round_35 {K : Ctx} {E : ME} {σ : Sto} (hI : IM σ) {v : Int} (hv : v = 0 ∨ v = 1) (hk : ∀ σ1 : Sto, Fr [20, 116, 23, 24, 25, 26, 117] σ σ1 → Rng (σ1 24) → σ1 20 = itL (fairO (σ 22) (σ 110 0) (σ 111 0) (σ 112 0) (σ 113 0)) v (if v = 0 then σ 111 0 else σ 110 0).toNat (σ 20) → V K E mX5_round 57 [some (.ref (kA K 19)), some (.int (i32 v)), some (.int (i32 (if v = 0 then σ 111 0 else σ 110 0)))] [] σ1) (hE : Ok K E mX5_round 7) : ∀ (n : Nat) (k : Int) (σ1 : Sto), (if v = 0 then σ 111 0 else σ 110 0) - k < n → (0 ≤ k ∧ k ≤ (if v = 0 then σ 111 0 else σ 110 0)) → (Fr [20, 116, 23, 24, 25, 26, 117] σ σ1) → (Rng (σ1 24)) → (σ1 20 = itL (fairO (σ 22) (σ 110 0) (σ 111 0) (σ 112 0) (σ 113 0)) v k.toNat (σ 20)) → V K E mX5_round 35 [some (.ref (kA K 19)), some (.int (i32 v)), some (.int (i32 k))] [] σ1 := by
  intro n
  induction n with
  | zero =>
    intro k σ1 hm hk1 hF h24 h20
    exfalso; omega
  | succ n ih =>
    intro k σ1 hm hk1 hF h24 h20
    obtain ⟨hS, hW, hB, hRe, hLo, hHi, hO, hPu, hHe, hAt⟩ := id hI
    have e111 : σ1 111 0 = σ 111 0 := by rw [hF 111 (by decide)]
    have e110 : σ1 110 0 = σ 110 0 := by rw [hF 110 (by decide)]
    have hR1 : Rng (σ1 20) := by rw [h20]; exact itL_rng hS hW hRe hv hO _ (by omega)
    have hI1 : IM σ1 := IM_fair hI ⟨Fr_sub hF (by decide), h24⟩ hR1
    refine V_iload_n hE dX5_round_35 rfl ?_
    refine V_aload_n hE dX5_round_36 rfl ?_
    refine V_iload_n hE dX5_round_37 rfl ?_
    refine cf_X5_93 hE rfl dX5_round_38 (c_X5_linesOf (by omega)) rfl rfl ?_
    refine V_icmp_ge hE 57 dX5_round_41 (by decide) (by omega) (fun h41 => ?_) (fun h41 => ?_)
    · have ek : k = (if v = 0 then σ 111 0 else σ 110 0) := by omega
      subst ek
      exact hk _ hF h24 h20
    · refine V_aload_n hE dX5_round_44 rfl ?_
      refine V_iload_n hE dX5_round_45 rfl ?_
      refine V_iload_n hE dX5_round_46 rfl ?_
      refine cl_X5_160 hE rfl dX5_round_47 (c_X5_fairs hI1 (by omega)) rfl rfl ?_
      rintro r σ2 ⟨hF2, hR2, h2, -⟩
      refine V_pop hE dX5_round_50 rfl ?_
      refine V_iinc hE dX5_round_51 rfl rfl ?_
      refine V_goto hE 35 dX5_round_54 (by decide) ?_
      refine ih _ _ (by omega) (by omega) (Fr_tr hF hF2 (fun _ h => h)) hR2 ?_
      rw [itL_step _ _ _ (by omega), ← h20, h2, hF 22 (by decide), e110, e111, hF 112 (by decide), hF 113 (by decide)]
set_option maxRecDepth 100000 in
set_option maxHeartbeats 4000000 in
theorem lp_X5_round_67 {K : Ctx} {E : ME} {σ σ1 : Sto} (hI : IM σ) (hFM : FairM σ σ1) (h20 : σ1 20 = (roundO (σ 22) (σ 110 0) (σ 111 0) (σ 112 0) (σ 113 0) (σ 20))) (h27 : ∀ j : Nat, (j : Int) < 63 → σ1 27 j = σ 20 j) (hE : Ok K E mX5_round 7) (hR : RetZ K E mX5_round (fun r σ' => r = (if difB (σ 20) (roundO (σ 22) (σ 110 0) (σ 111 0) (σ 112 0) (σ 113 0) (σ 20)) 63 = true then 1 else 0) ∧ FairM σ σ' ∧ σ' 20 = (roundO (σ 22) (σ 110 0) (σ 111 0) (σ 112 0) (σ 113 0) (σ 20)))) : ∀ (n : Nat) (i a : Int), 63 - i < n → (0 ≤ i ∧ i ≤ 63) → (a = (if difB (σ1 27) (σ1 20) i.toNat = true then 1 else 0)) → V K E mX5_round 67 [some (.ref (kA K 19)), some (.int (i32 a)), some (.int (i32 i))] [] σ1 := by
  intro n
  induction n with
  | zero =>
    intro i a hm hi ha
    exfalso; omega
  | succ n ih =>
    intro i a hm hi ha
    obtain ⟨hS, hW, hB, hRe, hLo, hHi, hO, hPu, hHe, hAt⟩ := id hI
    have hr0 := roundO_rng (h := σ 22) (bn := σ 112 0) hS hW hRe hO
    rw [← h20] at hr0
    have hr1 := hr0 i.toNat
    have h01 : a = 0 ∨ a = 1 := by rw [ha]; split <;> simp
    refine V_iload_n hE dX5_round_67 rfl ?_
    refine V_bipush hE dX5_round_68 (by decide) ?_
    refine V_icmp_ge hE 104 dX5_round_70 (by decide) (by omega) (fun h70 => ?_) (fun h70 => ?_)
    · refine V_iload_n hE dX5_round_104 rfl ?_
      refine V_zreturn hR dX5_round_105 (by omega) ?_
      have ei : i = 63 := by omega
      subst ei
      refine ⟨?_, hFM, h20⟩
      rw [ha, h20, difB_congr (o1 := σ1 27) (o2 := σ 20) _ (fun j hj => h27 j (by omega))]
      rfl
    · refine V_iload_n hE dX5_round_73 rfl ?_
      refine V_if_ne hE 92 dX5_round_74 (by decide) (by omega) (fun h74 => ?_) (fun h74 => ?_)
      · refine V_iconst hE dX5_round_92 ?_
        refine V_goto hE 97 dX5_round_93 (by decide) ?_
        refine V_istore_n hE dX5_round_97 rfl ?_
        refine V_iinc hE dX5_round_98 rfl rfl ?_
        refine V_goto hE 67 dX5_round_101 (by decide) ?_
        refine ih _ _ (by omega) (by omega) ?_
        rw [difB_step _ _ (by omega)]
        first
          | (have hb : difB (σ1 27) (σ1 20) i.toNat = true := by
               by_cases hb : difB (σ1 27) (σ1 20) i.toNat = true
               · exact hb
               · rw [if_neg hb] at ha; exact absurd ha h74
             rw [hb]; rfl)
          | (have hb : difB (σ1 27) (σ1 20) i.toNat = false := by
               cases hb : difB (σ1 27) (σ1 20) i.toNat with
               | false => rfl
               | true => rw [if_pos hb] at ha; omega
             rw [hb]
             first
               | (rw [decide_eq_false (by rw [h89]; simp)]; rfl)
               | (rw [decide_eq_true (by assumption)]; rfl))
      · have hr2 := hO i.toNat
        have e27 := h27 i.toNat (by omega)
        refine V_aload_n hE dX5_round_77 rfl ?_
        refine gf_X5_45 hE rfl dX5_round_78 ?_
        refine V_iload_n hE dX5_round_81 rfl ?_
        refine V_iaload hE dX5_round_82 rfl (by omega) ?_
        refine V_aload_n hE dX5_round_83 rfl ?_
        refine gf_X5_22 hE rfl dX5_round_84 ?_
        refine V_iload_n hE dX5_round_87 rfl ?_
        refine V_iaload hE dX5_round_88 rfl (by omega) ?_
        refine V_icmp_eq hE 96 dX5_round_89 (by decide) (by omega) (fun h89 => ?_) (fun h89 => ?_)
        · refine V_iconst hE dX5_round_96 ?_
          refine V_istore_n hE dX5_round_97 rfl ?_
          refine V_iinc hE dX5_round_98 rfl rfl ?_
          refine V_goto hE 67 dX5_round_101 (by decide) ?_
          refine ih _ _ (by omega) (by omega) ?_
          rw [difB_step _ _ (by omega)]
          first
            | (have hb : difB (σ1 27) (σ1 20) i.toNat = true := by
                 by_cases hb : difB (σ1 27) (σ1 20) i.toNat = true
                 · exact hb
                 · rw [if_neg hb] at ha; exact absurd ha h74
               rw [hb]; rfl)
            | (have hb : difB (σ1 27) (σ1 20) i.toNat = false := by
                 cases hb : difB (σ1 27) (σ1 20) i.toNat with
                 | false => rfl
                 | true => rw [if_pos hb] at ha; omega
               rw [hb]
               first
                 | (rw [decide_eq_false (by rw [h89]; simp)]; rfl)
                 | (rw [decide_eq_true (by assumption)]; rfl))
        · refine V_iconst hE dX5_round_92 ?_
          refine V_goto hE 97 dX5_round_93 (by decide) ?_
          refine V_istore_n hE dX5_round_97 rfl ?_
          refine V_iinc hE dX5_round_98 rfl rfl ?_
          refine V_goto hE 67 dX5_round_101 (by decide) ?_
          refine ih _ _ (by omega) (by omega) ?_
          rw [difB_step _ _ (by omega)]
          first
            | (have hb : difB (σ1 27) (σ1 20) i.toNat = true := by
                 by_cases hb : difB (σ1 27) (σ1 20) i.toNat = true
                 · exact hb
                 · rw [if_neg hb] at ha; exact absurd ha h74
               rw [hb]; rfl)
            | (have hb : difB (σ1 27) (σ1 20) i.toNat = false := by
                 cases hb : difB (σ1 27) (σ1 20) i.toNat with
                 | false => rfl
                 | true => rw [if_pos hb] at ha; omega
               rw [hb]
               first
                 | (rw [decide_eq_false (by rw [h89]; simp)]; rfl)
                 | (rw [decide_eq_true (by assumption)]; rfl))
set_option maxRecDepth 100000 in
set_option maxHeartbeats 4000000 in
theorem c_X5_round {K : Ctx} {σ : Sto} (hI : IM σ) : CtI K mX5_round 7 [.ref (kA K 19)] σ (fun r σ' => r = (if difB (σ 20) (roundO (σ 22) (σ 110 0) (σ 111 0) (σ 112 0) (σ 113 0) (σ 20)) 63 = true then 1 else 0) ∧ FairM σ σ' ∧ σ' 20 = (roundO (σ 22) (σ 110 0) (σ 111 0) (σ 112 0) (σ 113 0) (σ 20))) := by
  obtain ⟨hS, hW, hB, hRe, hLo, hHi, hO, hPu, hHe, hAt⟩ := id hI
  refine CtZ_of (L := [some (.ref (kA K 19)), none, none]) (by decide) rfl rfl rfl ?_
  intro E hE hR
  refine V_iconst hE dX5_round_0 ?_
  refine V_istore_n hE dX5_round_1 rfl ?_
  refine lp_X5_round_2 hI ?_ hE 100 0 σ (by omega) (by omega) Fr_rf (fun j hj => by omega)
  intro σ1 hF1 h27
  refine V_iconst hE dX5_round_26 ?_
  refine V_istore_n hE dX5_round_27 rfl ?_
  refine V_iload_n hE dX5_round_28 rfl ?_
  refine V_iconst hE dX5_round_29 ?_
  refine V_icmp_ge hE 63 dX5_round_30 (by decide) (by omega) (fun h30 => ?_) (fun h30 => ?_)
  · exfalso; omega
  · refine V_iconst hE dX5_round_33 ?_
    refine V_istore_n hE dX5_round_34 rfl ?_
    have hI1 : IM σ1 := IM_25 hI hF1 (by decide) (by decide)
    have f110 : σ1 110 0 = σ 110 0 := by rw [hF1 110 (by decide)]
    have f111 : σ1 111 0 = σ 111 0 := by rw [hF1 111 (by decide)]
    refine lp_X5_round_35 hI1 (v := 0) (Or.inl rfl) ?_ hE 100 0 σ1 (by omega) (by omega) Fr_rf (IM_at hI1) rfl
    intro σ2 hF2 hR2 e2
    replace e2 : σ2 20 = itL (fairO (σ 22) (σ 110 0) (σ 111 0) (σ 112 0) (σ 113 0)) 0 (σ 111 0).toNat (σ1 20) := by
      rw [hF1 22 (by decide), f110, f111, hF1 112 (by decide), hF1 113 (by decide)] at e2
      exact e2
    refine V_iinc hE dX5_round_57 rfl rfl ?_
    refine V_goto hE 28 dX5_round_60 (by decide) ?_
    refine V_iload_n hE dX5_round_28 rfl ?_
    refine V_iconst hE dX5_round_29 ?_
    refine V_icmp_ge hE 63 dX5_round_30 (by decide) (by omega) (fun h30 => ?_) (fun h30 => ?_)
    · exfalso; omega
    · refine V_iconst hE dX5_round_33 ?_
      refine V_istore_n hE dX5_round_34 rfl ?_
      have hI2 : IM σ2 := IM_fair hI ⟨Fr_sub (Fr_tr (Fr_sub hF1 (by decide : ∀ k ∈ [27], k ∈ 20 :: scM)) hF2 (by decide)) (fun _ h => h), hR2⟩ (by rw [e2, hF1 20 (by decide)]; exact itL_rng hS hW hRe (Or.inl rfl) hO _ (by omega))
      have g110 : σ2 110 0 = σ 110 0 := by rw [hF2 110 (by decide), hF1 110 (by decide)]
      have g111 : σ2 111 0 = σ 111 0 := by rw [hF2 111 (by decide), hF1 111 (by decide)]
      refine lp_X5_round_35 hI2 (v := 1) (Or.inr rfl) ?_ hE 100 0 σ2 (by omega) (by omega) Fr_rf hR2 rfl
      intro σ3 hF3 hR3 e3
      refine V_iinc hE dX5_round_57 rfl rfl ?_
      refine V_goto hE 28 dX5_round_60 (by decide) ?_
      refine V_iload_n hE dX5_round_28 rfl ?_
      refine V_iconst hE dX5_round_29 ?_
      refine V_icmp_ge hE 63 dX5_round_30 (by decide) (by omega) (fun h30 => ?_) (fun h30 => ?_)
      · refine V_iconst hE dX5_round_63 ?_
        refine V_istore_n hE dX5_round_64 rfl ?_
        refine V_iconst hE dX5_round_65 ?_
        refine V_istore_n hE dX5_round_66 rfl ?_
        refine lp_X5_round_67 hI ⟨Fr_tr (Fr_tr (Fr_sub hF1 (by decide : ∀ k ∈ [27], k ∈ 20 :: scM)) hF2 (by decide)) hF3 (by decide), hR3⟩ ?_ ?_ hE hR 100 0 0 (by omega) (by omega) rfl
        · rw [e3, e2, g110, g111, hF2 22 (by decide), hF2 112 (by decide), hF2 113 (by decide), hF1 22 (by decide), hF1 112 (by decide), hF1 113 (by decide), hF1 20 (by decide)]
          rfl
        · intro j hj
          rw [hF3 27 (by decide), hF2 27 (by decide)]
          exact h27 j hj
      · exfalso; omega
set_option maxRecDepth 100000 in
set_option maxHeartbeats 4000000 in
theorem lp_X5_rounds_17 {K : Ctx} {E : ME} {σ : Sto} {n0 : Int} (hI : IM σ) (hn : 1 ≤ n0 ∧ n0 ≤ 20) (hE : Ok K E mX5_rounds 8) (hR : RetI K E mX5_rounds (fun r σ' => r = rdsS (σ 20) (σ 22) (σ 110 0) (σ 111 0) (σ 112 0) (σ 113 0) n0 ∧ FairM σ σ' ∧ σ' 20 = (if 1 ≤ n0 ∧ n0 ≤ 20 then (rrS (σ 22) (σ 110 0) (σ 111 0) (σ 112 0) (σ 113 0) (n0 - 1).toNat (σ 20)).2 else σ 20))) : ∀ (n : Nat) (i : Int) (σ1 : Sto), n0 - i + 1 < n → (1 ≤ i ∧ i ≤ n0) → (FairM σ σ1) → (Rng (σ1 20)) → (i + (rrS (σ 22) (σ 110 0) (σ 111 0) (σ 112 0) (σ 113 0) (n0 - i).toNat (σ1 20)).1 = 1 + (rrS (σ 22) (σ 110 0) (σ 111 0) (σ 112 0) (σ 113 0) (n0 - 1).toNat (σ 20)).1) → ((rrS (σ 22) (σ 110 0) (σ 111 0) (σ 112 0) (σ 113 0) (n0 - i).toNat (σ1 20)).2 = (rrS (σ 22) (σ 110 0) (σ 111 0) (σ 112 0) (σ 113 0) (n0 - 1).toNat (σ 20)).2) → V K E mX5_rounds 17 [some (.ref (kA K 19)), some (.int (i32 n0)), some (.int (i32 i))] [] σ1 := by
  intro n
  induction n with
  | zero =>
    intro i σ1 hm hi hFM hR1 hA hB1
    exfalso; omega
  | succ n ih =>
    intro i σ1 hm hi hFM hR1 hA hB1
    obtain ⟨hS, hW, hB, hRe, hLo, hHi, hO, hPu, hHe, hAt⟩ := id hI
    have hI1 : IM σ1 := IM_fair hI hFM hR1
    have e := hFM.1
    refine V_aload_n hE dX5_rounds_17 rfl ?_
    refine cl_X5_165 hE rfl dX5_rounds_18 (c_X5_round hI1) rfl rfl ?_
    rintro r σ2 ⟨hr, hFM2, h2⟩
    rw [e 22 (by decide), e 110 (by decide), e 111 (by decide), e 112 (by decide), e 113 (by decide)] at hr h2
    have hFM3 := FairM_tr hFM hFM2
    have hR2 : Rng (σ2 20) := by rw [h2]; exact roundO_rng hS hW hRe hR1
    have hr01 : r = 0 ∨ r = 1 := by rw [hr]; split <;> simp
    refine V_if_eq hE 35 dX5_rounds_21 (by decide) (by omega) (fun h21 => ?_) (fun h21 => ?_)
    · refine V_iload_n hE dX5_rounds_35 rfl ?_
      refine V_ireturn hR dX5_rounds_36 ?_
      have key : (rrS (σ 22) (σ 110 0) (σ 111 0) (σ 112 0) (σ 113 0) (n0 - i).toNat (σ1 20)) = (0, σ2 20) := by
        by_cases hz : n0 - i = 0
        · rw [show (n0 - i).toNat = 0 by omega, rrS, ← h2]
        · rw [show (n0 - i).toNat = (n0 - i - 1).toNat + 1 by omega, rrS, ← h2]
          refine if_neg (fun hd => ?_)
          rw [← h2, if_pos hd] at hr
          omega
      rw [key] at hA hB1
      refine ⟨?_, hFM3, ?_⟩
      · unfold rdsS
        refine Eq.symm ((if_pos hn).trans ?_)
        rw [← hA]
        show i + 0 = i
        omega
      · rw [if_pos hn, ← hB1]
    · refine V_iload_n hE dX5_rounds_24 rfl ?_
      refine V_iload_n hE dX5_rounds_25 rfl ?_
      refine V_icmp_ge hE 35 dX5_rounds_26 (by decide) (by omega) (fun h26 => ?_) (fun h26 => ?_)
      · refine V_iload_n hE dX5_rounds_35 rfl ?_
        refine V_ireturn hR dX5_rounds_36 ?_
        have key : (rrS (σ 22) (σ 110 0) (σ 111 0) (σ 112 0) (σ 113 0) (n0 - i).toNat (σ1 20)) = (0, σ2 20) := by
          by_cases hz : n0 - i = 0
          · rw [show (n0 - i).toNat = 0 by omega, rrS, ← h2]
          · rw [show (n0 - i).toNat = (n0 - i - 1).toNat + 1 by omega, rrS, ← h2]
            refine if_neg (fun hd => ?_)
            rw [← h2, if_pos hd] at hr
            omega
        rw [key] at hA hB1
        refine ⟨?_, hFM3, ?_⟩
        · unfold rdsS
          refine Eq.symm ((if_pos hn).trans ?_)
          rw [← hA]
          show i + 0 = i
          omega
        · rw [if_pos hn, ← hB1]
      · refine V_iinc hE dX5_rounds_29 rfl rfl ?_
        refine V_goto hE 17 dX5_rounds_32 (by decide) ?_
        have hd : difB (σ1 20) (σ2 20) 63 = true := by
          cases hd : difB (σ1 20) (σ2 20) 63 with
          | true => rfl
          | false => rw [← h2, hd] at hr; simp at hr; omega
        rw [show (n0 - i).toNat = (n0 - (i + 1)).toNat + 1 by omega, rrS, ← h2, if_pos hd] at hA hB1
        refine ih _ _ (by omega) (by omega) hFM3 hR2 ?_ hB1
        rw [← hA]
        show _ = i + (_ + 1)
        omega
set_option maxRecDepth 100000 in
set_option maxHeartbeats 4000000 in
theorem c_X5_rounds {K : Ctx} {σ : Sto} {n0 : Int} (hI : IM σ) (hv : InI n0) : CtI K mX5_rounds 8 [.ref (kA K 19), .int (i32 n0)] σ (fun r σ' => r = rdsS (σ 20) (σ 22) (σ 110 0) (σ 111 0) (σ 112 0) (σ 113 0) n0 ∧ FairM σ σ' ∧ σ' 20 = (if 1 ≤ n0 ∧ n0 ≤ 20 then (rrS (σ 22) (σ 110 0) (σ 111 0) (σ 112 0) (σ 113 0) (n0 - 1).toNat (σ 20)).2 else σ 20)) := by
  obtain ⟨hS, hW, hB, hRe, hLo, hHi, hO, hPu, hHe, hAt⟩ := id hI
  refine CtI_of (L := [some (.ref (kA K 19)), some (.int (i32 n0)), none]) (by decide) rfl rfl rfl ?_
  intro E hE hR
  refine V_iload_n hE dX5_rounds_0 rfl ?_
  refine V_i2l hE dX5_rounds_1 (by omega) ?_
  refine V_lconst1 hE dX5_rounds_2 ?_
  refine V_ldc2 hE tw_cl_X5_163 dX5_rounds_3 ?_
  refine cf_X5_67 hE rfl dX5_rounds_6 (c_X5_within (by omega)) rfl rfl ?_
  refine V_if_ne hE 15 dX5_rounds_9 (by decide) (by omega) (fun h9 => ?_) (fun h9 => ?_)
  · refine V_iconst hE dX5_rounds_15 ?_
    refine V_istore_n hE dX5_rounds_16 rfl ?_
    exact lp_X5_rounds_17 hI (by omega) hE hR 100 1 σ (by omega) (by omega) (FairM_rf hAt) hO rfl rfl
  · refine V_bipush hE dX5_rounds_12 (by decide) ?_
    refine V_ireturn hR dX5_rounds_14 ?_
    exact ⟨by unfold rdsS; exact (if_neg (by omega)).symm, FairM_rf hAt, (if_neg (by omega)).symm⟩
