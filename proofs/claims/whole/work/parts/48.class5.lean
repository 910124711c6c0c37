set_option maxRecDepth 100000 in
set_option maxHeartbeats 4000000 in
theorem c_X2_moveOf {K : Ctx} {σ : Sto} {i : Int} (hi : 0 ≤ i ∧ i < 9) : CtI K mX2_moveOf 0 [.ref (kA K 3), .int (i32 i)] σ (fun r σ' => r = σ 15 (i + 3).toNat ∧ σ' = σ) := by
  refine CtI_of (L := [some (.ref (kA K 3)), some (.int (i32 i))]) (by decide) rfl rfl rfl ?_
  intro E hE hR
  refine V_aload_n hE dX2_moveOf_0 rfl ?_
  refine gf_X2_21 hE rfl dX2_moveOf_1 ?_
  refine V_iload_n hE dX2_moveOf_4 rfl ?_
  refine V_iconst hE dX2_moveOf_5 ?_
  refine V_iadd hE dX2_moveOf_6 ?_
  refine V_iaload hE dX2_moveOf_7 rfl (by omega) ?_
  refine V_ireturn hR dX2_moveOf_8 ?_
  exact ⟨rfl, rfl⟩
set_option maxRecDepth 100000 in
set_option maxHeartbeats 4000000 in
theorem c_X2_slot {K : Ctx} {σ : Sto} {i a b c : Int} : CtI K mX2_slot 0 [.ref (kA K 3), .int (i32 i), .int (i32 a), .int (i32 b), .int (i32 c)] σ (fun r σ' => r = 343 * (σ 103 0 - i) + (49 * (a + 3) + 7 * (b + 3) + c + 3) ∧ σ' = σ) := by
  refine CtI_of (L := [some (.ref (kA K 3)), some (.int (i32 i)), some (.int (i32 a)), some (.int (i32 b)), some (.int (i32 c)), none]) (by decide) rfl rfl rfl ?_
  intro E hE hR
  refine V_iload_n hE dX2_slot_0 rfl ?_
  refine V_iconst hE dX2_slot_1 ?_
  refine V_iadd hE dX2_slot_2 ?_
  refine V_bipush hE dX2_slot_3 (by decide) ?_
  refine V_imul hE dX2_slot_5 ?_
  refine V_iload_n hE dX2_slot_6 rfl ?_
  refine V_iadd hE dX2_slot_7 ?_
  refine V_iconst hE dX2_slot_8 ?_
  refine V_iadd hE dX2_slot_9 ?_
  refine V_bipush hE dX2_slot_10 (by decide) ?_
  refine V_imul hE dX2_slot_12 ?_
  refine V_iload hE dX2_slot_13 rfl ?_
  refine V_iadd hE dX2_slot_15 ?_
  refine V_iconst hE dX2_slot_16 ?_
  refine V_iadd hE dX2_slot_17 ?_
  refine V_istore hE dX2_slot_18 rfl ?_
  refine V_aload_n hE dX2_slot_20 rfl ?_
  refine gf_X2_36 hE rfl dX2_slot_21 ?_
  refine V_iload_n hE dX2_slot_24 rfl ?_
  refine V_isub hE dX2_slot_25 ?_
  refine V_sipush hE dX2_slot_26 (by decide) ?_
  refine V_imul hE dX2_slot_29 ?_
  refine V_iload hE dX2_slot_30 rfl ?_
  refine V_iadd hE dX2_slot_32 ?_
  refine V_ireturn hR dX2_slot_33 ?_
  exact ⟨by omega, rfl⟩
set_option maxRecDepth 100000 in
set_option maxHeartbeats 4000000 in
theorem c_X2_place {K : Ctx} {σ : Sto} {i o r : Int} (hi : 0 ≤ i ∧ i < 9) (ho : 0 ≤ o ∧ o ≤ 999) (hr : 0 ≤ r ∧ r ≤ 3) : CtV K mX2_place 1 [.ref (kA K 3), .int (i32 i), .int (i32 o), .int (i32 r)] σ (fun σ' => σ' = up (up (up σ 12 (i + 3).toNat o) 13 (i + 3).toNat (max (-r) (-o))) 14 (i + 3).toNat (min r (999 - o))) := by
  refine CtV_of (L := [some (.ref (kA K 3)), some (.int (i32 i)), some (.int (i32 o)), some (.int (i32 r))]) (by decide) rfl rfl rfl ?_
  intro E hE hR
  refine V_aload_n hE dX2_place_0 rfl ?_
  refine gf_X2_11 hE rfl dX2_place_1 ?_
  refine V_iload_n hE dX2_place_4 rfl ?_
  refine V_iconst hE dX2_place_5 ?_
  refine V_iadd hE dX2_place_6 ?_
  refine V_iload_n hE dX2_place_7 rfl ?_
  refine V_iastore hE dX2_place_8 rfl (by omega) ?_
  refine V_aload_n hE dX2_place_9 rfl ?_
  refine gf_X2_15 hE rfl dX2_place_10 ?_
  refine V_iload_n hE dX2_place_13 rfl ?_
  refine V_iconst hE dX2_place_14 ?_
  refine V_iadd hE dX2_place_15 ?_
  refine V_iload_n hE dX2_place_16 rfl ?_
  refine V_ineg hE dX2_place_17 ?_
  refine V_iload_n hE dX2_place_18 rfl ?_
  refine V_ineg hE dX2_place_19 ?_
  refine V_max hE tw_ml_X2_27 dX2_place_20 rfl rfl (by omega) ?_
  refine V_iastore hE dX2_place_23 rfl (by omega) ?_
  refine V_aload_n hE dX2_place_24 rfl ?_
  refine gf_X2_18 hE rfl dX2_place_25 ?_
  refine V_iload_n hE dX2_place_28 rfl ?_
  refine V_iconst hE dX2_place_29 ?_
  refine V_iadd hE dX2_place_30 ?_
  refine V_iload_n hE dX2_place_31 rfl ?_
  refine V_sipush hE dX2_place_32 (by decide) ?_
  refine V_iload_n hE dX2_place_35 rfl ?_
  refine V_isub hE dX2_place_36 ?_
  refine V_min hE tw_ml_X2_33 dX2_place_37 rfl rfl (by omega) ?_
  refine V_iastore hE dX2_place_40 rfl (by omega) ?_
  refine V_return hR dX2_place_41 ?_
  rfl
set_option maxRecDepth 100000 in
set_option maxHeartbeats 4000000 in
theorem lp_X2_stay_2 {K : Ctx} {E : ME} {σ : Sto} (hE : Ok K E mX2_stay 0) (hR : RetV K E mX2_stay (fun σ' => Fr [15] σ σ' ∧ ∀ j : Nat, j < 12 → σ' 15 j = 0)) : ∀ (n : Nat) (i : Int) (σ1 : Sto), 12 - i < n → (0 ≤ i ∧ i ≤ 12) → (Fr [15] σ σ1) → (∀ j : Nat, (j : Int) < i → σ1 15 j = 0) → V K E mX2_stay 2 [some (.ref (kA K 3)), some (.int (i32 i))] [] σ1 := by
  intro n
  induction n with
  | zero =>
    intro i σ1 hm hi hF h0
    exfalso; omega
  | succ n ih =>
    intro i σ1 hm hi hF h0
    refine V_iload_n hE dX2_stay_2 rfl ?_
    refine V_aload_n hE dX2_stay_3 rfl ?_
    refine gf_X2_21 hE rfl dX2_stay_4 ?_
    refine V_alen hE dX2_stay_7 rfl (by decide) ?_
    refine V_icmp_ge hE 24 dX2_stay_8 (by decide) (by omega) (fun h8 => ?_) (fun h8 => ?_)
    · refine V_return hR dX2_stay_24 ?_
      exact ⟨hF, fun j hj => h0 j (by omega)⟩
    · refine V_aload_n hE dX2_stay_11 rfl ?_
      refine gf_X2_21 hE rfl dX2_stay_12 ?_
      refine V_iload_n hE dX2_stay_15 rfl ?_
      refine V_iconst hE dX2_stay_16 ?_
      refine V_iastore hE dX2_stay_17 rfl (by omega) ?_
      refine V_iinc hE dX2_stay_18 rfl rfl ?_
      refine V_goto hE 2 dX2_stay_21 (by decide) ?_
      refine ih _ _ (by omega) (by omega) (Fr_up hF (by decide)) (fun j hj => ?_)
      rw [up_at]
      split
      · rfl
      · exact h0 j (by omega)
set_option maxRecDepth 100000 in
set_option maxHeartbeats 4000000 in
theorem c_X2_stay {K : Ctx} {σ : Sto} : CtV K mX2_stay 0 [.ref (kA K 3)] σ (fun σ' => Fr [15] σ σ' ∧ ∀ j : Nat, j < 12 → σ' 15 j = 0) := by
  refine CtV_of (L := [some (.ref (kA K 3)), none]) (by decide) rfl rfl rfl ?_
  intro E hE hR
  refine V_iconst hE dX2_stay_0 ?_
  refine V_istore_n hE dX2_stay_1 rfl ?_
  exact lp_X2_stay_2 hE hR 100 0 σ (by omega) (by omega) Fr_rf (fun j hj => by omega)
set_option maxRecDepth 100000 in
set_option maxHeartbeats 4000000 in
theorem c_X2_jumpUnmoved {K : Ctx} {σ : Sto} {f hd : Nat → Int} {bn r nn : Int} (hP : PlC σ f hd bn r nn) {i a b c : Int} (hi : 0 ≤ i ∧ i < nn) : CtI K mX2_jumpUnmoved 0 [.ref (kA K 3), .int (i32 i), .int (i32 a), .int (i32 b), .int (i32 c)] σ (fun r σ' => r = ju f i a b c ∧ σ' = σ) := by
  have hn := hP.1.1
  refine CtI_of (L := [some (.ref (kA K 3)), some (.int (i32 i)), some (.int (i32 a)), some (.int (i32 b)), some (.int (i32 c))]) (by decide) rfl rfl rfl ?_
  intro E hE hR
  refine V_iload_n hE dX2_jumpUnmoved_0 rfl ?_
  refine V_iconst hE dX2_jumpUnmoved_1 ?_
  refine V_icmp_ge hE 7 dX2_jumpUnmoved_2 (by decide) (by omega) (fun h2 => ?_) (fun h2 => ?_)
  · refine V_aload_n hE dX2_jumpUnmoved_7 rfl ?_
    refine gf_X2_11 hE rfl dX2_jumpUnmoved_8 ?_
    refine V_iload_n hE dX2_jumpUnmoved_11 rfl ?_
    refine V_iconst hE dX2_jumpUnmoved_12 ?_
    refine V_iadd hE dX2_jumpUnmoved_13 ?_
    refine V_iaload hE dX2_jumpUnmoved_14 rfl (by omega) ?_
    refine V_iconst hE dX2_jumpUnmoved_15 ?_
    refine V_aload_n hE dX2_jumpUnmoved_16 rfl ?_
    refine gf_X2_11 hE rfl dX2_jumpUnmoved_17 ?_
    refine V_iload_n hE dX2_jumpUnmoved_20 rfl ?_
    refine V_iconst hE dX2_jumpUnmoved_21 ?_
    refine V_iadd hE dX2_jumpUnmoved_22 ?_
    refine V_iaload hE dX2_jumpUnmoved_23 rfl (by omega) ?_
    refine V_iload hE dX2_jumpUnmoved_24 rfl ?_
    refine V_iadd hE dX2_jumpUnmoved_26 ?_
    refine V_imul hE dX2_jumpUnmoved_27 ?_
    refine V_isub hE dX2_jumpUnmoved_28 ?_
    refine V_iconst hE dX2_jumpUnmoved_29 ?_
    refine V_aload_n hE dX2_jumpUnmoved_30 rfl ?_
    refine gf_X2_11 hE rfl dX2_jumpUnmoved_31 ?_
    refine V_iload_n hE dX2_jumpUnmoved_34 rfl ?_
    refine V_iconst hE dX2_jumpUnmoved_35 ?_
    refine V_iadd hE dX2_jumpUnmoved_36 ?_
    refine V_iaload hE dX2_jumpUnmoved_37 rfl (by omega) ?_
    refine V_iload_n hE dX2_jumpUnmoved_38 rfl ?_
    refine V_iadd hE dX2_jumpUnmoved_39 ?_
    refine V_imul hE dX2_jumpUnmoved_40 ?_
    refine V_iadd hE dX2_jumpUnmoved_41 ?_
    refine V_aload_n hE dX2_jumpUnmoved_42 rfl ?_
    refine gf_X2_11 hE rfl dX2_jumpUnmoved_43 ?_
    refine V_iload_n hE dX2_jumpUnmoved_46 rfl ?_
    refine V_iaload hE dX2_jumpUnmoved_47 rfl (by omega) ?_
    refine V_iload_n hE dX2_jumpUnmoved_48 rfl ?_
    refine V_iadd hE dX2_jumpUnmoved_49 ?_
    refine V_isub hE dX2_jumpUnmoved_50 ?_
    refine V_ireturn hR dX2_jumpUnmoved_51 ?_
    refine ⟨?_, rfl⟩
    have e0 := PlC_from hP hi
    have e1 := PlC_from hP (i := i - 1) (by omega)
    have e2 := PlC_from hP (i := i - 2) (by omega)
    have e3 := PlC_from hP (i := i - 3) (by omega)
    rw [show i - 1 + 3 = i + 2 by omega] at e1
    rw [show i - 2 + 3 = i + 1 by omega] at e2
    rw [show i - 3 + 3 = i by omega] at e3
    unfold ju
    rw [if_neg (by omega), e0, e1, e2, e3]
  · refine V_iconst hE dX2_jumpUnmoved_5 ?_
    refine V_ireturn hR dX2_jumpUnmoved_6 ?_
    exact ⟨by unfold ju; exact (if_pos (by omega)).symm, rfl⟩
set_option maxRecDepth 100000 in
set_option maxHeartbeats 4000000 in
theorem c_X2_firstFit {K : Ctx} {σ : Sto} {f hd : Nat → Int} {bn r nn : Int} (hP : PlC σ f hd bn r nn) {i j : Int} (hi : 0 ≤ i ∧ i < nn) (hj : -9000 ≤ j ∧ j ≤ 9000) : CtI K mX2_firstFit 1 [.ref (kA K 3), .int (i32 i), .int (i32 j)] σ (fun r σ' => r = FFt σ i j ∧ σ' = σ) := by
  obtain ⟨⟨hn, hbn, hr⟩, hf, ⟨rfl, rfl⟩, hpl, h03⟩ := id hP
  have h1 := PlC_rng hP (p := i + 3) (by omega)
  refine CtI_of (L := [some (.ref (kA K 3)), some (.int (i32 i)), some (.int (i32 j)), none]) (by decide) rfl rfl rfl ?_
  intro E hE hR
  refine V_aload_n hE dX2_firstFit_0 rfl ?_
  refine gf_X2_15 hE rfl dX2_firstFit_1 ?_
  refine V_iload_n hE dX2_firstFit_4 rfl ?_
  refine V_iconst hE dX2_firstFit_5 ?_
  refine V_iadd hE dX2_firstFit_6 ?_
  refine V_iaload hE dX2_firstFit_7 rfl (by omega) ?_
  refine V_istore_n hE dX2_firstFit_8 rfl ?_
  refine V_iload_n hE dX2_firstFit_9 rfl ?_
  refine V_iconst hE dX2_firstFit_10 ?_
  refine V_icmp_ge hE 18 dX2_firstFit_11 (by decide) (by omega) (fun h11 => ?_) (fun h11 => ?_)
  · refine V_iload_n hE dX2_firstFit_18 rfl ?_
    refine V_aload_n hE dX2_firstFit_19 rfl ?_
    refine gf_X2_40 hE rfl dX2_firstFit_20 ?_
    refine V_ineg hE dX2_firstFit_23 ?_
    refine V_iload_n hE dX2_firstFit_24 rfl ?_
    refine V_isub hE dX2_firstFit_25 ?_
    refine V_max hE tw_ml_X2_27 dX2_firstFit_26 rfl rfl (by omega) ?_
    refine V_ireturn hR dX2_firstFit_29 ?_
    first | exact ⟨by unfold FFt; exact (if_pos (by omega)).symm, rfl⟩ | exact ⟨by unfold FFt; exact (if_neg (by omega)).symm, rfl⟩
  · refine V_iload_n hE dX2_firstFit_14 rfl ?_
    refine V_goto hE 29 dX2_firstFit_15 (by decide) ?_
    refine V_ireturn hR dX2_firstFit_29 ?_
    first | exact ⟨by unfold FFt; exact (if_pos (by omega)).symm, rfl⟩ | exact ⟨by unfold FFt; exact (if_neg (by omega)).symm, rfl⟩
set_option maxRecDepth 100000 in
set_option maxHeartbeats 4000000 in
theorem c_X2_lastFit {K : Ctx} {σ : Sto} {f hd : Nat → Int} {bn r nn : Int} (hP : PlC σ f hd bn r nn) {i j : Int} (hi : 0 ≤ i ∧ i < nn) (hj : -9000 ≤ j ∧ j ≤ 9000) : CtI K mX2_lastFit 1 [.ref (kA K 3), .int (i32 i), .int (i32 j)] σ (fun r σ' => r = LFt σ i j ∧ σ' = σ) := by
  obtain ⟨⟨hn, hbn, hr⟩, hf, ⟨rfl, rfl⟩, hpl, h03⟩ := id hP
  have h1 := PlC_rng hP (p := i + 3) (by omega)
  refine CtI_of (L := [some (.ref (kA K 3)), some (.int (i32 i)), some (.int (i32 j)), none]) (by decide) rfl rfl rfl ?_
  intro E hE hR
  refine V_aload_n hE dX2_lastFit_0 rfl ?_
  refine gf_X2_18 hE rfl dX2_lastFit_1 ?_
  refine V_iload_n hE dX2_lastFit_4 rfl ?_
  refine V_iconst hE dX2_lastFit_5 ?_
  refine V_iadd hE dX2_lastFit_6 ?_
  refine V_iaload hE dX2_lastFit_7 rfl (by omega) ?_
  refine V_istore_n hE dX2_lastFit_8 rfl ?_
  refine V_iload_n hE dX2_lastFit_9 rfl ?_
  refine V_iconst hE dX2_lastFit_10 ?_
  refine V_icmp_ge hE 18 dX2_lastFit_11 (by decide) (by omega) (fun h11 => ?_) (fun h11 => ?_)
  · refine V_iload_n hE dX2_lastFit_18 rfl ?_
    refine V_aload_n hE dX2_lastFit_19 rfl ?_
    refine gf_X2_40 hE rfl dX2_lastFit_20 ?_
    refine V_iload_n hE dX2_lastFit_23 rfl ?_
    refine V_isub hE dX2_lastFit_24 ?_
    refine V_min hE tw_ml_X2_33 dX2_lastFit_25 rfl rfl (by omega) ?_
    refine V_ireturn hR dX2_lastFit_28 ?_
    first | exact ⟨by unfold LFt; exact (if_pos (by omega)).symm, rfl⟩ | exact ⟨by unfold LFt; exact (if_neg (by omega)).symm, rfl⟩
  · refine V_iload_n hE dX2_lastFit_14 rfl ?_
    refine V_goto hE 28 dX2_lastFit_15 (by decide) ?_
    refine V_ireturn hR dX2_lastFit_28 ?_
    first | exact ⟨by unfold LFt; exact (if_pos (by omega)).symm, rfl⟩ | exact ⟨by unfold LFt; exact (if_neg (by omega)).symm, rfl⟩
set_option maxRecDepth 100000 in
set_option maxHeartbeats 4000000 in
theorem lp_X2_fewestFrom_47 {K : Ctx} {E : ME} {σ : Sto} {f hd : Nat → Int} {bn r nn : Int} (hP : PlC σ f hd bn r nn) {i a b c : Int} (hi : 0 ≤ i ∧ i < nn) (ha : Lw σ i a) (hb : Lw σ (i + 1) b) (hc : Lw σ (i + 2) c) (hN : NdC σ f hd bn r nn (i + 1)) (hE : Ok K E mX2_fewestFrom 2) (hR : RetI K E mX2_fewestFrom (fun x σ' => x = dcod 1000 (G f hd bn r nn (nn - i).toNat a b c) ∧ σ' = σ)) : ∀ (n : Nat) (m y : Int), 4 - m < n → ((-3 ≤ m ∧ m ≤ 4) ∧ (FFt σ i (ju f i a b c)) ≤ m ∧ m ≤ (LFt σ i (ju f i a b c)) + 1) → (y = dcod 1000 (gl (fun m => G f hd bn r nn (nn - 1 - i).toNat b c m) (fun m => decide (cdM f hd bn r i a b c m)) (m + 3).toNat)) → (0 ≤ y ∧ y ≤ 1000) → V K E mX2_fewestFrom 47 [some (.ref (kA K 3)), some (.int (i32 i)), some (.int (i32 a)), some (.int (i32 b)), some (.int (i32 c)), some (.int (i32 (343 * (nn - (i + 1)) + (49 * (b + 3) + 7 * (c + 3) + 0 + 3)))), some (.int (i32 (ju f i a b c))), some (.int (i32 (LFt σ i (ju f i a b c)))), some (.int (i32 y)), some (.int (i32 m))] [] σ := by
  intro n
  induction n with
  | zero =>
    intro m y hm hm hy hyr
    exfalso; omega
  | succ n ih =>
    intro m y hm hm hy hyr
    obtain ⟨⟨hn, hbn, hr⟩, hf, ⟨rfl, rfl⟩, hpl, h03⟩ := id hP
    have ra := PlC_rng hP (p := i) (by omega)
    have rb := PlC_rng hP (p := i + 1) (by omega)
    have rc := PlC_rng hP (p := i + 2) (by omega)
    have rd := PlC_rng hP (p := i + 3) (by omega)
    have hj := ju_rng hf (i := i) (a := a) (b := b) (c := c) (by unfold Lw at *; omega) (by unfold Lw at *; omega) (by unfold Lw at *; omega)
    have hft := Ft_rng hP hi hj
    have hft2 : LFt σ i (ju f i a b c) ≤ σ 14 (i + 3).toNat ∧ σ 13 (i + 3).toNat ≤ FFt σ i (ju f i a b c) := by unfold FFt LFt; split <;> omega
    refine V_iload hE dX2_fewestFrom_47 rfl ?_
    refine V_iload hE dX2_fewestFrom_49 rfl ?_
    refine V_icmp_gt hE 83 dX2_fewestFrom_51 (by decide) (by omega) (fun h51 => ?_) (fun h51 => ?_)
    · refine V_iload hE dX2_fewestFrom_83 rfl ?_
      refine V_ireturn hR dX2_fewestFrom_85 ?_
      refine ⟨?_, rfl⟩
      rw [hy]
      have eG : G f hd (σ 104 0) r (σ 103 0) (σ 103 0 - i).toNat a b c = gl (fun m => G f hd (σ 104 0) r (σ 103 0) (σ 103 0 - 1 - i).toNat b c m) (fun m => decide (cdM f hd (σ 104 0) r i a b c m)) 7 := by
        rw [show (σ 103 0 - i).toNat = (σ 103 0 - 1 - i).toNat + 1 by omega, G, show σ 103 0 - (((σ 103 0 - 1 - i).toNat : Int) + 1) = i by omega]
      
      rw [eG, show (7 : Nat) = (m + 3).toNat + (4 - m).toNat by omega]
      rw [gl_ext _ _ _ _ (fun m' h1 h2 => decide_eq_false (fun hcdx => by have := (cd_iff hP hi).mp hcdx; omega))]
    · refine V_iload hE dX2_fewestFrom_54 rfl ?_
      refine V_iload hE dX2_fewestFrom_56 rfl ?_
      refine V_abs hE tw_ml_X2_66 dX2_fewestFrom_58 rfl rfl (by omega) ?_
      refine V_aload_n hE dX2_fewestFrom_61 rfl ?_
      refine gf_X2_24 hE rfl dX2_fewestFrom_62 ?_
      refine V_iload hE dX2_fewestFrom_65 rfl ?_
      refine V_iload hE dX2_fewestFrom_67 rfl ?_
      
      refine V_iadd hE dX2_fewestFrom_69 ?_
      have ev : σ 16 (343 * (σ 103 0 - (i + 1)) + (49 * (b + 3) + 7 * (c + 3) + 0 + 3) + m).toNat = dcod 1000 (G f hd (σ 104 0) r (σ 103 0) (σ 103 0 - 1 - i).toNat b c m) := by
        have h9 := hN b c m hb (by rw [show i + 1 + 1 = i + 2 by omega]; exact hc) (by rw [show i + 1 + 2 = i + 3 by omega]; exact ⟨by omega, by omega⟩)
        rw [show (σ 103 0 - (i + 1)).toNat = (σ 103 0 - 1 - i).toNat by omega] at h9
        rw [← h9]
        congr 2
        omega
      have hgr : 0 ≤ dcod 1000 (G f hd (σ 104 0) r (σ 103 0) (σ 103 0 - 1 - i).toNat b c m) ∧ dcod 1000 (G f hd (σ 104 0) r (σ 103 0) (σ 103 0 - 1 - i).toNat b c m) ≤ 1000 := by
        cases hg : G f hd (σ 104 0) r (σ 103 0) (σ 103 0 - 1 - i).toNat b c m with
        | none => simp [dcod]
        | some t => have := G_rng hr _ _ _ _ _ hg; simp only [dcod]; omega
      refine V_iaload hE dX2_fewestFrom_70 rfl (by omega) ?_
      refine V_iadd hE dX2_fewestFrom_71 ?_
      refine V_min hE tw_ml_X2_33 dX2_fewestFrom_72 rfl rfl (by omega) ?_
      refine V_istore hE dX2_fewestFrom_75 rfl ?_
      refine V_iinc hE dX2_fewestFrom_77 rfl rfl ?_
      refine V_goto hE 47 dX2_fewestFrom_80 (by decide) ?_
      have hcd : cdM f hd (σ 104 0) r i a b c m := (cd_iff hP hi).mpr ⟨by omega, by omega⟩
      have hmn := dc_min (N := 1000) (Y := G f hd (σ 104 0) r (σ 103 0) (σ 103 0 - 1 - i).toNat b c m) (k := ((m.natAbs : Nat) : Int)) hy rfl (by omega) (fun t ht => by
        obtain ⟨⟨m1, t', h1, h2, h3, h4⟩, -⟩ := gl_some _ _ _ _ ht
        have := G_rng hr _ _ _ _ _ h3
        omega) (fun t ht => by have := G_rng hr _ _ _ _ _ ht; omega)
      refine ih _ _ (by omega) (by omega) ?_ (by omega)
      rw [gl_step _ _ (by omega), if_pos (decide_eq_true hcd), ← hmn, ev]
      omega
set_option maxRecDepth 100000 in
set_option maxHeartbeats 4000000 in
theorem c_X2_fewestFrom {K : Ctx} {σ : Sto} {f hd : Nat → Int} {bn r nn : Int} (hP : PlC σ f hd bn r nn) {i a b c : Int} (hi : 0 ≤ i ∧ i < nn) (ha : Lw σ i a) (hb : Lw σ (i + 1) b) (hc : Lw σ (i + 2) c) (hN : NdC σ f hd bn r nn (i + 1)) : CtI K mX2_fewestFrom 2 [.ref (kA K 3), .int (i32 i), .int (i32 a), .int (i32 b), .int (i32 c)] σ (fun x σ' => x = dcod 1000 (G f hd bn r nn (nn - i).toNat a b c) ∧ σ' = σ) := by
  obtain ⟨⟨hn, hbn, hr⟩, hf, ⟨rfl, rfl⟩, hpl, h03⟩ := id hP
  have ra := PlC_rng hP (p := i) (by omega)
  have rb := PlC_rng hP (p := i + 1) (by omega)
  have rc := PlC_rng hP (p := i + 2) (by omega)
  have rd := PlC_rng hP (p := i + 3) (by omega)
  have hj := ju_rng hf (i := i) (a := a) (b := b) (c := c) (by unfold Lw at *; omega) (by unfold Lw at *; omega) (by unfold Lw at *; omega)
  have hft := Ft_rng hP hi hj
  have hft2 : LFt σ i (ju f i a b c) ≤ σ 14 (i + 3).toNat ∧ σ 13 (i + 3).toNat ≤ FFt σ i (ju f i a b c) := by unfold FFt LFt; split <;> omega
  refine CtI_of (L := [some (.ref (kA K 3)), some (.int (i32 i)), some (.int (i32 a)), some (.int (i32 b)), some (.int (i32 c)), none, none, none, none, none]) (by decide) rfl rfl rfl ?_
  intro E hE hR
  refine V_aload_n hE dX2_fewestFrom_0 rfl ?_
  refine V_iload_n hE dX2_fewestFrom_1 rfl ?_
  refine V_iconst hE dX2_fewestFrom_2 ?_
  refine V_iadd hE dX2_fewestFrom_3 ?_
  refine V_iload_n hE dX2_fewestFrom_4 rfl ?_
  refine V_iload hE dX2_fewestFrom_5 rfl ?_
  refine V_iconst hE dX2_fewestFrom_7 ?_
  refine cf_X2_47 hE rfl dX2_fewestFrom_8 (c_X2_slot) rfl rfl ?_
  refine V_istore hE dX2_fewestFrom_11 rfl ?_
  refine V_aload_n hE dX2_fewestFrom_13 rfl ?_
  refine V_iload_n hE dX2_fewestFrom_14 rfl ?_
  refine V_iload_n hE dX2_fewestFrom_15 rfl ?_
  refine V_iload_n hE dX2_fewestFrom_16 rfl ?_
  refine V_iload hE dX2_fewestFrom_17 rfl ?_
  refine cf_X2_57 hE rfl dX2_fewestFrom_19 (c_X2_jumpUnmoved hP hi) rfl rfl ?_
  refine V_istore hE dX2_fewestFrom_22 rfl ?_
  refine V_aload_n hE dX2_fewestFrom_24 rfl ?_
  refine V_iload_n hE dX2_fewestFrom_25 rfl ?_
  refine V_iload hE dX2_fewestFrom_26 rfl ?_
  refine cf_X2_60 hE rfl dX2_fewestFrom_28 (c_X2_lastFit hP hi hj) rfl rfl ?_
  refine V_istore hE dX2_fewestFrom_31 rfl ?_
  refine V_sipush hE dX2_fewestFrom_33 (by decide) ?_
  refine V_istore hE dX2_fewestFrom_36 rfl ?_
  refine V_aload_n hE dX2_fewestFrom_38 rfl ?_
  refine V_iload_n hE dX2_fewestFrom_39 rfl ?_
  refine V_iload hE dX2_fewestFrom_40 rfl ?_
  refine cf_X2_63 hE rfl dX2_fewestFrom_42 (c_X2_firstFit hP hi hj) rfl rfl ?_
  refine V_istore hE dX2_fewestFrom_45 rfl ?_
  have hy : (1000 : Int) = dcod 1000 (gl (fun m => G f hd (σ 104 0) r (σ 103 0) (σ 103 0 - 1 - i).toNat b c m) (fun m => decide (cdM f hd (σ 104 0) r i a b c m)) ((FFt σ i (ju f i a b c)) + 3).toNat) := by
    rw [gl_none _ _ _ (fun m h1 h2 => decide_eq_false (fun hcdx => by have := (cd_iff hP hi).mp hcdx; omega))]
    rfl
  by_cases hfl : (FFt σ i (ju f i a b c)) ≤ (LFt σ i (ju f i a b c))
  · exact lp_X2_fewestFrom_47 hP hi ha hb hc hN hE hR 100 (FFt σ i (ju f i a b c)) 1000 (by omega) (by omega) hy (by omega)
  · refine V_iload hE dX2_fewestFrom_47 rfl ?_
    refine V_iload hE dX2_fewestFrom_49 rfl ?_
    refine V_icmp_gt hE 83 dX2_fewestFrom_51 (by decide) (by omega) (fun h51 => ?_) (fun h51 => ?_)
    · refine V_iload hE dX2_fewestFrom_83 rfl ?_
      refine V_ireturn hR dX2_fewestFrom_85 ?_
      refine ⟨?_, rfl⟩
      have eG : G f hd (σ 104 0) r (σ 103 0) (σ 103 0 - i).toNat a b c = gl (fun m => G f hd (σ 104 0) r (σ 103 0) (σ 103 0 - 1 - i).toNat b c m) (fun m => decide (cdM f hd (σ 104 0) r i a b c m)) 7 := by
        rw [show (σ 103 0 - i).toNat = (σ 103 0 - 1 - i).toNat + 1 by omega, G, show σ 103 0 - (((σ 103 0 - 1 - i).toNat : Int) + 1) = i by omega]
      
      rw [eG, gl_none _ _ _ (fun m' h1 h2 => decide_eq_false (fun hcdx => by have := (cd_iff hP hi).mp hcdx; omega))]
      rfl
    · exfalso; omega
set_option maxRecDepth 100000 in
set_option maxHeartbeats 4000000 in
theorem lp_X2_firstLeading_58 {K : Ctx} {E : ME} {σ : Sto} {f hd : Nat → Int} {bn r nn : Int} (hP : PlC σ f hd bn r nn) {i a b c : Int} (hi : 0 ≤ i ∧ i < nn) (ha : Lw σ i a) (hb : Lw σ (i + 1) b) (hc : Lw σ (i + 2) c) (hN : NdC σ f hd bn r nn (i + 1)) {s : Int} (hs : G f hd bn r nn (nn - i).toNat a b c = some s) (hE : Ok K E mX2_firstLeading 2) (hR : RetI K E mX2_firstLeading (fun x σ' => x = nx f hd bn r nn i a b c ∧ σ' = σ)) : ∀ (n : Nat) (m : Int), 4 - m < n → ((-3 ≤ m ∧ m ≤ 3) ∧ (FFt σ i (ju f i a b c)) ≤ m ∧ m ≤ (LFt σ i (ju f i a b c))) → (∀ m' : Int, m' < m → cdM f hd bn r i a b c m' → oadd ((m'.natAbs : Nat) : Int) (G f hd bn r nn (nn - 1 - i).toNat b c m') ≠ G f hd bn r nn (nn - i).toNat a b c) → V K E mX2_firstLeading 58 [some (.ref (kA K 3)), some (.int (i32 i)), some (.int (i32 a)), some (.int (i32 b)), some (.int (i32 c)), some (.int (i32 s)), some (.int (i32 (343 * (nn - (i + 1)) + (49 * (b + 3) + 7 * (c + 3) + 0 + 3)))), some (.int (i32 (ju f i a b c))), some (.int (i32 (LFt σ i (ju f i a b c)))), some (.int (i32 m))] [] σ := by
  intro n
  induction n with
  | zero =>
    intro m hm hm hno
    exfalso; omega
  | succ n ih =>
    intro m hm hm hno
    obtain ⟨⟨hn, hbn, hr⟩, hf, ⟨rfl, rfl⟩, hpl, h03⟩ := id hP
    have ra := PlC_rng hP (p := i) (by omega)
    have rb := PlC_rng hP (p := i + 1) (by omega)
    have rc := PlC_rng hP (p := i + 2) (by omega)
    have rd := PlC_rng hP (p := i + 3) (by omega)
    have hj := ju_rng hf (i := i) (a := a) (b := b) (c := c) (by unfold Lw at *; omega) (by unfold Lw at *; omega) (by unfold Lw at *; omega)
    have hft := Ft_rng hP hi hj
    have hft2 : LFt σ i (ju f i a b c) ≤ σ 14 (i + 3).toNat ∧ σ 13 (i + 3).toNat ≤ FFt σ i (ju f i a b c) := by unfold FFt LFt; split <;> omega
    
    have ev : σ 16 (343 * (σ 103 0 - (i + 1)) + (49 * (b + 3) + 7 * (c + 3) + 0 + 3) + m).toNat = dcod 1000 (G f hd (σ 104 0) r (σ 103 0) (σ 103 0 - 1 - i).toNat b c m) := by
      have h9 := hN b c m hb (by rw [show i + 1 + 1 = i + 2 by omega]; exact hc) (by rw [show i + 1 + 2 = i + 3 by omega]; exact ⟨by omega, by omega⟩)
      rw [show (σ 103 0 - (i + 1)).toNat = (σ 103 0 - 1 - i).toNat by omega] at h9
      rw [← h9]
      congr 2
      omega
    have hgr : 0 ≤ dcod 1000 (G f hd (σ 104 0) r (σ 103 0) (σ 103 0 - 1 - i).toNat b c m) ∧ dcod 1000 (G f hd (σ 104 0) r (σ 103 0) (σ 103 0 - 1 - i).toNat b c m) ≤ 1000 := by
      cases hg : G f hd (σ 104 0) r (σ 103 0) (σ 103 0 - 1 - i).toNat b c m with
      | none => simp [dcod]
      | some t => have := G_rng hr _ _ _ _ _ hg; simp only [dcod]; omega
    
    have hsr := G_rng hr _ _ _ _ _ hs
    have hcd : cdM f hd (σ 104 0) r i a b c m := (cd_iff hP hi).mpr ⟨by omega, by omega⟩
    refine V_iload hE dX2_firstLeading_58 rfl ?_
    refine V_iload hE dX2_firstLeading_60 rfl ?_
    refine V_icmp_ge hE 92 dX2_firstLeading_62 (by decide) (by omega) (fun h62 => ?_) (fun h62 => ?_)
    · refine V_iload hE dX2_firstLeading_92 rfl ?_
      refine V_ireturn hR dX2_firstLeading_94 ?_
      refine ⟨?_, rfl⟩
      refine (nx_eq hr hcd ?_ hno).symm
      first
        | (rw [hs]
           rw [ev] at h83
           cases hg : G f hd (σ 104 0) r (σ 103 0) (σ 103 0 - 1 - i).toNat b c m with
           | none => rw [hg] at h83; simp only [dcod] at h83; omega
           | some t => rw [hg] at h83; simp only [dcod] at h83; simp only [oadd]; rw [h83])
        | (obtain ⟨q, hq⟩ : ∃ q : Nat, (σ 103 0 - i).toNat = q + 1 := ⟨(σ 103 0 - i).toNat - 1, by omega⟩
           have hs2 := hs
           rw [hq] at hs2
           obtain ⟨⟨m1, t1, g1, g2, g3⟩, -⟩ := G_some hr hs2
           rw [show σ 103 0 - ((q : Int) + 1) = i by omega] at g1
           have g4 := (cd_iff hP hi).mp g1
           have g5 : oadd ((m1.natAbs : Nat) : Int) (G f hd (σ 104 0) r (σ 103 0) (σ 103 0 - 1 - i).toNat b c m1) = G f hd (σ 104 0) r (σ 103 0) (σ 103 0 - i).toNat a b c := by
             rw [hs, show (σ 103 0 - 1 - i).toNat = q by omega, g2, g3]; rfl
           have g6 : m1 = m := by
             rcases Int.lt_or_le m1 m with h | h
             · exact absurd g5 (hno m1 h g1)
             · omega
           rw [← g6]
           exact g5)
    · refine V_iload hE dX2_firstLeading_65 rfl ?_
      refine V_abs hE tw_ml_X2_66 dX2_firstLeading_67 rfl rfl (by omega) ?_
      refine V_aload_n hE dX2_firstLeading_70 rfl ?_
      refine gf_X2_24 hE rfl dX2_firstLeading_71 ?_
      refine V_iload hE dX2_firstLeading_74 rfl ?_
      refine V_iload hE dX2_firstLeading_76 rfl ?_
      refine V_iadd hE dX2_firstLeading_78 ?_
      skip
      refine V_iaload hE dX2_firstLeading_79 rfl (by omega) ?_
      refine V_iadd hE dX2_firstLeading_80 ?_
      refine V_iload hE dX2_firstLeading_81 rfl ?_
      refine V_icmp_eq hE 92 dX2_firstLeading_83 (by decide) (by omega) (fun h83 => ?_) (fun h83 => ?_)
      · refine V_iload hE dX2_firstLeading_92 rfl ?_
        refine V_ireturn hR dX2_firstLeading_94 ?_
        refine ⟨?_, rfl⟩
        refine (nx_eq hr hcd ?_ hno).symm
        first
          | (rw [hs]
             rw [ev] at h83
             cases hg : G f hd (σ 104 0) r (σ 103 0) (σ 103 0 - 1 - i).toNat b c m with
             | none => rw [hg] at h83; simp only [dcod] at h83; omega
             | some t => rw [hg] at h83; simp only [dcod] at h83; simp only [oadd]; rw [h83])
          | (obtain ⟨q, hq⟩ : ∃ q : Nat, (σ 103 0 - i).toNat = q + 1 := ⟨(σ 103 0 - i).toNat - 1, by omega⟩
             have hs2 := hs
             rw [hq] at hs2
             obtain ⟨⟨m1, t1, g1, g2, g3⟩, -⟩ := G_some hr hs2
             rw [show σ 103 0 - ((q : Int) + 1) = i by omega] at g1
             have g4 := (cd_iff hP hi).mp g1
             have g5 : oadd ((m1.natAbs : Nat) : Int) (G f hd (σ 104 0) r (σ 103 0) (σ 103 0 - 1 - i).toNat b c m1) = G f hd (σ 104 0) r (σ 103 0) (σ 103 0 - i).toNat a b c := by
               rw [hs, show (σ 103 0 - 1 - i).toNat = q by omega, g2, g3]; rfl
             have g6 : m1 = m := by
               rcases Int.lt_or_le m1 m with h | h
               · exact absurd g5 (hno m1 h g1)
               · omega
             rw [← g6]
             exact g5)
      · refine V_iinc hE dX2_firstLeading_86 rfl rfl ?_
        refine V_goto hE 58 dX2_firstLeading_89 (by decide) ?_
        refine ih _ (by omega) (by omega) (fun m' h1 h2 => ?_)
        by_cases e : m' = m
        · subst e
          intro h3
          rw [hs] at h3
          rw [ev] at h83
          cases hg : G f hd (σ 104 0) r (σ 103 0) (σ 103 0 - 1 - i).toNat b c m' with
          | none => rw [hg] at h3; simp [oadd] at h3
          | some t => rw [hg] at h3 h83; simp only [oadd, dcod, Option.some.injEq] at h3 h83; exact h83 h3
        · exact hno m' (by omega) h2
set_option maxRecDepth 100000 in
set_option maxHeartbeats 4000000 in
theorem c_X2_firstLeading {K : Ctx} {σ : Sto} {f hd : Nat → Int} {bn r nn : Int} (hP : PlC σ f hd bn r nn) {i a b c : Int} (hi : 0 ≤ i ∧ i < nn) (ha : Lw σ i a) (hb : Lw σ (i + 1) b) (hc : Lw σ (i + 2) c) (hN : NdC σ f hd bn r nn (i + 1)) {s : Int} (hs : G f hd bn r nn (nn - i).toNat a b c = some s) (hN0 : NdC σ f hd bn r nn i) : CtI K mX2_firstLeading 2 [.ref (kA K 3), .int (i32 i), .int (i32 a), .int (i32 b), .int (i32 c)] σ (fun x σ' => x = nx f hd bn r nn i a b c ∧ σ' = σ) := by
  obtain ⟨⟨hn, hbn, hr⟩, hf, ⟨rfl, rfl⟩, hpl, h03⟩ := id hP
  have ra := PlC_rng hP (p := i) (by omega)
  have rb := PlC_rng hP (p := i + 1) (by omega)
  have rc := PlC_rng hP (p := i + 2) (by omega)
  have rd := PlC_rng hP (p := i + 3) (by omega)
  have hj := ju_rng hf (i := i) (a := a) (b := b) (c := c) (by unfold Lw at *; omega) (by unfold Lw at *; omega) (by unfold Lw at *; omega)
  have hft := Ft_rng hP hi hj
  have hft2 : LFt σ i (ju f i a b c) ≤ σ 14 (i + 3).toNat ∧ σ 13 (i + 3).toNat ≤ FFt σ i (ju f i a b c) := by unfold FFt LFt; split <;> omega
  
  have eg : σ 16 (343 * (σ 103 0 - i) + (49 * (a + 3) + 7 * (b + 3) + c + 3)).toNat = s := by
    rw [hN0 a b c ha hb hc, hs]
    rfl
  have hfl : FFt σ i (ju f i a b c) ≤ LFt σ i (ju f i a b c) := by
    obtain ⟨q, hq⟩ : ∃ q : Nat, (σ 103 0 - i).toNat = q + 1 := ⟨(σ 103 0 - i).toNat - 1, by omega⟩
    have hs2 := hs
    rw [hq] at hs2
    obtain ⟨⟨m1, t1, g1, g2, g3⟩, -⟩ := G_some hr hs2
    rw [show σ 103 0 - ((q : Int) + 1) = i by omega] at g1
    have g4 := (cd_iff hP hi).mp g1
    omega
  refine CtI_of (L := [some (.ref (kA K 3)), some (.int (i32 i)), some (.int (i32 a)), some (.int (i32 b)), some (.int (i32 c)), none, none, none, none, none]) (by decide) rfl rfl rfl ?_
  intro E hE hR
  refine V_aload_n hE dX2_firstLeading_0 rfl ?_
  refine gf_X2_24 hE rfl dX2_firstLeading_1 ?_
  refine V_aload_n hE dX2_firstLeading_4 rfl ?_
  refine V_iload_n hE dX2_firstLeading_5 rfl ?_
  refine V_iload_n hE dX2_firstLeading_6 rfl ?_
  refine V_iload_n hE dX2_firstLeading_7 rfl ?_
  refine V_iload hE dX2_firstLeading_8 rfl ?_
  refine cf_X2_47 hE rfl dX2_firstLeading_10 (c_X2_slot) rfl rfl ?_
  refine V_iaload hE dX2_firstLeading_13 rfl (by omega) ?_
  rw [eg]
  refine V_istore hE dX2_firstLeading_14 rfl ?_
  refine V_aload_n hE dX2_firstLeading_16 rfl ?_
  refine V_iload_n hE dX2_firstLeading_17 rfl ?_
  refine V_iconst hE dX2_firstLeading_18 ?_
  refine V_iadd hE dX2_firstLeading_19 ?_
  refine V_iload_n hE dX2_firstLeading_20 rfl ?_
  refine V_iload hE dX2_firstLeading_21 rfl ?_
  refine V_iconst hE dX2_firstLeading_23 ?_
  refine cf_X2_47 hE rfl dX2_firstLeading_24 (c_X2_slot) rfl rfl ?_
  refine V_istore hE dX2_firstLeading_27 rfl ?_
  refine V_aload_n hE dX2_firstLeading_29 rfl ?_
  refine V_iload_n hE dX2_firstLeading_30 rfl ?_
  refine V_iload_n hE dX2_firstLeading_31 rfl ?_
  refine V_iload_n hE dX2_firstLeading_32 rfl ?_
  refine V_iload hE dX2_firstLeading_33 rfl ?_
  refine cf_X2_57 hE rfl dX2_firstLeading_35 (c_X2_jumpUnmoved hP hi) rfl rfl ?_
  refine V_istore hE dX2_firstLeading_38 rfl ?_
  refine V_aload_n hE dX2_firstLeading_40 rfl ?_
  refine V_iload_n hE dX2_firstLeading_41 rfl ?_
  refine V_iload hE dX2_firstLeading_42 rfl ?_
  refine cf_X2_60 hE rfl dX2_firstLeading_44 (c_X2_lastFit hP hi hj) rfl rfl ?_
  refine V_istore hE dX2_firstLeading_47 rfl ?_
  refine V_aload_n hE dX2_firstLeading_49 rfl ?_
  refine V_iload_n hE dX2_firstLeading_50 rfl ?_
  refine V_iload hE dX2_firstLeading_51 rfl ?_
  refine cf_X2_63 hE rfl dX2_firstLeading_53 (c_X2_firstFit hP hi hj) rfl rfl ?_
  refine V_istore hE dX2_firstLeading_56 rfl ?_
  exact lp_X2_firstLeading_58 hP hi ha hb hc hN hs hE hR 100 (FFt σ i (ju f i a b c)) (by omega) (by omega) (fun m' h1 h2 => by have := (cd_iff hP hi).mp h2; omega)
set_option maxRecDepth 100000 in
set_option maxHeartbeats 4000000 in
theorem lp_X2_keepFewest_48 {K : Ctx} {E : ME} {σ : Sto} {f hd : Nat → Int} {bn r nn : Int} (hP : PlC σ f hd bn r nn) {i : Int} (hi : 0 ≤ i ∧ i < nn) (hN : NdC σ f hd bn r nn (i + 1)) {a b : Int} (ha : Lw σ i a) (hb : Lw σ (i + 1) b) (hk : ∀ (σ1 : Sto) (x4 : Option Value), KfQ σ f hd bn r nn i a b 4 σ1 → V K E mX2_keepFewest 90 [some (.ref (kA K 3)), some (.int (i32 i)), some (.int (i32 a)), some (.int (i32 b)), x4] [] σ1) (hE : Ok K E mX2_keepFewest 3) : ∀ (n : Nat) (c : Int) (σ1 : Sto), 4 - c < n → (-3 ≤ c ∧ c ≤ σ 14 (i + 2).toNat + 1 ∧ σ 13 (i + 2).toNat ≤ c) → (KfQ σ f hd bn r nn i a b c σ1) → V K E mX2_keepFewest 48 [some (.ref (kA K 3)), some (.int (i32 i)), some (.int (i32 a)), some (.int (i32 b)), some (.int (i32 c))] [] σ1 := by
  intro n
  induction n with
  | zero =>
    intro c σ1 hm hc1 hq
    exfalso; have hn := hP.1.1; have rc := PlC_rng hP (p := i + 2) (by omega); omega
  | succ n ih =>
    intro c σ1 hm hc1 hq
    have hn := hP.1.1
    have ra := PlC_rng hP (p := i) (by omega)
    have rb := PlC_rng hP (p := i + 1) (by omega)
    have rc := PlC_rng hP (p := i + 2) (by omega)
    obtain ⟨hF, hO, hD⟩ := id hq
    have hP1 : PlC σ1 f hd bn r nn := PlC_fr hP hF (by decide)
    have e13 := hF 13 (by decide)
    have e14 := hF 14 (by decide)
    have f13 : ∀ p : Int, σ1 13 p.toNat = σ 13 p.toNat := fun p => by rw [e13]
    have f14 : ∀ p : Int, σ1 14 p.toNat = σ 14 p.toNat := fun p => by rw [e14]
    have u0 := f13 i
    have u1 := f13 (i + 1)
    have u2 := f13 (i + 2)
    have w0 := f14 i
    have w1 := f14 (i + 1)
    have w2 := f14 (i + 2)
    
    have e103 : σ1 103 0 = nn := hP1.2.2.1.1
    have hN1 : NdC σ1 f hd bn r nn (i + 1) := NdC_of hP hN hF (by omega) (fun j h1 h2 => hO j (by omega))
    unfold Lw at ha hb
    refine V_iload hE dX2_keepFewest_48 rfl ?_
    refine V_aload_n hE dX2_keepFewest_50 rfl ?_
    refine gf_X2_18 hE rfl dX2_keepFewest_51 ?_
    refine V_iload_n hE dX2_keepFewest_54 rfl ?_
    refine V_iconst hE dX2_keepFewest_55 ?_
    refine V_iadd hE dX2_keepFewest_56 ?_
    refine V_iaload hE dX2_keepFewest_57 rfl (by omega) ?_
    refine V_icmp_gt hE 90 dX2_keepFewest_58 (by decide) (by omega) (fun h58 => ?_) (fun h58 => ?_)
    · refine hk _ _ ⟨hF, hO, fun a' b' c' h1 h2 h3 h4 => hD a' b' c' h1 h2 h3 ?_⟩
      unfold Lw at h3
      omega
    · refine V_aload_n hE dX2_keepFewest_61 rfl ?_
      refine gf_X2_24 hE rfl dX2_keepFewest_62 ?_
      refine V_aload_n hE dX2_keepFewest_65 rfl ?_
      refine V_iload_n hE dX2_keepFewest_66 rfl ?_
      refine V_iload_n hE dX2_keepFewest_67 rfl ?_
      refine V_iload_n hE dX2_keepFewest_68 rfl ?_
      refine V_iload hE dX2_keepFewest_69 rfl ?_
      refine cf_X2_47 hE rfl dX2_keepFewest_71 (c_X2_slot) rfl rfl ?_
      refine V_aload_n hE dX2_keepFewest_74 rfl ?_
      refine V_iload_n hE dX2_keepFewest_75 rfl ?_
      refine V_iload_n hE dX2_keepFewest_76 rfl ?_
      refine V_iload_n hE dX2_keepFewest_77 rfl ?_
      refine V_iload hE dX2_keepFewest_78 rfl ?_
      refine cf_X2_54 hE rfl dX2_keepFewest_80 (c_X2_fewestFrom hP1 hi ⟨by omega, by omega⟩ ⟨by omega, by omega⟩ ⟨by omega, by omega⟩ hN1) rfl rfl ?_
      refine V_iastore hE dX2_keepFewest_83 rfl (by omega) ?_
      refine V_iinc hE dX2_keepFewest_84 rfl rfl ?_
      refine V_goto hE 48 dX2_keepFewest_87 (by decide) ?_
      refine ih _ _ (by omega) (by omega) ⟨Fr_up hF (by decide), ?_, ?_⟩
      · intro j hj
        rw [up_at, if_neg (by omega)]
        exact hO j hj
      · intro a' b' c' h1 h2 h3 h4
        unfold Lw at h1 h2 h3
        rw [up_at]
        by_cases e : a' = a ∧ b' = b ∧ c' = c
        · obtain ⟨rfl, rfl, rfl⟩ := e
          rw [if_pos (by rw [e103])]
        · rw [if_neg (by rw [e103]; omega)]
          exact hD a' b' c' h1 h2 h3 (by omega)
set_option maxRecDepth 100000 in
set_option maxHeartbeats 4000000 in
theorem lp_X2_keepFewest_26 {K : Ctx} {E : ME} {σ : Sto} {f hd : Nat → Int} {bn r nn : Int} (hP : PlC σ f hd bn r nn) {i : Int} (hi : 0 ≤ i ∧ i < nn) (hN : NdC σ f hd bn r nn (i + 1)) {a : Int} (ha : Lw σ i a) (hk : ∀ (σ1 : Sto) (x3 x4 : Option Value), KfQ σ f hd bn r nn i a 4 4 σ1 → V K E mX2_keepFewest 96 [some (.ref (kA K 3)), some (.int (i32 i)), some (.int (i32 a)), x3, x4] [] σ1) (hE : Ok K E mX2_keepFewest 3) : ∀ (n : Nat) (b : Int) (σ1 : Sto) (x4 : Option Value), 4 - b < n → (-3 ≤ b ∧ b ≤ σ 14 (i + 1).toNat + 1 ∧ σ 13 (i + 1).toNat ≤ b) → (KfQ σ f hd bn r nn i a b (-4) σ1) → V K E mX2_keepFewest 26 [some (.ref (kA K 3)), some (.int (i32 i)), some (.int (i32 a)), some (.int (i32 b)), x4] [] σ1 := by
  intro n
  induction n with
  | zero =>
    intro b σ1 x4 hm hb1 hq
    exfalso; have hn := hP.1.1; have rc := PlC_rng hP (p := i + 1) (by omega); omega
  | succ n ih =>
    intro b σ1 x4 hm hb1 hq
    have hn := hP.1.1
    have ra := PlC_rng hP (p := i) (by omega)
    have rb := PlC_rng hP (p := i + 1) (by omega)
    have rc := PlC_rng hP (p := i + 2) (by omega)
    obtain ⟨hF, hO, hD⟩ := id hq
    have hP1 : PlC σ1 f hd bn r nn := PlC_fr hP hF (by decide)
    have e13 := hF 13 (by decide)
    have e14 := hF 14 (by decide)
    have f13 : ∀ p : Int, σ1 13 p.toNat = σ 13 p.toNat := fun p => by rw [e13]
    have f14 : ∀ p : Int, σ1 14 p.toNat = σ 14 p.toNat := fun p => by rw [e14]
    have u0 := f13 i
    have u1 := f13 (i + 1)
    have u2 := f13 (i + 2)
    have w0 := f14 i
    have w1 := f14 (i + 1)
    have w2 := f14 (i + 2)
    refine V_iload_n hE dX2_keepFewest_26 rfl ?_
    refine V_aload_n hE dX2_keepFewest_27 rfl ?_
    refine gf_X2_18 hE rfl dX2_keepFewest_28 ?_
    refine V_iload_n hE dX2_keepFewest_31 rfl ?_
    refine V_iconst hE dX2_keepFewest_32 ?_
    refine V_iadd hE dX2_keepFewest_33 ?_
    refine V_iaload hE dX2_keepFewest_34 rfl (by omega) ?_
    refine V_icmp_gt hE 96 dX2_keepFewest_35 (by decide) (by omega) (fun h35 => ?_) (fun h35 => ?_)
    · refine hk _ _ _ ⟨hF, hO, fun a' b' c' h1 h2 h3 h4 => hD a' b' c' h1 h2 h3 ?_⟩
      unfold Lw at h2 h3
      omega
    · refine V_aload_n hE dX2_keepFewest_38 rfl ?_
      refine gf_X2_15 hE rfl dX2_keepFewest_39 ?_
      refine V_iload_n hE dX2_keepFewest_42 rfl ?_
      refine V_iconst hE dX2_keepFewest_43 ?_
      refine V_iadd hE dX2_keepFewest_44 ?_
      refine V_iaload hE dX2_keepFewest_45 rfl (by omega) ?_
      refine V_istore hE dX2_keepFewest_46 rfl ?_
      rw [u2]
      refine lp_X2_keepFewest_48 hP hi hN ha (b := b) ⟨by omega, by omega⟩ ?_ hE 100 (σ 13 (i + 2).toNat) σ1 (by omega) (by omega) ⟨hF, hO, fun a' b' c' h1 h2 h3 h4 => hD a' b' c' h1 h2 h3 (by unfold Lw at h3; omega)⟩
      intro σ2 x5 hq2
      refine V_iinc hE dX2_keepFewest_90 rfl rfl ?_
      refine V_goto hE 26 dX2_keepFewest_93 (by decide) ?_
      refine ih _ _ _ (by omega) (by omega) ⟨hq2.1, hq2.2.1, fun a' b' c' h1 h2 h3 h4 => hq2.2.2 a' b' c' h1 h2 h3 ?_⟩
      unfold Lw at h3
      omega
set_option maxRecDepth 100000 in
set_option maxHeartbeats 4000000 in
theorem lp_X2_keepFewest_7 {K : Ctx} {E : ME} {σ : Sto} {f hd : Nat → Int} {bn r nn : Int} (hP : PlC σ f hd bn r nn) {i : Int} (hi : 0 ≤ i ∧ i < nn) (hN : NdC σ f hd bn r nn (i + 1)) (hE : Ok K E mX2_keepFewest 3) (hR : RetV K E mX2_keepFewest (fun σ' => Fr [16] σ σ' ∧ (∀ j : Nat, ¬(343 * (nn - i) ≤ (j : Int) ∧ (j : Int) < 343 * (nn - i) + 343) → σ' 16 j = σ 16 j) ∧ NdC σ' f hd bn r nn i)) : ∀ (n : Nat) (a : Int) (σ1 : Sto) (x3 x4 : Option Value), 4 - a < n → (-3 ≤ a ∧ a ≤ σ 14 i.toNat + 1 ∧ σ 13 i.toNat ≤ a) → (KfQ σ f hd bn r nn i a (-4) (-4) σ1) → V K E mX2_keepFewest 7 [some (.ref (kA K 3)), some (.int (i32 i)), some (.int (i32 a)), x3, x4] [] σ1 := by
  intro n
  induction n with
  | zero =>
    intro a σ1 x3 x4 hm ha1 hq
    exfalso; have hn := hP.1.1; have rc := PlC_rng hP (p := i) (by omega); omega
  | succ n ih =>
    intro a σ1 x3 x4 hm ha1 hq
    have hn := hP.1.1
    have ra := PlC_rng hP (p := i) (by omega)
    have rb := PlC_rng hP (p := i + 1) (by omega)
    have rc := PlC_rng hP (p := i + 2) (by omega)
    obtain ⟨hF, hO, hD⟩ := id hq
    have hP1 : PlC σ1 f hd bn r nn := PlC_fr hP hF (by decide)
    have e13 := hF 13 (by decide)
    have e14 := hF 14 (by decide)
    have f13 : ∀ p : Int, σ1 13 p.toNat = σ 13 p.toNat := fun p => by rw [e13]
    have f14 : ∀ p : Int, σ1 14 p.toNat = σ 14 p.toNat := fun p => by rw [e14]
    have u0 := f13 i
    have u1 := f13 (i + 1)
    have u2 := f13 (i + 2)
    have w0 := f14 i
    have w1 := f14 (i + 1)
    have w2 := f14 (i + 2)
    refine V_iload_n hE dX2_keepFewest_7 rfl ?_
    refine V_aload_n hE dX2_keepFewest_8 rfl ?_
    refine gf_X2_18 hE rfl dX2_keepFewest_9 ?_
    refine V_iload_n hE dX2_keepFewest_12 rfl ?_
    refine V_iaload hE dX2_keepFewest_13 rfl (by omega) ?_
    refine V_icmp_gt hE 102 dX2_keepFewest_14 (by decide) (by omega) (fun h14 => ?_) (fun h14 => ?_)
    · refine V_return hR dX2_keepFewest_102 ?_
      refine ⟨hF, hO, fun a' b' c' h1 h2 h3 => ?_⟩
      unfold Lw at h1 h2 h3
      rw [e13, e14] at h1 h2 h3
      exact hD a' b' c' h1 h2 h3 (by omega)
    · refine V_aload_n hE dX2_keepFewest_17 rfl ?_
      refine gf_X2_15 hE rfl dX2_keepFewest_18 ?_
      refine V_iload_n hE dX2_keepFewest_21 rfl ?_
      refine V_iconst hE dX2_keepFewest_22 ?_
      refine V_iadd hE dX2_keepFewest_23 ?_
      refine V_iaload hE dX2_keepFewest_24 rfl (by omega) ?_
      refine V_istore_n hE dX2_keepFewest_25 rfl ?_
      rw [u1]
      have hq0 : KfQ σ f hd bn r nn i a (σ 13 (i + 1).toNat) (-4) σ1 := ⟨hF, hO, fun a' b' c' h1 h2 h3 h4 => hD a' b' c' h1 h2 h3 (by unfold Lw at h1 h2 h3; omega)⟩
      refine lp_X2_keepFewest_26 hP hi hN (a := a) ⟨by omega, by omega⟩ ?_ hE 100 (σ 13 (i + 1).toNat) σ1 _ (by omega) (by omega) hq0
      intro σ2 x5 x6 hq2
      refine V_iinc hE dX2_keepFewest_96 rfl rfl ?_
      refine V_goto hE 7 dX2_keepFewest_99 (by decide) ?_
      refine ih _ _ _ _ (by omega) (by omega) ⟨hq2.1, hq2.2.1, fun a' b' c' h1 h2 h3 h4 => hq2.2.2 a' b' c' h1 h2 h3 ?_⟩
      unfold Lw at h2 h3
      omega
set_option maxRecDepth 100000 in
set_option maxHeartbeats 4000000 in
theorem c_X2_keepFewest {K : Ctx} {σ : Sto} {f hd : Nat → Int} {bn r nn : Int} (hP : PlC σ f hd bn r nn) {i : Int} (hi : 0 ≤ i ∧ i < nn) (hN : NdC σ f hd bn r nn (i + 1)) : CtV K mX2_keepFewest 3 [.ref (kA K 3), .int (i32 i)] σ (fun σ' => Fr [16] σ σ' ∧ (∀ j : Nat, ¬(343 * (nn - i) ≤ (j : Int) ∧ (j : Int) < 343 * (nn - i) + 343) → σ' 16 j = σ 16 j) ∧ NdC σ' f hd bn r nn i) := by
  have hn := hP.1.1
  have ra := PlC_rng hP (p := i) (by omega)
  refine CtV_of (L := [some (.ref (kA K 3)), some (.int (i32 i)), none, none, none]) (by decide) rfl rfl rfl ?_
  intro E hE hR
  refine V_aload_n hE dX2_keepFewest_0 rfl ?_
  refine gf_X2_15 hE rfl dX2_keepFewest_1 ?_
  refine V_iload_n hE dX2_keepFewest_4 rfl ?_
  refine V_iaload hE dX2_keepFewest_5 rfl (by omega) ?_
  refine V_istore_n hE dX2_keepFewest_6 rfl ?_
  refine lp_X2_keepFewest_7 hP hi hN hE hR 100 (σ 13 i.toNat) σ _ _ (by omega) (by omega) ⟨Fr_rf, fun _ _ => rfl, fun a' b' c' h1 h2 h3 h4 => ?_⟩
  have r1 := PlC_rng hP (p := i + 1) (by omega)
  have r2 := PlC_rng hP (p := i + 2) (by omega)
  unfold Lw at h1 h2 h3
  omega
