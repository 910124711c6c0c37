def SkD (σ' : Sto) (x : Int) (f hd : Nat → Int) (bn r n : Int) : Prop := (x = -9 ∧ Ltt f hd bn r n = none) ∨ (0 ≤ x ∧ x ≤ 30 ∧ Ltt f hd bn r n = some x ∧ ∀ i : Nat, (i : Int) < n → σ' 15 (i + 3) = Lmv f hd bn r n i)
theorem SkD_rng {σ' : Sto} {x : Int} {f hd : Nat → Int} {bn r n : Int} (hsk : SkD σ' x f hd bn r n) : -9 ≤ x ∧ x ≤ 30 := by
  rcases hsk with ⟨h1, -⟩ | ⟨h1, h2, -⟩ <;> omega
theorem SkD_no {σ' : Sto} {x : Int} {f hd : Nat → Int} {bn r n : Int} (hsk : SkD σ' x f hd bn r n) (hx : x = -9) : Ltt f hd bn r n = none := by
  rcases hsk with ⟨-, h2⟩ | ⟨h1, -⟩
  · exact h2
  · omega
theorem SkD_yes {σ' : Sto} {x : Int} {f hd : Nat → Int} {bn r n : Int} (hsk : SkD σ' x f hd bn r n) (hx : ¬ x = -9) : Ltt f hd bn r n = some x ∧ ∀ i : Nat, (i : Int) < n → σ' 15 (i + 3) = Lmv f hd bn r n i := by
  rcases hsk with ⟨h1, -⟩ | ⟨-, -, h3⟩
  · exact absurd h1 hx
  · exact h3
theorem NdC_fr {σ σ' : Sto} {f hd : Nat → Int} {bn r n i : Int} {ks : List Nat} (hN : NdC σ f hd bn r n i) (hF : Fr ks σ σ') (hk : 13 ∉ ks ∧ 14 ∉ ks ∧ 16 ∉ ks) : NdC σ' f hd bn r n i := by
  unfold NdC Lw
  rw [hF 13 hk.1, hF 14 hk.2.1, hF 16 hk.2.2]
  exact hN
theorem Mv_nx {f hd : Nat → Int} {bn r n : Int} (j : Nat) : Mv f hd bn r n (j + 3) = nx f hd bn r n j (Mv f hd bn r n j) (Mv f hd bn r n (j + 1)) (Mv f hd bn r n (j + 2)) := by
  have e1 : Mv f hd bn r n (j + 3) = Lmv f hd bn r n j := by
    unfold Mv
    rw [if_neg (by omega), show j + 3 - 3 = j by omega]
  have e2 : Lmv f hd bn r n j = nx f hd bn r n j (Lsq f hd bn r n j).1 (Lsq f hd bn r n j).2.1 (Lsq f hd bn r n j).2.2 := rfl
  rw [e1, e2, Lsq_mv]
theorem RetI_mono {K : Ctx} {E : ME} {Mi : MI} {post post2 : Int → Sto → Prop} (hR : RetI K E Mi post) (hm : ∀ r σ, post2 r σ → post r σ) : RetI K E Mi post2 := fun pc ls H locs r σ hd hp => hR pc ls H locs r σ hd (hm r σ hp)
def AllN (σ : Sto) (f hd : Nat → Int) (bn r n : Int) (i : Int) : Prop := ∀ p : Int, i ≤ p → p ≤ n → NdC σ f hd bn r n p
set_option maxRecDepth 100000 in
set_option maxHeartbeats 4000000 in
theorem lp_X2_seek_17 {K : Ctx} {E : ME} {σ : Sto} {f hd : Nat → Int} {bn r nn : Int} (hP : PlC σ f hd bn r nn) (hk : ∀ (σ1 : Sto) (x3 : Option Value), Fr [16] σ σ1 → (∀ j : Nat, j < 343 → σ1 16 j = 0) → AllN σ1 f hd bn r nn 0 → V K E mX2_seek 32 [some (.ref (kA K 3)), some (.int (i32 nn)), some (.int (i32 bn)), x3, none] [] σ1) (hE : Ok K E mX2_seek 4) : ∀ (n : Nat) (i : Int) (σ1 : Sto), i + 1 < n → (-1 ≤ i ∧ i ≤ nn - 1) → (Fr [16] σ σ1) → (∀ j : Nat, j < 343 → σ1 16 j = 0) → (AllN σ1 f hd bn r nn (i + 1)) → V K E mX2_seek 17 [some (.ref (kA K 3)), some (.int (i32 nn)), some (.int (i32 bn)), some (.int (i32 i)), none] [] σ1 := by
  intro n
  induction n with
  | zero =>
    intro i σ1 hm hi hF h0 hA
    exfalso; omega
  | succ n ih =>
    intro i σ1 hm hi hF h0 hA
    have hn := hP.1.1
    have hP1 : PlC σ1 f hd bn r nn := PlC_fr hP hF (by decide)
    refine V_iload_n hE dX2_seek_17 rfl ?_
    refine V_if_lt hE 32 dX2_seek_18 (by decide) (by omega) (fun h18 => ?_) (fun h18 => ?_)
    · have ei : i + 1 = 0 := by omega
      rw [ei] at hA
      exact hk _ _ hF h0 hA
    · refine V_aload_n hE dX2_seek_21 rfl ?_
      refine V_iload_n hE dX2_seek_22 rfl ?_
      refine cl_X2_43 hE rfl dX2_seek_23 (c_X2_keepFewest hP1 (by omega) (hA (i + 1) (by omega) (by omega))) rfl rfl ?_
      rintro σ2 ⟨hF2, hO2, hN2⟩
      refine V_iinc hE dX2_seek_26 rfl rfl ?_
      refine V_goto hE 17 dX2_seek_29 (by decide) ?_
      refine ih _ _ (by omega) (by omega) (Fr_tr hF hF2 (fun _ hkk => hkk)) (fun j hj => ?_) (fun p h1 h2 => ?_)
      · rw [hO2 j (by omega)]; exact h0 j hj
      · by_cases ep : p = i
        · subst ep; exact hN2
        · exact NdC_of hP1 (hA p (by omega) h2) hF2 (by omega) (fun j h3 h4 => hO2 j (by omega))
set_option maxRecDepth 100000 in
set_option maxHeartbeats 4000000 in
theorem lp_X2_seek_59 {K : Ctx} {E : ME} {σ : Sto} {f hd : Nat → Int} {bn r nn : Int} (hP : PlC σ f hd bn r nn) {σL : Sto} {t : Int} (hFL : Fr [16] σ σL) (h0 : ∀ j : Nat, j < 343 → σL 16 j = 0) (hA : AllN σL f hd bn r nn 0) (ht : Ltt f hd bn r nn = some t) (htr : 0 ≤ t ∧ t ≤ 30) (hE : Ok K E mX2_seek 4) (hR : RetI K E mX2_seek (fun x σ' => Fr [15, 16] σ σ' ∧ ((∀ j : Nat, j < 343 → σ' 16 j = 0) ∧ ∀ j : Nat, j < 3 → σ' 15 j = 0) ∧ SkD σ' x f hd bn r nn)) : ∀ (n : Nat) (i : Int) (σ1 : Sto), nn - i < n → (0 ≤ i ∧ i ≤ nn) → (Fr [15] σL σ1) → (∀ j : Nat, (j : Int) < i + 3 → σ1 15 j = Mv f hd bn r nn j) → V K E mX2_seek 59 [some (.ref (kA K 3)), some (.int (i32 nn)), some (.int (i32 bn)), some (.int (i32 t)), some (.int (i32 i))] [] σ1 := by
  intro n
  induction n with
  | zero =>
    intro i σ1 hm hi hF hM
    exfalso; omega
  | succ n ih =>
    intro i σ1 hm hi hF hM
    have hn := hP.1.1
    have hr := hP.1.2.2
    have hF1 : Fr [15, 16] σ σ1 := Fr_tr (Fr_sub hFL (by decide)) hF (by decide)
    have hP1 : PlC σ1 f hd bn r nn := PlC_fr hP hF1 (by decide)
    have e103 : σ1 103 0 = nn := hP1.2.2.1.1
    have m0 : σ1 15 i.toNat = Mv f hd bn r nn i.toNat := hM _ (by omega)
    have m1 : σ1 15 (i + 1).toNat = Mv f hd bn r nn (i.toNat + 1) := by rw [show (i + 1).toNat = i.toNat + 1 by omega]; exact hM _ (by omega)
    have m2 : σ1 15 (i + 2).toNat = Mv f hd bn r nn (i.toNat + 2) := by rw [show (i + 2).toNat = i.toNat + 2 by omega]; exact hM _ (by omega)
    have k0 : Lw σ1 i (σ1 15 i.toNat) := by rw [m0]; exact Mv_lw hP1 ht (by omega)
    have k1 : Lw σ1 (i + 1) (σ1 15 (i + 1).toNat) := by
      rw [m1]
      have := Mv_lw hP1 ht (j := i + 1) (by omega)
      rwa [show (i + 1).toNat = i.toNat + 1 by omega] at this
    have k2 : Lw σ1 (i + 2) (σ1 15 (i + 2).toNat) := by
      rw [m2]
      have := Mv_lw hP1 ht (j := i + 2) (by omega)
      rwa [show (i + 2).toNat = i.toNat + 2 by omega] at this
    obtain ⟨s, hs⟩ := chain hr ht i.toNat (by omega)
    rw [Lsq_mv, show ((i.toNat : Nat) : Int) = i by omega] at hs
    dsimp only at hs
    rw [← m0, ← m1, ← m2] at hs
    refine V_iload hE dX2_seek_59 rfl ?_
    refine V_aload_n hE dX2_seek_61 rfl ?_
    refine gf_X2_36 hE rfl dX2_seek_62 ?_
    refine V_icmp_ge hE 114 dX2_seek_65 (by decide) (by omega) (fun h65 => ?_) (fun h65 => ?_)
    · refine V_iload_n hE dX2_seek_114 rfl ?_
      refine V_ireturn hR dX2_seek_115 ?_
      have ei : i = nn := by omega
      refine ⟨hF1, ⟨fun j hj => by rw [hF 16 (by decide)]; exact h0 j hj, fun j hj => ?_⟩, Or.inr ⟨htr.1, htr.2, ht, fun j hj => ?_⟩⟩
      · rw [hM j (by omega)]; unfold Mv; rw [if_pos hj]
      · rw [hM (j + 3) (by omega)]; unfold Mv; rw [if_neg (by omega), show j + 3 - 3 = j by omega]
    · refine V_aload_n hE dX2_seek_68 rfl ?_
      refine gf_X2_21 hE rfl dX2_seek_69 ?_
      refine V_iload hE dX2_seek_72 rfl ?_
      refine V_iconst hE dX2_seek_74 ?_
      refine V_iadd hE dX2_seek_75 ?_
      refine V_aload_n hE dX2_seek_76 rfl ?_
      refine V_iload hE dX2_seek_77 rfl ?_
      refine V_aload_n hE dX2_seek_79 rfl ?_
      refine gf_X2_21 hE rfl dX2_seek_80 ?_
      refine V_iload hE dX2_seek_83 rfl ?_
      refine V_iaload hE dX2_seek_85 rfl (by omega) ?_
      refine V_aload_n hE dX2_seek_86 rfl ?_
      refine gf_X2_21 hE rfl dX2_seek_87 ?_
      refine V_iload hE dX2_seek_90 rfl ?_
      refine V_iconst hE dX2_seek_92 ?_
      refine V_iadd hE dX2_seek_93 ?_
      refine V_iaload hE dX2_seek_94 rfl (by omega) ?_
      refine V_aload_n hE dX2_seek_95 rfl ?_
      refine gf_X2_21 hE rfl dX2_seek_96 ?_
      refine V_iload hE dX2_seek_99 rfl ?_
      refine V_iconst hE dX2_seek_101 ?_
      refine V_iadd hE dX2_seek_102 ?_
      refine V_iaload hE dX2_seek_103 rfl (by omega) ?_
      refine cf_X2_51 hE rfl dX2_seek_104 (c_X2_firstLeading hP1 (by omega) k0 k1 k2 (NdC_fr (hA (i + 1) (by omega) (by omega)) hF (by decide)) hs (NdC_fr (hA i (by omega) (by omega)) hF (by decide))) rfl rfl ?_
      refine V_iastore hE dX2_seek_107 rfl (by omega) ?_
      refine V_iinc hE dX2_seek_108 rfl rfl ?_
      refine V_goto hE 59 dX2_seek_111 (by decide) ?_
      refine ih _ _ (by omega) (by omega) (Fr_up hF (by decide)) (fun j hj => ?_)
      rw [up_at]
      by_cases ej : j = (i + 3).toNat
      · rw [if_pos ej, ej, show (i + 3).toNat = i.toNat + 3 by omega, Mv_nx, m0, m1, m2, show ((i.toNat : Nat) : Int) = i by omega]
      · rw [if_neg ej]; exact hM j (by omega)
set_option maxRecDepth 100000 in
set_option maxHeartbeats 4000000 in
theorem lp_X2_seek_10 {K : Ctx} {E : ME} {σ : Sto} {f hd : Nat → Int} {bn r nn : Int} (hP : PlC σ f hd bn r nn) (hz : ∀ j : Nat, j < 343 → σ 16 j = 0) (hm0 : ∀ j : Nat, j < 3 → σ 15 j = 0) (hE : Ok K E mX2_seek 4) (hR : RetI K E mX2_seek (fun x σ' => Fr [15, 16] σ σ' ∧ ((∀ j : Nat, j < 343 → σ' 16 j = 0) ∧ ∀ j : Nat, j < 3 → σ' 15 j = 0) ∧ SkD σ' x f hd bn r nn)) : V K E mX2_seek 10 [some (.ref (kA K 3)), some (.int (i32 nn)), some (.int (i32 bn)), none, none] [] σ := by
  have hn := hP.1.1
  have hr := hP.1.2.2
  have e103 : σ 103 0 = nn := hP.2.2.1.1
  refine V_aload_n hE dX2_seek_10 rfl ?_
  refine gf_X2_36 hE rfl dX2_seek_11 ?_
  rw [e103]
  refine V_iconst hE dX2_seek_14 ?_
  refine V_isub hE dX2_seek_15 ?_
  refine V_istore_n hE dX2_seek_16 rfl ?_
  refine lp_X2_seek_17 hP ?_ hE 100 (nn - 1) _ (by omega) (by omega) Fr_rf (fun j hj => hz j hj) (fun p h1 h2 => ?_)
  rotate_left
  · have ep : p = nn := by omega
    subst ep
    exact NdC_n hP hz
  intro σ1 x3 hF1 h01 hA1
  have hP1 : PlC σ1 f hd bn r nn := PlC_fr hP hF1 (by decide)
  have e103 : σ1 103 0 = nn := hP1.2.2.1.1
  have h03 := hP1.2.2.2.2
  have et : σ1 16 (343 * (σ1 103 0 - 0) + (49 * (0 + 3) + 7 * (0 + 3) + 0 + 3)).toNat = dcod 1000 (Ltt f hd bn r nn) := by
    have q0 := h03 0 (by decide)
    have q1 := h03 1 (by decide)
    have q2 := h03 2 (by decide)
    have h9 := hA1 0 (Int.le_refl 0) (by omega) 0 0 0 ⟨by show σ1 13 0 ≤ 0; omega, by show 0 ≤ σ1 14 0; omega⟩ ⟨by show σ1 13 1 ≤ 0; omega, by show 0 ≤ σ1 14 1; omega⟩ ⟨by show σ1 13 2 ≤ 0; omega, by show 0 ≤ σ1 14 2; omega⟩
    rw [e103, h9]
    unfold Ltt
    rw [show (nn - 0).toNat = nn.toNat by omega]
  have hlt : dcod 1000 (Ltt f hd bn r nn) = 1000 ∧ Ltt f hd bn r nn = none ∨ (0 ≤ dcod 1000 (Ltt f hd bn r nn) ∧ dcod 1000 (Ltt f hd bn r nn) ≤ 30 ∧ Ltt f hd bn r nn = some (dcod 1000 (Ltt f hd bn r nn))) := by
    cases hL : Ltt f hd bn r nn with
    | none => exact Or.inl ⟨rfl, rfl⟩
    | some t =>
      have := G_rng hr _ _ _ _ _ hL
      exact Or.inr ⟨by show 0 ≤ t; omega, by show t ≤ 30; omega, rfl⟩
  have hdr : 0 ≤ dcod 1000 (Ltt f hd bn r nn) ∧ dcod 1000 (Ltt f hd bn r nn) ≤ 1000 := by rcases hlt with ⟨g1, -⟩ | ⟨g1, g2, -⟩ <;> omega
  refine V_aload_n hE dX2_seek_32 rfl ?_
  refine gf_X2_24 hE rfl dX2_seek_33 ?_
  refine V_aload_n hE dX2_seek_36 rfl ?_
  refine V_iconst hE dX2_seek_37 ?_
  refine V_iconst hE dX2_seek_38 ?_
  refine V_iconst hE dX2_seek_39 ?_
  refine V_iconst hE dX2_seek_40 ?_
  refine cf_X2_47 hE rfl dX2_seek_41 (c_X2_slot) rfl rfl ?_
  refine V_iaload hE dX2_seek_44 rfl (by omega) ?_
  rw [et]
  refine V_istore_n hE dX2_seek_45 rfl ?_
  refine V_iload_n hE dX2_seek_46 rfl ?_
  refine V_sipush hE dX2_seek_47 (by decide) ?_
  refine V_icmp_lt hE 56 dX2_seek_50 (by decide) (by omega) (fun h50 => ?_) (fun h50 => ?_)
  · refine V_iconst hE dX2_seek_56 ?_
    refine V_istore hE dX2_seek_57 rfl ?_
    rcases hlt with ⟨g1, -⟩ | ⟨g1, g2, g3⟩
    · omega
    · refine lp_X2_seek_59 hP hF1 h01 hA1 g3 ⟨g1, g2⟩ hE hR 100 0 σ1 (by omega) (by omega) Fr_rf (fun j hj => ?_)
      rw [hF1 15 (by decide), hm0 j (by omega)]
      unfold Mv
      rw [if_pos (by omega)]
  · refine V_bipush hE dX2_seek_53 (by decide) ?_
    refine V_ireturn hR dX2_seek_55 ?_
    refine ⟨Fr_sub hF1 (by decide), ⟨h01, fun j hj => by rw [hF1 15 (by decide)]; exact hm0 j hj⟩, Or.inl ⟨rfl, ?_⟩⟩
    rcases hlt with ⟨-, g2⟩ | ⟨-, g2, -⟩
    · exact g2
    · omega
set_option maxRecDepth 100000 in
set_option maxHeartbeats 4000000 in
theorem c_X2_seek {K : Ctx} {σ : Sto} {f hd : Nat → Int} {bn r nn : Int} (hP : PlC (up (up σ 103 0 nn) 104 0 bn) f hd bn r nn) (hz : ∀ j : Nat, j < 343 → σ 16 j = 0) (hm0 : ∀ j : Nat, j < 3 → σ 15 j = 0) : CtI K mX2_seek 4 [.ref (kA K 3), .int (i32 nn), .int (i32 bn)] σ (fun x σ' => Fr [103, 104, 15, 16] σ σ' ∧ ((∀ j : Nat, j < 343 → σ' 16 j = 0) ∧ ∀ j : Nat, j < 3 → σ' 15 j = 0) ∧ SkD σ' x f hd bn r nn) := by
  refine CtI_of (L := [some (.ref (kA K 3)), some (.int (i32 nn)), some (.int (i32 bn)), none, none]) (by decide) rfl rfl rfl ?_
  intro E hE hR
  refine V_aload_n hE dX2_seek_0 rfl ?_
  refine V_iload_n hE dX2_seek_1 rfl ?_
  refine pf_X2_36 hE rfl dX2_seek_2 ?_
  refine V_aload_n hE dX2_seek_5 rfl ?_
  refine V_iload_n hE dX2_seek_6 rfl ?_
  refine pf_X2_40 hE rfl dX2_seek_7 ?_
  have hFb : Fr [103, 104] σ (up (up σ 103 0 nn) 104 0 bn) := Fr_up (Fr_up Fr_rf (by decide)) (by decide)
  refine lp_X2_seek_10 hP (fun j hj => by rw [hFb 16 (by decide)]; exact hz j hj) (fun j hj => by rw [hFb 15 (by decide)]; exact hm0 j hj) hE ?_
  exact RetI_mono hR (fun x σ' hq => ⟨Fr_tr (Fr_sub hFb (by decide)) hq.1 (by decide), hq.2⟩)
