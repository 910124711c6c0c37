/-- a line is laid out: its offsets and which of its points are held -/
def Laid (σ : Sto) (f hd : Nat → Int) : Prop := (4 ≤ σ 116 0 ∧ σ 116 0 ≤ 9) ∧ Rng f ∧ ∀ i : Nat, (i : Int) < σ 116 0 → σ 24 i = f i ∧ (0 ≤ σ 23 i ∧ σ 23 i < 63) ∧ σ 22 (σ 23 i).toNat = hd i
theorem Laid_fr {σ σ' : Sto} {f hd : Nat → Int} {ks : List Nat} (h : Laid σ f hd) (hF : Fr ks σ σ') (hk : 116 ∉ ks ∧ 24 ∉ ks ∧ 23 ∉ ks ∧ 22 ∉ ks) : Laid σ' f hd := by
  unfold Laid
  rw [hF 116 hk.1, hF 24 hk.2.1, hF 23 hk.2.2.1, hF 22 hk.2.2.2]
  exact h
def NeedAt (σ : Sto) (f hd : Nat → Int) (p : Int) : Prop := ∀ x : Int, 0 ≤ x → x < 343 → σ 25 (343 * p + x).toNat = ndV f hd (σ 112 0) (σ 113 0) (σ 116 0) p x
set_option maxRecDepth 100000 in
set_option maxHeartbeats 4000000 in
theorem c_X5_may {K : Ctx} {σ : Sto} {f hd : Nat → Int} {i m : Int} (hI : IM σ) (hl : Laid σ f hd) (hi : 0 ≤ i ∧ i < σ 116 0) (hm : -3 ≤ m ∧ m ≤ 3) : CtI K mX5_may 2 [.ref (kA K 19), .int (i32 i), .int (i32 m)] σ (fun r σ' => r = (if okM f hd (σ 113 0) i m then 1 else 0) ∧ σ' = σ) := by
  obtain ⟨hS, hW, hB, hRe, hLo, hHi, hO, hPu, hHe, hAt⟩ := id hI
  obtain ⟨hn, hfr, hli⟩ := id hl
  obtain ⟨e24, e23, e22⟩ := hli i.toNat (by omega)
  have h22 := hHe (σ 23 i.toNat).toNat
  have hfi := hfr i.toNat
  refine CtZ_of (L := [some (.ref (kA K 19)), some (.int (i32 i)), some (.int (i32 m))]) (by decide) rfl rfl rfl ?_
  intro E hE hR
  refine V_iload_n hE dX5_may_0 rfl ?_
  refine V_i2l hE dX5_may_1 (by omega) ?_
  refine V_aload_n hE dX5_may_2 rfl ?_
  refine gf_X5_13 hE rfl dX5_may_3 ?_
  refine V_ineg hE dX5_may_6 ?_
  refine V_i2l hE dX5_may_7 (by omega) ?_
  refine V_aload_n hE dX5_may_8 rfl ?_
  refine gf_X5_13 hE rfl dX5_may_9 ?_
  refine V_i2l hE dX5_may_12 (by omega) ?_
  refine cf_X5_67 hE rfl dX5_may_13 (c_X5_within (by omega)) rfl rfl ?_
  refine V_if_eq hE 55 dX5_may_16 (by decide) (by omega) (fun h16 => ?_) (fun h16 => ?_)
  · refine V_iconst hE dX5_may_55 ?_
    refine V_zreturn hR dX5_may_56 (by omega) ?_
    exact ⟨by unfold okM; omega, rfl⟩
  · refine V_iload_n hE dX5_may_19 rfl ?_
    refine V_if_eq hE 37 dX5_may_20 (by decide) (by omega) (fun h20 => ?_) (fun h20 => ?_)
    · refine V_aload_n hE dX5_may_37 rfl ?_
      refine gf_X5_36 hE rfl dX5_may_38 ?_
      refine V_iload_n hE dX5_may_41 rfl ?_
      refine V_iaload hE dX5_may_42 rfl (by omega) ?_
      refine V_iload_n hE dX5_may_43 rfl ?_
      refine V_iadd hE dX5_may_44 ?_
      refine cf_X5_85 hE rfl dX5_may_45 (c_X5_isOffset (by omega)) rfl rfl ?_
      refine V_if_eq hE 55 dX5_may_48 (by decide) (by omega) (fun h48 => ?_) (fun h48 => ?_)
      · refine V_iconst hE dX5_may_55 ?_
        refine V_zreturn hR dX5_may_56 (by omega) ?_
        exact ⟨by unfold okM; omega, rfl⟩
      · refine V_iconst hE dX5_may_51 ?_
        refine V_goto hE 56 dX5_may_52 (by decide) ?_
        refine V_zreturn hR dX5_may_56 (by omega) ?_
        exact ⟨by unfold okM; omega, rfl⟩
    · refine V_aload_n hE dX5_may_23 rfl ?_
      refine gf_X5_29 hE rfl dX5_may_24 ?_
      refine V_aload_n hE dX5_may_27 rfl ?_
      refine gf_X5_33 hE rfl dX5_may_28 ?_
      refine V_iload_n hE dX5_may_31 rfl ?_
      refine V_iaload hE dX5_may_32 rfl (by omega) ?_
      refine V_baload hE dX5_may_33 rfl (by omega) ?_
      refine V_if_ne hE 55 dX5_may_34 (by decide) (by omega) (fun h34 => ?_) (fun h34 => ?_)
      · refine V_iconst hE dX5_may_55 ?_
        refine V_zreturn hR dX5_may_56 (by omega) ?_
        exact ⟨by unfold okM; omega, rfl⟩
      · refine V_aload_n hE dX5_may_37 rfl ?_
        refine gf_X5_36 hE rfl dX5_may_38 ?_
        refine V_iload_n hE dX5_may_41 rfl ?_
        refine V_iaload hE dX5_may_42 rfl (by omega) ?_
        refine V_iload_n hE dX5_may_43 rfl ?_
        refine V_iadd hE dX5_may_44 ?_
        refine cf_X5_85 hE rfl dX5_may_45 (c_X5_isOffset (by omega)) rfl rfl ?_
        refine V_if_eq hE 55 dX5_may_48 (by decide) (by omega) (fun h48 => ?_) (fun h48 => ?_)
        · refine V_iconst hE dX5_may_55 ?_
          refine V_zreturn hR dX5_may_56 (by omega) ?_
          exact ⟨by unfold okM; omega, rfl⟩
        · refine V_iconst hE dX5_may_51 ?_
          refine V_goto hE 56 dX5_may_52 (by decide) ?_
          refine V_zreturn hR dX5_may_56 (by omega) ?_
          exact ⟨by unfold okM; omega, rfl⟩
set_option maxRecDepth 100000 in
set_option maxHeartbeats 4000000 in
theorem c_X5_isFair {K : Ctx} {σ : Sto} {f hd : Nat → Int} {p a b c d : Int} (hI : IM σ) (hl : Laid σ f hd) (hi : 0 ≤ p ∧ p + 3 < σ 116 0) (ha : -3 ≤ a ∧ a ≤ 3) (hb : -3 ≤ b ∧ b ≤ 3) (hc : -3 ≤ c ∧ c ≤ 3) (hd' : -3 ≤ d ∧ d ≤ 3) : CtI K mX5_isFair 1 [.ref (kA K 19), .int (i32 p), .int (i32 a), .int (i32 b), .int (i32 c), .int (i32 d)] σ (fun r σ' => r = (if ((jmp f p a b c d).natAbs : Int) ≤ σ 112 0 then 1 else 0) ∧ σ' = σ) := by
  obtain ⟨hS, hW, hB, hRe, hLo, hHi, hO, hPu, hHe, hAt⟩ := id hI
  obtain ⟨hn, hfr, hli⟩ := id hl
  have e0 := (hli p.toNat (by omega)).1
  have e1 := (hli (p + 1).toNat (by omega)).1
  have e2 := (hli (p + 2).toNat (by omega)).1
  have e3 := (hli (p + 3).toNat (by omega)).1
  have f0 := hfr p.toNat
  have f1 := hfr (p + 1).toNat
  have f2 := hfr (p + 2).toNat
  have f3 := hfr (p + 3).toNat
  have ej : σ 24 (p + 3).toNat + d - 3 * (σ 24 (p + 2).toNat + c) + 3 * (σ 24 (p + 1).toNat + b) - σ 24 p.toNat - a = jmp f p a b c d := by unfold jmp; rw [e0, e1, e2, e3]
  have hjr : -9000 ≤ jmp f p a b c d ∧ jmp f p a b c d ≤ 9000 := by unfold jmp; omega
  refine CtZ_of (L := [some (.ref (kA K 19)), some (.int (i32 p)), some (.int (i32 a)), some (.int (i32 b)), some (.int (i32 c)), some (.int (i32 d)), none]) (by decide) rfl rfl rfl ?_
  intro E hE hR
  refine V_aload_n hE dX5_isFair_0 rfl ?_
  refine gf_X5_36 hE rfl dX5_isFair_1 ?_
  refine V_iload_n hE dX5_isFair_4 rfl ?_
  refine V_iconst hE dX5_isFair_5 ?_
  refine V_iadd hE dX5_isFair_6 ?_
  refine V_iaload hE dX5_isFair_7 rfl (by omega) ?_
  refine V_iload hE dX5_isFair_8 rfl ?_
  refine V_iadd hE dX5_isFair_10 ?_
  refine V_iconst hE dX5_isFair_11 ?_
  refine V_aload_n hE dX5_isFair_12 rfl ?_
  refine gf_X5_36 hE rfl dX5_isFair_13 ?_
  refine V_iload_n hE dX5_isFair_16 rfl ?_
  refine V_iconst hE dX5_isFair_17 ?_
  refine V_iadd hE dX5_isFair_18 ?_
  refine V_iaload hE dX5_isFair_19 rfl (by omega) ?_
  refine V_iload hE dX5_isFair_20 rfl ?_
  refine V_iadd hE dX5_isFair_22 ?_
  refine V_imul hE dX5_isFair_23 ?_
  refine V_isub hE dX5_isFair_24 ?_
  refine V_iconst hE dX5_isFair_25 ?_
  refine V_aload_n hE dX5_isFair_26 rfl ?_
  refine gf_X5_36 hE rfl dX5_isFair_27 ?_
  refine V_iload_n hE dX5_isFair_30 rfl ?_
  refine V_iconst hE dX5_isFair_31 ?_
  refine V_iadd hE dX5_isFair_32 ?_
  refine V_iaload hE dX5_isFair_33 rfl (by omega) ?_
  refine V_iload_n hE dX5_isFair_34 rfl ?_
  refine V_iadd hE dX5_isFair_35 ?_
  refine V_imul hE dX5_isFair_36 ?_
  refine V_iadd hE dX5_isFair_37 ?_
  refine V_aload_n hE dX5_isFair_38 rfl ?_
  refine gf_X5_36 hE rfl dX5_isFair_39 ?_
  refine V_iload_n hE dX5_isFair_42 rfl ?_
  refine V_iaload hE dX5_isFair_43 rfl (by omega) ?_
  refine V_isub hE dX5_isFair_44 ?_
  refine V_iload_n hE dX5_isFair_45 rfl ?_
  refine V_isub hE dX5_isFair_46 ?_
  rw [ej]
  refine V_istore hE dX5_isFair_47 rfl ?_
  refine V_iload hE dX5_isFair_49 rfl ?_
  refine cf_X5_120 hE rfl dX5_isFair_51 (c_X5_far (by omega)) rfl rfl ?_
  refine V_aload_n hE dX5_isFair_54 rfl ?_
  refine gf_X5_7 hE rfl dX5_isFair_55 ?_
  refine V_icmp_gt hE 65 dX5_isFair_58 (by decide) (by omega) (fun h58 => ?_) (fun h58 => ?_)
  · refine V_iconst hE dX5_isFair_65 ?_
    refine V_zreturn hR dX5_isFair_66 (by omega) ?_
    exact ⟨by omega, rfl⟩
  · refine V_iconst hE dX5_isFair_61 ?_
    refine V_goto hE 66 dX5_isFair_62 (by decide) ?_
    refine V_zreturn hR dX5_isFair_66 (by omega) ?_
    exact ⟨by omega, rfl⟩
set_option maxRecDepth 100000 in
set_option maxHeartbeats 4000000 in
theorem lp_X5_needFrom_11 {K : Ctx} {E : ME} {σ : Sto} {f hd : Nat → Int} {p a b c : Int} {q : Nat} (hI : IM σ) (hl : Laid σ f hd) (hi : 0 ≤ p ∧ p + 3 < σ 116 0) (hq : (q : Int) = σ 116 0 - p - 4) (ha : -3 ≤ a ∧ a ≤ 3) (hb : okM f hd (σ 113 0) (p + 1) b) (hc : okM f hd (σ 113 0) (p + 2) c) (hN : NeedAt σ f hd (p + 1)) (hE : Ok K E mX5_needFrom 3) (hR : RetI K E mX5_needFrom (fun r σ' => r = dcod 1000000 (G f hd (σ 112 0) (σ 113 0) (σ 116 0) (q + 1) a b c) ∧ σ' = σ)) : ∀ (n : Nat) (d y : Int) (x7 : Option Value), σ 113 0 + 1 - d < n → (-σ 113 0 ≤ d ∧ d ≤ σ 113 0 + 1) → (y = dcod 1000000 (gl (fun m => G f hd (σ 112 0) (σ 113 0) (σ 116 0) q b c m) (fun m => decide (cdM f hd (σ 112 0) (σ 113 0) (p + 3) a b c m)) (d + 3).toNat)) → V K E mX5_needFrom 11 [some (.ref (kA K 19)), some (.int (i32 p)), some (.int (i32 a)), some (.int (i32 b)), some (.int (i32 c)), some (.int (i32 y)), some (.int (i32 d)), x7] [] σ := by
  intro n
  induction n with
  | zero =>
    intro d y x7 hm hd1 hy
    exfalso; omega
  | succ n ih =>
    intro d y x7 hm hd1 hy
    obtain ⟨hS, hW, hB, hRe, hLo, hHi, hO, hPu, hHe, hAt⟩ := id hI
    have hb1 := hb.1
    have hc1 := hc.1
    have hn9 := hl.1
    have hyr : 0 ≤ y ∧ y ≤ 1000000 := by
      rw [hy]
      cases hg : gl (fun m => G f hd (σ 112 0) (σ 113 0) (σ 116 0) q b c m) (fun m => decide (cdM f hd (σ 112 0) (σ 113 0) (p + 3) a b c m)) (d + 3).toNat with
      | none => simp [dcod]
      | some t =>
        obtain ⟨⟨m, t', h1, h2, h3, h4⟩, -⟩ := gl_some _ _ _ _ hg
        have := G_rng hRe _ _ _ _ _ h3
        simp only [dcod]
        omega
    refine V_iload hE dX5_needFrom_11 rfl ?_
    refine V_aload_n hE dX5_needFrom_13 rfl ?_
    refine gf_X5_13 hE rfl dX5_needFrom_14 ?_
    refine V_icmp_gt hE 97 dX5_needFrom_17 (by decide) (by omega) (fun h17 => ?_) (fun h17 => ?_)
    · refine V_iload hE dX5_needFrom_97 rfl ?_
      refine V_ireturn hR dX5_needFrom_99 ?_
      refine ⟨?_, rfl⟩
      have ed : d = σ 113 0 + 1 := by omega
      have e7 : gl (fun m => G f hd (σ 112 0) (σ 113 0) (σ 116 0) q b c m) (fun m => decide (cdM f hd (σ 112 0) (σ 113 0) (p + 3) a b c m)) 7 = gl (fun m => G f hd (σ 112 0) (σ 113 0) (σ 116 0) q b c m) (fun m => decide (cdM f hd (σ 112 0) (σ 113 0) (p + 3) a b c m)) (d + 3).toNat := by
        rw [show (7 : Nat) = (d + 3).toNat + (3 - σ 113 0).toNat by omega]
        refine gl_ext _ _ _ _ (fun m h1 h2 => decide_eq_false (fun h => ?_))
        have := h.1.1
        omega
      rw [hy, ← e7, G, show σ 116 0 - ((q : Int) + 1) = p + 3 by omega]
    · refine V_aload_n hE dX5_needFrom_20 rfl ?_
      refine V_iload_n hE dX5_needFrom_21 rfl ?_
      refine V_iconst hE dX5_needFrom_22 ?_
      refine V_iadd hE dX5_needFrom_23 ?_
      refine V_iload hE dX5_needFrom_24 rfl ?_
      refine cf_X5_128 hE rfl dX5_needFrom_26 (c_X5_may hI hl (by omega) (by omega)) rfl rfl ?_
      refine V_if_eq hE 91 dX5_needFrom_29 (by decide) (by omega) (fun h29 => ?_) (fun h29 => ?_)
      · refine V_iinc hE dX5_needFrom_91 rfl rfl ?_
        refine V_goto hE 11 dX5_needFrom_94 (by decide) ?_
        first
          | (refine ih _ _ _ (by omega) (by omega) ?_
             rw [gl_step _ _ (by omega), if_neg (by rw [decide_eq_true_eq]; exact fun h => ite_eq0 h29 h.1)]
             exact hy)
          | (refine ih _ _ _ (by omega) (by omega) ?_
             rw [gl_step _ _ (by omega), if_neg (by rw [decide_eq_true_eq]; exact fun h => ite_eq0 h43 (by have := h.2 (by omega); rw [show p + 3 - 3 = p by omega] at this; exact this))]
             exact hy)
          | (have hcd : cdM f hd (σ 112 0) (σ 113 0) (p + 3) a b c d := ⟨hok, fun _ => by rw [show p + 3 - 3 = p by omega]; exact hfa⟩
             have hm := dc_min (N := 1000000) (Y := G f hd (σ 112 0) (σ 113 0) (σ 116 0) q b c d) (k := ((d.natAbs : Nat) : Int)) hy rfl (by omega) (fun t ht => by
               obtain ⟨⟨m, t', h1, h2, h3, h4⟩, -⟩ := gl_some _ _ _ _ ht
               have := G_rng hRe _ _ _ _ _ h3
               omega) (fun t ht => by have := G_rng hRe _ _ _ _ _ ht; omega)
             refine ih _ _ _ (by omega) (by omega) ?_
             rw [gl_step _ _ (by omega), if_pos (decide_eq_true hcd), ← hm]
             first | exact (if_pos (by omega)).symm | exact (if_neg (by omega)).symm)
      · refine V_aload_n hE dX5_needFrom_32 rfl ?_
        refine V_iload_n hE dX5_needFrom_33 rfl ?_
        refine V_iload_n hE dX5_needFrom_34 rfl ?_
        refine V_iload_n hE dX5_needFrom_35 rfl ?_
        refine V_iload hE dX5_needFrom_36 rfl ?_
        refine V_iload hE dX5_needFrom_38 rfl ?_
        refine cf_X5_131 hE rfl dX5_needFrom_40 (c_X5_isFair hI hl (by omega) (by omega) (by omega) (by omega) (by omega)) rfl rfl ?_
        refine V_if_eq hE 91 dX5_needFrom_43 (by decide) (by omega) (fun h43 => ?_) (fun h43 => ?_)
        · refine V_iinc hE dX5_needFrom_91 rfl rfl ?_
          refine V_goto hE 11 dX5_needFrom_94 (by decide) ?_
          first
            | (refine ih _ _ _ (by omega) (by omega) ?_
               rw [gl_step _ _ (by omega), if_neg (by rw [decide_eq_true_eq]; exact fun h => ite_eq0 h29 h.1)]
               exact hy)
            | (refine ih _ _ _ (by omega) (by omega) ?_
               rw [gl_step _ _ (by omega), if_neg (by rw [decide_eq_true_eq]; exact fun h => ite_eq0 h43 (by have := h.2 (by omega); rw [show p + 3 - 3 = p by omega] at this; exact this))]
               exact hy)
            | (have hcd : cdM f hd (σ 112 0) (σ 113 0) (p + 3) a b c d := ⟨hok, fun _ => by rw [show p + 3 - 3 = p by omega]; exact hfa⟩
               have hm := dc_min (N := 1000000) (Y := G f hd (σ 112 0) (σ 113 0) (σ 116 0) q b c d) (k := ((d.natAbs : Nat) : Int)) hy rfl (by omega) (fun t ht => by
                 obtain ⟨⟨m, t', h1, h2, h3, h4⟩, -⟩ := gl_some _ _ _ _ ht
                 have := G_rng hRe _ _ _ _ _ h3
                 omega) (fun t ht => by have := G_rng hRe _ _ _ _ _ ht; omega)
               refine ih _ _ _ (by omega) (by omega) ?_
               rw [gl_step _ _ (by omega), if_pos (decide_eq_true hcd), ← hm]
               first | exact (if_pos (by omega)).symm | exact (if_neg (by omega)).symm)
        · refine V_iload hE dX5_needFrom_46 rfl ?_
          refine cf_X5_120 hE rfl dX5_needFrom_48 (c_X5_far (by omega)) rfl rfl ?_
          refine V_aload_n hE dX5_needFrom_51 rfl ?_
          refine gf_X5_39 hE rfl dX5_needFrom_52 ?_
          refine V_sipush hE dX5_needFrom_55 (by decide) ?_
          refine V_iload_n hE dX5_needFrom_58 rfl ?_
          refine V_iconst hE dX5_needFrom_59 ?_
          refine V_iadd hE dX5_needFrom_60 ?_
          refine V_imul hE dX5_needFrom_61 ?_
          refine V_iload_n hE dX5_needFrom_62 rfl ?_
          refine V_iload hE dX5_needFrom_63 rfl ?_
          refine V_iload hE dX5_needFrom_65 rfl ?_
          refine cf_X5_135 hE rfl dX5_needFrom_67 (c_X5_triple) rfl rfl ?_
          refine V_iadd hE dX5_needFrom_70 ?_
          refine V_iaload hE dX5_needFrom_71 rfl (by omega) ?_
          have hok := ite_ne0 h29
          have hfa := ite_ne0 h43
          have ev : σ 25 (343 * (p + 1) + (49 * (b + 3) + 7 * (c + 3) + d + 3)).toNat = dcod 1000000 (G f hd (σ 112 0) (σ 113 0) (σ 116 0) q b c d) := by
            rw [hN _ (by omega) (by omega), ndV_of hRe hb (by rw [show p + 1 + 1 = p + 2 by omega]; exact hc) (by rw [show p + 1 + 2 = p + 3 by omega]; exact hok), show (σ 116 0 - (p + 1) - 3).toNat = q by omega]
          rw [ev]
          have hgr : 0 ≤ dcod 1000000 (G f hd (σ 112 0) (σ 113 0) (σ 116 0) q b c d) ∧ dcod 1000000 (G f hd (σ 112 0) (σ 113 0) (σ 116 0) q b c d) ≤ 1000000 := by
            cases hg : G f hd (σ 112 0) (σ 113 0) (σ 116 0) q b c d with
            | none => simp [dcod]
            | some t => have := G_rng hRe _ _ _ _ _ hg; simp only [dcod]; omega
          refine V_iadd hE dX5_needFrom_72 ?_
          refine V_istore hE dX5_needFrom_73 rfl ?_
          refine V_iload hE dX5_needFrom_75 rfl ?_
          refine V_iload hE dX5_needFrom_77 rfl ?_
          refine V_icmp_ge hE 87 dX5_needFrom_79 (by decide) (by omega) (fun h79 => ?_) (fun h79 => ?_)
          · refine V_iload hE dX5_needFrom_87 rfl ?_
            refine V_istore hE dX5_needFrom_89 rfl ?_
            refine V_iinc hE dX5_needFrom_91 rfl rfl ?_
            refine V_goto hE 11 dX5_needFrom_94 (by decide) ?_
            first
              | (refine ih _ _ _ (by omega) (by omega) ?_
                 rw [gl_step _ _ (by omega), if_neg (by rw [decide_eq_true_eq]; exact fun h => ite_eq0 h29 h.1)]
                 exact hy)
              | (refine ih _ _ _ (by omega) (by omega) ?_
                 rw [gl_step _ _ (by omega), if_neg (by rw [decide_eq_true_eq]; exact fun h => ite_eq0 h43 (by have := h.2 (by omega); rw [show p + 3 - 3 = p by omega] at this; exact this))]
                 exact hy)
              | (have hcd : cdM f hd (σ 112 0) (σ 113 0) (p + 3) a b c d := ⟨hok, fun _ => by rw [show p + 3 - 3 = p by omega]; exact hfa⟩
                 have hm := dc_min (N := 1000000) (Y := G f hd (σ 112 0) (σ 113 0) (σ 116 0) q b c d) (k := ((d.natAbs : Nat) : Int)) hy rfl (by omega) (fun t ht => by
                   obtain ⟨⟨m, t', h1, h2, h3, h4⟩, -⟩ := gl_some _ _ _ _ ht
                   have := G_rng hRe _ _ _ _ _ h3
                   omega) (fun t ht => by have := G_rng hRe _ _ _ _ _ ht; omega)
                 refine ih _ _ _ (by omega) (by omega) ?_
                 rw [gl_step _ _ (by omega), if_pos (decide_eq_true hcd), ← hm]
                 first | exact (if_pos (by omega)).symm | exact (if_neg (by omega)).symm)
          · refine V_iload hE dX5_needFrom_82 rfl ?_
            refine V_goto hE 89 dX5_needFrom_84 (by decide) ?_
            refine V_istore hE dX5_needFrom_89 rfl ?_
            refine V_iinc hE dX5_needFrom_91 rfl rfl ?_
            refine V_goto hE 11 dX5_needFrom_94 (by decide) ?_
            first
              | (refine ih _ _ _ (by omega) (by omega) ?_
                 rw [gl_step _ _ (by omega), if_neg (by rw [decide_eq_true_eq]; exact fun h => ite_eq0 h29 h.1)]
                 exact hy)
              | (refine ih _ _ _ (by omega) (by omega) ?_
                 rw [gl_step _ _ (by omega), if_neg (by rw [decide_eq_true_eq]; exact fun h => ite_eq0 h43 (by have := h.2 (by omega); rw [show p + 3 - 3 = p by omega] at this; exact this))]
                 exact hy)
              | (have hcd : cdM f hd (σ 112 0) (σ 113 0) (p + 3) a b c d := ⟨hok, fun _ => by rw [show p + 3 - 3 = p by omega]; exact hfa⟩
                 have hm := dc_min (N := 1000000) (Y := G f hd (σ 112 0) (σ 113 0) (σ 116 0) q b c d) (k := ((d.natAbs : Nat) : Int)) hy rfl (by omega) (fun t ht => by
                   obtain ⟨⟨m, t', h1, h2, h3, h4⟩, -⟩ := gl_some _ _ _ _ ht
                   have := G_rng hRe _ _ _ _ _ h3
                   omega) (fun t ht => by have := G_rng hRe _ _ _ _ _ ht; omega)
                 refine ih _ _ _ (by omega) (by omega) ?_
                 rw [gl_step _ _ (by omega), if_pos (decide_eq_true hcd), ← hm]
                 first | exact (if_pos (by omega)).symm | exact (if_neg (by omega)).symm)
set_option maxRecDepth 100000 in
set_option maxHeartbeats 4000000 in
theorem c_X5_needFrom {K : Ctx} {σ : Sto} {f hd : Nat → Int} {p a b c : Int} {q : Nat} (hI : IM σ) (hl : Laid σ f hd) (hi : 0 ≤ p ∧ p + 3 < σ 116 0) (hq : (q : Int) = σ 116 0 - p - 4) (ha : -3 ≤ a ∧ a ≤ 3) (hb : okM f hd (σ 113 0) (p + 1) b) (hc : okM f hd (σ 113 0) (p + 2) c) (hN : NeedAt σ f hd (p + 1)) : CtI K mX5_needFrom 3 [.ref (kA K 19), .int (i32 p), .int (i32 a), .int (i32 b), .int (i32 c)] σ (fun r σ' => r = dcod 1000000 (G f hd (σ 112 0) (σ 113 0) (σ 116 0) (q + 1) a b c) ∧ σ' = σ) := by
  obtain ⟨hS, hW, hB, hRe, hLo, hHi, hO, hPu, hHe, hAt⟩ := id hI
  refine CtI_of (L := [some (.ref (kA K 19)), some (.int (i32 p)), some (.int (i32 a)), some (.int (i32 b)), some (.int (i32 c)), none, none, none]) (by decide) rfl rfl rfl ?_
  intro E hE hR
  refine V_ldc hE tw_ci_X5_127 dX5_needFrom_0 ?_
  refine V_istore hE dX5_needFrom_2 rfl ?_
  refine V_aload_n hE dX5_needFrom_4 rfl ?_
  refine gf_X5_13 hE rfl dX5_needFrom_5 ?_
  refine V_ineg hE dX5_needFrom_8 ?_
  refine V_istore hE dX5_needFrom_9 rfl ?_
  refine lp_X5_needFrom_11 hI hl hi hq ha hb hc hN hE hR 100 _ _ _ (by omega) (by omega) ?_
  rw [gl_none _ _ _ (fun m h1 h2 => decide_eq_false (fun h => by have := h.1.1; omega))]
  rfl
