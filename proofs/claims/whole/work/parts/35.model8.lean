set_option maxRecDepth 100000 in
set_option maxHeartbeats 4000000 in
theorem lp_X5_nextMove_43 {K : Ctx} {E : ME} {σ : Sto} {f hd : Nat → Int} {p s : Int} {q : Nat} (hI : IM σ) (hl : Laid σ f hd) (hi : 0 ≤ p ∧ p + 3 < σ 116 0) (hq : (q : Int) = σ 116 0 - p - 4) (hN1 : NeedAt σ f hd (p + 1)) (ha : okM f hd (σ 113 0) p (σ 26 p.toNat)) (hb : okM f hd (σ 113 0) (p + 1) (σ 26 (p + 1).toNat)) (hc : okM f hd (σ 113 0) (p + 2) (σ 26 (p + 2).toNat)) (hs : G f hd (σ 112 0) (σ 113 0) (σ 116 0) (q + 1) (σ 26 p.toNat) (σ 26 (p + 1).toNat) (σ 26 (p + 2).toNat) = some s) (hE : Ok K E mX5_nextMove 3) (hR : RetI K E mX5_nextMove (fun r σ' => r = nx f hd (σ 112 0) (σ 113 0) (σ 116 0) (p + 3) (σ 26 p.toNat) (σ 26 (p + 1).toNat) (σ 26 (p + 2).toNat) ∧ σ' = σ)) : ∀ (n : Nat) (d : Int), σ 113 0 + 1 - d < n → (-σ 113 0 ≤ d ∧ d ≤ σ 113 0 + 1) → (∀ m : Int, m < d → cdM f hd (σ 112 0) (σ 113 0) (p + 3) (σ 26 p.toNat) (σ 26 (p + 1).toNat) (σ 26 (p + 2).toNat) m → oadd ((m.natAbs : Nat) : Int) (G f hd (σ 112 0) (σ 113 0) (σ 116 0) q (σ 26 (p + 1).toNat) (σ 26 (p + 2).toNat) m) ≠ G f hd (σ 112 0) (σ 113 0) (σ 116 0) (q + 1) (σ 26 p.toNat) (σ 26 (p + 1).toNat) (σ 26 (p + 2).toNat)) → V K E mX5_nextMove 43 [some (.ref (kA K 19)), some (.int (i32 p)), some (.int (i32 s)), some (.int (i32 d))] [] σ := by
  intro n
  induction n with
  | zero =>
    intro d hm hd1 hno
    exfalso; omega
  | succ n ih =>
    intro d hm hd1 hno
    obtain ⟨hS, hW, hB, hRe, hLo, hHi, hO, hPu, hHe, hAt⟩ := id hI
    have ha1 := ha.1
    have hb1 := hb.1
    have hc1 := hc.1
    have hn9 := hl.1
    have hsr := G_rng hRe _ _ _ _ _ hs
    refine V_iload_n hE dX5_nextMove_43 rfl ?_
    refine V_aload_n hE dX5_nextMove_44 rfl ?_
    refine gf_X5_13 hE rfl dX5_nextMove_45 ?_
    refine V_icmp_gt hE 143 dX5_nextMove_48 (by decide) (by omega) (fun h48 => ?_) (fun h48 => ?_)
    · refine V_bipush hE dX5_nextMove_143 (by decide) ?_
      refine V_ireturn hR dX5_nextMove_145 ?_
      exfalso
      obtain ⟨⟨m, t1, g1, g2, g3⟩, -⟩ := G_some hRe hs
      rw [show σ 116 0 - ((q : Int) + 1) = p + 3 by omega] at g1
      have := g1.1.1
      exact hno m (by omega) g1 (by rw [hs, g2, g3]; rfl)
    · refine V_aload_n hE dX5_nextMove_51 rfl ?_
      refine V_iload_n hE dX5_nextMove_52 rfl ?_
      refine V_iconst hE dX5_nextMove_53 ?_
      refine V_iadd hE dX5_nextMove_54 ?_
      refine V_iload_n hE dX5_nextMove_55 rfl ?_
      refine cf_X5_128 hE rfl dX5_nextMove_56 (c_X5_may hI hl (by omega) (by omega)) rfl rfl ?_
      refine V_if_eq hE 137 dX5_nextMove_59 (by decide) (by omega) (fun h59 => ?_) (fun h59 => ?_)
      · refine V_iinc hE dX5_nextMove_137 rfl rfl ?_
        refine V_goto hE 43 dX5_nextMove_140 (by decide) ?_
        refine ih _ (by omega) (by omega) (fun m h1 h2 => ?_)
        by_cases e : m = d
        · subst e
          first
            | exact absurd h2.1 (ite_eq0 h59)
            | exact absurd (by have := h2.2 (by omega); rw [show p + 3 - 3 = p by omega] at this; exact this) (ite_eq0 h90)
            | (intro h3
               rw [hs] at h3
               cases hg : G f hd (σ 112 0) (σ 113 0) (σ 116 0) q (σ 26 (p + 1).toNat) (σ 26 (p + 2).toNat) m with
               | none => rw [hg] at h3; simp [oadd] at h3
               | some t => rw [hg] at h3 h132; simp only [oadd, dcod, Option.some.injEq] at h3 h132; exact h132 h3)
        · exact hno m (by omega) h2
      · refine V_aload_n hE dX5_nextMove_62 rfl ?_
        refine V_iload_n hE dX5_nextMove_63 rfl ?_
        refine V_aload_n hE dX5_nextMove_64 rfl ?_
        refine gf_X5_42 hE rfl dX5_nextMove_65 ?_
        refine V_iload_n hE dX5_nextMove_68 rfl ?_
        refine V_iaload hE dX5_nextMove_69 rfl (by omega) ?_
        refine V_aload_n hE dX5_nextMove_70 rfl ?_
        refine gf_X5_42 hE rfl dX5_nextMove_71 ?_
        refine V_iload_n hE dX5_nextMove_74 rfl ?_
        refine V_iconst hE dX5_nextMove_75 ?_
        refine V_iadd hE dX5_nextMove_76 ?_
        refine V_iaload hE dX5_nextMove_77 rfl (by omega) ?_
        refine V_aload_n hE dX5_nextMove_78 rfl ?_
        refine gf_X5_42 hE rfl dX5_nextMove_79 ?_
        refine V_iload_n hE dX5_nextMove_82 rfl ?_
        refine V_iconst hE dX5_nextMove_83 ?_
        refine V_iadd hE dX5_nextMove_84 ?_
        refine V_iaload hE dX5_nextMove_85 rfl (by omega) ?_
        refine V_iload_n hE dX5_nextMove_86 rfl ?_
        refine cf_X5_131 hE rfl dX5_nextMove_87 (c_X5_isFair hI hl (by omega) (by omega) (by omega) (by omega) (by omega)) rfl rfl ?_
        refine V_if_eq hE 137 dX5_nextMove_90 (by decide) (by omega) (fun h90 => ?_) (fun h90 => ?_)
        · refine V_iinc hE dX5_nextMove_137 rfl rfl ?_
          refine V_goto hE 43 dX5_nextMove_140 (by decide) ?_
          refine ih _ (by omega) (by omega) (fun m h1 h2 => ?_)
          by_cases e : m = d
          · subst e
            first
              | exact absurd h2.1 (ite_eq0 h59)
              | exact absurd (by have := h2.2 (by omega); rw [show p + 3 - 3 = p by omega] at this; exact this) (ite_eq0 h90)
              | (intro h3
                 rw [hs] at h3
                 cases hg : G f hd (σ 112 0) (σ 113 0) (σ 116 0) q (σ 26 (p + 1).toNat) (σ 26 (p + 2).toNat) m with
                 | none => rw [hg] at h3; simp [oadd] at h3
                 | some t => rw [hg] at h3 h132; simp only [oadd, dcod, Option.some.injEq] at h3 h132; exact h132 h3)
          · exact hno m (by omega) h2
        · refine V_iload_n hE dX5_nextMove_93 rfl ?_
          refine cf_X5_120 hE rfl dX5_nextMove_94 (c_X5_far (by omega)) rfl rfl ?_
          refine V_aload_n hE dX5_nextMove_97 rfl ?_
          refine gf_X5_39 hE rfl dX5_nextMove_98 ?_
          refine V_sipush hE dX5_nextMove_101 (by decide) ?_
          refine V_iload_n hE dX5_nextMove_104 rfl ?_
          refine V_iconst hE dX5_nextMove_105 ?_
          refine V_iadd hE dX5_nextMove_106 ?_
          refine V_imul hE dX5_nextMove_107 ?_
          refine V_aload_n hE dX5_nextMove_108 rfl ?_
          refine gf_X5_42 hE rfl dX5_nextMove_109 ?_
          refine V_iload_n hE dX5_nextMove_112 rfl ?_
          refine V_iconst hE dX5_nextMove_113 ?_
          refine V_iadd hE dX5_nextMove_114 ?_
          refine V_iaload hE dX5_nextMove_115 rfl (by omega) ?_
          refine V_aload_n hE dX5_nextMove_116 rfl ?_
          refine gf_X5_42 hE rfl dX5_nextMove_117 ?_
          refine V_iload_n hE dX5_nextMove_120 rfl ?_
          refine V_iconst hE dX5_nextMove_121 ?_
          refine V_iadd hE dX5_nextMove_122 ?_
          refine V_iaload hE dX5_nextMove_123 rfl (by omega) ?_
          refine V_iload_n hE dX5_nextMove_124 rfl ?_
          refine cf_X5_135 hE rfl dX5_nextMove_125 (c_X5_triple) rfl rfl ?_
          refine V_iadd hE dX5_nextMove_128 ?_
          refine V_iaload hE dX5_nextMove_129 rfl (by omega) ?_
          have hok := ite_ne0 h59
          have hfa := ite_ne0 h90
          have hcd : cdM f hd (σ 112 0) (σ 113 0) (p + 3) (σ 26 p.toNat) (σ 26 (p + 1).toNat) (σ 26 (p + 2).toNat) d := ⟨hok, fun _ => by rw [show p + 3 - 3 = p by omega]; exact hfa⟩
          have ev : σ 25 (343 * (p + 1) + (49 * ((σ 26 (p + 1).toNat) + 3) + 7 * ((σ 26 (p + 2).toNat) + 3) + d + 3)).toNat = dcod 1000000 (G f hd (σ 112 0) (σ 113 0) (σ 116 0) q (σ 26 (p + 1).toNat) (σ 26 (p + 2).toNat) d) := by
            rw [hN1 _ (by omega) (by omega), ndV_of hRe hb (by rw [show p + 1 + 1 = p + 2 by omega]; exact hc) (by rw [show p + 1 + 2 = p + 3 by omega]; exact hok), show (σ 116 0 - (p + 1) - 3).toNat = q by omega]
          rw [ev]
          have hgr : 0 ≤ dcod 1000000 (G f hd (σ 112 0) (σ 113 0) (σ 116 0) q (σ 26 (p + 1).toNat) (σ 26 (p + 2).toNat) d) ∧ dcod 1000000 (G f hd (σ 112 0) (σ 113 0) (σ 116 0) q (σ 26 (p + 1).toNat) (σ 26 (p + 2).toNat) d) ≤ 1000000 := by
            cases hg : G f hd (σ 112 0) (σ 113 0) (σ 116 0) q (σ 26 (p + 1).toNat) (σ 26 (p + 2).toNat) d with
            | none => simp [dcod]
            | some t => have := G_rng hRe _ _ _ _ _ hg; simp only [dcod]; omega
          refine V_iadd hE dX5_nextMove_130 ?_
          refine V_iload_n hE dX5_nextMove_131 rfl ?_
          refine V_icmp_ne hE 137 dX5_nextMove_132 (by decide) (by omega) (fun h132 => ?_) (fun h132 => ?_)
          · refine V_iinc hE dX5_nextMove_137 rfl rfl ?_
            refine V_goto hE 43 dX5_nextMove_140 (by decide) ?_
            refine ih _ (by omega) (by omega) (fun m h1 h2 => ?_)
            by_cases e : m = d
            · subst e
              first
                | exact absurd h2.1 (ite_eq0 h59)
                | exact absurd (by have := h2.2 (by omega); rw [show p + 3 - 3 = p by omega] at this; exact this) (ite_eq0 h90)
                | (intro h3
                   rw [hs] at h3
                   cases hg : G f hd (σ 112 0) (σ 113 0) (σ 116 0) q (σ 26 (p + 1).toNat) (σ 26 (p + 2).toNat) m with
                   | none => rw [hg] at h3; simp [oadd] at h3
                   | some t => rw [hg] at h3 h132; simp only [oadd, dcod, Option.some.injEq] at h3 h132; exact h132 h3)
            · exact hno m (by omega) h2
          · refine V_iload_n hE dX5_nextMove_135 rfl ?_
            refine V_ireturn hR dX5_nextMove_136 ?_
            refine ⟨?_, rfl⟩
            refine (nx_eq hRe hcd ?_ ?_).symm
            · rw [show (σ 116 0 - 1 - (p + 3)).toNat = q by omega, show (σ 116 0 - (p + 3)).toNat = q + 1 by omega, hs]
              cases hg : G f hd (σ 112 0) (σ 113 0) (σ 116 0) q (σ 26 (p + 1).toNat) (σ 26 (p + 2).toNat) d with
              | none => rw [hg] at h132; simp only [dcod] at h132; omega
              | some t => rw [hg] at h132; simp only [dcod] at h132; simp only [oadd]; rw [h132]
            · intro m h1 h2
              rw [show (σ 116 0 - 1 - (p + 3)).toNat = q by omega, show (σ 116 0 - (p + 3)).toNat = q + 1 by omega]
              exact hno m h1 h2
set_option maxRecDepth 100000 in
set_option maxHeartbeats 4000000 in
theorem c_X5_nextMove {K : Ctx} {σ : Sto} {f hd : Nat → Int} {p s : Int} {q : Nat} (hI : IM σ) (hl : Laid σ f hd) (hi : 0 ≤ p ∧ p + 3 < σ 116 0) (hq : (q : Int) = σ 116 0 - p - 4) (hN1 : NeedAt σ f hd (p + 1)) (ha : okM f hd (σ 113 0) p (σ 26 p.toNat)) (hb : okM f hd (σ 113 0) (p + 1) (σ 26 (p + 1).toNat)) (hc : okM f hd (σ 113 0) (p + 2) (σ 26 (p + 2).toNat)) (hs : G f hd (σ 112 0) (σ 113 0) (σ 116 0) (q + 1) (σ 26 p.toNat) (σ 26 (p + 1).toNat) (σ 26 (p + 2).toNat) = some s) (hN0 : NeedAt σ f hd p) : CtI K mX5_nextMove 3 [.ref (kA K 19), .int (i32 p)] σ (fun r σ' => r = nx f hd (σ 112 0) (σ 113 0) (σ 116 0) (p + 3) (σ 26 p.toNat) (σ 26 (p + 1).toNat) (σ 26 (p + 2).toNat) ∧ σ' = σ) := by
  obtain ⟨hS, hW, hB, hRe, hLo, hHi, hO, hPu, hHe, hAt⟩ := id hI
  have ha1 := ha.1
  have hb1 := hb.1
  have hc1 := hc.1
  have hn9 := hl.1
  have ev : σ 25 (343 * p + (49 * ((σ 26 p.toNat) + 3) + 7 * ((σ 26 (p + 1).toNat) + 3) + (σ 26 (p + 2).toNat) + 3)).toNat = s := by
    rw [hN0 _ (by omega) (by omega), ndV_of hRe ha hb hc, show (σ 116 0 - p - 3).toNat = q + 1 by omega, hs]
    rfl
  refine CtI_of (L := [some (.ref (kA K 19)), some (.int (i32 p)), none, none]) (by decide) rfl rfl rfl ?_
  intro E hE hR
  refine V_aload_n hE dX5_nextMove_0 rfl ?_
  refine gf_X5_39 hE rfl dX5_nextMove_1 ?_
  refine V_sipush hE dX5_nextMove_4 (by decide) ?_
  refine V_iload_n hE dX5_nextMove_7 rfl ?_
  refine V_imul hE dX5_nextMove_8 ?_
  refine V_aload_n hE dX5_nextMove_9 rfl ?_
  refine gf_X5_42 hE rfl dX5_nextMove_10 ?_
  refine V_iload_n hE dX5_nextMove_13 rfl ?_
  refine V_iaload hE dX5_nextMove_14 rfl (by omega) ?_
  refine V_aload_n hE dX5_nextMove_15 rfl ?_
  refine gf_X5_42 hE rfl dX5_nextMove_16 ?_
  refine V_iload_n hE dX5_nextMove_19 rfl ?_
  refine V_iconst hE dX5_nextMove_20 ?_
  refine V_iadd hE dX5_nextMove_21 ?_
  refine V_iaload hE dX5_nextMove_22 rfl (by omega) ?_
  refine V_aload_n hE dX5_nextMove_23 rfl ?_
  refine gf_X5_42 hE rfl dX5_nextMove_24 ?_
  refine V_iload_n hE dX5_nextMove_27 rfl ?_
  refine V_iconst hE dX5_nextMove_28 ?_
  refine V_iadd hE dX5_nextMove_29 ?_
  refine V_iaload hE dX5_nextMove_30 rfl (by omega) ?_
  refine cf_X5_135 hE rfl dX5_nextMove_31 (c_X5_triple) rfl rfl ?_
  refine V_iadd hE dX5_nextMove_34 ?_
  refine V_iaload hE dX5_nextMove_35 rfl (by omega) ?_
  rw [ev]
  refine V_istore_n hE dX5_nextMove_36 rfl ?_
  refine V_aload_n hE dX5_nextMove_37 rfl ?_
  refine gf_X5_13 hE rfl dX5_nextMove_38 ?_
  refine V_ineg hE dX5_nextMove_41 ?_
  refine V_istore_n hE dX5_nextMove_42 rfl ?_
  exact lp_X5_nextMove_43 hI hl hi hq hN1 ha hb hc hs hE hR 100 _ (by omega) (by omega) (fun m h1 h2 => by have := h2.1.1; omega)
def FlD (σ' : Sto) (r : Int) (f hd : Nat → Int) (bn rr n : Int) : Prop := (r = 0 ∧ Ltt f hd bn rr n = none) ∨ (r = 1 ∧ ∃ t, Ltt f hd bn rr n = some t ∧ σ' 117 0 = t ∧ ∀ i : Nat, (i : Int) < n → σ' 26 i = Lmv f hd bn rr n i)
def FrD (σ' : Sto) (r : Int) (T : Option Int) : Prop := (r = 0 ∧ T = none) ∨ (r = 1 ∧ ∃ t, T = some t ∧ σ' 117 0 = t)
theorem FlD_01 {σ' : Sto} {r : Int} {f hd : Nat → Int} {bn rr n : Int} (h : FlD σ' r f hd bn rr n) : r = 0 ∨ r = 1 := by
  rcases h with ⟨h, -⟩ | ⟨h, -⟩
  · exact Or.inl h
  · exact Or.inr h
theorem FrD_01 {σ' : Sto} {r : Int} {T : Option Int} (h : FrD σ' r T) : r = 0 ∨ r = 1 := by
  rcases h with ⟨h, -⟩ | ⟨h, -⟩
  · exact Or.inl h
  · exact Or.inr h
set_option maxRecDepth 100000 in
set_option maxHeartbeats 4000000 in
theorem lp_X5_findLeast_15 {K : Ctx} {E : ME} {σ σB : Sto} {f hd : Nat → Int} {t : Int} (hI : IM σ) (hl : Laid σ f hd) (hFB : Fr [25, 26, 117] σ σB) (hNB : NeedAll σB f hd) (ht : Ltt f hd (σ 112 0) (σ 113 0) (σ 116 0) = some t) (h117 : σB 117 0 = t) (hE : Ok K E mX5_findLeast 5) (hR : RetZ K E mX5_findLeast (fun r σ' => Fr [25, 26, 117] σ σ' ∧ FlD σ' r f hd (σ 112 0) (σ 113 0) (σ 116 0))) : ∀ (n : Nat) (p : Int) (σ1 : Sto), σ 116 0 - p < n → (0 ≤ p ∧ p ≤ σ 116 0 - 3) → (Fr [26] σB σ1) → (∀ i : Nat, (i : Int) < p + 3 → σ1 26 i = Lmv f hd (σ 112 0) (σ 113 0) (σ 116 0) i) → V K E mX5_findLeast 15 [some (.ref (kA K 19)), some (.int (i32 p))] [] σ1 := by
  intro n
  induction n with
  | zero =>
    intro p σ1 hm hp hF hM
    exfalso; omega
  | succ n ih =>
    intro p σ1 hm hp hF hM
    obtain ⟨hS, hW, hB, hRe, hLo, hHi, hO, hPu, hHe, hAt⟩ := id hI
    have hn9 := hl.1
    have hF1 : Fr [25, 26, 117] σ σ1 := Fr_tr hFB hF (by decide)
    have hI1 : IM σ1 := IM_25 hI hF1 (by decide) (by decide)
    have hl1 : Laid σ1 f hd := Laid_fr hl hF1 (by decide)
    have hN1 : NeedAll σ1 f hd := NeedAll_fr hNB hF (by decide)
    have e112 : σ1 112 0 = σ 112 0 := by rw [hF1 112 (by decide)]
    have e113 : σ1 113 0 = σ 113 0 := by rw [hF1 113 (by decide)]
    have e116 : σ1 116 0 = σ 116 0 := by rw [hF1 116 (by decide)]
    have m0 : σ1 26 p.toNat = Lmv f hd (σ 112 0) (σ 113 0) (σ 116 0) p.toNat := hM _ (by omega)
    have m1 : σ1 26 (p + 1).toNat = Lmv f hd (σ 112 0) (σ 113 0) (σ 116 0) (p.toNat + 1) := by rw [show (p + 1).toNat = p.toNat + 1 by omega]; exact hM _ (by omega)
    have m2 : σ1 26 (p + 2).toNat = Lmv f hd (σ 112 0) (σ 113 0) (σ 116 0) (p.toNat + 2) := by rw [show (p + 2).toNat = p.toNat + 2 by omega]; exact hM _ (by omega)
    have k0 : okM f hd (σ1 113 0) p (σ1 26 p.toNat) := by
      rw [e113, m0]
      have := Lmv_ok hRe ht (i := p.toNat) (by omega)
      rwa [show ((p.toNat : Nat) : Int) = p by omega] at this
    refine V_iload_n hE dX5_findLeast_15 rfl ?_
    refine V_iconst hE dX5_findLeast_16 ?_
    refine V_iadd hE dX5_findLeast_17 ?_
    refine V_aload_n hE dX5_findLeast_18 rfl ?_
    refine gf_X5_97 hE rfl dX5_findLeast_19 ?_
    refine V_icmp_ge hE 44 dX5_findLeast_22 (by decide) (by omega) (fun h22 => ?_) (fun h22 => ?_)
    · refine V_iconst hE dX5_findLeast_44 ?_
      refine V_zreturn hR dX5_findLeast_45 (by omega) ?_
      have ep : p = σ 116 0 - 3 := by omega
      exact ⟨hF1, Or.inr ⟨rfl, t, ht, by rw [hF 117 (by decide)]; exact h117, fun i hi => hM i (by omega)⟩⟩
    · have k1 : okM f hd (σ1 113 0) (p + 1) (σ1 26 (p + 1).toNat) := by
        rw [e113, m1]
        have := Lmv_ok hRe ht (i := p.toNat + 1) (by omega)
        rwa [show ((p.toNat + 1 : Nat) : Int) = p + 1 by omega] at this
      have k2 : okM f hd (σ1 113 0) (p + 2) (σ1 26 (p + 2).toNat) := by
        rw [e113, m2]
        have := Lmv_ok hRe ht (i := p.toNat + 2) (by omega)
        rwa [show ((p.toNat + 2 : Nat) : Int) = p + 2 by omega] at this
      obtain ⟨s, hs⟩ := chain hRe ht (p.toNat + 3) (by omega)
      rw [Lsq3, show (σ 116 0 - ((p.toNat + 3 : Nat) : Int)).toNat = (σ 116 0 - p - 4).toNat + 1 by omega] at hs
      dsimp only at hs
      rw [← m0, ← m1, ← m2, ← e112, ← e113, ← e116] at hs
      refine V_aload_n hE dX5_findLeast_25 rfl ?_
      refine gf_X5_42 hE rfl dX5_findLeast_26 ?_
      refine V_iload_n hE dX5_findLeast_29 rfl ?_
      refine V_iconst hE dX5_findLeast_30 ?_
      refine V_iadd hE dX5_findLeast_31 ?_
      refine V_aload_n hE dX5_findLeast_32 rfl ?_
      refine V_iload_n hE dX5_findLeast_33 rfl ?_
      refine cf_X5_152 hE rfl dX5_findLeast_34 (c_X5_nextMove (q := (σ1 116 0 - p - 4).toNat) hI1 hl1 (by omega) (by omega) (hN1 (p + 1) (by omega) (by omega)) k0 k1 k2 hs (hN1 p (by omega) (by omega))) rfl rfl ?_
      refine V_iastore hE dX5_findLeast_37 rfl (by omega) ?_
      refine V_iinc hE dX5_findLeast_38 rfl rfl ?_
      refine V_goto hE 15 dX5_findLeast_41 (by decide) ?_
      refine ih _ _ (by omega) (by omega) (Fr_up hF (by decide)) (fun i hi => ?_)
      rw [up_at]
      by_cases e : i = (p + 3).toNat
      · rw [if_pos e, e, show (p + 3).toNat = p.toNat + 3 by omega, Lmv3, m0, m1, m2, e112, e113, e116, show ((p.toNat + 3 : Nat) : Int) = p + 3 by omega]
      · rw [if_neg e]
        exact hM i (by omega)
set_option maxRecDepth 100000 in
set_option maxHeartbeats 4000000 in
theorem c_X5_findLeast {K : Ctx} {σ : Sto} {f hd : Nat → Int} (hI : IM σ) (hl : Laid σ f hd) : CtI K mX5_findLeast 5 [.ref (kA K 19)] σ (fun r σ' => Fr [25, 26, 117] σ σ' ∧ FlD σ' r f hd (σ 112 0) (σ 113 0) (σ 116 0)) := by
  obtain ⟨hS, hW, hB, hRe, hLo, hHi, hO, hPu, hHe, hAt⟩ := id hI
  have hn9 := hl.1
  refine CtZ_of (L := [some (.ref (kA K 19)), none]) (by decide) rfl rfl rfl ?_
  intro E hE hR
  refine V_aload_n hE dX5_findLeast_0 rfl ?_
  refine cl_X5_145 hE rfl dX5_findLeast_1 (c_X5_findNeeds hI hl) rfl rfl ?_
  rintro σ1 ⟨hF1, hN1⟩
  have e112 : σ1 112 0 = σ 112 0 := by rw [hF1 112 (by decide)]
  have e113 : σ1 113 0 = σ 113 0 := by rw [hF1 113 (by decide)]
  have e116 : σ1 116 0 = σ 116 0 := by rw [hF1 116 (by decide)]
  have hl1 := Laid_fr hl hF1 (by decide)
  refine V_aload_n hE dX5_findLeast_4 rfl ?_
  refine cl_X5_148 hE rfl dX5_findLeast_5 (c_X5_begins (IM_25 hI hF1 (by decide) (by decide)) hl1 (hN1 0 (by omega) (by omega))) rfl rfl ?_
  rintro r σ2 ⟨hF2, hq⟩
  rw [e112, e113, e116] at hq
  have hF3 : Fr [25, 26, 117] σ σ2 := Fr_tr (Fr_sub hF1 (by decide)) hF2 (by decide)
  have hr01 : r = 0 ∨ r = 1 := by rcases hq with ⟨h, -⟩ | ⟨h, -⟩ <;> omega
  refine V_if_ne hE 13 dX5_findLeast_8 (by decide) (by omega) (fun h8 => ?_) (fun h8 => ?_)
  · refine V_iconst hE dX5_findLeast_13 ?_
    refine V_istore_n hE dX5_findLeast_14 rfl ?_
    rcases hq with ⟨h, -⟩ | ⟨-, t, ht, h117, b0, b1, b2⟩
    · omega
    · refine lp_X5_findLeast_15 hI hl hF3 (NeedAll_fr hN1 hF2 (by decide)) ht h117 hE hR 100 0 σ2 (by omega) (by omega) Fr_rf (fun i hi => ?_)
      rcases (show i = 0 ∨ i = 1 ∨ i = 2 by omega) with rfl | rfl | rfl
      · exact b0
      · exact b1
      · exact b2
  · refine V_iconst hE dX5_findLeast_11 ?_
    refine V_zreturn hR dX5_findLeast_12 (by omega) ?_
    refine ⟨hF3, Or.inl ⟨rfl, ?_⟩⟩
    rcases hq with ⟨-, h⟩ | ⟨h, -⟩
    · exact h
    · omega
set_option maxRecDepth 100000 in
set_option maxHeartbeats 4000000 in
theorem c_X5_least {K : Ctx} {σ : Sto} {v k i : Int} (hI : IM σ) (hv : InI v ∧ InI k ∧ InI i) : CtI K mX5_least 6 [.ref (kA K 19), .int (i32 v), .int (i32 k), .int (i32 i)] σ (fun r σ' => r = leastS (σ 20) (σ 22) (σ 110 0) (σ 111 0) (σ 112 0) (σ 113 0) v k i ∧ SmM σ σ') := by
  obtain ⟨hS, hW, hB, hRe, hLo, hHi, hO, hPu, hHe, hAt⟩ := id hI
  refine CtI_of (L := [some (.ref (kA K 19)), some (.int (i32 v)), some (.int (i32 k)), some (.int (i32 i))]) (by decide) rfl rfl rfl ?_
  intro E hE hR
  refine V_iload_n hE dX5_least_0 rfl ?_
  refine cf_X5_103 hE rfl dX5_least_1 (c_X5_isView (by omega)) rfl rfl ?_
  refine V_if_ne hE 10 dX5_least_4 (by decide) (by omega) (fun h4 => ?_) (fun h4 => ?_)
  · refine V_aload_n hE dX5_least_10 rfl ?_
    refine V_iload_n hE dX5_least_11 rfl ?_
    refine V_iload_n hE dX5_least_12 rfl ?_
    refine cf_X5_106 hE rfl dX5_least_13 (c_X5_isLine hI (by omega)) rfl rfl ?_
    refine V_if_ne hE 21 dX5_least_16 (by decide) (by omega) (fun h16 => ?_) (fun h16 => ?_)
    · refine V_aload_n hE dX5_least_21 rfl ?_
      refine V_iload_n hE dX5_least_22 rfl ?_
      refine V_iload_n hE dX5_least_23 rfl ?_
      refine cl_X5_109 hE rfl dX5_least_24 (c_X5_lays hI (by omega)) rfl rfl ?_
      rintro σ1 hl
      have hs1 := LaysQ_sm hl
      have hla := Laid_of hI (by omega) hl
      have e116 := hl.2.1
      have e112 : σ1 112 0 = σ 112 0 := by rw [hs1.1 112 (by decide)]
      have e113 : σ1 113 0 = σ 113 0 := by rw [hs1.1 113 (by decide)]
      refine V_iload_n hE dX5_least_27 rfl ?_
      refine V_i2l hE dX5_least_28 (by omega) ?_
      refine V_ldc2 hE tw_cl_X5_155 dX5_least_29 ?_
      refine V_aload_n hE dX5_least_32 rfl ?_
      refine gf_X5_97 hE rfl dX5_least_33 ?_
      refine V_iconst hE dX5_least_36 ?_
      refine V_isub hE dX5_least_37 ?_
      refine V_i2l hE dX5_least_38 (by omega) ?_
      refine cf_X5_67 hE rfl dX5_least_39 (c_X5_within (by omega)) rfl rfl ?_
      refine V_if_ne hE 48 dX5_least_42 (by decide) (by omega) (fun h42 => ?_) (fun h42 => ?_)
      · refine V_aload_n hE dX5_least_48 rfl ?_
        refine cl_X5_157 hE rfl dX5_least_49 (c_X5_findLeast (IM_sm hI hs1) hla) rfl rfl ?_
        rintro r σ2 ⟨hF2, hq⟩
        rw [e112, e113, e116] at hq
        have hs2 : SmM σ σ2 := ⟨Fr_tr hs1.1 hF2 (by decide), by rw [hF2 24 (by decide)]; exact hs1.2⟩
        have hr01 := FlD_01 hq
        refine V_if_ne hE 58 dX5_least_52 (by decide) (by omega) (fun h52 => ?_) (fun h52 => ?_)
        · refine V_iload_n hE dX5_least_58 rfl ?_
          refine V_if_ge hE 69 dX5_least_59 (by decide) (by omega) (fun h59 => ?_) (fun h59 => ?_)
          · refine V_aload_n hE dX5_least_69 rfl ?_
            refine gf_X5_42 hE rfl dX5_least_70 ?_
            refine V_iload_n hE dX5_least_73 rfl ?_
            refine V_iaload hE dX5_least_74 rfl (by omega) ?_
            refine V_ireturn hR dX5_least_75 ?_
            refine ⟨?_, hs2⟩
            unfold leastS
            refine Eq.symm ((if_neg (by omega)).trans ((if_neg (by omega)).trans ((if_neg (by omega)).trans ?_)))
            rcases hq with ⟨h, -⟩ | ⟨-, t, ht, h117, hM⟩
            · omega
            · rw [ht]
              first
                | exact (if_pos (by assumption)).trans h117.symm
                | exact (if_neg (by omega)).trans (hM i.toNat (by omega)).symm
          · refine V_aload_n hE dX5_least_62 rfl ?_
            refine gf_X5_142 hE rfl dX5_least_63 ?_
            refine V_goto hE 75 dX5_least_66 (by decide) ?_
            refine V_ireturn hR dX5_least_75 ?_
            refine ⟨?_, hs2⟩
            unfold leastS
            refine Eq.symm ((if_neg (by omega)).trans ((if_neg (by omega)).trans ((if_neg (by omega)).trans ?_)))
            rcases hq with ⟨h, -⟩ | ⟨-, t, ht, h117, hM⟩
            · omega
            · rw [ht]
              first
                | exact (if_pos (by assumption)).trans h117.symm
                | exact (if_neg (by omega)).trans (hM i.toNat (by omega)).symm
        · refine V_bipush hE dX5_least_55 (by decide) ?_
          refine V_ireturn hR dX5_least_57 ?_
          refine ⟨?_, hs2⟩
          unfold leastS
          refine Eq.symm ((if_neg (by omega)).trans ((if_neg (by omega)).trans ((if_neg (by omega)).trans ?_)))
          rcases hq with ⟨-, h⟩ | ⟨h, -⟩
          · rw [h]
          · omega
      · refine V_bipush hE dX5_least_45 (by decide) ?_
        refine V_ireturn hR dX5_least_47 ?_
        exact ⟨by unfold leastS; exact ((if_neg (by omega)).trans ((if_neg (by omega)).trans (if_pos (by omega)))).symm, hs1⟩
    · refine V_iconst hE dX5_least_19 ?_
      refine V_ireturn hR dX5_least_20 ?_
      exact ⟨by unfold leastS; exact ((if_neg (by omega)).trans (if_pos (by omega))).symm, SmM_rf hAt⟩
  · refine V_bipush hE dX5_least_7 (by decide) ?_
    refine V_ireturn hR dX5_least_9 ?_
    exact ⟨by unfold leastS; exact (if_pos (by omega)).symm, SmM_rf hAt⟩
set_option maxRecDepth 100000 in
set_option maxHeartbeats 4000000 in
theorem lp_X5_fairs_17 {K : Ctx} {E : ME} {σ σL σF : Sto} {v k t : Int} (hI : IM σ) (hv : (v = 0 ∨ v = 1) ∧ 0 ≤ k ∧ k < (if v = 0 then σ 111 0 else σ 110 0)) (hl : LaysQ σ v k σL) (hFF : Fr [25, 26, 117] σL σF) (ht : Ltt (lnf (σ 20) v k) (lnf (σ 22) v k) (σ 112 0) (σ 113 0) (if v = 0 then σ 110 0 else σ 111 0) = some t) (h117 : σF 117 0 = t) (hM : ∀ i : Nat, (i : Int) < (if v = 0 then σ 110 0 else σ 111 0) → σF 26 i = Lmv (lnf (σ 20) v k) (lnf (σ 22) v k) (σ 112 0) (σ 113 0) (if v = 0 then σ 110 0 else σ 111 0) i) (hE : Ok K E mX5_fairs 6) (hR : RetZ K E mX5_fairs (fun r σ' => Fr [20, 116, 23, 24, 25, 26, 117] σ σ' ∧ Rng (σ' 24) ∧ σ' 20 = fairO (σ 22) (σ 110 0) (σ 111 0) (σ 112 0) (σ 113 0) v k (σ 20) ∧ FrD σ' r (Ltt (lnf (σ 20) v k) (lnf (σ 22) v k) (σ 112 0) (σ 113 0) (if v = 0 then σ 110 0 else σ 111 0)))) : ∀ (n : Nat) (i : Int) (σ1 : Sto), (if v = 0 then σ 110 0 else σ 111 0) - i < n → (0 ≤ i ∧ i ≤ (if v = 0 then σ 110 0 else σ 111 0)) → (Fr [20] σF σ1) → (∀ c : Nat, σ1 20 c = addN (σ 20) v k (Lmv (lnf (σ 20) v k) (lnf (σ 22) v k) (σ 112 0) (σ 113 0) (if v = 0 then σ 110 0 else σ 111 0)) i.toNat c) → V K E mX5_fairs 17 [some (.ref (kA K 19)), some (.int (i32 v)), some (.int (i32 k)), some (.int (i32 i))] [] σ1 := by
  intro n
  induction n with
  | zero =>
    intro i σ1 hm hi hF h20
    exfalso; omega
  | succ n ih =>
    intro i σ1 hm hi hF h20
    obtain ⟨hS, hW, hB, hRe, hLo, hHi, hO, hPu, hHe, hAt⟩ := id hI
    have e116 : σ1 116 0 = (if v = 0 then σ 110 0 else σ 111 0) := by rw [hF 116 (by decide), hFF 116 (by decide)]; exact hl.2.1
    have h23 : ∀ j : Nat, (j : Int) < (if v = 0 then σ 110 0 else σ 111 0) → σ1 23 j = pt v k j := fun j hj => by rw [hF 23 (by decide), hFF 23 (by decide)]; exact (hl.2.2.1 j hj).1
    refine V_iload_n hE dX5_fairs_17 rfl ?_
    refine V_aload_n hE dX5_fairs_18 rfl ?_
    refine gf_X5_97 hE rfl dX5_fairs_19 ?_
    refine V_icmp_ge hE 51 dX5_fairs_22 (by decide) (by omega) (fun h22 => ?_) (fun h22 => ?_)
    · refine V_iconst hE dX5_fairs_51 ?_
      refine V_zreturn hR dX5_fairs_52 (by omega) ?_
      have ei : i = (if v = 0 then σ 110 0 else σ 111 0) := by omega
      refine ⟨Fr_tr (Fr_tr (Fr_tr (Fr_sub hl.1 (by decide)) hFF (by decide)) hF (by decide)) Fr_rf (fun _ h => h), ?_, ?_, Or.inr ⟨rfl, t, ht, by rw [hF 117 (by decide)]; exact h117⟩⟩
      · rw [hF 24 (by decide), hFF 24 (by decide)]; exact hl.2.2.2
      · funext c
        rw [h20 c, ei]
        unfold fairO
        rw [ht]
    · have e23 : σ1 23 i.toNat = pt v k i := by rw [h23 _ (by omega), show ((i.toNat : Nat) : Int) = i by omega]
      have e26 : σ1 26 i.toNat = Lmv (lnf (σ 20) v k) (lnf (σ 22) v k) (σ 112 0) (σ 113 0) (if v = 0 then σ 110 0 else σ 111 0) i.toNat := by rw [hF 26 (by decide)]; exact hM _ (by omega)
      have hpt : 0 ≤ pt v k i ∧ pt v k i < 63 := by unfold pt; split <;> omega
      refine V_aload_n hE dX5_fairs_25 rfl ?_
      refine gf_X5_22 hE rfl dX5_fairs_26 ?_
      refine V_aload_n hE dX5_fairs_29 rfl ?_
      refine gf_X5_33 hE rfl dX5_fairs_30 ?_
      refine V_iload_n hE dX5_fairs_33 rfl ?_
      refine V_iaload hE dX5_fairs_34 rfl (by omega) ?_
      rw [e23]
      refine V_dup2 hE dX5_fairs_35 rfl rfl ?_
      refine V_iaload hE dX5_fairs_36 rfl (by omega) ?_
      refine V_aload_n hE dX5_fairs_37 rfl ?_
      refine gf_X5_42 hE rfl dX5_fairs_38 ?_
      refine V_iload_n hE dX5_fairs_41 rfl ?_
      refine V_iaload hE dX5_fairs_42 rfl (by omega) ?_
      refine V_iadd hE dX5_fairs_43 ?_
      refine V_iastore hE dX5_fairs_44 rfl (by omega) ?_
      refine V_iinc hE dX5_fairs_45 rfl rfl ?_
      refine V_goto hE 17 dX5_fairs_48 (by decide) ?_
      refine ih _ _ (by omega) (by omega) (Fr_up hF (by decide)) (fun c => ?_)
      rw [up_at, addN_step _ _ _ _ (by omega), ← h20 c, e26]
      by_cases e : c = (pt v k i).toNat
      · rw [if_pos e, if_pos e, e]
      · rw [if_neg e, if_neg e]
set_option maxRecDepth 100000 in
set_option maxHeartbeats 4000000 in
theorem c_X5_fairs {K : Ctx} {σ : Sto} {v k : Int} (hI : IM σ) (hv : (v = 0 ∨ v = 1) ∧ 0 ≤ k ∧ k < (if v = 0 then σ 111 0 else σ 110 0)) : CtI K mX5_fairs 6 [.ref (kA K 19), .int (i32 v), .int (i32 k)] σ (fun r σ' => Fr [20, 116, 23, 24, 25, 26, 117] σ σ' ∧ Rng (σ' 24) ∧ σ' 20 = fairO (σ 22) (σ 110 0) (σ 111 0) (σ 112 0) (σ 113 0) v k (σ 20) ∧ FrD σ' r (Ltt (lnf (σ 20) v k) (lnf (σ 22) v k) (σ 112 0) (σ 113 0) (if v = 0 then σ 110 0 else σ 111 0))) := by
  obtain ⟨hS, hW, hB, hRe, hLo, hHi, hO, hPu, hHe, hAt⟩ := id hI
  refine CtZ_of (L := [some (.ref (kA K 19)), some (.int (i32 v)), some (.int (i32 k)), none]) (by decide) rfl rfl rfl ?_
  intro E hE hR
  refine V_aload_n hE dX5_fairs_0 rfl ?_
  refine V_iload_n hE dX5_fairs_1 rfl ?_
  refine V_iload_n hE dX5_fairs_2 rfl ?_
  refine cl_X5_109 hE rfl dX5_fairs_3 (c_X5_lays hI (by omega)) rfl rfl ?_
  rintro σ1 hl
  have hs1 := LaysQ_sm hl
  have hla := Laid_of hI (by omega) hl
  have e116 := hl.2.1
  have e112 : σ1 112 0 = σ 112 0 := by rw [hs1.1 112 (by decide)]
  have e113 : σ1 113 0 = σ 113 0 := by rw [hs1.1 113 (by decide)]
  refine V_aload_n hE dX5_fairs_6 rfl ?_
  refine cl_X5_157 hE rfl dX5_fairs_7 (c_X5_findLeast (IM_sm hI hs1) hla) rfl rfl ?_
  rintro r σ2 ⟨hF2, hq⟩
  rw [e112, e113, e116] at hq
  have hs2 : SmM σ σ2 := ⟨Fr_tr hs1.1 hF2 (by decide), by rw [hF2 24 (by decide)]; exact hs1.2⟩
  have hr01 := FlD_01 hq
  refine V_if_ne hE 15 dX5_fairs_10 (by decide) (by omega) (fun h10 => ?_) (fun h10 => ?_)
  · refine V_iconst hE dX5_fairs_15 ?_
    refine V_istore_n hE dX5_fairs_16 rfl ?_
    rcases hq with ⟨h, -⟩ | ⟨-, t, ht, h117, hM⟩
    · exact absurd h h10
    · exact lp_X5_fairs_17 hI hv hl hF2 ht h117 hM hE hR 100 0 σ2 (by omega) (by omega) Fr_rf (fun c => by rw [hF2 20 (by decide), hl.1 20 (by decide)]; rfl)
  · refine V_iconst hE dX5_fairs_13 ?_
    refine V_zreturn hR dX5_fairs_14 (by omega) ?_
    rcases hq with ⟨-, h⟩ | ⟨h, -⟩
    · refine ⟨Fr_tr (Fr_sub hl.1 (by decide)) hF2 (by decide), hs2.2, ?_, Or.inl ⟨rfl, h⟩⟩
      unfold fairO
      rw [h, hs2.1 20 (by decide)]
    · omega
def FairM (σ : Sto) (σ' : Sto) : Prop := Fr (20 :: scM) σ σ' ∧ Rng (σ' 24)
theorem IM_fair {σ σ' : Sto} (h : IM σ) (h2 : FairM σ σ') (h3 : Rng (σ' 20)) : IM σ' := by
  obtain ⟨hS, hW, hB, hRe, hLo, hHi, hO, hPu, hHe, hAt⟩ := h
  have e := h2.1
  unfold IM
  rw [e 110 (by decide), e 111 (by decide), e 112 (by decide), e 113 (by decide), e 114 (by decide), e 115 (by decide), e 21 (by decide), e 22 (by decide)]
  exact ⟨hS, hW, hB, hRe, hLo, hHi, h3, hPu, hHe, h2.2⟩
set_option maxRecDepth 100000 in
set_option maxHeartbeats 4000000 in
theorem c_X5_fair {K : Ctx} {σ : Sto} {v k : Int} (hI : IM σ) (hv : InI v ∧ InI k) : CtI K mX5_fair 7 [.ref (kA K 19), .int (i32 v), .int (i32 k)] σ (fun r σ' => r = fairS (σ 20) (σ 22) (σ 110 0) (σ 111 0) (σ 112 0) (σ 113 0) v k ∧ FairM σ σ' ∧ σ' 20 = (if refS (σ 110 0) (σ 111 0) v k < 0 then σ 20 else fairO (σ 22) (σ 110 0) (σ 111 0) (σ 112 0) (σ 113 0) v k (σ 20))) := by
  obtain ⟨hS, hW, hB, hRe, hLo, hHi, hO, hPu, hHe, hAt⟩ := id hI
  refine CtI_of (L := [some (.ref (kA K 19)), some (.int (i32 v)), some (.int (i32 k))]) (by decide) rfl rfl rfl ?_
  intro E hE hR
  refine V_iload_n hE dX5_fair_0 rfl ?_
  refine cf_X5_103 hE rfl dX5_fair_1 (c_X5_isView (by omega)) rfl rfl ?_
  refine V_if_ne hE 10 dX5_fair_4 (by decide) (by omega) (fun h4 => ?_) (fun h4 => ?_)
  · refine V_aload_n hE dX5_fair_10 rfl ?_
    refine V_iload_n hE dX5_fair_11 rfl ?_
    refine V_iload_n hE dX5_fair_12 rfl ?_
    refine cf_X5_106 hE rfl dX5_fair_13 (c_X5_isLine hI (by omega)) rfl rfl ?_
    refine V_if_ne hE 21 dX5_fair_16 (by decide) (by omega) (fun h16 => ?_) (fun h16 => ?_)
    · refine V_aload_n hE dX5_fair_21 rfl ?_
      refine V_iload_n hE dX5_fair_22 rfl ?_
      refine V_iload_n hE dX5_fair_23 rfl ?_
      refine cl_X5_160 hE rfl dX5_fair_24 (c_X5_fairs hI (by omega)) rfl rfl ?_
      rintro r σ1 ⟨hF, hR24, h20, hq⟩
      have hr01 := FrD_01 hq
      have href : ¬ refS (σ 110 0) (σ 111 0) v k < 0 := by unfold refS; omega
      refine V_if_eq hE 37 dX5_fair_27 (by decide) (by omega) (fun h27 => ?_) (fun h27 => ?_)
      · refine V_bipush hE dX5_fair_37 (by decide) ?_
        refine V_ireturn hR dX5_fair_39 ?_
        refine ⟨?_, ⟨Fr_sub hF (by decide), hR24⟩, h20.trans (if_neg href).symm⟩
        unfold fairS
        refine Eq.symm ((if_neg (by omega)).trans ((if_neg (by omega)).trans ?_))
        rcases hq with ⟨h, h2⟩ | ⟨h, t, h2, h3⟩
        · first | (rw [h2]; rfl) | (exfalso; omega)
        · first | (exfalso; omega) | (rw [h2]; exact h3.symm)
      · refine V_aload_n hE dX5_fair_30 rfl ?_
        refine gf_X5_142 hE rfl dX5_fair_31 ?_
        refine V_goto hE 39 dX5_fair_34 (by decide) ?_
        refine V_ireturn hR dX5_fair_39 ?_
        refine ⟨?_, ⟨Fr_sub hF (by decide), hR24⟩, h20.trans (if_neg href).symm⟩
        unfold fairS
        refine Eq.symm ((if_neg (by omega)).trans ((if_neg (by omega)).trans ?_))
        rcases hq with ⟨h, h2⟩ | ⟨h, t, h2, h3⟩
        · first | (rw [h2]; rfl) | (exfalso; omega)
        · first | (exfalso; omega) | (rw [h2]; exact h3.symm)
    · refine V_iconst hE dX5_fair_19 ?_
      refine V_ireturn hR dX5_fair_20 ?_
      exact ⟨by unfold fairS; exact ((if_neg (by omega)).trans (if_pos (by omega))).symm, ⟨Fr_rf, hAt⟩, (if_pos (by unfold refS; omega)).symm⟩
  · refine V_bipush hE dX5_fair_7 (by decide) ?_
    refine V_ireturn hR dX5_fair_9 ?_
    exact ⟨by unfold fairS; exact (if_pos (by omega)).symm, ⟨Fr_rf, hAt⟩, (if_pos (by unfold refS; omega)).symm⟩
