theorem Rel_hull {σ σ1 σ2 : Sto} {s l : Int} (hR : Rel σ) (hc : 5 ≤ s ∧ s ≤ 9 ∧ 4 ≤ l ∧ l ≤ 7) (g1 : HullQC σ s l σ1) (g2 : HullQM σ1 s l σ2) : Rel σ2 := by
  obtain ⟨f1, p1, p2, p3, p4, p5⟩ := g1
  obtain ⟨f2, q1, q2, q3, q4, q5⟩ := g2
  have hM1 : IM σ1 := IM_cd hR.2.1 f1 (by decide)
  have hI1 : IC σ1 := by
    obtain ⟨hS, hW, hB, hRe, hLo, hHi, hO, hPu, hHe, hSc⟩ := hR.1
    unfold IC
    rw [f1 5 (by decide), p1, p2, p3, p4, p5]
    refine ⟨by omega, by omega, hB, hRe, hLo, hHi, Rng_lay0 hO, Rng_lay0 hPu, fun j => ?_, ScC_fr hSc f1 (by decide)⟩
    unfold lay0
    split
    · exact Or.inl rfl
    · exact hHe j
  refine ⟨IC_md hI1 f2 (by decide), ?_, ?_⟩
  · obtain ⟨hS, hW, hB, hRe, hLo, hHi, hO, hPu, hHe, hAt⟩ := hM1
    unfold IM
    rw [q1, q2, q3, q4, q5, f2 112 (by decide), f2 113 (by decide), f2 114 (by decide), f2 115 (by decide), f2 24 (by decide)]
    refine ⟨by omega, by omega, hB, hRe, hLo, hHi, Rng_lay0 hO, Rng_lay0 hPu, fun j => ?_, hAt⟩
    unfold lay0
    split
    · exact Or.inl rfl
    · exact hHe j
  · obtain ⟨e1, e2, e3, e4, e5, e6, e7, e8, e9⟩ := hR.2.2
    unfold RelE
    rw [q1, q2, q3, q4, q5, f2 112 (by decide), f2 113 (by decide), f2 114 (by decide), f2 115 (by decide), f2 8 (by decide), f2 9 (by decide), f2 10 (by decide), f2 100 (by decide), f2 101 (by decide), f2 5 (by decide), p1, p2, p3, p4, p5, f1 5 (by decide), f1 112 (by decide), f1 113 (by decide), f1 114 (by decide), f1 115 (by decide), f1 20 (by decide), f1 21 (by decide), f1 22 (by decide), e1, e2, e3]
    exact ⟨rfl, rfl, rfl, rfl, rfl, e6, e7, e8, e9⟩
theorem Rel_put {σ : Sto} {j : Nat} {v : Int} (hR : Rel σ) (hv : 0 ≤ v ∧ v ≤ 999) : Rel (up (up (up (up σ 8 j v) 9 j v) 20 j v) 21 j v) := by
  have F : Fr [8, 9, 20, 21] σ (up (up (up (up σ 8 j v) 9 j v) 20 j v) 21 j v) := Fr_up (Fr_up (Fr_up (Fr_up Fr_rf (by decide)) (by decide)) (by decide)) (by decide)
  have e8 : ∀ q : Nat, up (up (up (up σ 8 j v) 9 j v) 20 j v) 21 j v 8 q = if q = j then v else σ 8 q := fun q => by rw [up_ne _ _ _ (by decide : 8 ≠ 21), up_ne _ _ _ (by decide : 8 ≠ 20), up_ne _ _ _ (by decide : 8 ≠ 9), up_at]
  have e9 : ∀ q : Nat, up (up (up (up σ 8 j v) 9 j v) 20 j v) 21 j v 9 q = if q = j then v else σ 9 q := fun q => by rw [up_ne _ _ _ (by decide : 9 ≠ 21), up_ne _ _ _ (by decide : 9 ≠ 20), up_at, up_ne _ _ _ (by decide : 9 ≠ 8)]
  have e20 : ∀ q : Nat, up (up (up (up σ 8 j v) 9 j v) 20 j v) 21 j v 20 q = if q = j then v else σ 20 q := fun q => by rw [up_ne _ _ _ (by decide : 20 ≠ 21), up_at, up_ne _ _ _ (by decide : 20 ≠ 9), up_ne _ _ _ (by decide : 20 ≠ 8)]
  have e21 : ∀ q : Nat, up (up (up (up σ 8 j v) 9 j v) 20 j v) 21 j v 21 q = if q = j then v else σ 21 q := fun q => by rw [up_at, up_ne _ _ _ (by decide : 21 ≠ 20), up_ne _ _ _ (by decide : 21 ≠ 9), up_ne _ _ _ (by decide : 21 ≠ 8)]
  generalize up (up (up (up σ 8 j v) 9 j v) 20 j v) 21 j v = σ2 at F e8 e9 e20 e21 ⊢
  have key : ∀ (f g : Nat → Int), Rng f → (∀ q, g q = if q = j then v else f q) → Rng g := fun f g hf hg q => by
    rw [hg q]
    split
    · exact hv
    · exact hf q
  refine ⟨?_, ?_, ?_⟩
  · obtain ⟨hS, hW, hB, hRe, hLo, hHi, hO, hPu, hHe, hSc⟩ := hR.1
    unfold IC
    rw [F 100 (by decide), F 101 (by decide), F 5 (by decide), F 10 (by decide)]
    exact ⟨hS, hW, hB, hRe, hLo, hHi, key _ _ hO e8, key _ _ hPu e9, hHe, ScC_fr hSc F (by decide)⟩
  · obtain ⟨hS, hW, hB, hRe, hLo, hHi, hO, hPu, hHe, hAt⟩ := hR.2.1
    unfold IM
    rw [F 110 (by decide), F 111 (by decide), F 112 (by decide), F 113 (by decide), F 114 (by decide), F 115 (by decide), F 22 (by decide), F 24 (by decide)]
    exact ⟨hS, hW, hB, hRe, hLo, hHi, key _ _ hO e20, key _ _ hPu e21, hHe, hAt⟩
  · obtain ⟨g1, g2, g3⟩ := hR.2.2
    unfold RelE
    rw [F 100 (by decide), F 101 (by decide), F 5 (by decide), F 10 (by decide), F 110 (by decide), F 111 (by decide), F 112 (by decide), F 113 (by decide), F 114 (by decide), F 115 (by decide), F 22 (by decide)]
    refine ⟨funext fun q => ?_, funext fun q => ?_, g3⟩
    · rw [e8 q, e20 q, g1]
    · rw [e9 q, e21 q, g2]
theorem Rel_hold {σ σ2 : Sto} {j : Nat} {bb : Int} (hR : Rel σ) (hb : bb = 0 ∨ bb = 1) (F : Fr [10, 22] σ σ2) (e10 : ∀ q : Nat, σ2 10 q = if q = j then bb else σ 10 q) (e22 : ∀ q : Nat, σ2 22 q = if q = j then bb else σ 22 q) : Rel σ2 := by
  refine ⟨?_, ?_, ?_⟩
  · obtain ⟨hS, hW, hB, hRe, hLo, hHi, hO, hPu, hHe, hSc⟩ := hR.1
    unfold IC
    rw [F 100 (by decide), F 101 (by decide), F 5 (by decide), F 8 (by decide), F 9 (by decide)]
    refine ⟨hS, hW, hB, hRe, hLo, hHi, hO, hPu, fun q => ?_, ScC_fr hSc F (by decide)⟩
    rw [e10 q]
    split
    · exact hb
    · exact hHe q
  · obtain ⟨hS, hW, hB, hRe, hLo, hHi, hO, hPu, hHe, hAt⟩ := hR.2.1
    unfold IM
    rw [F 110 (by decide), F 111 (by decide), F 112 (by decide), F 113 (by decide), F 114 (by decide), F 115 (by decide), F 20 (by decide), F 21 (by decide), F 24 (by decide)]
    refine ⟨hS, hW, hB, hRe, hLo, hHi, hO, hPu, fun q => ?_, hAt⟩
    rw [e22 q]
    split
    · exact hb
    · exact hHe q
  · obtain ⟨g1, g2, g3, g4⟩ := hR.2.2
    unfold RelE
    rw [F 100 (by decide), F 101 (by decide), F 5 (by decide), F 8 (by decide), F 9 (by decide), F 110 (by decide), F 111 (by decide), F 112 (by decide), F 113 (by decide), F 114 (by decide), F 115 (by decide), F 20 (by decide), F 21 (by decide)]
    exact ⟨g1, g2, funext fun q => by rw [e10 q, e22 q, g3], g4⟩
theorem Rel_set {σ : Sto} {k v : Int} (hR : Rel σ) (hc : (k = 0 ∧ 0 ≤ v ∧ v ≤ 999) ∨ (k = 1 ∧ 0 ≤ v ∧ v ≤ 3) ∨ ((k = 2 ∨ k = 3) ∧ 1 ≤ v ∧ v ≤ 99)) : Rel (up (up σ 5 k.toNat v) (112 + k.toNat) 0 v) := by
  have F : Fr [5, 112, 113, 114, 115] σ (up (up σ 5 k.toNat v) (112 + k.toNat) 0 v) := Fr_up (Fr_up Fr_rf (by decide)) (by
    rcases (show k.toNat = 0 ∨ k.toNat = 1 ∨ k.toNat = 2 ∨ k.toNat = 3 by omega) with hk | hk | hk | hk <;> rw [hk] <;> decide)
  have e5 : ∀ q : Nat, up (up σ 5 k.toNat v) (112 + k.toNat) 0 v 5 q = if q = k.toNat then v else σ 5 q := fun q => by rw [up_ne _ _ _ (by omega : 5 ≠ 112 + k.toNat), up_at]
  have e1 : ∀ q : Nat, up (up σ 5 k.toNat v) (112 + k.toNat) 0 v (112 + q) 0 = if q = k.toNat then v else σ (112 + q) 0 := fun q => by
    by_cases hq : q = k.toNat
    · rw [hq, up_self, if_pos rfl]
    · rw [up_ne _ _ _ (by omega : 112 + q ≠ 112 + k.toNat), up_ne _ _ _ (by omega : 112 + q ≠ 5), if_neg hq]
  generalize up (up σ 5 k.toNat v) (112 + k.toNat) 0 v = σ2 at F e5 e1 ⊢
  have a0 := e5 0
  have a1 := e5 1
  have a2 := e5 2
  have a3 := e5 3
  have b0 : σ2 112 0 = if 0 = k.toNat then v else σ 112 0 := e1 0
  have b1 : σ2 113 0 = if 1 = k.toNat then v else σ 113 0 := e1 1
  have b2 : σ2 114 0 = if 2 = k.toNat then v else σ 114 0 := e1 2
  have b3 : σ2 115 0 = if 3 = k.toNat then v else σ 115 0 := e1 3
  refine ⟨?_, ?_, ?_⟩
  · obtain ⟨hS, hW, hB, hRe, hLo, hHi, hO, hPu, hHe, hSc⟩ := hR.1
    unfold IC
    rw [F 100 (by decide), F 101 (by decide), F 8 (by decide), F 9 (by decide), F 10 (by decide)]
    exact ⟨hS, hW, by omega, by omega, by omega, by omega, hO, hPu, hHe, ScC_fr hSc F (by decide)⟩
  · obtain ⟨hS, hW, hB, hRe, hLo, hHi, hO, hPu, hHe, hAt⟩ := hR.2.1
    unfold IM
    rw [F 110 (by decide), F 111 (by decide), F 20 (by decide), F 21 (by decide), F 22 (by decide), F 24 (by decide)]
    exact ⟨hS, hW, by omega, by omega, by omega, by omega, hO, hPu, hHe, hAt⟩
  · obtain ⟨g1, g2, g3, g4, g5, g6, g7, g8, g9⟩ := hR.2.2
    unfold RelE
    rw [F 100 (by decide), F 101 (by decide), F 8 (by decide), F 9 (by decide), F 10 (by decide), F 110 (by decide), F 111 (by decide), F 20 (by decide), F 21 (by decide), F 22 (by decide)]
    exact ⟨g1, g2, g3, g4, g5, by omega, by omega, by omega, by omega⟩
set_option maxRecDepth 100000 in
set_option maxHeartbeats 4000000 in
theorem lw_128 {K : Ctx} {E : ME} {b Ln : Nat} {xs : Nat → Int32} {σ : Sto} {i : Int} (hX : ScX E b Ln xs) (hi : (0 ≤ i ∧ i + 4 ≤ Ln) ∧ Ln ≤ 2048) (hR : Rel σ) (hE : Ok K E mL_law 11) (hk : ∀ σ' : Sto, Rel σ' → V K E mL_law 818 [some (.ref b), some (.ref (kA K 0)), some (.ref (kA K 19)), some (.int (i32 i))] [] σ') : V K E mL_law 128 [some (.ref b), some (.ref (kA K 0)), some (.ref (kA K 19)), some (.int (i32 i))] [] σ := by
  have a1 := i32_rng (xs (i + 1).toNat)
  have a2 := i32_rng (xs (i + 2).toNat)
  refine V_aload_n hE dL_law_128 rfl ?_
  refine V_aload_n hE dL_law_129 rfl ?_
  refine V_iload_n hE dL_law_130 rfl ?_
  refine V_iconst hE dL_law_131 ?_
  refine V_iadd hE dL_law_132 ?_
  refine V_sld hX hE dL_law_133 (by omega) ?_
  refine V_aload_n hE dL_law_134 rfl ?_
  refine V_iload_n hE dL_law_135 rfl ?_
  refine V_iconst hE dL_law_136 ?_
  refine V_iadd hE dL_law_137 ?_
  refine V_sld hX hE dL_law_138 (by omega) ?_
  refine cl_L_13 hE rfl dL_law_139 (c_X4_hull (by omega)) rfl rfl ?_
  rintro r1 σ1 hq1
  refine V_aload_n hE dL_law_142 rfl ?_
  refine V_aload_n hE dL_law_143 rfl ?_
  refine V_iload_n hE dL_law_144 rfl ?_
  refine V_iconst hE dL_law_145 ?_
  refine V_iadd hE dL_law_146 ?_
  refine V_sld hX hE dL_law_147 (by omega) ?_
  refine V_aload_n hE dL_law_148 rfl ?_
  refine V_iload_n hE dL_law_149 rfl ?_
  refine V_iconst hE dL_law_150 ?_
  refine V_iadd hE dL_law_151 ?_
  refine V_sld hX hE dL_law_152 (by omega) ?_
  refine cl_L_17 hE rfl dL_law_153 (c_X5_hull (by omega)) rfl rfl ?_
  rintro r2 σ2 hq2
  have er : r1 = r2 := by
    rcases hq1 with ⟨c1, h1, -⟩ | ⟨c1, h1, -⟩ <;> rcases hq2 with ⟨c2, h2, -⟩ | ⟨c2, h2, -⟩ <;> omega
  subst er
  refine V_icmp_same hE 818 dL_law_156 (by decide) ?_
  refine hk _ ?_
  
  rcases hq1 with ⟨c1, h1, g1⟩ | ⟨c1, h1, g1⟩
  · rcases hq2 with ⟨c2, h2, g2⟩ | ⟨c2, h2, g2⟩
    · exact Rel_hull hR c1 g1 g2
    · exact absurd c1 c2
  · rcases hq2 with ⟨c2, h2, g2⟩ | ⟨c2, h2, g2⟩
    · exact absurd c2 c1
    · rw [g2, g1]; exact hR
set_option maxRecDepth 100000 in
set_option maxHeartbeats 4000000 in
theorem lw_161 {K : Ctx} {E : ME} {b Ln : Nat} {xs : Nat → Int32} {σ : Sto} {i : Int} (hX : ScX E b Ln xs) (hi : (0 ≤ i ∧ i + 4 ≤ Ln) ∧ Ln ≤ 2048) (hR : Rel σ) (hE : Ok K E mL_law 11) (hk : ∀ σ' : Sto, Rel σ' → V K E mL_law 818 [some (.ref b), some (.ref (kA K 0)), some (.ref (kA K 19)), some (.int (i32 i))] [] σ') : V K E mL_law 161 [some (.ref b), some (.ref (kA K 0)), some (.ref (kA K 19)), some (.int (i32 i))] [] σ := by
  have a1 := i32_rng (xs (i + 1).toNat)
  have a2 := i32_rng (xs (i + 2).toNat)
  have a3 := i32_rng (xs (i + 3).toNat)
  refine V_aload_n hE dL_law_161 rfl ?_
  refine V_aload_n hE dL_law_162 rfl ?_
  refine V_iload_n hE dL_law_163 rfl ?_
  refine V_iconst hE dL_law_164 ?_
  refine V_iadd hE dL_law_165 ?_
  refine V_sld hX hE dL_law_166 (by omega) ?_
  refine V_aload_n hE dL_law_167 rfl ?_
  refine V_iload_n hE dL_law_168 rfl ?_
  refine V_iconst hE dL_law_169 ?_
  refine V_iadd hE dL_law_170 ?_
  refine V_sld hX hE dL_law_171 (by omega) ?_
  refine V_aload_n hE dL_law_172 rfl ?_
  refine V_iload_n hE dL_law_173 rfl ?_
  refine V_iconst hE dL_law_174 ?_
  refine V_iadd hE dL_law_175 ?_
  refine V_sld hX hE dL_law_176 (by omega) ?_
  refine cl_L_18 hE rfl dL_law_177 (c_X4_offset hR.1 (by omega)) rfl rfl ?_
  rintro r1 σ1 ⟨h1, g1⟩
  have hF1 : Fr [8, 9] σ σ1 := by
    rw [g1]
    split
    · exact Fr_up (Fr_up Fr_rf (by decide)) (by decide)
    · exact Fr_rf
  obtain ⟨hA, hM1⟩ := AsC_of hR hF1 (by decide)
  refine V_aload_n hE dL_law_180 rfl ?_
  refine V_aload_n hE dL_law_181 rfl ?_
  refine V_iload_n hE dL_law_182 rfl ?_
  refine V_iconst hE dL_law_183 ?_
  refine V_iadd hE dL_law_184 ?_
  refine V_sld hX hE dL_law_185 (by omega) ?_
  refine V_aload_n hE dL_law_186 rfl ?_
  refine V_iload_n hE dL_law_187 rfl ?_
  refine V_iconst hE dL_law_188 ?_
  refine V_iadd hE dL_law_189 ?_
  refine V_sld hX hE dL_law_190 (by omega) ?_
  refine V_aload_n hE dL_law_191 rfl ?_
  refine V_iload_n hE dL_law_192 rfl ?_
  refine V_iconst hE dL_law_193 ?_
  refine V_iadd hE dL_law_194 ?_
  refine V_sld hX hE dL_law_195 (by omega) ?_
  refine cl_L_22 hE rfl dL_law_196 (c_X5_offset hM1 (by omega)) rfl rfl ?_
  rintro r2 σ2 ⟨h2, g2⟩
  have er : r1 = r2 := by
    rw [h1, h2]
    obtain ⟨m1, m2, m3, m4, m5, m6, m7, m8, m9⟩ := hA
    simp only [m1, m2, m3, m4, m5, m6, m7, m8, m9]
  subst er
  refine V_icmp_same hE 818 dL_law_199 (by decide) ?_
  refine hk _ ?_
  
  obtain ⟨m1, m2, m3, m4, m5, m6, m7, m8, m9⟩ := hA
  rw [m4, m5] at g2
  by_cases hc : (0 ≤ (xs (i + 1).toNat).toInt ∧ (xs (i + 1).toNat).toInt < σ 100 0 ∧ 0 ≤ (xs (i + 2).toNat).toInt ∧ (xs (i + 2).toNat).toInt < σ 101 0) ∧ 0 ≤ (xs (i + 3).toNat).toInt ∧ (xs (i + 3).toNat).toInt ≤ 999
  · rw [if_pos hc] at g1 g2
    rw [g2, g1]
    exact Rel_put hR hc.2
  · rw [if_neg hc] at g1 g2
    rw [g2, g1]
    exact hR
set_option maxRecDepth 100000 in
set_option maxHeartbeats 4000000 in
theorem lw_263 {K : Ctx} {E : ME} {b Ln : Nat} {xs : Nat → Int32} {σ : Sto} {i : Int} (hX : ScX E b Ln xs) (hi : (0 ≤ i ∧ i + 4 ≤ Ln) ∧ Ln ≤ 2048) (hR : Rel σ) (hE : Ok K E mL_law 11) (hk : ∀ σ' : Sto, Rel σ' → V K E mL_law 818 [some (.ref b), some (.ref (kA K 0)), some (.ref (kA K 19)), some (.int (i32 i))] [] σ') : V K E mL_law 263 [some (.ref b), some (.ref (kA K 0)), some (.ref (kA K 19)), some (.int (i32 i))] [] σ := by
  have a1 := i32_rng (xs (i + 1).toNat)
  have a2 := i32_rng (xs (i + 2).toNat)
  refine V_aload_n hE dL_law_263 rfl ?_
  refine V_aload_n hE dL_law_264 rfl ?_
  refine V_iload_n hE dL_law_265 rfl ?_
  refine V_iconst hE dL_law_266 ?_
  refine V_iadd hE dL_law_267 ?_
  refine V_sld hX hE dL_law_268 (by omega) ?_
  refine V_aload_n hE dL_law_269 rfl ?_
  refine V_iload_n hE dL_law_270 rfl ?_
  refine V_iconst hE dL_law_271 ?_
  refine V_iadd hE dL_law_272 ?_
  refine V_sld hX hE dL_law_273 (by omega) ?_
  refine cl_L_28 hE rfl dL_law_274 (c_X4_setting hR.1 (by omega)) rfl rfl ?_
  rintro r1 σ1 ⟨h1, g1⟩
  have hF1 : Fr [5] σ σ1 := by
    rw [g1]
    split
    · exact Fr_up Fr_rf (by decide)
    · exact Fr_rf
  obtain ⟨hA, hM1⟩ := AsC_of hR hF1 (by decide)
  refine V_aload_n hE dL_law_277 rfl ?_
  refine V_aload_n hE dL_law_278 rfl ?_
  refine V_iload_n hE dL_law_279 rfl ?_
  refine V_iconst hE dL_law_280 ?_
  refine V_iadd hE dL_law_281 ?_
  refine V_sld hX hE dL_law_282 (by omega) ?_
  refine V_aload_n hE dL_law_283 rfl ?_
  refine V_iload_n hE dL_law_284 rfl ?_
  refine V_iconst hE dL_law_285 ?_
  refine V_iadd hE dL_law_286 ?_
  refine V_sld hX hE dL_law_287 (by omega) ?_
  refine cl_L_31 hE rfl dL_law_288 (c_X5_setting hM1 (by omega)) rfl rfl ?_
  rintro r2 σ2 ⟨h2, g2⟩
  have er : r1 = r2 := by
    rw [h1, h2]
    obtain ⟨m1, m2, m3, m4, m5, m6, m7, m8, m9⟩ := hA
    by_cases hc : (((xs (i + 1).toNat).toInt = 0 ∧ 0 ≤ (xs (i + 2).toNat).toInt ∧ (xs (i + 2).toNat).toInt ≤ 999) ∨ ((xs (i + 1).toNat).toInt = 1 ∧ 0 ≤ (xs (i + 2).toNat).toInt ∧ (xs (i + 2).toNat).toInt ≤ 3) ∨ (((xs (i + 1).toNat).toInt = 2 ∨ (xs (i + 1).toNat).toInt = 3) ∧ 1 ≤ (xs (i + 2).toNat).toInt ∧ (xs (i + 2).toNat).toInt ≤ 99))
    · rw [if_pos hc, if_pos hc]
      rcases (show (xs (i + 1).toNat).toInt = 0 ∨ (xs (i + 1).toNat).toInt = 1 ∨ (xs (i + 1).toNat).toInt = 2 ∨ (xs (i + 1).toNat).toInt = 3 by omega) with hz | hz | hz | hz
      · rw [hz]; exact m6.symm
      · rw [hz]; exact m7.symm
      · rw [hz]; exact m8.symm
      · rw [hz]; exact m9.symm
    · rw [if_neg hc, if_neg hc]
  subst er
  refine V_icmp_same hE 818 dL_law_291 (by decide) ?_
  refine hk _ ?_
  
  by_cases hc : (((xs (i + 1).toNat).toInt = 0 ∧ 0 ≤ (xs (i + 2).toNat).toInt ∧ (xs (i + 2).toNat).toInt ≤ 999) ∨ ((xs (i + 1).toNat).toInt = 1 ∧ 0 ≤ (xs (i + 2).toNat).toInt ∧ (xs (i + 2).toNat).toInt ≤ 3) ∨ (((xs (i + 1).toNat).toInt = 2 ∨ (xs (i + 1).toNat).toInt = 3) ∧ 1 ≤ (xs (i + 2).toNat).toInt ∧ (xs (i + 2).toNat).toInt ≤ 99))
  · rw [if_pos hc] at g1 g2
    rw [g2, g1]
    exact Rel_set hR hc
  · rw [if_neg hc] at g1 g2
    rw [g2, g1]
    exact hR
set_option maxRecDepth 100000 in
set_option maxHeartbeats 4000000 in
theorem lw_580 {K : Ctx} {E : ME} {b Ln : Nat} {xs : Nat → Int32} {σ : Sto} {i : Int} (hX : ScX E b Ln xs) (hi : (0 ≤ i ∧ i + 4 ≤ Ln) ∧ Ln ≤ 2048) (hR : Rel σ) (hE : Ok K E mL_law 11) (hk : ∀ σ' : Sto, Rel σ' → V K E mL_law 818 [some (.ref b), some (.ref (kA K 0)), some (.ref (kA K 19)), some (.int (i32 i))] [] σ') : V K E mL_law 580 [some (.ref b), some (.ref (kA K 0)), some (.ref (kA K 19)), some (.int (i32 i))] [] σ := by
  refine V_aload_n hE dL_law_580 rfl ?_
  refine cl_L_65 hE rfl dL_law_581 (c_X4_back hR.1) rfl rfl ?_
  rintro r1 σ1 ⟨h1, hF1, g1⟩
  obtain ⟨hA, hM1⟩ := AsC_of hR hF1 (by decide)
  refine V_aload_n hE dL_law_584 rfl ?_
  refine cl_L_69 hE rfl dL_law_585 (c_X5_back hM1) rfl rfl ?_
  rintro r2 σ2 ⟨h2, hF2, g2⟩
  have er : r1 = r2 := by
    rw [h1, h2]
    obtain ⟨m1, m2, m3, m4, m5, m6, m7, m8, m9⟩ := hA
    simp only [m1, m2, m3, m4, m5, m6, m7, m8, m9]
  subst er
  refine V_icmp_same hE 818 dL_law_588 (by decide) ?_
  refine hk _ ?_
  
  obtain ⟨hS, hW, hB, hRe, hLo, hHi, hO, hPu, hHe, hSc⟩ := id hR.1
  have hrg : Rng (σ1 8) := by rw [g1]; exact Rng_lay hO hPu
  refine Rel_f hR ⟨Fr_sub hF1 (by decide), ScC_fr hSc hF1 (by decide)⟩ hrg ⟨Fr_sub hF2 (by decide), by rw [hF2 24 (by decide)]; exact IM_at hM1⟩ ?_
  obtain ⟨m1, m2, m3, m4, m5, m6, m7, m8, m9⟩ := hA
  rw [g1, g2, m1, m2]
set_option maxRecDepth 100000 in
set_option maxHeartbeats 4000000 in
theorem lw_228_0 {K : Ctx} {E : ME} {b Ln : Nat} {xs : Nat → Int32} {σ : Sto} {i : Int} (hfl : (xs (i + 3).toNat).toInt = 0) (hX : ScX E b Ln xs) (hi : (0 ≤ i ∧ i + 4 ≤ Ln) ∧ Ln ≤ 2048) (hR : Rel σ) (hE : Ok K E mL_law 11) (hk : ∀ σ' : Sto, Rel σ' → V K E mL_law 818 [some (.ref b), some (.ref (kA K 0)), some (.ref (kA K 19)), some (.int (i32 i))] [] σ') : V K E mL_law 228 [some (.ref b), some (.ref (kA K 0)), some (.ref (kA K 19)), some (.int (i32 i))] [.int (i32 0), .int (i32 (xs (i + 2).toNat).toInt), .int (i32 (xs (i + 1).toNat).toInt), .ref (kA K 0)] σ := by
  have a1 := i32_rng (xs (i + 1).toNat)
  have a2 := i32_rng (xs (i + 2).toNat)
  have a3 := i32_rng (xs (i + 3).toNat)
  refine cl_L_23 hE rfl dL_law_228 (c_X4_hold hR.1 (by omega) (by omega)) rfl rfl ?_
  rintro r1 σ1 ⟨h1, g1⟩
  have hF1 : Fr [10] σ σ1 := by
    rw [g1]
    split
    · exact Fr_up Fr_rf (by decide)
    · exact Fr_rf
  obtain ⟨hA, hM1⟩ := AsC_of hR hF1 (by decide)
  refine V_aload_n hE dL_law_231 rfl ?_
  refine V_aload_n hE dL_law_232 rfl ?_
  refine V_iload_n hE dL_law_233 rfl ?_
  refine V_iconst hE dL_law_234 ?_
  refine V_iadd hE dL_law_235 ?_
  refine V_sld hX hE dL_law_236 (by omega) ?_
  refine V_aload_n hE dL_law_237 rfl ?_
  refine V_iload_n hE dL_law_238 rfl ?_
  refine V_iconst hE dL_law_239 ?_
  refine V_iadd hE dL_law_240 ?_
  refine V_sld hX hE dL_law_241 (by omega) ?_
  refine V_aload_n hE dL_law_242 rfl ?_
  refine V_iload_n hE dL_law_243 rfl ?_
  refine V_iconst hE dL_law_244 ?_
  refine V_iadd hE dL_law_245 ?_
  refine V_sld hX hE dL_law_246 (by omega) ?_
  refine V_if_eq hE 254 dL_law_247 (by decide) (by omega) (fun h247 => ?_) (fun h247 => ?_)
  · refine V_iconst hE dL_law_254 ?_
    refine cl_L_27 hE rfl dL_law_255 (c_X5_hold hM1 (by omega) (by omega)) rfl rfl ?_
    rintro r2 σ2 ⟨h2, g2⟩
    have er : r1 = r2 := by
      rw [h1, h2]
      obtain ⟨m1, m2, m3, m4, m5, m6, m7, m8, m9⟩ := hA
      simp only [m1, m2, m3, m4, m5, m6, m7, m8, m9]
    subst er
    refine V_icmp_same hE 818 dL_law_258 (by decide) ?_
    refine hk _ ?_
    
    obtain ⟨m1, m2, m3, m4, m5, m6, m7, m8, m9⟩ := hA
    rw [m4, m5] at g2
    by_cases hc : (0 ≤ (xs (i + 1).toNat).toInt ∧ (xs (i + 1).toNat).toInt < σ 100 0 ∧ 0 ≤ (xs (i + 2).toNat).toInt ∧ (xs (i + 2).toNat).toInt < σ 101 0)
    · rw [if_pos hc] at g2
      have hF2 : Fr [22] σ1 σ2 := by rw [g2]; exact Fr_up Fr_rf (by decide)
      have hF : Fr [10, 22] σ σ2 := Fr_tr (Fr_sub hF1 (by decide)) hF2 (by decide)
      refine Rel_hold (j := (7 * (xs (i + 1).toNat).toInt + (xs (i + 2).toNat).toInt).toNat) (bb := 0) hR (by decide) hF (fun q => ?_) (fun q => ?_)
      · rw [hF2 10 (by decide), g1]
        by_cases hd : σ 10 (7 * (xs (i + 1).toNat).toInt + (xs (i + 2).toNat).toInt).toNat = 0
        · rw [if_neg (fun hh => hh.2 hd)]
          by_cases hq : q = (7 * (xs (i + 1).toNat).toInt + (xs (i + 2).toNat).toInt).toNat
          · rw [if_pos hq, hq, hd]
          · rw [if_neg hq]
        · rw [if_pos ⟨hc, hd⟩, up_at]
      · rw [g2, up_at, hF1 22 (by decide)]
    · rw [if_neg hc] at g2
      rw [if_neg (fun hh => hc hh.1)] at g1
      rw [g2, g1]
      exact hR
  · exact absurd hfl h247
set_option maxRecDepth 100000 in
set_option maxHeartbeats 4000000 in
theorem lw_228_1 {K : Ctx} {E : ME} {b Ln : Nat} {xs : Nat → Int32} {σ : Sto} {i : Int} (hfl : ¬ (xs (i + 3).toNat).toInt = 0) (hX : ScX E b Ln xs) (hi : (0 ≤ i ∧ i + 4 ≤ Ln) ∧ Ln ≤ 2048) (hR : Rel σ) (hE : Ok K E mL_law 11) (hk : ∀ σ' : Sto, Rel σ' → V K E mL_law 818 [some (.ref b), some (.ref (kA K 0)), some (.ref (kA K 19)), some (.int (i32 i))] [] σ') : V K E mL_law 228 [some (.ref b), some (.ref (kA K 0)), some (.ref (kA K 19)), some (.int (i32 i))] [.int (i32 1), .int (i32 (xs (i + 2).toNat).toInt), .int (i32 (xs (i + 1).toNat).toInt), .ref (kA K 0)] σ := by
  have a1 := i32_rng (xs (i + 1).toNat)
  have a2 := i32_rng (xs (i + 2).toNat)
  have a3 := i32_rng (xs (i + 3).toNat)
  refine cl_L_23 hE rfl dL_law_228 (c_X4_hold hR.1 (by omega) (by omega)) rfl rfl ?_
  rintro r1 σ1 ⟨h1, g1⟩
  have hF1 : Fr [10] σ σ1 := by
    rw [g1]
    split
    · exact Fr_up Fr_rf (by decide)
    · exact Fr_rf
  obtain ⟨hA, hM1⟩ := AsC_of hR hF1 (by decide)
  refine V_aload_n hE dL_law_231 rfl ?_
  refine V_aload_n hE dL_law_232 rfl ?_
  refine V_iload_n hE dL_law_233 rfl ?_
  refine V_iconst hE dL_law_234 ?_
  refine V_iadd hE dL_law_235 ?_
  refine V_sld hX hE dL_law_236 (by omega) ?_
  refine V_aload_n hE dL_law_237 rfl ?_
  refine V_iload_n hE dL_law_238 rfl ?_
  refine V_iconst hE dL_law_239 ?_
  refine V_iadd hE dL_law_240 ?_
  refine V_sld hX hE dL_law_241 (by omega) ?_
  refine V_aload_n hE dL_law_242 rfl ?_
  refine V_iload_n hE dL_law_243 rfl ?_
  refine V_iconst hE dL_law_244 ?_
  refine V_iadd hE dL_law_245 ?_
  refine V_sld hX hE dL_law_246 (by omega) ?_
  refine V_if_eq hE 254 dL_law_247 (by decide) (by omega) (fun h247 => ?_) (fun h247 => ?_)
  · exact absurd h247 hfl
  · refine V_iconst hE dL_law_250 ?_
    refine V_goto hE 255 dL_law_251 (by decide) ?_
    refine cl_L_27 hE rfl dL_law_255 (c_X5_hold hM1 (by omega) (by omega)) rfl rfl ?_
    rintro r2 σ2 ⟨h2, g2⟩
    have er : r1 = r2 := by
      rw [h1, h2]
      obtain ⟨m1, m2, m3, m4, m5, m6, m7, m8, m9⟩ := hA
      simp only [m1, m2, m3, m4, m5, m6, m7, m8, m9]
    subst er
    refine V_icmp_same hE 818 dL_law_258 (by decide) ?_
    refine hk _ ?_
    
    obtain ⟨m1, m2, m3, m4, m5, m6, m7, m8, m9⟩ := hA
    rw [m4, m5] at g2
    by_cases hc : (0 ≤ (xs (i + 1).toNat).toInt ∧ (xs (i + 1).toNat).toInt < σ 100 0 ∧ 0 ≤ (xs (i + 2).toNat).toInt ∧ (xs (i + 2).toNat).toInt < σ 101 0)
    · rw [if_pos hc] at g2
      have hF2 : Fr [22] σ1 σ2 := by rw [g2]; exact Fr_up Fr_rf (by decide)
      have hF : Fr [10, 22] σ σ2 := Fr_tr (Fr_sub hF1 (by decide)) hF2 (by decide)
      refine Rel_hold (j := (7 * (xs (i + 1).toNat).toInt + (xs (i + 2).toNat).toInt).toNat) (bb := 1) hR (by decide) hF (fun q => ?_) (fun q => ?_)
      · rw [hF2 10 (by decide), g1]
        by_cases hd : σ 10 (7 * (xs (i + 1).toNat).toInt + (xs (i + 2).toNat).toInt).toNat = 1
        · rw [if_neg (fun hh => hh.2 hd)]
          by_cases hq : q = (7 * (xs (i + 1).toNat).toInt + (xs (i + 2).toNat).toInt).toNat
          · rw [if_pos hq, hq, hd]
          · rw [if_neg hq]
        · rw [if_pos ⟨hc, hd⟩, up_at]
      · rw [g2, up_at, hF1 22 (by decide)]
    · rw [if_neg hc] at g2
      rw [if_neg (fun hh => hc hh.1)] at g1
      rw [g2, g1]
      exact hR
set_option maxRecDepth 100000 in
set_option maxHeartbeats 4000000 in
theorem lw_204 {K : Ctx} {E : ME} {b Ln : Nat} {xs : Nat → Int32} {σ : Sto} {i : Int} (hX : ScX E b Ln xs) (hi : (0 ≤ i ∧ i + 4 ≤ Ln) ∧ Ln ≤ 2048) (hR : Rel σ) (hE : Ok K E mL_law 11) (hk : ∀ σ' : Sto, Rel σ' → V K E mL_law 818 [some (.ref b), some (.ref (kA K 0)), some (.ref (kA K 19)), some (.int (i32 i))] [] σ') : V K E mL_law 204 [some (.ref b), some (.ref (kA K 0)), some (.ref (kA K 19)), some (.int (i32 i))] [] σ := by
  have a3 := i32_rng (xs (i + 3).toNat)
  refine V_aload_n hE dL_law_204 rfl ?_
  refine V_aload_n hE dL_law_205 rfl ?_
  refine V_iload_n hE dL_law_206 rfl ?_
  refine V_iconst hE dL_law_207 ?_
  refine V_iadd hE dL_law_208 ?_
  refine V_sld hX hE dL_law_209 (by omega) ?_
  refine V_aload_n hE dL_law_210 rfl ?_
  refine V_iload_n hE dL_law_211 rfl ?_
  refine V_iconst hE dL_law_212 ?_
  refine V_iadd hE dL_law_213 ?_
  refine V_sld hX hE dL_law_214 (by omega) ?_
  refine V_aload_n hE dL_law_215 rfl ?_
  refine V_iload_n hE dL_law_216 rfl ?_
  refine V_iconst hE dL_law_217 ?_
  refine V_iadd hE dL_law_218 ?_
  refine V_sld hX hE dL_law_219 (by omega) ?_
  refine V_if_eq hE 227 dL_law_220 (by decide) (by omega) (fun h220 => ?_) (fun h220 => ?_)
  · refine V_iconst hE dL_law_227 ?_
    first | exact lw_228_0 h220 hX hi hR hE hk | exact lw_228_1 h220 hX hi hR hE hk
  · refine V_iconst hE dL_law_223 ?_
    refine V_goto hE 228 dL_law_224 (by decide) ?_
    first | exact lw_228_0 h220 hX hi hR hE hk | exact lw_228_1 h220 hX hi hR hE hk
set_option maxRecDepth 100000 in
set_option maxHeartbeats 4000000 in
theorem lp_law {K : Ctx} {E : ME} {b Ln : Nat} {xs : Nat → Int32} (hX : ScX E b Ln xs) (hLn : Ln ≤ 2048) (hE : Ok K E mL_law 11) (he : ∀ (L' : List (Option Value)) (σ' : Sto), V K E mL_law 825 L' [.int (i32 1)] σ') : ∀ (n : Nat) (i : Int) (σ : Sto), Ln + 4 - i < n → 0 ≤ i ∧ i ≤ Ln + 4 → Rel σ → V K E mL_law 18 [some (.ref b), some (.ref (kA K 0)), some (.ref (kA K 19)), some (.int (i32 i))] [] σ := by
  intro n
  induction n with
  | zero => intro i σ hm hi hR; exfalso; omega
  | succ n ih =>
    intro i σ hm hi hR
    refine V_iload_n hE dL_law_18 rfl ?_
    refine V_aload_n hE dL_law_19 rfl ?_
    refine V_slen hX hE dL_law_20 ?_
    refine V_iconst hE dL_law_21 ?_
    refine V_isub hE dL_law_22 ?_
    refine V_icmp_gt hE 824 dL_law_23 (by decide) (by omega) (fun h23 => ?_) (fun h23 => ?_)
    · refine V_iconst hE dL_law_824 ?_
      exact he _ _
    · have hi2 : (0 ≤ i ∧ i + 4 ≤ Ln) ∧ Ln ≤ 2048 := by omega
      have hk : ∀ σ' : Sto, Rel σ' → V K E mL_law 818 [some (.ref b), some (.ref (kA K 0)), some (.ref (kA K 19)), some (.int (i32 i))] [] σ' := by
        intro σ' hR2
        refine V_iinc hE dL_law_818 rfl rfl ?_
        refine V_goto hE 18 dL_law_821 (by decide) ?_
        exact ih (i + 4) σ' (by omega) (by omega) hR2
      refine V_aload_n hE dL_law_26 rfl ?_
      refine V_iload_n hE dL_law_27 rfl ?_
      refine V_sld hX hE dL_law_28 (by omega) ?_
      refine V_bipush hE dL_law_29 (by decide) ?_
      refine V_iand hE dL_law_31 ?_
      refine V_swL hE [128, 161, 204, 263, 296, 339, 382, 425, 448, 481, 524, 557, 580, 593, 637, 681, 715, 759, 782, 795] 818 dL_law_32 (i32_rng _) (by decide) (by decide +kernel) (by decide) (hk _ hR) ?_
      exact List.forall_mem_cons.mpr ⟨lw_128 hX hi2 hR hE hk, List.forall_mem_cons.mpr ⟨lw_161 hX hi2 hR hE hk, List.forall_mem_cons.mpr ⟨lw_204 hX hi2 hR hE hk, List.forall_mem_cons.mpr ⟨lw_263 hX hi2 hR hE hk, List.forall_mem_cons.mpr ⟨lw_296 hX hi2 hR hE hk, List.forall_mem_cons.mpr ⟨lw_339 hX hi2 hR hE hk, List.forall_mem_cons.mpr ⟨lw_382 hX hi2 hR hE hk, List.forall_mem_cons.mpr ⟨lw_425 hX hi2 hR hE hk, List.forall_mem_cons.mpr ⟨lw_448 hX hi2 hR hE hk, List.forall_mem_cons.mpr ⟨lw_481 hX hi2 hR hE hk, List.forall_mem_cons.mpr ⟨lw_524 hX hi2 hR hE hk, List.forall_mem_cons.mpr ⟨lw_557 hX hi2 hR hE hk, List.forall_mem_cons.mpr ⟨lw_580 hX hi2 hR hE hk, List.forall_mem_cons.mpr ⟨lw_593 hX hi2 hR hE hk, List.forall_mem_cons.mpr ⟨lw_637 hX hi2 hR hE hk, List.forall_mem_cons.mpr ⟨lw_681 hX hi2 hR hE hk, List.forall_mem_cons.mpr ⟨lw_715 hX hi2 hR hE hk, List.forall_mem_cons.mpr ⟨lw_759 hX hi2 hR hE hk, List.forall_mem_cons.mpr ⟨lw_782 hX hi2 hR hE hk, List.forall_mem_cons.mpr ⟨lw_795 hX hi2 hR hE hk, fun _ hm => absurd hm List.not_mem_nil⟩⟩⟩⟩⟩⟩⟩⟩⟩⟩⟩⟩⟩⟩⟩⟩⟩⟩⟩⟩
