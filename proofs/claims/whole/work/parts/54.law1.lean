theorem IC_md {σ σ' : Sto} {ks : List Nat} (hC : IC σ) (hF : Fr ks σ σ') (hk : 100 ∉ ks ∧ 101 ∉ ks ∧ 5 ∉ ks ∧ 8 ∉ ks ∧ 9 ∉ ks ∧ 10 ∉ ks ∧ 11 ∉ ks ∧ 16 ∉ ks ∧ 13 ∉ ks ∧ 14 ∉ ks ∧ 15 ∉ ks) : IC σ' := by
  obtain ⟨k1, k2, k3, k4, k5, k6, k7, k8, k9, k10, k11⟩ := hk
  unfold IC ScC
  rw [hF 100 k1, hF 101 k2, hF 5 k3, hF 8 k4, hF 9 k5, hF 10 k6, hF 11 k7, hF 16 k8, hF 13 k9, hF 14 k10, hF 15 k11]
  exact hC
theorem IM_cd {σ σ' : Sto} {ks : List Nat} (hM : IM σ) (hF : Fr ks σ σ') (hk : 110 ∉ ks ∧ 111 ∉ ks ∧ 112 ∉ ks ∧ 113 ∉ ks ∧ 114 ∉ ks ∧ 115 ∉ ks ∧ 20 ∉ ks ∧ 21 ∉ ks ∧ 22 ∉ ks ∧ 24 ∉ ks) : IM σ' := by
  obtain ⟨k1, k2, k3, k4, k5, k6, k7, k8, k9, k10⟩ := hk
  unfold IM
  rw [hF 110 k1, hF 111 k2, hF 112 k3, hF 113 k4, hF 114 k5, hF 115 k6, hF 20 k7, hF 21 k8, hF 22 k9, hF 24 k10]
  exact hM
def RelE (σ : Sto) : Prop := σ 8 = σ 20 ∧ σ 9 = σ 21 ∧ σ 10 = σ 22 ∧ σ 100 0 = σ 110 0 ∧ σ 101 0 = σ 111 0 ∧ σ 5 0 = σ 112 0 ∧ σ 5 1 = σ 113 0 ∧ σ 5 2 = σ 114 0 ∧ σ 5 3 = σ 115 0
def Rel (σ : Sto) : Prop := IC σ ∧ IM σ ∧ RelE σ
/-- the reference, as the class's call left it -/
def AsC (σ σ1 : Sto) : Prop := σ1 20 = σ 8 ∧ σ1 21 = σ 9 ∧ σ1 22 = σ 10 ∧ σ1 110 0 = σ 100 0 ∧ σ1 111 0 = σ 101 0 ∧ σ1 112 0 = σ 5 0 ∧ σ1 113 0 = σ 5 1 ∧ σ1 114 0 = σ 5 2 ∧ σ1 115 0 = σ 5 3
theorem AsC_of {σ σ1 : Sto} {ks : List Nat} (hR : Rel σ) (hF : Fr ks σ σ1) (hk : 110 ∉ ks ∧ 111 ∉ ks ∧ 112 ∉ ks ∧ 113 ∉ ks ∧ 114 ∉ ks ∧ 115 ∉ ks ∧ 20 ∉ ks ∧ 21 ∉ ks ∧ 22 ∉ ks ∧ 24 ∉ ks) : AsC σ σ1 ∧ IM σ1 := by
  refine ⟨?_, IM_cd hR.2.1 hF hk⟩
  obtain ⟨k1, k2, k3, k4, k5, k6, k7, k8, k9, k10⟩ := hk
  obtain ⟨e1, e2, e3, e4, e5, e6, e7, e8, e9⟩ := hR.2.2
  unfold AsC
  rw [hF 110 k1, hF 111 k2, hF 112 k3, hF 113 k4, hF 114 k5, hF 115 k6, hF 20 k7, hF 21 k8, hF 22 k9]
  exact ⟨e1.symm, e2.symm, e3.symm, e4.symm, e5.symm, e6.symm, e7.symm, e8.symm, e9.symm⟩
theorem Rel_q {σ σ1 σ2 : Sto} (hR : Rel σ) (h1 : SmC σ σ1) (h2 : SmM σ1 σ2) : Rel σ2 := by
  refine ⟨IC_md (IC_sm hR.1 h1) h2.1 (by decide), IM_sm (IM_cd hR.2.1 h1.1 (by decide)) h2, ?_⟩
  unfold RelE
  rw [h2.1 8 (by decide), h2.1 9 (by decide), h2.1 10 (by decide), h2.1 100 (by decide), h2.1 101 (by decide), h2.1 5 (by decide), h2.1 20 (by decide), h2.1 21 (by decide), h2.1 22 (by decide), h2.1 110 (by decide), h2.1 111 (by decide), h2.1 112 (by decide), h2.1 113 (by decide), h2.1 114 (by decide), h2.1 115 (by decide),
    h1.1 8 (by decide), h1.1 9 (by decide), h1.1 10 (by decide), h1.1 100 (by decide), h1.1 101 (by decide), h1.1 5 (by decide), h1.1 20 (by decide), h1.1 21 (by decide), h1.1 22 (by decide), h1.1 110 (by decide), h1.1 111 (by decide), h1.1 112 (by decide), h1.1 113 (by decide), h1.1 114 (by decide), h1.1 115 (by decide)]
  exact hR.2.2
/-- what moves the offsets alone -/
theorem Rel_f {σ σ1 σ2 : Sto} (hR : Rel σ) (h1 : FairC σ σ1) (g1 : Rng (σ1 8)) (h2 : FairM σ1 σ2) (g2 : σ2 20 = σ1 8) : Rel σ2 := by
  have hI2 : IC σ2 := IC_md (IC_fair hR.1 h1 g1) h2.1 (by decide)
  refine ⟨hI2, IM_fair (IM_cd hR.2.1 h1.1 (by decide)) h2 (by rw [g2]; exact g1), ?_⟩
  unfold RelE
  rw [h2.1 8 (by decide), h2.1 9 (by decide), h2.1 10 (by decide), h2.1 100 (by decide), h2.1 101 (by decide), h2.1 5 (by decide), h2.1 21 (by decide), h2.1 22 (by decide), h2.1 110 (by decide), h2.1 111 (by decide), h2.1 112 (by decide), h2.1 113 (by decide), h2.1 114 (by decide), h2.1 115 (by decide),
    h1.1 9 (by decide), h1.1 10 (by decide), h1.1 100 (by decide), h1.1 101 (by decide), h1.1 5 (by decide), h1.1 21 (by decide), h1.1 22 (by decide), h1.1 110 (by decide), h1.1 111 (by decide), h1.1 112 (by decide), h1.1 113 (by decide), h1.1 114 (by decide), h1.1 115 (by decide)]
  exact ⟨g2.symm, hR.2.2.2⟩
theorem Rng_lay0 {f : Nat → Int} {n : Nat} (hf : Rng f) : Rng (lay0 n f (fun _ => 0)) := fun j => by
  unfold lay0
  split
  · exact ⟨Int.le_refl 0, show (0 : Int) ≤ 999 by decide⟩
  · exact hf j
theorem Rng_lay {f g : Nat → Int} {n : Nat} (hf : Rng f) (hg : Rng g) : Rng (lay0 n f g) := fun j => by
  unfold lay0
  split
  · exact hg j
  · exact hf j
section VLAW
variable {K : Ctx} {E : ME} {Mi : MI} {d pc : Nat} {L : List (Option Value)} {st : List Value} {σ : Sto}
def ScX (E : ME) (b Ln : Nat) (xs : Nat → Int32) : Prop := va_X b Ln xs (eS E) (eS E).heap ∧ b < (eS E).heap.size ∧ ¬ eA E b
theorem V_slen {b Ln : Nat} {xs : Nat → Int32} (hX : ScX E b Ln xs) (hE : Ok K E Mi d) (hd : decode Mi.2.1 pc = .ok (.arraylength, 1)) (kk : V K E Mi (pc + 1) L (.int (i32 Ln) :: st) σ) : V K E Mi pc L (.ref b :: st) σ := by
  intro H locs ls hP hS hl
  refine va_slen hE.1 hE.2.1 hX.1 hX.2.1 hX.2.2 hS hd ?_
  rw [show Int32.ofNat Ln = i32 (Ln : Int) from by first | rfl | exact (Int32.ofInt_eq_ofNat).symm | simp [i32]]
  exact kk H locs ls hP hS hl
theorem V_sld {b Ln : Nat} {xs : Nat → Int32} (hX : ScX E b Ln xs) (hE : Ok K E Mi d) {i : Int} (hd : decode Mi.2.1 pc = .ok (.iaload, 1)) (hi : (0 ≤ i ∧ i < Ln) ∧ Ln ≤ 2048) (kk : V K E Mi (pc + 1) L (.int (i32 (xs i.toNat).toInt) :: st) σ) : V K E Mi pc L (.int (i32 i) :: .ref b :: st) σ := by
  intro H locs ls hP hS hl
  refine va_sld hE.1 hE.2.1 hX.1 hX.2.1 hX.2.2 hS (i32_in hi.1 (by omega)) hd ?_
  rw [i32_cl ⟨by omega, by omega⟩, i32_ofToInt (xs i.toNat)]
  exact kk H locs ls hP hS hl
theorem V_iand (hE : Ok K E Mi d) {a c : Int} (hd : decode Mi.2.1 pc = .ok (.iand, 1)) (kk : V K E Mi (pc + 1) L (.int (i32 (i32 a &&& i32 c).toInt) :: st) σ) : V K E Mi pc L (.int (i32 c) :: .int (i32 a) :: st) σ := by
  intro H locs ls hP hS hl
  refine lv_iand hE.1 hE.2.1 hd ?_
  rw [i32_ofToInt (i32 a &&& i32 c)]
  exact kk H locs ls hP hS hl
theorem V_icmp_same (hE : Ok K E Mi d) {r : Int32} {off : Int} (tgt : Nat) (hd : decode Mi.2.1 pc = .ok (.if_icmp .eq off, 3)) (ht : (pc : Int) + off = (tgt : Int)) (kt : V K E Mi tgt L st σ) : V K E Mi pc L (.int r :: .int r :: st) σ :=
  fun H locs ls hP hS hl => lv_icmp_eq hE.1 hE.2.1 hd ht (fun _ => kt H locs ls hP hS hl) (fun hn => absurd rfl hn)
theorem V_lcmp_same (hE : Ok K E Mi d) {r : Int64} {off : Int} (tgt : Nat) (hc : decode Mi.2.1 pc = .ok (.lcmp, 1)) (hd : decode Mi.2.1 (pc + 1) = .ok (.ifCond .eq off, 3)) (ht : ((pc + 1 : Nat) : Int) + off = (tgt : Int)) (kt : V K E Mi tgt L st σ) : V K E Mi pc L (.long r :: .long r :: st) σ :=
  fun H locs ls hP hS hl => W.lcmp hE.1 hE.2.1 hc (lv_if_eq hE.1 hE.2.1 hd ht (fun _ => kt H locs ls hP hS hl) (fun hn => absurd ((lg_cmp_eq _ _).mpr rfl) hn))
theorem V_swL (hE : Ok K E Mi d) {a dflt hi : Int} {offs : Array Int} {len : Nat} (T : List Nat) (td : Nat) (hd : decode Mi.2.1 pc = .ok (.tableswitch dflt 0 hi offs, len)) (hr : InI a) (hh : hi + 1 = (T.length : Int)) (ht : offs.toList.map (fun o => (pc : Int) + o) = T.map (fun t : Nat => (t : Int))) (htd : (pc : Int) + dflt = (td : Int))
    (kd : V K E Mi td L st σ) (kk : ∀ t ∈ T, V K E Mi t L st σ) : V K E Mi pc L (.int (i32 a) :: st) σ := by
  by_cases ha : 0 ≤ a ∧ a ≤ hi
  · have hlt : a.toNat < T.length := by omega
    have h1 : (T.map (fun t : Nat => (t : Int)))[a.toNat]? = some ((T[a.toNat]'hlt : Nat) : Int) := by rw [List.getElem?_map, List.getElem?_eq_getElem hlt]; rfl
    rw [← ht, List.getElem?_map, Array.getElem?_toList] at h1
    cases ho : offs[a.toNat]? with
    | none => rw [ho] at h1; simp at h1
    | some o =>
      rw [ho] at h1
      have h2 : (pc : Int) + o = ((T[a.toNat]'hlt : Nat) : Int) := by simpa using h1
      exact V_tableIn hE _ hd hr ha.1 ha.2 (by rw [show (a - 0).toNat = a.toNat by omega]; exact ho) h2 (kk _ (List.getElem_mem hlt))
  · exact V_tableOut hE td hd hr (by omega) htd kd
end VLAW
set_option maxRecDepth 100000 in
set_option maxHeartbeats 4000000 in
theorem lw_339 {K : Ctx} {E : ME} {b Ln : Nat} {xs : Nat → Int32} {σ : Sto} {i : Int} (hX : ScX E b Ln xs) (hi : (0 ≤ i ∧ i + 4 ≤ Ln) ∧ Ln ≤ 2048) (hR : Rel σ) (hE : Ok K E mL_law 11) (hk : ∀ σ' : Sto, Rel σ' → V K E mL_law 818 [some (.ref b), some (.ref (kA K 0)), some (.ref (kA K 19)), some (.int (i32 i))] [] σ') : V K E mL_law 339 [some (.ref b), some (.ref (kA K 0)), some (.ref (kA K 19)), some (.int (i32 i))] [] σ := by
  have a1 := i32_rng (xs (i + 1).toNat)
  have a2 := i32_rng (xs (i + 2).toNat)
  have a3 := i32_rng (xs (i + 3).toNat)
  refine V_aload_n hE dL_law_339 rfl ?_
  refine V_aload_n hE dL_law_340 rfl ?_
  refine V_iload_n hE dL_law_341 rfl ?_
  refine V_iconst hE dL_law_342 ?_
  refine V_iadd hE dL_law_343 ?_
  refine V_sld hX hE dL_law_344 (by omega) ?_
  refine V_aload_n hE dL_law_345 rfl ?_
  refine V_iload_n hE dL_law_346 rfl ?_
  refine V_iconst hE dL_law_347 ?_
  refine V_iadd hE dL_law_348 ?_
  refine V_sld hX hE dL_law_349 (by omega) ?_
  refine V_aload_n hE dL_law_350 rfl ?_
  refine V_iload_n hE dL_law_351 rfl ?_
  refine V_iconst hE dL_law_352 ?_
  refine V_iadd hE dL_law_353 ?_
  refine V_sld hX hE dL_law_354 (by omega) ?_
  refine cl_L_36 hE rfl dL_law_355 (c_X4_bend hR.1 (by omega)) rfl rfl ?_
  rintro r1 σ1 ⟨h1, hs1⟩
  obtain ⟨hA, hM1⟩ := AsC_of hR hs1.1 (by decide)
  refine V_aload_n hE dL_law_358 rfl ?_
  refine V_aload_n hE dL_law_359 rfl ?_
  refine V_iload_n hE dL_law_360 rfl ?_
  refine V_iconst hE dL_law_361 ?_
  refine V_iadd hE dL_law_362 ?_
  refine V_sld hX hE dL_law_363 (by omega) ?_
  refine V_aload_n hE dL_law_364 rfl ?_
  refine V_iload_n hE dL_law_365 rfl ?_
  refine V_iconst hE dL_law_366 ?_
  refine V_iadd hE dL_law_367 ?_
  refine V_sld hX hE dL_law_368 (by omega) ?_
  refine V_aload_n hE dL_law_369 rfl ?_
  refine V_iload_n hE dL_law_370 rfl ?_
  refine V_iconst hE dL_law_371 ?_
  refine V_iadd hE dL_law_372 ?_
  refine V_sld hX hE dL_law_373 (by omega) ?_
  refine cl_L_39 hE rfl dL_law_374 (c_X5_bend hM1 (by omega)) rfl rfl ?_
  rintro r2 σ2 ⟨h2, hs2⟩
  have er : r1 = r2 := by
    rw [h1, h2]
    obtain ⟨m1, m2, m3, m4, m5, m6, m7, m8, m9⟩ := hA
    simp only [m1, m2, m3, m4, m5, m6, m7, m8, m9]
  subst er
  refine V_icmp_same hE 818 dL_law_377 (by decide) ?_
  refine hk _ ?_
  exact Rel_q hR hs1 hs2
set_option maxRecDepth 100000 in
set_option maxHeartbeats 4000000 in
theorem lw_382 {K : Ctx} {E : ME} {b Ln : Nat} {xs : Nat → Int32} {σ : Sto} {i : Int} (hX : ScX E b Ln xs) (hi : (0 ≤ i ∧ i + 4 ≤ Ln) ∧ Ln ≤ 2048) (hR : Rel σ) (hE : Ok K E mL_law 11) (hk : ∀ σ' : Sto, Rel σ' → V K E mL_law 818 [some (.ref b), some (.ref (kA K 0)), some (.ref (kA K 19)), some (.int (i32 i))] [] σ') : V K E mL_law 382 [some (.ref b), some (.ref (kA K 0)), some (.ref (kA K 19)), some (.int (i32 i))] [] σ := by
  have a1 := i32_rng (xs (i + 1).toNat)
  have a2 := i32_rng (xs (i + 2).toNat)
  have a3 := i32_rng (xs (i + 3).toNat)
  refine V_aload_n hE dL_law_382 rfl ?_
  refine V_aload_n hE dL_law_383 rfl ?_
  refine V_iload_n hE dL_law_384 rfl ?_
  refine V_iconst hE dL_law_385 ?_
  refine V_iadd hE dL_law_386 ?_
  refine V_sld hX hE dL_law_387 (by omega) ?_
  refine V_aload_n hE dL_law_388 rfl ?_
  refine V_iload_n hE dL_law_389 rfl ?_
  refine V_iconst hE dL_law_390 ?_
  refine V_iadd hE dL_law_391 ?_
  refine V_sld hX hE dL_law_392 (by omega) ?_
  refine V_aload_n hE dL_law_393 rfl ?_
  refine V_iload_n hE dL_law_394 rfl ?_
  refine V_iconst hE dL_law_395 ?_
  refine V_iadd hE dL_law_396 ?_
  refine V_sld hX hE dL_law_397 (by omega) ?_
  refine cl_L_40 hE rfl dL_law_398 (c_X4_jump hR.1 (by omega)) rfl rfl ?_
  rintro r1 σ1 ⟨h1, hs1⟩
  obtain ⟨hA, hM1⟩ := AsC_of hR hs1.1 (by decide)
  refine V_aload_n hE dL_law_401 rfl ?_
  refine V_aload_n hE dL_law_402 rfl ?_
  refine V_iload_n hE dL_law_403 rfl ?_
  refine V_iconst hE dL_law_404 ?_
  refine V_iadd hE dL_law_405 ?_
  refine V_sld hX hE dL_law_406 (by omega) ?_
  refine V_aload_n hE dL_law_407 rfl ?_
  refine V_iload_n hE dL_law_408 rfl ?_
  refine V_iconst hE dL_law_409 ?_
  refine V_iadd hE dL_law_410 ?_
  refine V_sld hX hE dL_law_411 (by omega) ?_
  refine V_aload_n hE dL_law_412 rfl ?_
  refine V_iload_n hE dL_law_413 rfl ?_
  refine V_iconst hE dL_law_414 ?_
  refine V_iadd hE dL_law_415 ?_
  refine V_sld hX hE dL_law_416 (by omega) ?_
  refine cl_L_43 hE rfl dL_law_417 (c_X5_jump hM1 (by omega)) rfl rfl ?_
  rintro r2 σ2 ⟨h2, hs2⟩
  have er : r1 = r2 := by
    rw [h1, h2]
    obtain ⟨m1, m2, m3, m4, m5, m6, m7, m8, m9⟩ := hA
    simp only [m1, m2, m3, m4, m5, m6, m7, m8, m9]
  subst er
  refine V_icmp_same hE 818 dL_law_420 (by decide) ?_
  refine hk _ ?_
  exact Rel_q hR hs1 hs2
set_option maxRecDepth 100000 in
set_option maxHeartbeats 4000000 in
theorem lw_425 {K : Ctx} {E : ME} {b Ln : Nat} {xs : Nat → Int32} {σ : Sto} {i : Int} (hX : ScX E b Ln xs) (hi : (0 ≤ i ∧ i + 4 ≤ Ln) ∧ Ln ≤ 2048) (hR : Rel σ) (hE : Ok K E mL_law 11) (hk : ∀ σ' : Sto, Rel σ' → V K E mL_law 818 [some (.ref b), some (.ref (kA K 0)), some (.ref (kA K 19)), some (.int (i32 i))] [] σ') : V K E mL_law 425 [some (.ref b), some (.ref (kA K 0)), some (.ref (kA K 19)), some (.int (i32 i))] [] σ := by
  have a1 := i32_rng (xs (i + 1).toNat)
  refine V_aload_n hE dL_law_425 rfl ?_
  refine V_aload_n hE dL_law_426 rfl ?_
  refine V_iload_n hE dL_law_427 rfl ?_
  refine V_iconst hE dL_law_428 ?_
  refine V_iadd hE dL_law_429 ?_
  refine V_sld hX hE dL_law_430 (by omega) ?_
  refine cl_L_44 hE rfl dL_law_431 (c_X4_roughest hR.1 (by omega)) rfl rfl ?_
  rintro r1 σ1 ⟨h1, hs1⟩
  obtain ⟨hA, hM1⟩ := AsC_of hR hs1.1 (by decide)
  refine V_aload_n hE dL_law_434 rfl ?_
  refine V_aload_n hE dL_law_435 rfl ?_
  refine V_iload_n hE dL_law_436 rfl ?_
  refine V_iconst hE dL_law_437 ?_
  refine V_iadd hE dL_law_438 ?_
  refine V_sld hX hE dL_law_439 (by omega) ?_
  refine cl_L_48 hE rfl dL_law_440 (c_X5_roughest hM1 (by omega)) rfl rfl ?_
  rintro r2 σ2 ⟨h2, hs2⟩
  have er : r1 = r2 := by
    rw [h1, h2]
    obtain ⟨m1, m2, m3, m4, m5, m6, m7, m8, m9⟩ := hA
    simp only [m1, m2, m3, m4, m5, m6, m7, m8, m9]
  subst er
  refine V_icmp_same hE 818 dL_law_443 (by decide) ?_
  refine hk _ ?_
  exact Rel_q hR hs1 hs2
set_option maxRecDepth 100000 in
set_option maxHeartbeats 4000000 in
theorem lw_448 {K : Ctx} {E : ME} {b Ln : Nat} {xs : Nat → Int32} {σ : Sto} {i : Int} (hX : ScX E b Ln xs) (hi : (0 ≤ i ∧ i + 4 ≤ Ln) ∧ Ln ≤ 2048) (hR : Rel σ) (hE : Ok K E mL_law 11) (hk : ∀ σ' : Sto, Rel σ' → V K E mL_law 818 [some (.ref b), some (.ref (kA K 0)), some (.ref (kA K 19)), some (.int (i32 i))] [] σ') : V K E mL_law 448 [some (.ref b), some (.ref (kA K 0)), some (.ref (kA K 19)), some (.int (i32 i))] [] σ := by
  have a1 := i32_rng (xs (i + 1).toNat)
  have a2 := i32_rng (xs (i + 2).toNat)
  refine V_aload_n hE dL_law_448 rfl ?_
  refine V_aload_n hE dL_law_449 rfl ?_
  refine V_iload_n hE dL_law_450 rfl ?_
  refine V_iconst hE dL_law_451 ?_
  refine V_iadd hE dL_law_452 ?_
  refine V_sld hX hE dL_law_453 (by omega) ?_
  refine V_aload_n hE dL_law_454 rfl ?_
  refine V_iload_n hE dL_law_455 rfl ?_
  refine V_iconst hE dL_law_456 ?_
  refine V_iadd hE dL_law_457 ?_
  refine V_sld hX hE dL_law_458 (by omega) ?_
  refine cl_L_49 hE rfl dL_law_459 (c_X4_rough hR.1 (by omega)) rfl rfl ?_
  rintro r1 σ1 ⟨h1, hs1⟩
  obtain ⟨hA, hM1⟩ := AsC_of hR hs1.1 (by decide)
  refine V_aload_n hE dL_law_462 rfl ?_
  refine V_aload_n hE dL_law_463 rfl ?_
  refine V_iload_n hE dL_law_464 rfl ?_
  refine V_iconst hE dL_law_465 ?_
  refine V_iadd hE dL_law_466 ?_
  refine V_sld hX hE dL_law_467 (by omega) ?_
  refine V_aload_n hE dL_law_468 rfl ?_
  refine V_iload_n hE dL_law_469 rfl ?_
  refine V_iconst hE dL_law_470 ?_
  refine V_iadd hE dL_law_471 ?_
  refine V_sld hX hE dL_law_472 (by omega) ?_
  refine cl_L_52 hE rfl dL_law_473 (c_X5_rough hM1 (by omega)) rfl rfl ?_
  rintro r2 σ2 ⟨h2, hs2⟩
  have er : r1 = r2 := by
    rw [h1, h2]
    obtain ⟨m1, m2, m3, m4, m5, m6, m7, m8, m9⟩ := hA
    simp only [m1, m2, m3, m4, m5, m6, m7, m8, m9]
  subst er
  refine V_icmp_same hE 818 dL_law_476 (by decide) ?_
  refine hk _ ?_
  exact Rel_q hR hs1 hs2
set_option maxRecDepth 100000 in
set_option maxHeartbeats 4000000 in
theorem lw_481 {K : Ctx} {E : ME} {b Ln : Nat} {xs : Nat → Int32} {σ : Sto} {i : Int} (hX : ScX E b Ln xs) (hi : (0 ≤ i ∧ i + 4 ≤ Ln) ∧ Ln ≤ 2048) (hR : Rel σ) (hE : Ok K E mL_law 11) (hk : ∀ σ' : Sto, Rel σ' → V K E mL_law 818 [some (.ref b), some (.ref (kA K 0)), some (.ref (kA K 19)), some (.int (i32 i))] [] σ') : V K E mL_law 481 [some (.ref b), some (.ref (kA K 0)), some (.ref (kA K 19)), some (.int (i32 i))] [] σ := by
  have a1 := i32_rng (xs (i + 1).toNat)
  have a2 := i32_rng (xs (i + 2).toNat)
  have a3 := i32_rng (xs (i + 3).toNat)
  refine V_aload_n hE dL_law_481 rfl ?_
  refine V_aload_n hE dL_law_482 rfl ?_
  refine V_iload_n hE dL_law_483 rfl ?_
  refine V_iconst hE dL_law_484 ?_
  refine V_iadd hE dL_law_485 ?_
  refine V_sld hX hE dL_law_486 (by omega) ?_
  refine V_aload_n hE dL_law_487 rfl ?_
  refine V_iload_n hE dL_law_488 rfl ?_
  refine V_iconst hE dL_law_489 ?_
  refine V_iadd hE dL_law_490 ?_
  refine V_sld hX hE dL_law_491 (by omega) ?_
  refine V_aload_n hE dL_law_492 rfl ?_
  refine V_iload_n hE dL_law_493 rfl ?_
  refine V_iconst hE dL_law_494 ?_
  refine V_iadd hE dL_law_495 ?_
  refine V_sld hX hE dL_law_496 (by omega) ?_
  refine cl_L_53 hE rfl dL_law_497 (c_X4_least hR.1 (by omega)) rfl rfl ?_
  rintro r1 σ1 ⟨h1, hs1⟩
  obtain ⟨hA, hM1⟩ := AsC_of hR hs1.1 (by decide)
  refine V_aload_n hE dL_law_500 rfl ?_
  refine V_aload_n hE dL_law_501 rfl ?_
  refine V_iload_n hE dL_law_502 rfl ?_
  refine V_iconst hE dL_law_503 ?_
  refine V_iadd hE dL_law_504 ?_
  refine V_sld hX hE dL_law_505 (by omega) ?_
  refine V_aload_n hE dL_law_506 rfl ?_
  refine V_iload_n hE dL_law_507 rfl ?_
  refine V_iconst hE dL_law_508 ?_
  refine V_iadd hE dL_law_509 ?_
  refine V_sld hX hE dL_law_510 (by omega) ?_
  refine V_aload_n hE dL_law_511 rfl ?_
  refine V_iload_n hE dL_law_512 rfl ?_
  refine V_iconst hE dL_law_513 ?_
  refine V_iadd hE dL_law_514 ?_
  refine V_sld hX hE dL_law_515 (by omega) ?_
  refine cl_L_56 hE rfl dL_law_516 (c_X5_least hM1 (by omega)) rfl rfl ?_
  rintro r2 σ2 ⟨h2, hs2⟩
  have er : r1 = r2 := by
    rw [h1, h2]
    obtain ⟨m1, m2, m3, m4, m5, m6, m7, m8, m9⟩ := hA
    simp only [m1, m2, m3, m4, m5, m6, m7, m8, m9]
  subst er
  refine V_icmp_same hE 818 dL_law_519 (by decide) ?_
  refine hk _ ?_
  exact Rel_q hR hs1 hs2
set_option maxRecDepth 100000 in
set_option maxHeartbeats 4000000 in
theorem lw_593 {K : Ctx} {E : ME} {b Ln : Nat} {xs : Nat → Int32} {σ : Sto} {i : Int} (hX : ScX E b Ln xs) (hi : (0 ≤ i ∧ i + 4 ≤ Ln) ∧ Ln ≤ 2048) (hR : Rel σ) (hE : Ok K E mL_law 11) (hk : ∀ σ' : Sto, Rel σ' → V K E mL_law 818 [some (.ref b), some (.ref (kA K 0)), some (.ref (kA K 19)), some (.int (i32 i))] [] σ') : V K E mL_law 593 [some (.ref b), some (.ref (kA K 0)), some (.ref (kA K 19)), some (.int (i32 i))] [] σ := by
  have a1 := i32_rng (xs (i + 1).toNat)
  have a2 := i32_rng (xs (i + 2).toNat)
  have a3 := i32_rng (xs (i + 3).toNat)
  refine V_aload_n hE dL_law_593 rfl ?_
  refine V_aload_n hE dL_law_594 rfl ?_
  refine V_iload_n hE dL_law_595 rfl ?_
  refine V_iconst hE dL_law_596 ?_
  refine V_iadd hE dL_law_597 ?_
  refine V_sld hX hE dL_law_598 (by omega) ?_
  refine V_aload_n hE dL_law_599 rfl ?_
  refine V_iload_n hE dL_law_600 rfl ?_
  refine V_iconst hE dL_law_601 ?_
  refine V_iadd hE dL_law_602 ?_
  refine V_sld hX hE dL_law_603 (by omega) ?_
  refine V_aload_n hE dL_law_604 rfl ?_
  refine V_iload_n hE dL_law_605 rfl ?_
  refine V_iconst hE dL_law_606 ?_
  refine V_iadd hE dL_law_607 ?_
  refine V_sld hX hE dL_law_608 (by omega) ?_
  refine cl_L_70 hE rfl dL_law_609 (c_X4_area hR.1 (by omega)) rfl rfl ?_
  rintro r1 σ1 ⟨h1, hs1⟩
  obtain ⟨hA, hM1⟩ := AsC_of hR hs1.1 (by decide)
  refine V_aload_n hE dL_law_612 rfl ?_
  refine V_aload_n hE dL_law_613 rfl ?_
  refine V_iload_n hE dL_law_614 rfl ?_
  refine V_iconst hE dL_law_615 ?_
  refine V_iadd hE dL_law_616 ?_
  refine V_sld hX hE dL_law_617 (by omega) ?_
  refine V_aload_n hE dL_law_618 rfl ?_
  refine V_iload_n hE dL_law_619 rfl ?_
  refine V_iconst hE dL_law_620 ?_
  refine V_iadd hE dL_law_621 ?_
  refine V_sld hX hE dL_law_622 (by omega) ?_
  refine V_aload_n hE dL_law_623 rfl ?_
  refine V_iload_n hE dL_law_624 rfl ?_
  refine V_iconst hE dL_law_625 ?_
  refine V_iadd hE dL_law_626 ?_
  refine V_sld hX hE dL_law_627 (by omega) ?_
  refine cl_L_74 hE rfl dL_law_628 (c_X5_area hM1 (by omega)) rfl rfl ?_
  rintro r2 σ2 ⟨h2, hs2⟩
  have er : r1 = r2 := by
    rw [h1, h2]
    obtain ⟨m1, m2, m3, m4, m5, m6, m7, m8, m9⟩ := hA
    simp only [m1, m2, m3, m4, m5, m6, m7, m8, m9]
  subst er
  refine V_lcmp_same hE 818 dL_law_631 dL_law_632 (by decide) ?_
  refine hk _ ?_
  exact Rel_q hR hs1 hs2
set_option maxRecDepth 100000 in
set_option maxHeartbeats 4000000 in
theorem lw_637 {K : Ctx} {E : ME} {b Ln : Nat} {xs : Nat → Int32} {σ : Sto} {i : Int} (hX : ScX E b Ln xs) (hi : (0 ≤ i ∧ i + 4 ≤ Ln) ∧ Ln ≤ 2048) (hR : Rel σ) (hE : Ok K E mL_law 11) (hk : ∀ σ' : Sto, Rel σ' → V K E mL_law 818 [some (.ref b), some (.ref (kA K 0)), some (.ref (kA K 19)), some (.int (i32 i))] [] σ') : V K E mL_law 637 [some (.ref b), some (.ref (kA K 0)), some (.ref (kA K 19)), some (.int (i32 i))] [] σ := by
  have a1 := i32_rng (xs (i + 1).toNat)
  have a2 := i32_rng (xs (i + 2).toNat)
  have a3 := i32_rng (xs (i + 3).toNat)
  refine V_aload_n hE dL_law_637 rfl ?_
  refine V_aload_n hE dL_law_638 rfl ?_
  refine V_iload_n hE dL_law_639 rfl ?_
  refine V_iconst hE dL_law_640 ?_
  refine V_iadd hE dL_law_641 ?_
  refine V_sld hX hE dL_law_642 (by omega) ?_
  refine V_aload_n hE dL_law_643 rfl ?_
  refine V_iload_n hE dL_law_644 rfl ?_
  refine V_iconst hE dL_law_645 ?_
  refine V_iadd hE dL_law_646 ?_
  refine V_sld hX hE dL_law_647 (by omega) ?_
  refine V_aload_n hE dL_law_648 rfl ?_
  refine V_iload_n hE dL_law_649 rfl ?_
  refine V_iconst hE dL_law_650 ?_
  refine V_iadd hE dL_law_651 ?_
  refine V_sld hX hE dL_law_652 (by omega) ?_
  refine cl_L_75 hE rfl dL_law_653 (c_X4_centre hR.1 (by omega)) rfl rfl ?_
  rintro r1 σ1 ⟨h1, hs1⟩
  obtain ⟨hA, hM1⟩ := AsC_of hR hs1.1 (by decide)
  refine V_aload_n hE dL_law_656 rfl ?_
  refine V_aload_n hE dL_law_657 rfl ?_
  refine V_iload_n hE dL_law_658 rfl ?_
  refine V_iconst hE dL_law_659 ?_
  refine V_iadd hE dL_law_660 ?_
  refine V_sld hX hE dL_law_661 (by omega) ?_
  refine V_aload_n hE dL_law_662 rfl ?_
  refine V_iload_n hE dL_law_663 rfl ?_
  refine V_iconst hE dL_law_664 ?_
  refine V_iadd hE dL_law_665 ?_
  refine V_sld hX hE dL_law_666 (by omega) ?_
  refine V_aload_n hE dL_law_667 rfl ?_
  refine V_iload_n hE dL_law_668 rfl ?_
  refine V_iconst hE dL_law_669 ?_
  refine V_iadd hE dL_law_670 ?_
  refine V_sld hX hE dL_law_671 (by omega) ?_
  refine cl_L_78 hE rfl dL_law_672 (c_X5_centre hM1 (by omega)) rfl rfl ?_
  rintro r2 σ2 ⟨h2, hs2⟩
  have er : r1 = r2 := by
    rw [h1, h2]
    obtain ⟨m1, m2, m3, m4, m5, m6, m7, m8, m9⟩ := hA
    simp only [m1, m2, m3, m4, m5, m6, m7, m8, m9]
  subst er
  refine V_lcmp_same hE 818 dL_law_675 dL_law_676 (by decide) ?_
  refine hk _ ?_
  exact Rel_q hR hs1 hs2
set_option maxRecDepth 100000 in
set_option maxHeartbeats 4000000 in
theorem lw_681 {K : Ctx} {E : ME} {b Ln : Nat} {xs : Nat → Int32} {σ : Sto} {i : Int} (hX : ScX E b Ln xs) (hi : (0 ≤ i ∧ i + 4 ≤ Ln) ∧ Ln ≤ 2048) (hR : Rel σ) (hE : Ok K E mL_law 11) (hk : ∀ σ' : Sto, Rel σ' → V K E mL_law 818 [some (.ref b), some (.ref (kA K 0)), some (.ref (kA K 19)), some (.int (i32 i))] [] σ') : V K E mL_law 681 [some (.ref b), some (.ref (kA K 0)), some (.ref (kA K 19)), some (.int (i32 i))] [] σ := by
  have a1 := i32_rng (xs (i + 1).toNat)
  have a2 := i32_rng (xs (i + 2).toNat)
  refine V_aload_n hE dL_law_681 rfl ?_
  refine V_aload_n hE dL_law_682 rfl ?_
  refine V_iload_n hE dL_law_683 rfl ?_
  refine V_iconst hE dL_law_684 ?_
  refine V_iadd hE dL_law_685 ?_
  refine V_sld hX hE dL_law_686 (by omega) ?_
  refine V_aload_n hE dL_law_687 rfl ?_
  refine V_iload_n hE dL_law_688 rfl ?_
  refine V_iconst hE dL_law_689 ?_
  refine V_iadd hE dL_law_690 ?_
  refine V_sld hX hE dL_law_691 (by omega) ?_
  refine cl_L_79 hE rfl dL_law_692 (c_X4_volume hR.1 (by omega)) rfl rfl ?_
  rintro r1 σ1 ⟨h1, hs1⟩
  obtain ⟨hA, hM1⟩ := AsC_of hR hs1.1 (by decide)
  refine V_aload_n hE dL_law_695 rfl ?_
  refine V_aload_n hE dL_law_696 rfl ?_
  refine V_iload_n hE dL_law_697 rfl ?_
  refine V_iconst hE dL_law_698 ?_
  refine V_iadd hE dL_law_699 ?_
  refine V_sld hX hE dL_law_700 (by omega) ?_
  refine V_aload_n hE dL_law_701 rfl ?_
  refine V_iload_n hE dL_law_702 rfl ?_
  refine V_iconst hE dL_law_703 ?_
  refine V_iadd hE dL_law_704 ?_
  refine V_sld hX hE dL_law_705 (by omega) ?_
  refine cl_L_83 hE rfl dL_law_706 (c_X5_volume hM1 (by omega)) rfl rfl ?_
  rintro r2 σ2 ⟨h2, hs2⟩
  have er : r1 = r2 := by
    rw [h1, h2]
    obtain ⟨m1, m2, m3, m4, m5, m6, m7, m8, m9⟩ := hA
    simp only [m1, m2, m3, m4, m5, m6, m7, m8, m9]
  subst er
  refine V_lcmp_same hE 818 dL_law_709 dL_law_710 (by decide) ?_
  refine hk _ ?_
  exact Rel_q hR hs1 hs2
set_option maxRecDepth 100000 in
set_option maxHeartbeats 4000000 in
theorem lw_715 {K : Ctx} {E : ME} {b Ln : Nat} {xs : Nat → Int32} {σ : Sto} {i : Int} (hX : ScX E b Ln xs) (hi : (0 ≤ i ∧ i + 4 ≤ Ln) ∧ Ln ≤ 2048) (hR : Rel σ) (hE : Ok K E mL_law 11) (hk : ∀ σ' : Sto, Rel σ' → V K E mL_law 818 [some (.ref b), some (.ref (kA K 0)), some (.ref (kA K 19)), some (.int (i32 i))] [] σ') : V K E mL_law 715 [some (.ref b), some (.ref (kA K 0)), some (.ref (kA K 19)), some (.int (i32 i))] [] σ := by
  have a1 := i32_rng (xs (i + 1).toNat)
  have a2 := i32_rng (xs (i + 2).toNat)
  have a3 := i32_rng (xs (i + 3).toNat)
  refine V_aload_n hE dL_law_715 rfl ?_
  refine V_aload_n hE dL_law_716 rfl ?_
  refine V_iload_n hE dL_law_717 rfl ?_
  refine V_iconst hE dL_law_718 ?_
  refine V_iadd hE dL_law_719 ?_
  refine V_sld hX hE dL_law_720 (by omega) ?_
  refine V_aload_n hE dL_law_721 rfl ?_
  refine V_iload_n hE dL_law_722 rfl ?_
  refine V_iconst hE dL_law_723 ?_
  refine V_iadd hE dL_law_724 ?_
  refine V_sld hX hE dL_law_725 (by omega) ?_
  refine V_aload_n hE dL_law_726 rfl ?_
  refine V_iload_n hE dL_law_727 rfl ?_
  refine V_iconst hE dL_law_728 ?_
  refine V_iadd hE dL_law_729 ?_
  refine V_sld hX hE dL_law_730 (by omega) ?_
  refine cl_L_84 hE rfl dL_law_731 (c_X4_height hR.1 (by omega)) rfl rfl ?_
  rintro r1 σ1 ⟨h1, hs1⟩
  obtain ⟨hA, hM1⟩ := AsC_of hR hs1.1 (by decide)
  refine V_aload_n hE dL_law_734 rfl ?_
  refine V_aload_n hE dL_law_735 rfl ?_
  refine V_iload_n hE dL_law_736 rfl ?_
  refine V_iconst hE dL_law_737 ?_
  refine V_iadd hE dL_law_738 ?_
  refine V_sld hX hE dL_law_739 (by omega) ?_
  refine V_aload_n hE dL_law_740 rfl ?_
  refine V_iload_n hE dL_law_741 rfl ?_
  refine V_iconst hE dL_law_742 ?_
  refine V_iadd hE dL_law_743 ?_
  refine V_sld hX hE dL_law_744 (by omega) ?_
  refine V_aload_n hE dL_law_745 rfl ?_
  refine V_iload_n hE dL_law_746 rfl ?_
  refine V_iconst hE dL_law_747 ?_
  refine V_iadd hE dL_law_748 ?_
  refine V_sld hX hE dL_law_749 (by omega) ?_
  refine cl_L_87 hE rfl dL_law_750 (c_X5_height hM1 (by omega)) rfl rfl ?_
  rintro r2 σ2 ⟨h2, hs2⟩
  have er : r1 = r2 := by
    rw [h1, h2]
    obtain ⟨m1, m2, m3, m4, m5, m6, m7, m8, m9⟩ := hA
    simp only [m1, m2, m3, m4, m5, m6, m7, m8, m9]
  subst er
  refine V_lcmp_same hE 818 dL_law_753 dL_law_754 (by decide) ?_
  refine hk _ ?_
  exact Rel_q hR hs1 hs2
set_option maxRecDepth 100000 in
set_option maxHeartbeats 4000000 in
theorem lw_759 {K : Ctx} {E : ME} {b Ln : Nat} {xs : Nat → Int32} {σ : Sto} {i : Int} (hX : ScX E b Ln xs) (hi : (0 ≤ i ∧ i + 4 ≤ Ln) ∧ Ln ≤ 2048) (hR : Rel σ) (hE : Ok K E mL_law 11) (hk : ∀ σ' : Sto, Rel σ' → V K E mL_law 818 [some (.ref b), some (.ref (kA K 0)), some (.ref (kA K 19)), some (.int (i32 i))] [] σ') : V K E mL_law 759 [some (.ref b), some (.ref (kA K 0)), some (.ref (kA K 19)), some (.int (i32 i))] [] σ := by
  have a1 := i32_rng (xs (i + 1).toNat)
  refine V_aload_n hE dL_law_759 rfl ?_
  refine V_aload_n hE dL_law_760 rfl ?_
  refine V_iload_n hE dL_law_761 rfl ?_
  refine V_iconst hE dL_law_762 ?_
  refine V_iadd hE dL_law_763 ?_
  refine V_sld hX hE dL_law_764 (by omega) ?_
  refine cl_L_88 hE rfl dL_law_765 (c_X4_breaks hR.1 (by omega)) rfl rfl ?_
  rintro r1 σ1 ⟨h1, hs1⟩
  obtain ⟨hA, hM1⟩ := AsC_of hR hs1.1 (by decide)
  refine V_aload_n hE dL_law_768 rfl ?_
  refine V_aload_n hE dL_law_769 rfl ?_
  refine V_iload_n hE dL_law_770 rfl ?_
  refine V_iconst hE dL_law_771 ?_
  refine V_iadd hE dL_law_772 ?_
  refine V_sld hX hE dL_law_773 (by omega) ?_
  refine cl_L_91 hE rfl dL_law_774 (c_X5_breaks hM1 (by omega)) rfl rfl ?_
  rintro r2 σ2 ⟨h2, hs2⟩
  have er : r1 = r2 := by
    rw [h1, h2]
    obtain ⟨m1, m2, m3, m4, m5, m6, m7, m8, m9⟩ := hA
    simp only [m1, m2, m3, m4, m5, m6, m7, m8, m9]
  subst er
  refine V_icmp_same hE 818 dL_law_777 (by decide) ?_
  refine hk _ ?_
  exact Rel_q hR hs1 hs2
set_option maxRecDepth 100000 in
set_option maxHeartbeats 4000000 in
theorem lw_782 {K : Ctx} {E : ME} {b Ln : Nat} {xs : Nat → Int32} {σ : Sto} {i : Int} (hX : ScX E b Ln xs) (hi : (0 ≤ i ∧ i + 4 ≤ Ln) ∧ Ln ≤ 2048) (hR : Rel σ) (hE : Ok K E mL_law 11) (hk : ∀ σ' : Sto, Rel σ' → V K E mL_law 818 [some (.ref b), some (.ref (kA K 0)), some (.ref (kA K 19)), some (.int (i32 i))] [] σ') : V K E mL_law 782 [some (.ref b), some (.ref (kA K 0)), some (.ref (kA K 19)), some (.int (i32 i))] [] σ := by
  refine V_aload_n hE dL_law_782 rfl ?_
  refine cl_L_92 hE rfl dL_law_783 (c_X4_worst hR.1) rfl rfl ?_
  rintro r1 σ1 ⟨h1, hs1⟩
  obtain ⟨hA, hM1⟩ := AsC_of hR hs1.1 (by decide)
  refine V_aload_n hE dL_law_786 rfl ?_
  refine cl_L_95 hE rfl dL_law_787 (c_X5_worst hM1) rfl rfl ?_
  rintro r2 σ2 ⟨h2, hs2⟩
  have er : r1 = r2 := by
    rw [h1, h2]
    obtain ⟨m1, m2, m3, m4, m5, m6, m7, m8, m9⟩ := hA
    simp only [m1, m2, m3, m4, m5, m6, m7, m8, m9]
  subst er
  refine V_icmp_same hE 818 dL_law_790 (by decide) ?_
  refine hk _ ?_
  exact Rel_q hR hs1 hs2
set_option maxRecDepth 100000 in
set_option maxHeartbeats 4000000 in
theorem lw_795 {K : Ctx} {E : ME} {b Ln : Nat} {xs : Nat → Int32} {σ : Sto} {i : Int} (hX : ScX E b Ln xs) (hi : (0 ≤ i ∧ i + 4 ≤ Ln) ∧ Ln ≤ 2048) (hR : Rel σ) (hE : Ok K E mL_law 11) (hk : ∀ σ' : Sto, Rel σ' → V K E mL_law 818 [some (.ref b), some (.ref (kA K 0)), some (.ref (kA K 19)), some (.int (i32 i))] [] σ') : V K E mL_law 795 [some (.ref b), some (.ref (kA K 0)), some (.ref (kA K 19)), some (.int (i32 i))] [] σ := by
  have a1 := i32_rng (xs (i + 1).toNat)
  refine V_aload_n hE dL_law_795 rfl ?_
  refine V_aload_n hE dL_law_796 rfl ?_
  refine V_iload_n hE dL_law_797 rfl ?_
  refine V_iconst hE dL_law_798 ?_
  refine V_iadd hE dL_law_799 ?_
  refine V_sld hX hE dL_law_800 (by omega) ?_
  refine cl_L_96 hE rfl dL_law_801 (c_X4_many hR.1 (by omega)) rfl rfl ?_
  rintro r1 σ1 ⟨h1, hs1⟩
  obtain ⟨hA, hM1⟩ := AsC_of hR hs1.1 (by decide)
  refine V_aload_n hE dL_law_804 rfl ?_
  refine V_aload_n hE dL_law_805 rfl ?_
  refine V_iload_n hE dL_law_806 rfl ?_
  refine V_iconst hE dL_law_807 ?_
  refine V_iadd hE dL_law_808 ?_
  refine V_sld hX hE dL_law_809 (by omega) ?_
  refine cl_L_99 hE rfl dL_law_810 (c_X5_many hM1 (by omega)) rfl rfl ?_
  rintro r2 σ2 ⟨h2, hs2⟩
  have er : r1 = r2 := by
    rw [h1, h2]
    obtain ⟨m1, m2, m3, m4, m5, m6, m7, m8, m9⟩ := hA
    simp only [m1, m2, m3, m4, m5, m6, m7, m8, m9]
  subst er
  refine V_icmp_same hE 818 dL_law_813 (by decide) ?_
  refine hk _ ?_
  exact Rel_q hR hs1 hs2
set_option maxRecDepth 100000 in
set_option maxHeartbeats 4000000 in
theorem lw_296 {K : Ctx} {E : ME} {b Ln : Nat} {xs : Nat → Int32} {σ : Sto} {i : Int} (hX : ScX E b Ln xs) (hi : (0 ≤ i ∧ i + 4 ≤ Ln) ∧ Ln ≤ 2048) (hR : Rel σ) (hE : Ok K E mL_law 11) (hk : ∀ σ' : Sto, Rel σ' → V K E mL_law 818 [some (.ref b), some (.ref (kA K 0)), some (.ref (kA K 19)), some (.int (i32 i))] [] σ') : V K E mL_law 296 [some (.ref b), some (.ref (kA K 0)), some (.ref (kA K 19)), some (.int (i32 i))] [] σ := by
  have a1 := i32_rng (xs (i + 1).toNat)
  have a2 := i32_rng (xs (i + 2).toNat)
  have a3 := i32_rng (xs (i + 3).toNat)
  refine V_aload_n hE dL_law_296 rfl ?_
  refine V_aload_n hE dL_law_297 rfl ?_
  refine V_iload_n hE dL_law_298 rfl ?_
  refine V_iconst hE dL_law_299 ?_
  refine V_iadd hE dL_law_300 ?_
  refine V_sld hX hE dL_law_301 (by omega) ?_
  refine V_aload_n hE dL_law_302 rfl ?_
  refine V_iload_n hE dL_law_303 rfl ?_
  refine V_iconst hE dL_law_304 ?_
  refine V_iadd hE dL_law_305 ?_
  refine V_sld hX hE dL_law_306 (by omega) ?_
  refine V_aload_n hE dL_law_307 rfl ?_
  refine V_iload_n hE dL_law_308 rfl ?_
  refine V_iconst hE dL_law_309 ?_
  refine V_iadd hE dL_law_310 ?_
  refine V_sld hX hE dL_law_311 (by omega) ?_
  refine cl_L_32 hE rfl dL_law_312 (c_X4_ofPoint hR.1 (by omega)) rfl rfl ?_
  rintro r1 σ1 ⟨h1, hs1⟩
  subst hs1
  obtain ⟨hA, hM1⟩ := AsC_of hR Fr_rf (ks := []) (by decide)
  refine V_aload_n hE dL_law_315 rfl ?_
  refine V_aload_n hE dL_law_316 rfl ?_
  refine V_iload_n hE dL_law_317 rfl ?_
  refine V_iconst hE dL_law_318 ?_
  refine V_iadd hE dL_law_319 ?_
  refine V_sld hX hE dL_law_320 (by omega) ?_
  refine V_aload_n hE dL_law_321 rfl ?_
  refine V_iload_n hE dL_law_322 rfl ?_
  refine V_iconst hE dL_law_323 ?_
  refine V_iadd hE dL_law_324 ?_
  refine V_sld hX hE dL_law_325 (by omega) ?_
  refine V_aload_n hE dL_law_326 rfl ?_
  refine V_iload_n hE dL_law_327 rfl ?_
  refine V_iconst hE dL_law_328 ?_
  refine V_iadd hE dL_law_329 ?_
  refine V_sld hX hE dL_law_330 (by omega) ?_
  refine cl_L_35 hE rfl dL_law_331 (c_X5_ofPoint hM1 (by omega)) rfl rfl ?_
  rintro r2 σ2 ⟨h2, hs2⟩
  subst hs2
  have er : r1 = r2 := by
    rw [h1, h2]
    obtain ⟨m1, m2, m3, m4, m5, m6, m7, m8, m9⟩ := hA
    simp only [m1, m2, m3, m4, m5, m6, m7, m8, m9]
  subst er
  refine V_icmp_same hE 818 dL_law_334 (by decide) ?_
  refine hk _ ?_
  exact hR
set_option maxRecDepth 100000 in
set_option maxHeartbeats 4000000 in
theorem lw_524 {K : Ctx} {E : ME} {b Ln : Nat} {xs : Nat → Int32} {σ : Sto} {i : Int} (hX : ScX E b Ln xs) (hi : (0 ≤ i ∧ i + 4 ≤ Ln) ∧ Ln ≤ 2048) (hR : Rel σ) (hE : Ok K E mL_law 11) (hk : ∀ σ' : Sto, Rel σ' → V K E mL_law 818 [some (.ref b), some (.ref (kA K 0)), some (.ref (kA K 19)), some (.int (i32 i))] [] σ') : V K E mL_law 524 [some (.ref b), some (.ref (kA K 0)), some (.ref (kA K 19)), some (.int (i32 i))] [] σ := by
  have a1 := i32_rng (xs (i + 1).toNat)
  have a2 := i32_rng (xs (i + 2).toNat)
  refine V_aload_n hE dL_law_524 rfl ?_
  refine V_aload_n hE dL_law_525 rfl ?_
  refine V_iload_n hE dL_law_526 rfl ?_
  refine V_iconst hE dL_law_527 ?_
  refine V_iadd hE dL_law_528 ?_
  refine V_sld hX hE dL_law_529 (by omega) ?_
  refine V_aload_n hE dL_law_530 rfl ?_
  refine V_iload_n hE dL_law_531 rfl ?_
  refine V_iconst hE dL_law_532 ?_
  refine V_iadd hE dL_law_533 ?_
  refine V_sld hX hE dL_law_534 (by omega) ?_
  refine cl_L_57 hE rfl dL_law_535 (c_X4_fair hR.1 (by omega)) rfl rfl ?_
  rintro r1 σ1 ⟨h1, hs1, g1⟩
  obtain ⟨hA, hM1⟩ := AsC_of hR hs1.1 (by decide)
  refine V_aload_n hE dL_law_538 rfl ?_
  refine V_aload_n hE dL_law_539 rfl ?_
  refine V_iload_n hE dL_law_540 rfl ?_
  refine V_iconst hE dL_law_541 ?_
  refine V_iadd hE dL_law_542 ?_
  refine V_sld hX hE dL_law_543 (by omega) ?_
  refine V_aload_n hE dL_law_544 rfl ?_
  refine V_iload_n hE dL_law_545 rfl ?_
  refine V_iconst hE dL_law_546 ?_
  refine V_iadd hE dL_law_547 ?_
  refine V_sld hX hE dL_law_548 (by omega) ?_
  refine cl_L_60 hE rfl dL_law_549 (c_X5_fair hM1 (by omega)) rfl rfl ?_
  rintro r2 σ2 ⟨h2, hs2, g2⟩
  have er : r1 = r2 := by
    rw [h1, h2]
    obtain ⟨m1, m2, m3, m4, m5, m6, m7, m8, m9⟩ := hA
    simp only [m1, m2, m3, m4, m5, m6, m7, m8, m9]
  subst er
  refine V_icmp_same hE 818 dL_law_552 (by decide) ?_
  refine hk _ ?_
  
  have hrg : Rng (σ1 8) := by
    rw [g1]
    obtain ⟨hS, hW, hB, hRe, hLo, hHi, hO, hPu, hHe, hSc⟩ := hR.1
    by_cases hc : refS (σ 100 0) (σ 101 0) (xs (i + 1).toNat).toInt (xs (i + 2).toNat).toInt < 0
    · rw [if_pos hc]; exact hO
    · rw [if_neg hc]
      exact fairO_rng hS hW hRe (by unfold refS at hc; omega) (by unfold refS at hc; omega) hO
  refine Rel_f hR hs1 hrg hs2 ?_
  obtain ⟨m1, m2, m3, m4, m5, m6, m7, m8, m9⟩ := hA
  rw [g1, g2, m1, m3, m4, m5, m6, m7]
theorem rrS_rng {h : Nat → Int} {S W bn r : Int} (hS : 5 ≤ S ∧ S ≤ 9) (hW : 4 ≤ W ∧ W ≤ 7) (hr : 0 ≤ r ∧ r ≤ 3) (k : Nat) {o : Nat → Int} (ho : Rng o) : Rng (rrS h S W bn r k o).2 := by
  induction k generalizing o with
  | zero => rw [rrS]; exact roundO_rng hS hW hr ho
  | succ k ih =>
    rw [rrS]
    split
    · exact ih (roundO_rng hS hW hr ho)
    · exact roundO_rng hS hW hr ho
set_option maxRecDepth 100000 in
set_option maxHeartbeats 4000000 in
theorem lw_557 {K : Ctx} {E : ME} {b Ln : Nat} {xs : Nat → Int32} {σ : Sto} {i : Int} (hX : ScX E b Ln xs) (hi : (0 ≤ i ∧ i + 4 ≤ Ln) ∧ Ln ≤ 2048) (hR : Rel σ) (hE : Ok K E mL_law 11) (hk : ∀ σ' : Sto, Rel σ' → V K E mL_law 818 [some (.ref b), some (.ref (kA K 0)), some (.ref (kA K 19)), some (.int (i32 i))] [] σ') : V K E mL_law 557 [some (.ref b), some (.ref (kA K 0)), some (.ref (kA K 19)), some (.int (i32 i))] [] σ := by
  have a1 := i32_rng (xs (i + 1).toNat)
  refine V_aload_n hE dL_law_557 rfl ?_
  refine V_aload_n hE dL_law_558 rfl ?_
  refine V_iload_n hE dL_law_559 rfl ?_
  refine V_iconst hE dL_law_560 ?_
  refine V_iadd hE dL_law_561 ?_
  refine V_sld hX hE dL_law_562 (by omega) ?_
  refine cl_L_61 hE rfl dL_law_563 (c_X4_rounds hR.1 (by omega)) rfl rfl ?_
  rintro r1 σ1 ⟨h1, hs1, g1⟩
  obtain ⟨hA, hM1⟩ := AsC_of hR hs1.1 (by decide)
  refine V_aload_n hE dL_law_566 rfl ?_
  refine V_aload_n hE dL_law_567 rfl ?_
  refine V_iload_n hE dL_law_568 rfl ?_
  refine V_iconst hE dL_law_569 ?_
  refine V_iadd hE dL_law_570 ?_
  refine V_sld hX hE dL_law_571 (by omega) ?_
  refine cl_L_64 hE rfl dL_law_572 (c_X5_rounds hM1 (by omega)) rfl rfl ?_
  rintro r2 σ2 ⟨h2, hs2, g2⟩
  have er : r1 = r2 := by
    rw [h1, h2]
    obtain ⟨m1, m2, m3, m4, m5, m6, m7, m8, m9⟩ := hA
    simp only [m1, m2, m3, m4, m5, m6, m7, m8, m9]
  subst er
  refine V_icmp_same hE 818 dL_law_575 (by decide) ?_
  refine hk _ ?_
  
  have hrg : Rng (σ1 8) := by
    rw [g1]
    obtain ⟨hS, hW, hB, hRe, hLo, hHi, hO, hPu, hHe, hSc⟩ := hR.1
    split
    · exact rrS_rng hS hW hRe _ hO
    · exact hO
  refine Rel_f hR hs1 hrg hs2 ?_
  obtain ⟨m1, m2, m3, m4, m5, m6, m7, m8, m9⟩ := hA
  rw [g1, g2, m1, m3, m4, m5, m6, m7]
