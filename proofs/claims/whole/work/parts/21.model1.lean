set_option maxRecDepth 100000 in
set_option maxHeartbeats 4000000 in
theorem c_X5_far {K : Ctx} {σ : Sto} {v : Int} (hv : InI v) : CtI K mX5_far 0 [.int (i32 v)] σ (fun r σ' => r = ((v.natAbs : Nat) : Int) ∧ σ' = σ) := by
  refine CtI_of (L := [some (.int (i32 v))]) (by decide) rfl rfl rfl ?_
  intro E hE hR
  refine V_iload_n hE dX5_far_0 rfl ?_
  refine V_if_ge hE 9 dX5_far_1 (by decide) (by omega) (fun h1 => ?_) (fun h1 => ?_)
  · refine V_iload_n hE dX5_far_9 rfl ?_
    refine V_ireturn hR dX5_far_10 ?_
    exact ⟨by omega, rfl⟩
  · refine V_iload_n hE dX5_far_4 rfl ?_
    refine V_ineg hE dX5_far_5 ?_
    refine V_goto hE 10 dX5_far_6 (by decide) ?_
    refine V_ireturn hR dX5_far_10 ?_
    exact ⟨by omega, rfl⟩
set_option maxRecDepth 100000 in
set_option maxHeartbeats 4000000 in
theorem c_X5_within {K : Ctx} {σ : Sto} {v a b : Int} (hv : InL v ∧ InL a ∧ InL b) : CtI K mX5_within 0 [.long (i64 v), .long (i64 a), .long (i64 b)] σ (fun r σ' => r = (if a ≤ v ∧ v ≤ b then 1 else 0) ∧ σ' = σ) := by
  refine CtZ_of (L := [some (.long (i64 v)), none, some (.long (i64 a)), none, some (.long (i64 b)), none]) (by decide) rfl rfl rfl ?_
  intro E hE hR
  refine V_lload_n hE dX5_within_0 rfl ?_
  refine V_lload_n hE dX5_within_1 rfl ?_
  refine V_lcmp_lt hE 17 dX5_within_2 dX5_within_3 (by decide) (by omega) (fun h2 => ?_) (fun h2 => ?_)
  · refine V_iconst hE dX5_within_17 ?_
    refine V_zreturn hR dX5_within_18 (by omega) ?_
    exact ⟨by omega, rfl⟩
  · refine V_lload_n hE dX5_within_6 rfl ?_
    refine V_lload hE dX5_within_7 rfl ?_
    refine V_lcmp_gt hE 17 dX5_within_9 dX5_within_10 (by decide) (by omega) (fun h9 => ?_) (fun h9 => ?_)
    · refine V_iconst hE dX5_within_17 ?_
      refine V_zreturn hR dX5_within_18 (by omega) ?_
      exact ⟨by omega, rfl⟩
    · refine V_iconst hE dX5_within_13 ?_
      refine V_goto hE 18 dX5_within_14 (by decide) ?_
      refine V_zreturn hR dX5_within_18 (by omega) ?_
      exact ⟨by omega, rfl⟩
set_option maxRecDepth 100000 in
set_option maxHeartbeats 4000000 in
theorem c_X5_isOffset {K : Ctx} {σ : Sto} {v : Int} (hv : InI v) : CtI K mX5_isOffset 1 [.int (i32 v)] σ (fun r σ' => r = (if 0 ≤ v ∧ v ≤ 999 then 1 else 0) ∧ σ' = σ) := by
  refine CtZ_of (L := [some (.int (i32 v))]) (by decide) rfl rfl rfl ?_
  intro E hE hR
  refine V_iload_n hE dX5_isOffset_0 rfl ?_
  refine V_i2l hE dX5_isOffset_1 (by omega) ?_
  refine V_lconst0 hE dX5_isOffset_2 ?_
  refine V_ldc2 hE tw_cl_X5_71 dX5_isOffset_3 ?_
  refine cf_X5_67 hE rfl dX5_isOffset_6 (c_X5_within (by omega)) rfl rfl ?_
  refine V_zreturn hR dX5_isOffset_9 (by omega) ?_
  exact ⟨by omega, rfl⟩
set_option maxRecDepth 100000 in
set_option maxHeartbeats 4000000 in
theorem c_X5_isPoint {K : Ctx} {σ : Sto} {s l : Int} (hI : IM σ) (hs : InI s ∧ InI l) : CtI K mX5_isPoint 1 [.ref (kA K 19), .int (i32 s), .int (i32 l)] σ (fun r σ' => r = (if 0 ≤ s ∧ s < σ 110 0 ∧ 0 ≤ l ∧ l < σ 111 0 then 1 else 0) ∧ σ' = σ) := by
  obtain ⟨hS, hW, hB, hRe, hLo, hHi, hO, hPu, hHe, hAt⟩ := hI
  refine CtZ_of (L := [some (.ref (kA K 19)), some (.int (i32 s)), some (.int (i32 l))]) (by decide) rfl rfl rfl ?_
  intro E hE hR
  refine V_iload_n hE dX5_isPoint_0 rfl ?_
  refine V_i2l hE dX5_isPoint_1 (by omega) ?_
  refine V_lconst0 hE dX5_isPoint_2 ?_
  refine V_aload_n hE dX5_isPoint_3 rfl ?_
  refine gf_X5_61 hE rfl dX5_isPoint_4 ?_
  refine V_iconst hE dX5_isPoint_7 ?_
  refine V_isub hE dX5_isPoint_8 ?_
  refine V_i2l hE dX5_isPoint_9 (by omega) ?_
  refine cf_X5_67 hE rfl dX5_isPoint_10 (c_X5_within (by omega)) rfl rfl ?_
  refine V_if_eq hE 36 dX5_isPoint_13 (by decide) (by omega) (fun h13 => ?_) (fun h13 => ?_)
  · refine V_iconst hE dX5_isPoint_36 ?_
    refine V_zreturn hR dX5_isPoint_37 (by omega) ?_
    exact ⟨by omega, rfl⟩
  · refine V_iload_n hE dX5_isPoint_16 rfl ?_
    refine V_i2l hE dX5_isPoint_17 (by omega) ?_
    refine V_lconst0 hE dX5_isPoint_18 ?_
    refine V_aload_n hE dX5_isPoint_19 rfl ?_
    refine gf_X5_64 hE rfl dX5_isPoint_20 ?_
    refine V_iconst hE dX5_isPoint_23 ?_
    refine V_isub hE dX5_isPoint_24 ?_
    refine V_i2l hE dX5_isPoint_25 (by omega) ?_
    refine cf_X5_67 hE rfl dX5_isPoint_26 (c_X5_within (by omega)) rfl rfl ?_
    refine V_if_eq hE 36 dX5_isPoint_29 (by decide) (by omega) (fun h29 => ?_) (fun h29 => ?_)
    · refine V_iconst hE dX5_isPoint_36 ?_
      refine V_zreturn hR dX5_isPoint_37 (by omega) ?_
      exact ⟨by omega, rfl⟩
    · refine V_iconst hE dX5_isPoint_32 ?_
      refine V_goto hE 37 dX5_isPoint_33 (by decide) ?_
      refine V_zreturn hR dX5_isPoint_37 (by omega) ?_
      exact ⟨by omega, rfl⟩
set_option maxRecDepth 100000 in
set_option maxHeartbeats 4000000 in
theorem c_X5_isView {K : Ctx} {σ : Sto} {v : Int} (hv : InI v) : CtI K mX5_isView 0 [.int (i32 v)] σ (fun r σ' => r = (if v = 0 ∨ v = 1 then 1 else 0) ∧ σ' = σ) := by
  refine CtZ_of (L := [some (.int (i32 v))]) (by decide) rfl rfl rfl ?_
  intro E hE hR
  refine V_iload_n hE dX5_isView_0 rfl ?_
  refine V_if_eq hE 9 dX5_isView_1 (by decide) (by omega) (fun h1 => ?_) (fun h1 => ?_)
  · refine V_iconst hE dX5_isView_9 ?_
    refine V_goto hE 14 dX5_isView_10 (by decide) ?_
    refine V_zreturn hR dX5_isView_14 (by omega) ?_
    exact ⟨by omega, rfl⟩
  · refine V_iload_n hE dX5_isView_4 rfl ?_
    refine V_iconst hE dX5_isView_5 ?_
    refine V_icmp_ne hE 13 dX5_isView_6 (by decide) (by omega) (fun h6 => ?_) (fun h6 => ?_)
    · refine V_iconst hE dX5_isView_13 ?_
      refine V_zreturn hR dX5_isView_14 (by omega) ?_
      exact ⟨by omega, rfl⟩
    · refine V_iconst hE dX5_isView_9 ?_
      refine V_goto hE 14 dX5_isView_10 (by decide) ?_
      refine V_zreturn hR dX5_isView_14 (by omega) ?_
      exact ⟨by omega, rfl⟩
set_option maxRecDepth 100000 in
set_option maxHeartbeats 4000000 in
theorem c_X5_isWhich {K : Ctx} {σ : Sto} {v : Int} (hv : InI v) : CtI K mX5_isWhich 0 [.int (i32 v)] σ (fun r σ' => r = (if v = 0 ∨ v = 1 then 1 else 0) ∧ σ' = σ) := by
  refine CtZ_of (L := [some (.int (i32 v))]) (by decide) rfl rfl rfl ?_
  intro E hE hR
  refine V_iload_n hE dX5_isWhich_0 rfl ?_
  refine V_if_eq hE 9 dX5_isWhich_1 (by decide) (by omega) (fun h1 => ?_) (fun h1 => ?_)
  · refine V_iconst hE dX5_isWhich_9 ?_
    refine V_goto hE 14 dX5_isWhich_10 (by decide) ?_
    refine V_zreturn hR dX5_isWhich_14 (by omega) ?_
    exact ⟨by omega, rfl⟩
  · refine V_iload_n hE dX5_isWhich_4 rfl ?_
    refine V_iconst hE dX5_isWhich_5 ?_
    refine V_icmp_ne hE 13 dX5_isWhich_6 (by decide) (by omega) (fun h6 => ?_) (fun h6 => ?_)
    · refine V_iconst hE dX5_isWhich_13 ?_
      refine V_zreturn hR dX5_isWhich_14 (by omega) ?_
      exact ⟨by omega, rfl⟩
    · refine V_iconst hE dX5_isWhich_9 ?_
      refine V_goto hE 14 dX5_isWhich_10 (by decide) ?_
      refine V_zreturn hR dX5_isWhich_14 (by omega) ?_
      exact ⟨by omega, rfl⟩
set_option maxRecDepth 100000 in
set_option maxHeartbeats 4000000 in
theorem c_X5_isBreadth {K : Ctx} {σ : Sto} {v : Int} (hv : InI v) : CtI K mX5_isBreadth 1 [.int (i32 v)] σ (fun r σ' => r = (if 1 ≤ v ∧ v ≤ 999 then 1 else 0) ∧ σ' = σ) := by
  refine CtZ_of (L := [some (.int (i32 v))]) (by decide) rfl rfl rfl ?_
  intro E hE hR
  refine V_iload_n hE dX5_isBreadth_0 rfl ?_
  refine V_i2l hE dX5_isBreadth_1 (by omega) ?_
  refine V_lconst1 hE dX5_isBreadth_2 ?_
  refine V_ldc2 hE tw_cl_X5_71 dX5_isBreadth_3 ?_
  refine cf_X5_67 hE rfl dX5_isBreadth_6 (c_X5_within (by omega)) rfl rfl ?_
  refine V_zreturn hR dX5_isBreadth_9 (by omega) ?_
  exact ⟨by omega, rfl⟩
set_option maxRecDepth 100000 in
set_option maxHeartbeats 4000000 in
theorem c_X5_linesOf {K : Ctx} {σ : Sto} {v : Int} (hv : InI v) : CtI K mX5_linesOf 0 [.ref (kA K 19), .int (i32 v)] σ (fun r σ' => r = (if v = 0 then σ 111 0 else σ 110 0) ∧ σ' = σ) := by
  refine CtI_of (L := [some (.ref (kA K 19)), some (.int (i32 v))]) (by decide) rfl rfl rfl ?_
  intro E hE hR
  refine V_iload_n hE dX5_linesOf_0 rfl ?_
  refine V_if_ne hE 11 dX5_linesOf_1 (by decide) (by omega) (fun h1 => ?_) (fun h1 => ?_)
  · refine V_aload_n hE dX5_linesOf_11 rfl ?_
    refine gf_X5_61 hE rfl dX5_linesOf_12 ?_
    refine V_ireturn hR dX5_linesOf_15 ?_
    exact ⟨by omega, rfl⟩
  · refine V_aload_n hE dX5_linesOf_4 rfl ?_
    refine gf_X5_64 hE rfl dX5_linesOf_5 ?_
    refine V_goto hE 15 dX5_linesOf_8 (by decide) ?_
    refine V_ireturn hR dX5_linesOf_15 ?_
    exact ⟨by omega, rfl⟩
set_option maxRecDepth 100000 in
set_option maxHeartbeats 4000000 in
theorem c_X5_isLine {K : Ctx} {σ : Sto} {v k : Int} (hI : IM σ) (hv : InI v ∧ InI k) : CtI K mX5_isLine 1 [.ref (kA K 19), .int (i32 v), .int (i32 k)] σ (fun r σ' => r = (if 0 ≤ k ∧ k < (if v = 0 then σ 111 0 else σ 110 0) then 1 else 0) ∧ σ' = σ) := by
  obtain ⟨hS, hW, hB, hRe, hLo, hHi, hO, hPu, hHe, hAt⟩ := hI
  refine CtZ_of (L := [some (.ref (kA K 19)), some (.int (i32 v)), some (.int (i32 k))]) (by decide) rfl rfl rfl ?_
  intro E hE hR
  refine V_iload_n hE dX5_isLine_0 rfl ?_
  refine V_i2l hE dX5_isLine_1 (by omega) ?_
  refine V_lconst0 hE dX5_isLine_2 ?_
  refine V_aload_n hE dX5_isLine_3 rfl ?_
  refine V_iload_n hE dX5_isLine_4 rfl ?_
  refine cf_X5_93 hE rfl dX5_isLine_5 (c_X5_linesOf hv.1) rfl rfl ?_
  refine V_iconst hE dX5_isLine_8 ?_
  refine V_isub hE dX5_isLine_9 ?_
  refine V_i2l hE dX5_isLine_10 (by omega) ?_
  refine cf_X5_67 hE rfl dX5_isLine_11 (c_X5_within (by omega)) rfl rfl ?_
  refine V_zreturn hR dX5_isLine_14 (by omega) ?_
  exact ⟨by omega, rfl⟩
set_option maxRecDepth 100000 in
set_option maxHeartbeats 4000000 in
theorem c_X5_bendAt {K : Ctx} {σ : Sto} {i : Int} (hi : 1 ≤ i ∧ i ≤ 7) : CtI K mX5_bendAt 0 [.ref (kA K 19), .int (i32 i)] σ (fun r σ' => r = bd (σ 24) i ∧ σ' = σ) := by
  refine CtI_of (L := [some (.ref (kA K 19)), some (.int (i32 i))]) (by decide) rfl rfl rfl ?_
  intro E hE hR
  refine V_aload_n hE dX5_bendAt_0 rfl ?_
  refine gf_X5_36 hE rfl dX5_bendAt_1 ?_
  refine V_iload_n hE dX5_bendAt_4 rfl ?_
  refine V_iconst hE dX5_bendAt_5 ?_
  refine V_isub hE dX5_bendAt_6 ?_
  refine V_iaload hE dX5_bendAt_7 rfl (by omega) ?_
  refine V_aload_n hE dX5_bendAt_8 rfl ?_
  refine gf_X5_36 hE rfl dX5_bendAt_9 ?_
  refine V_iload_n hE dX5_bendAt_12 rfl ?_
  refine V_iconst hE dX5_bendAt_13 ?_
  refine V_iadd hE dX5_bendAt_14 ?_
  refine V_iaload hE dX5_bendAt_15 rfl (by omega) ?_
  refine V_iadd hE dX5_bendAt_16 ?_
  refine V_iconst hE dX5_bendAt_17 ?_
  refine V_aload_n hE dX5_bendAt_18 rfl ?_
  refine gf_X5_36 hE rfl dX5_bendAt_19 ?_
  refine V_iload_n hE dX5_bendAt_22 rfl ?_
  refine V_iaload hE dX5_bendAt_23 rfl (by omega) ?_
  refine V_imul hE dX5_bendAt_24 ?_
  refine V_isub hE dX5_bendAt_25 ?_
  refine V_ireturn hR dX5_bendAt_26 ?_
  exact ⟨rfl, rfl⟩
set_option maxRecDepth 100000 in
set_option maxHeartbeats 4000000 in
theorem c_X5_jumpAt {K : Ctx} {σ : Sto} {i : Int} (hi : 1 ≤ i ∧ i ≤ 6) : CtI K mX5_jumpAt 1 [.ref (kA K 19), .int (i32 i)] σ (fun r σ' => r = jm (σ 24) i ∧ σ' = σ) := by
  refine CtI_of (L := [some (.ref (kA K 19)), some (.int (i32 i))]) (by decide) rfl rfl rfl ?_
  intro E hE hR
  refine V_aload_n hE dX5_jumpAt_0 rfl ?_
  refine V_iload_n hE dX5_jumpAt_1 rfl ?_
  refine V_iconst hE dX5_jumpAt_2 ?_
  refine V_iadd hE dX5_jumpAt_3 ?_
  refine cf_X5_100 hE rfl dX5_jumpAt_4 (c_X5_bendAt (by omega)) rfl rfl ?_
  refine V_aload_n hE dX5_jumpAt_7 rfl ?_
  refine V_iload_n hE dX5_jumpAt_8 rfl ?_
  refine cf_X5_100 hE rfl dX5_jumpAt_9 (c_X5_bendAt (by omega)) rfl rfl ?_
  refine V_isub hE dX5_jumpAt_12 ?_
  refine V_ireturn hR dX5_jumpAt_13 ?_
  exact ⟨rfl, rfl⟩
set_option maxRecDepth 100000 in
set_option maxHeartbeats 4000000 in
theorem c_X5_triple {K : Ctx} {σ : Sto} {a b c : Int} : CtI K mX5_triple 0 [.int (i32 a), .int (i32 b), .int (i32 c)] σ (fun r σ' => r = 49 * (a + 3) + 7 * (b + 3) + c + 3 ∧ σ' = σ) := by
  refine CtI_of (L := [some (.int (i32 a)), some (.int (i32 b)), some (.int (i32 c))]) (by decide) rfl rfl rfl ?_
  intro E hE hR
  refine V_bipush hE dX5_triple_0 (by decide) ?_
  refine V_iload_n hE dX5_triple_2 rfl ?_
  refine V_iconst hE dX5_triple_3 ?_
  refine V_iadd hE dX5_triple_4 ?_
  refine V_imul hE dX5_triple_5 ?_
  refine V_bipush hE dX5_triple_6 (by decide) ?_
  refine V_iload_n hE dX5_triple_8 rfl ?_
  refine V_iconst hE dX5_triple_9 ?_
  refine V_iadd hE dX5_triple_10 ?_
  refine V_imul hE dX5_triple_11 ?_
  refine V_iadd hE dX5_triple_12 ?_
  refine V_iload_n hE dX5_triple_13 rfl ?_
  refine V_iadd hE dX5_triple_14 ?_
  refine V_iconst hE dX5_triple_15 ?_
  refine V_iadd hE dX5_triple_16 ?_
  refine V_ireturn hR dX5_triple_17 ?_
  exact ⟨rfl, rfl⟩
def LaysQ (σ : Sto) (v k : Int) (σ' : Sto) : Prop := Fr [116, 23, 24] σ σ' ∧ σ' 116 0 = (if v = 0 then σ 110 0 else σ 111 0) ∧ (∀ i : Nat, (i : Int) < (if v = 0 then σ 110 0 else σ 111 0) → σ' 23 i = pt v k i ∧ σ' 24 i = σ 20 (pt v k i).toNat) ∧ Rng (σ' 24)
set_option maxRecDepth 100000 in
set_option maxHeartbeats 4000000 in
theorem lp_X5_lays_21 {K : Ctx} {E : ME} {σ : Sto} {v k : Int} (hI : IM σ) (hv : (v = 0 ∨ v = 1) ∧ 0 ≤ k ∧ k < (if v = 0 then σ 111 0 else σ 110 0)) (hE : Ok K E mX5_lays 0) (hR : RetV K E mX5_lays (fun σ' => LaysQ σ v k σ')) : ∀ (n : Nat) (i : Int) (σ1 : Sto), (if v = 0 then σ 110 0 else σ 111 0) - i < n → (0 ≤ i ∧ i ≤ (if v = 0 then σ 110 0 else σ 111 0)) → (Fr [116, 23, 24] σ σ1) → (σ1 116 0 = (if v = 0 then σ 110 0 else σ 111 0)) → (∀ j : Nat, (j : Int) < i → σ1 23 j = pt v k j ∧ σ1 24 j = σ 20 (pt v k j).toNat) → (Rng (σ1 24)) → V K E mX5_lays 21 [some (.ref (kA K 19)), some (.int (i32 v)), some (.int (i32 k)), some (.int (i32 i))] [] σ1 := by
  intro n
  induction n with
  | zero =>
    intro i σ1 hm hi hF h116 hj hr
    exfalso; omega
  | succ n ih =>
    intro i σ1 hm hi hF h116 hj hr
    obtain ⟨hS, hW, hB, hRe, hLo, hHi, hO, hPu, hHe, hAt⟩ := hI
    refine V_iload_n hE dX5_lays_21 rfl ?_
    refine V_aload_n hE dX5_lays_22 rfl ?_
    refine gf_X5_97 hE rfl dX5_lays_23 ?_
    refine V_icmp_ge hE 77 dX5_lays_26 (by decide) (by omega) (fun h26 => ?_) (fun h26 => ?_)
    · refine V_return hR dX5_lays_77 ?_
      exact ⟨hF, h116, fun j hj1 => hj j (by omega), hr⟩
    · refine V_aload_n hE dX5_lays_29 rfl ?_
      refine gf_X5_33 hE rfl dX5_lays_30 ?_
      refine V_iload_n hE dX5_lays_33 rfl ?_
      refine V_iload_n hE dX5_lays_34 rfl ?_
      refine V_if_ne hE 47 dX5_lays_35 (by decide) (by omega) (fun h35 => ?_) (fun h35 => ?_)
      · refine V_bipush hE dX5_lays_47 (by decide) ?_
        refine V_iload_n hE dX5_lays_49 rfl ?_
        refine V_imul hE dX5_lays_50 ?_
        refine V_iload_n hE dX5_lays_51 rfl ?_
        refine V_iadd hE dX5_lays_52 ?_
        refine V_iastore hE dX5_lays_53 rfl (by omega) ?_
        refine V_aload_n hE dX5_lays_54 rfl ?_
        refine gf_X5_36 hE rfl dX5_lays_55 ?_
        refine V_iload_n hE dX5_lays_58 rfl ?_
        refine V_aload_n hE dX5_lays_59 rfl ?_
        refine gf_X5_22 hE rfl dX5_lays_60 ?_
        refine V_aload_n hE dX5_lays_63 rfl ?_
        refine gf_X5_33 hE rfl dX5_lays_64 ?_
        refine V_iload_n hE dX5_lays_67 rfl ?_
        refine V_iaload hE dX5_lays_68 rfl (by omega) ?_
        rw [up_self]
        refine V_iaload hE dX5_lays_69 rfl (by omega) ?_
        rw [up_ne _ _ _ (by decide : 20 ≠ 23)]
        refine V_iastore hE dX5_lays_70 rfl (by omega) ?_
        refine V_iinc hE dX5_lays_71 rfl rfl ?_
        refine V_goto hE 21 dX5_lays_74 (by decide) ?_
        refine ih _ _ (by omega) (by omega) (Fr_up (Fr_up hF (by decide)) (by decide)) ?_ ?_ ?_
        · simp only [up]; simpa using h116
        · intro j hj1
          have e20 : σ1 20 = σ 20 := hF 20 (by decide)
          by_cases e : j = i.toNat
          · subst e
            have e2 : ((i.toNat : Nat) : Int) = i := by omega
            simp [up, pt, h35, e2, e20]
          · have h9 := hj j (by omega)
            simp [up, e]
            exact h9
        · refine Rng_up ?_ ?_
          · rw [up_ne _ _ _ (by decide : 24 ≠ 23)]; exact hr
          · rw [hF 20 (by decide)]; exact hO _
      · refine V_bipush hE dX5_lays_38 (by decide) ?_
        refine V_iload_n hE dX5_lays_40 rfl ?_
        refine V_imul hE dX5_lays_41 ?_
        refine V_iload_n hE dX5_lays_42 rfl ?_
        refine V_iadd hE dX5_lays_43 ?_
        refine V_goto hE 53 dX5_lays_44 (by decide) ?_
        refine V_iastore hE dX5_lays_53 rfl (by omega) ?_
        refine V_aload_n hE dX5_lays_54 rfl ?_
        refine gf_X5_36 hE rfl dX5_lays_55 ?_
        refine V_iload_n hE dX5_lays_58 rfl ?_
        refine V_aload_n hE dX5_lays_59 rfl ?_
        refine gf_X5_22 hE rfl dX5_lays_60 ?_
        refine V_aload_n hE dX5_lays_63 rfl ?_
        refine gf_X5_33 hE rfl dX5_lays_64 ?_
        refine V_iload_n hE dX5_lays_67 rfl ?_
        refine V_iaload hE dX5_lays_68 rfl (by omega) ?_
        rw [up_self]
        refine V_iaload hE dX5_lays_69 rfl (by omega) ?_
        rw [up_ne _ _ _ (by decide : 20 ≠ 23)]
        refine V_iastore hE dX5_lays_70 rfl (by omega) ?_
        refine V_iinc hE dX5_lays_71 rfl rfl ?_
        refine V_goto hE 21 dX5_lays_74 (by decide) ?_
        refine ih _ _ (by omega) (by omega) (Fr_up (Fr_up hF (by decide)) (by decide)) ?_ ?_ ?_
        · simp only [up]; simpa using h116
        · intro j hj1
          have e20 : σ1 20 = σ 20 := hF 20 (by decide)
          by_cases e : j = i.toNat
          · subst e
            have e2 : ((i.toNat : Nat) : Int) = i := by omega
            simp [up, pt, h35, e2, e20]
          · have h9 := hj j (by omega)
            simp [up, e]
            exact h9
        · refine Rng_up ?_ ?_
          · rw [up_ne _ _ _ (by decide : 24 ≠ 23)]; exact hr
          · rw [hF 20 (by decide)]; exact hO _
set_option maxRecDepth 100000 in
set_option maxHeartbeats 4000000 in
theorem c_X5_lays {K : Ctx} {σ : Sto} {v k : Int} (hI : IM σ) (hv : (v = 0 ∨ v = 1) ∧ 0 ≤ k ∧ k < (if v = 0 then σ 111 0 else σ 110 0)) : CtV K mX5_lays 0 [.ref (kA K 19), .int (i32 v), .int (i32 k)] σ (fun σ' => LaysQ σ v k σ') := by
  refine CtV_of (L := [some (.ref (kA K 19)), some (.int (i32 v)), some (.int (i32 k)), none]) (by decide) rfl rfl rfl ?_
  intro E hE hR
  refine V_aload_n hE dX5_lays_0 rfl ?_
  refine V_iload_n hE dX5_lays_1 rfl ?_
  refine V_if_ne hE 12 dX5_lays_2 (by decide) (by omega) (fun h2 => ?_) (fun h2 => ?_)
  · refine V_aload_n hE dX5_lays_12 rfl ?_
    refine gf_X5_64 hE rfl dX5_lays_13 ?_
    refine pf_X5_97 hE rfl dX5_lays_16 ?_
    refine V_iconst hE dX5_lays_19 ?_
    refine V_istore_n hE dX5_lays_20 rfl ?_
    refine lp_X5_lays_21 hI hv hE hR 100 0 _ (by have := hI.1; have := hI.2.1; omega) (by have := hI.1; have := hI.2.1; omega) (Fr_up Fr_rf (by decide)) ?_ (fun j hj => by omega) ?_
    · simp [up, h2]
    · rw [up_ne _ _ _ (by decide : 24 ≠ 116)]; exact hI.2.2.2.2.2.2.2.2.2
  · refine V_aload_n hE dX5_lays_5 rfl ?_
    refine gf_X5_61 hE rfl dX5_lays_6 ?_
    refine V_goto hE 16 dX5_lays_9 (by decide) ?_
    refine pf_X5_97 hE rfl dX5_lays_16 ?_
    refine V_iconst hE dX5_lays_19 ?_
    refine V_istore_n hE dX5_lays_20 rfl ?_
    refine lp_X5_lays_21 hI hv hE hR 100 0 _ (by have := hI.1; have := hI.2.1; omega) (by have := hI.1; have := hI.2.1; omega) (Fr_up Fr_rf (by decide)) ?_ (fun j hj => by omega) ?_
    · simp [up, h2]
    · rw [up_ne _ _ _ (by decide : 24 ≠ 116)]; exact hI.2.2.2.2.2.2.2.2.2
