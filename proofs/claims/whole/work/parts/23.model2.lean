theorem LaysQ_sm {σ σ' : Sto} {v k : Int} (h : LaysQ σ v k σ') : SmM σ σ' := ⟨Fr_sub h.1 (by decide), h.2.2.2⟩
theorem LaysQ_ln {σ σ' : Sto} {v k : Int} (h : LaysQ σ v k σ') : ∀ i : Nat, (i : Int) < (if v = 0 then σ 110 0 else σ 111 0) → σ' 24 i = lnf (σ 20) v k i := fun i hi => (h.2.2.1 i hi).2
set_option maxRecDepth 100000 in
set_option maxHeartbeats 4000000 in
theorem c_X5_barred {K : Ctx} {σ : Sto} {v k i t : Int} (hI : IM σ) (hv : InI v ∧ InI k ∧ InI i ∧ 2 ≤ t ∧ t ≤ 3) : CtI K mX5_barred 2 [.ref (kA K 19), .int (i32 v), .int (i32 k), .int (i32 i), .int (i32 t)] σ (fun r σ' => r = barS (σ 110 0) (σ 111 0) v k i t ∧ SmM σ σ' ∧ (r = 0 → LaysQ σ v k σ')) := by
  obtain ⟨hS, hW, hB, hRe, hLo, hHi, hO, hPu, hHe, hAt⟩ := id hI
  refine CtI_of (L := [some (.ref (kA K 19)), some (.int (i32 v)), some (.int (i32 k)), some (.int (i32 i)), some (.int (i32 t))]) (by decide) rfl rfl rfl ?_
  intro E hE hR
  refine V_iload_n hE dX5_barred_0 rfl ?_
  refine cf_X5_103 hE rfl dX5_barred_1 (c_X5_isView (by omega)) rfl rfl ?_
  refine V_if_ne hE 10 dX5_barred_4 (by decide) (by omega) (fun h4 => ?_) (fun h4 => ?_)
  · refine V_aload_n hE dX5_barred_10 rfl ?_
    refine V_iload_n hE dX5_barred_11 rfl ?_
    refine V_iload_n hE dX5_barred_12 rfl ?_
    refine cf_X5_106 hE rfl dX5_barred_13 (c_X5_isLine hI (by omega)) rfl rfl ?_
    refine V_if_ne hE 21 dX5_barred_16 (by decide) (by omega) (fun h16 => ?_) (fun h16 => ?_)
    · refine V_aload_n hE dX5_barred_21 rfl ?_
      refine V_iload_n hE dX5_barred_22 rfl ?_
      refine V_iload_n hE dX5_barred_23 rfl ?_
      refine cl_X5_109 hE rfl dX5_barred_24 (c_X5_lays hI (by omega)) rfl rfl ?_
      rintro σ1 hq
      have e116 := hq.2.1
      refine V_iload_n hE dX5_barred_27 rfl ?_
      refine V_i2l hE dX5_barred_28 (by omega) ?_
      refine V_lconst1 hE dX5_barred_29 ?_
      refine V_aload_n hE dX5_barred_30 rfl ?_
      refine gf_X5_97 hE rfl dX5_barred_31 ?_
      refine V_iload hE dX5_barred_34 rfl ?_
      refine V_isub hE dX5_barred_36 ?_
      refine V_i2l hE dX5_barred_37 (by omega) ?_
      refine cf_X5_67 hE rfl dX5_barred_38 (c_X5_within (by omega)) rfl rfl ?_
      refine V_if_eq hE 48 dX5_barred_41 (by decide) (by omega) (fun h41 => ?_) (fun h41 => ?_)
      · refine V_bipush hE dX5_barred_48 (by decide) ?_
        refine V_ireturn hR dX5_barred_50 ?_
        exact ⟨by unfold barS; omega, LaysQ_sm hq, fun _ => hq⟩
      · refine V_iconst hE dX5_barred_44 ?_
        refine V_goto hE 50 dX5_barred_45 (by decide) ?_
        refine V_ireturn hR dX5_barred_50 ?_
        exact ⟨by unfold barS; omega, LaysQ_sm hq, fun _ => hq⟩
    · refine V_iconst hE dX5_barred_19 ?_
      refine V_ireturn hR dX5_barred_20 ?_
      exact ⟨by unfold barS; omega, SmM_rf hAt, fun h => by omega⟩
  · refine V_bipush hE dX5_barred_7 (by decide) ?_
    refine V_ireturn hR dX5_barred_9 ?_
    exact ⟨by unfold barS; omega, SmM_rf hAt, fun h => by omega⟩
set_option maxRecDepth 100000 in
set_option maxHeartbeats 4000000 in
theorem c_X5_bend {K : Ctx} {σ : Sto} {v k i : Int} (hI : IM σ) (hv : InI v ∧ InI k ∧ InI i) : CtI K mX5_bend 3 [.ref (kA K 19), .int (i32 v), .int (i32 k), .int (i32 i)] σ (fun r σ' => r = bendS (σ 20) (σ 110 0) (σ 111 0) v k i ∧ SmM σ σ') := by
  obtain ⟨hS, hW, hB, hRe, hLo, hHi, hO, hPu, hHe, hAt⟩ := id hI
  refine CtI_of (L := [some (.ref (kA K 19)), some (.int (i32 v)), some (.int (i32 k)), some (.int (i32 i)), none]) (by decide) rfl rfl rfl ?_
  intro E hE hR
  refine V_aload_n hE dX5_bend_0 rfl ?_
  refine V_iload_n hE dX5_bend_1 rfl ?_
  refine V_iload_n hE dX5_bend_2 rfl ?_
  refine V_iload_n hE dX5_bend_3 rfl ?_
  refine V_iconst hE dX5_bend_4 ?_
  refine cl_X5_113 hE rfl dX5_bend_5 (c_X5_barred hI (by omega)) rfl rfl ?_
  rintro r σ1 ⟨hr, hs, hq⟩
  have hb : r = -2 ∨ r = -1 ∨ (r = 0 ∧ 1 ≤ i ∧ i ≤ (if v = 0 then σ 110 0 else σ 111 0) - 2) := by unfold barS at hr; omega
  refine V_istore hE dX5_bend_8 rfl ?_
  refine V_iload hE dX5_bend_10 rfl ?_
  refine V_if_ge hE 20 dX5_bend_12 (by decide) (by omega) (fun h12 => ?_) (fun h12 => ?_)
  · refine V_aload_n hE dX5_bend_20 rfl ?_
    refine V_iload_n hE dX5_bend_21 rfl ?_
    refine cf_X5_100 hE rfl dX5_bend_22 (c_X5_bendAt (by omega)) rfl rfl ?_
    have e : bd (σ1 24) i = bd (lnf (σ 20) v k) i := bd_congr (LaysQ_ln (hq (by omega))) (by omega)
    refine V_ireturn hR dX5_bend_25 ?_
    exact ⟨by unfold bendS; rw [← hr]; first | rw [if_pos (by omega)] | (rw [if_neg (by omega)]; exact e), hs⟩
  · refine V_iload hE dX5_bend_15 rfl ?_
    refine V_goto hE 25 dX5_bend_17 (by decide) ?_
    refine V_ireturn hR dX5_bend_25 ?_
    exact ⟨by unfold bendS; rw [← hr]; first | rw [if_pos (by omega)] | (rw [if_neg (by omega)]; exact e), hs⟩
set_option maxRecDepth 100000 in
set_option maxHeartbeats 4000000 in
theorem c_X5_jump {K : Ctx} {σ : Sto} {v k i : Int} (hI : IM σ) (hv : InI v ∧ InI k ∧ InI i) : CtI K mX5_jump 3 [.ref (kA K 19), .int (i32 v), .int (i32 k), .int (i32 i)] σ (fun r σ' => r = jumpS (σ 20) (σ 110 0) (σ 111 0) v k i ∧ SmM σ σ') := by
  obtain ⟨hS, hW, hB, hRe, hLo, hHi, hO, hPu, hHe, hAt⟩ := id hI
  refine CtI_of (L := [some (.ref (kA K 19)), some (.int (i32 v)), some (.int (i32 k)), some (.int (i32 i)), none]) (by decide) rfl rfl rfl ?_
  intro E hE hR
  refine V_aload_n hE dX5_jump_0 rfl ?_
  refine V_iload_n hE dX5_jump_1 rfl ?_
  refine V_iload_n hE dX5_jump_2 rfl ?_
  refine V_iload_n hE dX5_jump_3 rfl ?_
  refine V_iconst hE dX5_jump_4 ?_
  refine cl_X5_113 hE rfl dX5_jump_5 (c_X5_barred hI (by omega)) rfl rfl ?_
  rintro r σ1 ⟨hr, hs, hq⟩
  have hb : r = -2 ∨ r = -1 ∨ (r = 0 ∧ 1 ≤ i ∧ i ≤ (if v = 0 then σ 110 0 else σ 111 0) - 3) := by unfold barS at hr; omega
  refine V_istore hE dX5_jump_8 rfl ?_
  refine V_iload hE dX5_jump_10 rfl ?_
  refine V_if_ge hE 20 dX5_jump_12 (by decide) (by omega) (fun h12 => ?_) (fun h12 => ?_)
  · refine V_aload_n hE dX5_jump_20 rfl ?_
    refine V_iload_n hE dX5_jump_21 rfl ?_
    refine cf_X5_117 hE rfl dX5_jump_22 (c_X5_jumpAt (by omega)) rfl rfl ?_
    have e : jm (σ1 24) i = jm (lnf (σ 20) v k) i := jm_congr (LaysQ_ln (hq (by omega))) (by omega)
    refine V_ireturn hR dX5_jump_25 ?_
    exact ⟨by unfold jumpS; rw [← hr]; first | rw [if_pos (by omega)] | (rw [if_neg (by omega)]; exact e), hs⟩
  · refine V_iload hE dX5_jump_15 rfl ?_
    refine V_goto hE 25 dX5_jump_17 (by decide) ?_
    refine V_ireturn hR dX5_jump_25 ?_
    exact ⟨by unfold jumpS; rw [← hr]; first | rw [if_pos (by omega)] | (rw [if_neg (by omega)]; exact e), hs⟩
set_option maxRecDepth 100000 in
set_option maxHeartbeats 4000000 in
theorem lp_X5_roughNow_4 {K : Ctx} {E : ME} {σ : Sto} (hI : IM σ) (hp : 4 ≤ σ 116 0 ∧ σ 116 0 ≤ 9) (hE : Ok K E mX5_roughNow 2) (hR : RetI K E mX5_roughNow (fun r σ' => r = rc (σ 24) (σ 112 0) (σ 116 0 - 3).toNat ∧ σ' = σ)) : ∀ (n : Nat) (i : Int) (a : Int), σ 116 0 - i < n → (1 ≤ i ∧ i ≤ σ 116 0 - 2) → (a = rc (σ 24) (σ 112 0) (i - 1).toNat) → V K E mX5_roughNow 4 [some (.ref (kA K 19)), some (.int (i32 a)), some (.int (i32 i))] [] σ := by
  intro n
  induction n with
  | zero =>
    intro i a hm hi ha
    exfalso; omega
  | succ n ih =>
    intro i a hm hi ha
    obtain ⟨hS, hW, hB, hRe, hLo, hHi, hO, hPu, hHe, hAt⟩ := id hI
    have hj := jm_rng hAt i
    refine V_iload_n hE dX5_roughNow_4 rfl ?_
    refine V_aload_n hE dX5_roughNow_5 rfl ?_
    refine gf_X5_97 hE rfl dX5_roughNow_6 ?_
    refine V_iconst hE dX5_roughNow_9 ?_
    refine V_isub hE dX5_roughNow_10 ?_
    refine V_icmp_ge hE 43 dX5_roughNow_11 (by decide) (by omega) (fun h11 => ?_) (fun h11 => ?_)
    · refine V_iload_n hE dX5_roughNow_43 rfl ?_
      refine V_ireturn hR dX5_roughNow_44 ?_
      exact ⟨by rw [ha, show i = σ 116 0 - 2 by omega, show (σ 116 0 - 2 - 1) = σ 116 0 - 3 by omega], rfl⟩
    · refine V_iload_n hE dX5_roughNow_14 rfl ?_
      refine V_aload_n hE dX5_roughNow_15 rfl ?_
      refine V_iload_n hE dX5_roughNow_16 rfl ?_
      refine cf_X5_117 hE rfl dX5_roughNow_17 (c_X5_jumpAt (by omega)) rfl rfl ?_
      refine cf_X5_120 hE rfl dX5_roughNow_20 (c_X5_far (by omega)) rfl rfl ?_
      refine V_aload_n hE dX5_roughNow_23 rfl ?_
      refine gf_X5_7 hE rfl dX5_roughNow_24 ?_
      refine V_icmp_le hE 34 dX5_roughNow_27 (by decide) (by omega) (fun h27 => ?_) (fun h27 => ?_)
      · refine V_iconst hE dX5_roughNow_34 ?_
        refine V_iadd hE dX5_roughNow_35 ?_
        refine V_istore_n hE dX5_roughNow_36 rfl ?_
        refine V_iinc hE dX5_roughNow_37 rfl rfl ?_
        refine V_goto hE 4 dX5_roughNow_40 (by decide) ?_
        exact ih _ _ (by omega) (by omega) (by rw [rc_step _ _ (by omega), ← ha]; omega)
      · refine V_iconst hE dX5_roughNow_30 ?_
        refine V_goto hE 35 dX5_roughNow_31 (by decide) ?_
        refine V_iadd hE dX5_roughNow_35 ?_
        refine V_istore_n hE dX5_roughNow_36 rfl ?_
        refine V_iinc hE dX5_roughNow_37 rfl rfl ?_
        refine V_goto hE 4 dX5_roughNow_40 (by decide) ?_
        exact ih _ _ (by omega) (by omega) (by rw [rc_step _ _ (by omega), ← ha]; omega)
set_option maxRecDepth 100000 in
set_option maxHeartbeats 4000000 in
theorem c_X5_roughNow {K : Ctx} {σ : Sto} (hI : IM σ) (hp : 4 ≤ σ 116 0 ∧ σ 116 0 ≤ 9) : CtI K mX5_roughNow 2 [.ref (kA K 19)] σ (fun r σ' => r = rc (σ 24) (σ 112 0) (σ 116 0 - 3).toNat ∧ σ' = σ) := by
  refine CtI_of (L := [some (.ref (kA K 19)), none, none]) (by decide) rfl rfl rfl ?_
  intro E hE hR
  refine V_iconst hE dX5_roughNow_0 ?_
  refine V_istore_n hE dX5_roughNow_1 rfl ?_
  refine V_iconst hE dX5_roughNow_2 ?_
  refine V_istore_n hE dX5_roughNow_3 rfl ?_
  exact lp_X5_roughNow_4 hI hp hE hR 100 1 0 (by omega) (by omega) rfl
set_option maxRecDepth 100000 in
set_option maxHeartbeats 4000000 in
theorem c_X5_rough {K : Ctx} {σ : Sto} {v k : Int} (hI : IM σ) (hv : InI v ∧ InI k) : CtI K mX5_rough 3 [.ref (kA K 19), .int (i32 v), .int (i32 k)] σ (fun r σ' => r = roughS (σ 20) (σ 110 0) (σ 111 0) (σ 112 0) v k ∧ SmM σ σ') := by
  obtain ⟨hS, hW, hB, hRe, hLo, hHi, hO, hPu, hHe, hAt⟩ := id hI
  refine CtI_of (L := [some (.ref (kA K 19)), some (.int (i32 v)), some (.int (i32 k))]) (by decide) rfl rfl rfl ?_
  intro E hE hR
  refine V_iload_n hE dX5_rough_0 rfl ?_
  refine cf_X5_103 hE rfl dX5_rough_1 (c_X5_isView (by omega)) rfl rfl ?_
  refine V_if_ne hE 10 dX5_rough_4 (by decide) (by omega) (fun h4 => ?_) (fun h4 => ?_)
  · refine V_aload_n hE dX5_rough_10 rfl ?_
    refine V_iload_n hE dX5_rough_11 rfl ?_
    refine V_iload_n hE dX5_rough_12 rfl ?_
    refine cf_X5_106 hE rfl dX5_rough_13 (c_X5_isLine hI (by omega)) rfl rfl ?_
    refine V_if_ne hE 21 dX5_rough_16 (by decide) (by omega) (fun h16 => ?_) (fun h16 => ?_)
    · refine V_aload_n hE dX5_rough_21 rfl ?_
      refine V_iload_n hE dX5_rough_22 rfl ?_
      refine V_iload_n hE dX5_rough_23 rfl ?_
      refine cl_X5_109 hE rfl dX5_rough_24 (c_X5_lays hI (by omega)) rfl rfl ?_
      rintro σ1 hq
      have e116 := hq.2.1
      have hs := LaysQ_sm hq
      refine V_aload_n hE dX5_rough_27 rfl ?_
      refine cf_X5_123 hE rfl dX5_rough_28 (c_X5_roughNow (IM_sm hI hs) (by omega)) rfl rfl ?_
      refine V_ireturn hR dX5_rough_31 ?_
      refine ⟨?_, hs⟩
      unfold roughS
      rw [if_neg (by unfold refS; omega), hs.1 112 (by decide), e116]
      exact rc_congr _ (LaysQ_ln hq) _ (by omega)
    · refine V_iconst hE dX5_rough_19 ?_
      refine V_ireturn hR dX5_rough_20 ?_
      exact ⟨by unfold roughS refS; omega, SmM_rf hAt⟩
  · refine V_bipush hE dX5_rough_7 (by decide) ?_
    refine V_ireturn hR dX5_rough_9 ?_
    exact ⟨by unfold roughS refS; omega, SmM_rf hAt⟩
set_option maxRecDepth 100000 in
set_option maxHeartbeats 4000000 in
theorem lp_X5_manyRough_11 {K : Ctx} {E : ME} {σ : Sto} (hI : IM σ) {v a0 : Int} (hv : v = 0 ∨ v = 1) (ha0 : 0 ≤ a0 ∧ a0 ≤ 100) (hk : ∀ σ1 : Sto, SmM σ σ1 → V K E mX5_manyRough 47 [some (.ref (kA K 19)), some (.int (i32 (itL (mrStep (σ 20) (σ 110 0) (σ 111 0) (σ 112 0)) v (if v = 0 then σ 111 0 else σ 110 0).toNat a0))), some (.int (i32 v)), some (.int (i32 (if v = 0 then σ 111 0 else σ 110 0)))] [] σ1) (hE : Ok K E mX5_manyRough 3) : ∀ (n : Nat) (k : Int) (a : Int) (σ1 : Sto), (if v = 0 then σ 111 0 else σ 110 0) - k < n → (0 ≤ k ∧ k ≤ (if v = 0 then σ 111 0 else σ 110 0)) → (a = (itL (mrStep (σ 20) (σ 110 0) (σ 111 0) (σ 112 0)) v k.toNat a0)) → (SmM σ σ1) → V K E mX5_manyRough 11 [some (.ref (kA K 19)), some (.int (i32 a)), some (.int (i32 v)), some (.int (i32 k))] [] σ1 := by
  intro n
  induction n with
  | zero =>
    intro k a σ1 hm hk1 ha hs
    exfalso; omega
  | succ n ih =>
    intro k a σ1 hm hk1 ha hs
    obtain ⟨hS, hW, hB, hRe, hLo, hHi, hO, hPu, hHe, hAt⟩ := id hI
    have e111 := congrFun (hs.1 111 (by decide)) 0
    have e110 := congrFun (hs.1 110 (by decide)) 0
    have hmr := mr_rng (σ 20) (σ 110 0) (σ 111 0) (σ 112 0) v a0 k.toNat
    refine V_iload_n hE dX5_manyRough_11 rfl ?_
    refine V_aload_n hE dX5_manyRough_12 rfl ?_
    refine V_iload_n hE dX5_manyRough_13 rfl ?_
    refine cf_X5_93 hE rfl dX5_manyRough_14 (c_X5_linesOf (by omega)) rfl rfl ?_
    refine V_icmp_ge hE 47 dX5_manyRough_17 (by decide) (by omega) (fun h17 => ?_) (fun h17 => ?_)
    · have ek : k = (if v = 0 then σ 111 0 else σ 110 0) := by omega
      rw [ek] at ha
      rw [ha, ek]
      exact hk _ hs
    · refine V_aload_n hE dX5_manyRough_20 rfl ?_
      refine V_iload_n hE dX5_manyRough_21 rfl ?_
      refine V_iload_n hE dX5_manyRough_22 rfl ?_
      refine cl_X5_109 hE rfl dX5_manyRough_23 (c_X5_lays (IM_sm hI hs) (by omega)) rfl rfl ?_
      rintro σ2 hq
      have e116 := hq.2.1
      have hs2 := SmM_tr hs (LaysQ_sm hq)
      refine V_iload_n hE dX5_manyRough_26 rfl ?_
      refine V_aload_n hE dX5_manyRough_27 rfl ?_
      refine cf_X5_123 hE rfl dX5_manyRough_28 (c_X5_roughNow (IM_sm hI hs2) (by omega)) rfl rfl ?_
      have erc : rc (σ2 24) (σ2 112 0) (σ2 116 0 - 3).toNat = rc (lnf (σ 20) v k) (σ 112 0) ((if v = 0 then σ 110 0 else σ 111 0) - 3).toNat := by
        rw [hs2.1 112 (by decide), e116, e110, e111]
        refine rc_congr (n := if v = 0 then σ 110 0 else σ 111 0) _ (fun i hi => ?_) _ (by omega)
        have h9 := LaysQ_ln hq i (by omega)
        rw [hs.1 20 (by decide)] at h9
        exact h9
      rw [erc]
      have hrc := rc_rng (lnf (σ 20) v k) (σ 112 0) ((if v = 0 then σ 110 0 else σ 111 0) - 3).toNat
      refine V_if_le hE 38 dX5_manyRough_31 (by decide) (by omega) (fun h31 => ?_) (fun h31 => ?_)
      · refine V_iconst hE dX5_manyRough_38 ?_
        refine V_iadd hE dX5_manyRough_39 ?_
        refine V_istore_n hE dX5_manyRough_40 rfl ?_
        refine V_iinc hE dX5_manyRough_41 rfl rfl ?_
        refine V_goto hE 11 dX5_manyRough_44 (by decide) ?_
        exact ih _ _ _ (by omega) (by omega) (by rw [itL_step _ _ _ (by omega), ← ha, mrStep]; omega) hs2
      · refine V_iconst hE dX5_manyRough_34 ?_
        refine V_goto hE 39 dX5_manyRough_35 (by decide) ?_
        refine V_iadd hE dX5_manyRough_39 ?_
        refine V_istore_n hE dX5_manyRough_40 rfl ?_
        refine V_iinc hE dX5_manyRough_41 rfl rfl ?_
        refine V_goto hE 11 dX5_manyRough_44 (by decide) ?_
        exact ih _ _ _ (by omega) (by omega) (by rw [itL_step _ _ _ (by omega), ← ha, mrStep]; omega) hs2
set_option maxRecDepth 100000 in
set_option maxHeartbeats 4000000 in
theorem c_X5_manyRough {K : Ctx} {σ : Sto} (hI : IM σ) : CtI K mX5_manyRough 3 [.ref (kA K 19)] σ (fun r σ' => r = mrS (σ 20) (σ 110 0) (σ 111 0) (σ 112 0) ∧ SmM σ σ') := by
  obtain ⟨hS, hW, hB, hRe, hLo, hHi, hO, hPu, hHe, hAt⟩ := id hI
  refine CtI_of (L := [some (.ref (kA K 19)), none, none, none]) (by decide) rfl rfl rfl ?_
  intro E hE hR
  refine V_iconst hE dX5_manyRough_0 ?_
  refine V_istore_n hE dX5_manyRough_1 rfl ?_
  refine V_iconst hE dX5_manyRough_2 ?_
  refine V_istore_n hE dX5_manyRough_3 rfl ?_
  refine V_iload_n hE dX5_manyRough_4 rfl ?_
  refine V_iconst hE dX5_manyRough_5 ?_
  refine V_icmp_ge hE 53 dX5_manyRough_6 (by decide) (by omega) (fun h6 => ?_) (fun h6 => ?_)
  · exfalso; omega
  · refine V_iconst hE dX5_manyRough_9 ?_
    refine V_istore_n hE dX5_manyRough_10 rfl ?_
    have hmr := mr_rng (σ 20) (σ 110 0) (σ 111 0) (σ 112 0) 0 0 (σ 111 0).toNat
    refine lp_X5_manyRough_11 hI (v := 0) (a0 := 0) (Or.inl rfl) (by omega) ?_ hE 100 0 _ σ (by omega) (by omega) rfl (SmM_rf hAt)
    intro σ1 hs1
    refine V_iinc hE dX5_manyRough_47 rfl rfl ?_
    refine V_goto hE 4 dX5_manyRough_50 (by decide) ?_
    refine V_iload_n hE dX5_manyRough_4 rfl ?_
    refine V_iconst hE dX5_manyRough_5 ?_
    refine V_icmp_ge hE 53 dX5_manyRough_6 (by decide) (by omega) (fun h6 => ?_) (fun h6 => ?_)
    · exfalso; omega
    · refine V_iconst hE dX5_manyRough_9 ?_
      refine V_istore_n hE dX5_manyRough_10 rfl ?_
      refine lp_X5_manyRough_11 hI (v := 1) (a0 := itL (mrStep (σ 20) (σ 110 0) (σ 111 0) (σ 112 0)) 0 (σ 111 0).toNat 0) (Or.inr rfl) (by omega) ?_ hE 100 0 _ σ1 (by omega) (by omega) rfl hs1
      intro σ2 hs2
      refine V_iinc hE dX5_manyRough_47 rfl rfl ?_
      refine V_goto hE 4 dX5_manyRough_50 (by decide) ?_
      refine V_iload_n hE dX5_manyRough_4 rfl ?_
      refine V_iconst hE dX5_manyRough_5 ?_
      refine V_icmp_ge hE 53 dX5_manyRough_6 (by decide) (by omega) (fun h6 => ?_) (fun h6 => ?_)
      · refine V_iload_n hE dX5_manyRough_53 rfl ?_
        refine V_ireturn hR dX5_manyRough_54 ?_
        refine ⟨?_, hs2⟩
        rfl
      · exfalso; omega
set_option maxRecDepth 100000 in
set_option maxHeartbeats 4000000 in
theorem lp_X5_manyHeld_4 {K : Ctx} {E : ME} {σ : Sto} (hI : IM σ) (hE : Ok K E mX5_manyHeld 0) (hR : RetI K E mX5_manyHeld (fun r σ' => r = heldS (σ 22) ∧ σ' = σ)) : ∀ (n : Nat) (i : Int) (a : Int), 63 - i < n → (0 ≤ i ∧ i ≤ 63) → (a = cnt (fun i => decide (σ 22 i ≠ 0)) i.toNat) → V K E mX5_manyHeld 4 [some (.ref (kA K 19)), some (.int (i32 a)), some (.int (i32 i))] [] σ := by
  intro n
  induction n with
  | zero =>
    intro i a hm hi ha
    exfalso; omega
  | succ n ih =>
    intro i a hm hi ha
    obtain ⟨hS, hW, hB, hRe, hLo, hHi, hO, hPu, hHe, hAt⟩ := id hI
    have h9 := hHe i.toNat
    refine V_iload_n hE dX5_manyHeld_4 rfl ?_
    refine V_bipush hE dX5_manyHeld_5 (by decide) ?_
    refine V_icmp_ge hE 33 dX5_manyHeld_7 (by decide) (by omega) (fun h7 => ?_) (fun h7 => ?_)
    · refine V_iload_n hE dX5_manyHeld_33 rfl ?_
      refine V_ireturn hR dX5_manyHeld_34 ?_
      exact ⟨by rw [ha, show i = 63 by omega]; rfl, rfl⟩
    · refine V_iload_n hE dX5_manyHeld_10 rfl ?_
      refine V_aload_n hE dX5_manyHeld_11 rfl ?_
      refine gf_X5_29 hE rfl dX5_manyHeld_12 ?_
      refine V_iload_n hE dX5_manyHeld_15 rfl ?_
      refine V_baload hE dX5_manyHeld_16 rfl (by omega) ?_
      refine V_if_eq hE 24 dX5_manyHeld_17 (by decide) (by omega) (fun h17 => ?_) (fun h17 => ?_)
      · refine V_iconst hE dX5_manyHeld_24 ?_
        refine V_iadd hE dX5_manyHeld_25 ?_
        refine V_istore_n hE dX5_manyHeld_26 rfl ?_
        refine V_iinc hE dX5_manyHeld_27 rfl rfl ?_
        refine V_goto hE 4 dX5_manyHeld_30 (by decide) ?_
        exact ih _ _ (by omega) (by omega) (by rw [cnt_step _ (by omega), ← ha]; simp [h17])
      · refine V_iconst hE dX5_manyHeld_20 ?_
        refine V_goto hE 25 dX5_manyHeld_21 (by decide) ?_
        refine V_iadd hE dX5_manyHeld_25 ?_
        refine V_istore_n hE dX5_manyHeld_26 rfl ?_
        refine V_iinc hE dX5_manyHeld_27 rfl rfl ?_
        refine V_goto hE 4 dX5_manyHeld_30 (by decide) ?_
        exact ih _ _ (by omega) (by omega) (by rw [cnt_step _ (by omega), ← ha]; simp [h17])
set_option maxRecDepth 100000 in
set_option maxHeartbeats 4000000 in
theorem c_X5_manyHeld {K : Ctx} {σ : Sto} (hI : IM σ) : CtI K mX5_manyHeld 0 [.ref (kA K 19)] σ (fun r σ' => r = heldS (σ 22) ∧ σ' = σ) := by
  refine CtI_of (L := [some (.ref (kA K 19)), none, none]) (by decide) rfl rfl rfl ?_
  intro E hE hR
  refine V_iconst hE dX5_manyHeld_0 ?_
  refine V_istore_n hE dX5_manyHeld_1 rfl ?_
  refine V_iconst hE dX5_manyHeld_2 ?_
  refine V_istore_n hE dX5_manyHeld_3 rfl ?_
  exact lp_X5_manyHeld_4 hI hE hR 100 0 0 (by omega) (by omega) rfl
set_option maxRecDepth 100000 in
set_option maxHeartbeats 4000000 in
theorem lp_X5_farOff_4 {K : Ctx} {E : ME} {σ : Sto} (hI : IM σ) (hE : Ok K E mX5_farOff 1) (hR : RetI K E mX5_farOff (fun r σ' => r = farS (σ 20) (σ 21) ∧ σ' = σ)) : ∀ (n : Nat) (i : Int) (a : Int), 63 - i < n → (0 ≤ i ∧ i ≤ 63) → (a = fsum (fun i => (((σ 20 i - σ 21 i).natAbs : Nat) : Int)) i.toNat) → V K E mX5_farOff 4 [some (.ref (kA K 19)), some (.int (i32 a)), some (.int (i32 i))] [] σ := by
  intro n
  induction n with
  | zero =>
    intro i a hm hi ha
    exfalso; omega
  | succ n ih =>
    intro i a hm hi ha
    obtain ⟨hS, hW, hB, hRe, hLo, hHi, hO, hPu, hHe, hAt⟩ := id hI
    have h9 := hO i.toNat
    have h8 := hPu i.toNat
    refine V_iload_n hE dX5_farOff_4 rfl ?_
    refine V_bipush hE dX5_farOff_5 (by decide) ?_
    refine V_icmp_ge hE 35 dX5_farOff_7 (by decide) (by omega) (fun h7 => ?_) (fun h7 => ?_)
    · refine V_iload_n hE dX5_farOff_35 rfl ?_
      refine V_ireturn hR dX5_farOff_36 ?_
      exact ⟨by rw [ha, show i = 63 by omega]; rfl, rfl⟩
    · refine V_iload_n hE dX5_farOff_10 rfl ?_
      refine V_aload_n hE dX5_farOff_11 rfl ?_
      refine gf_X5_22 hE rfl dX5_farOff_12 ?_
      refine V_iload_n hE dX5_farOff_15 rfl ?_
      refine V_iaload hE dX5_farOff_16 rfl (by omega) ?_
      refine V_aload_n hE dX5_farOff_17 rfl ?_
      refine gf_X5_26 hE rfl dX5_farOff_18 ?_
      refine V_iload_n hE dX5_farOff_21 rfl ?_
      refine V_iaload hE dX5_farOff_22 rfl (by omega) ?_
      refine V_isub hE dX5_farOff_23 ?_
      refine cf_X5_120 hE rfl dX5_farOff_24 (c_X5_far (by omega)) rfl rfl ?_
      refine V_iadd hE dX5_farOff_27 ?_
      refine V_istore_n hE dX5_farOff_28 rfl ?_
      refine V_iinc hE dX5_farOff_29 rfl rfl ?_
      refine V_goto hE 4 dX5_farOff_32 (by decide) ?_
      exact ih _ _ (by omega) (by omega) (by rw [fsum_step _ (by omega), ← ha])
set_option maxRecDepth 100000 in
set_option maxHeartbeats 4000000 in
theorem c_X5_farOff {K : Ctx} {σ : Sto} (hI : IM σ) : CtI K mX5_farOff 1 [.ref (kA K 19)] σ (fun r σ' => r = farS (σ 20) (σ 21) ∧ σ' = σ) := by
  refine CtI_of (L := [some (.ref (kA K 19)), none, none]) (by decide) rfl rfl rfl ?_
  intro E hE hR
  refine V_iconst hE dX5_farOff_0 ?_
  refine V_istore_n hE dX5_farOff_1 rfl ?_
  refine V_iconst hE dX5_farOff_2 ?_
  refine V_istore_n hE dX5_farOff_3 rfl ?_
  exact lp_X5_farOff_4 hI hE hR 100 0 0 (by omega) (by omega) rfl
set_option maxRecDepth 100000 in
set_option maxHeartbeats 4000000 in
theorem c_X5_many {K : Ctx} {σ : Sto} {w : Int} (hI : IM σ) (hw : InI w) : CtI K mX5_many 4 [.ref (kA K 19), .int (i32 w)] σ (fun r σ' => r = manyS (σ 20) (σ 21) (σ 22) (σ 110 0) (σ 111 0) (σ 112 0) w ∧ SmM σ σ') := by
  obtain ⟨hS, hW, hB, hRe, hLo, hHi, hO, hPu, hHe, hAt⟩ := id hI
  refine CtI_of (L := [some (.ref (kA K 19)), some (.int (i32 w))]) (by decide) rfl rfl rfl ?_
  intro E hE hR
  refine V_iload_n hE dX5_many_0 rfl ?_
  refine V_sw5 hE 36 41 46 51 56 61 dX5_many_1 (by omega) (by decide) (by decide) (by decide) (fun h1 => ?_) (fun h1 => ?_) (fun h1 => ?_) (fun h1 => ?_) (fun h1 => ?_) (fun h1 => ?_)
  · refine V_bipush hE dX5_many_61 (by decide) ?_
    refine V_ireturn hR dX5_many_63 ?_
    exact ⟨by unfold manyS; rw [if_neg (by omega), if_neg (by omega), if_neg (by omega), if_neg (by omega), if_neg (by omega)], SmM_rf hAt⟩
  · refine V_aload_n hE dX5_many_36 rfl ?_
    refine gf_X5_61 hE rfl dX5_many_37 ?_
    refine V_ireturn hR dX5_many_40 ?_
    exact ⟨by unfold manyS; rw [if_pos h1], SmM_rf hAt⟩
  · refine V_aload_n hE dX5_many_41 rfl ?_
    refine gf_X5_64 hE rfl dX5_many_42 ?_
    refine V_ireturn hR dX5_many_45 ?_
    exact ⟨by unfold manyS; rw [if_neg (by omega), if_pos h1], SmM_rf hAt⟩
  · refine V_aload_n hE dX5_many_46 rfl ?_
    refine cf_X5_214 hE rfl dX5_many_47 (c_X5_manyHeld hI) rfl rfl ?_
    refine V_ireturn hR dX5_many_50 ?_
    exact ⟨by unfold manyS; rw [if_neg (by omega), if_neg (by omega), if_pos h1], SmM_rf hAt⟩
  · refine V_aload_n hE dX5_many_51 rfl ?_
    refine cl_X5_217 hE rfl dX5_many_52 (c_X5_manyRough hI) rfl rfl ?_
    rintro r σ1 ⟨hr, hs⟩
    refine V_ireturn hR dX5_many_55 ?_
    exact ⟨by unfold manyS; rw [if_neg (by omega), if_neg (by omega), if_neg (by omega), if_pos h1]; exact hr, hs⟩
  · refine V_aload_n hE dX5_many_56 rfl ?_
    refine cf_X5_220 hE rfl dX5_many_57 (c_X5_farOff hI) rfl rfl ?_
    refine V_ireturn hR dX5_many_60 ?_
    exact ⟨by unfold manyS; rw [if_neg (by omega), if_neg (by omega), if_neg (by omega), if_neg (by omega), if_pos h1], SmM_rf hAt⟩
