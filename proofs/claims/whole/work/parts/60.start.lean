/-! THE CLAIM OUT OF ONE WALK OF THE LAW'S BODY. Your part is whole_start (and what it stands on); all else here is the same for every law, but numbers. -/
def R_law : String := "HullOffsetsLaw"
def lw_P (b : Addr) (xs : List Int32) (args : Array Value) (s : State) : Prop := args = #[.ref b] ∧ s.IntsAt b xs ∧ xs.length ≤ 2048 ∧ (Jvm.Cond.and given_1 narrow_1).before args s = true
def lw_Q (_ : Array Value) (s : State) (o : Outcome) (t : State) : Prop := o = .returned (some (.int 1)) ∧ Framed s o t [] 600000 7302250
def lw_Z (below : List Frame) (a : Array Value) (s : State) : State → Prop := fun t => ∃ o, t.status = .running ∧ Ended t below o ∧ lw_Q a s o t
/-- the law's own end, with 1 on the stack, nothing written that was there before, its room as the claim has it -/
theorem lw_ret {p : Program} {l : Launch} {e : Env} {s : State} {m : MethodId} {below : List Frame} {meth : Method} {c : Code} {b : Nat} (hx : p.tables.exec = Jvm.exec) (hb : c.code = code) (hr : meth.sig.returnType = ret) (hlocks : meth.locks = false) {pc : Nat} {H : Heap} {ls : Array Slot} (hdg : decode code pc = .ok (.ireturn, 1)) : W p l e room_1 s m #[Value.ref b] below meth c H [] 600000 7302250 (lw_Z below #[Value.ref b] s) (F0 m pc ls [.int 1]) := by
  intro T hT X
  obtain ⟨fs, hret, hrun, hended, hW, hframe⟩ := X.leave (v := some (.int 1)) (hlocks := hlocks) (fun h => by rw [hr] at h; cases h)
  have hmeth' : T.vm.method? m = some meth := X.method'
  refine ⟨T.setFrames fs, ?_, .returned (some (.int 1)), hrun, hended, rfl, ⟨_, rfl⟩, hW, hframe⟩
  jvm_step X.here [X.here.top, hx, hb, hdg, hmeth', hr, ret, narrow_b1]
  (try refine ⟨rfl, ?_⟩); (try refine ⟨rfl, ?_⟩)
  first | (intro acts; rw [hret _ acts rfl rfl rfl]) | rw [hret _ _ rfl rfl rfl]
  exact Steps.refl _
/-- what holds at the law's entry: the machine, the code, the tables' words (any of lw_tbl by 'hts w (by decide +kernel)'), the script of L ints xs at the cell b, what the Statement gives of the start (any of its parts by flat_of_before) -/
def lw_At (p : Program) (s : State) (m : MethodId) (meth : Method) (c : Code) (b L : Nat) (xs : Nat → Int32) : Prop :=
  p.tables.exec = Jvm.exec ∧ c.code = code ∧ meth.sig.returnType = ret ∧ c.maxLocals = 4 ∧ s.vm.findClass R_law = some m.cls ∧ (∀ w ∈ lw_tbl, w.before #[Value.ref b] s = true) ∧ va_X b L xs s s.heap ∧ b < s.heap.size ∧ meth.locks = false ∧ (Jvm.Cond.and given_1 narrow_1).before #[Value.ref b] s = true
theorem tw_cast : Cond.castable "[I" "java/lang/Cloneable" ∈ lw_tbl := List.mem_of_getElem? (i := 180) (by decide +kernel)
theorem len_sz {args : Array Value} {s : State} {t : Term} {z : Int32} (hl : (Term.length t).eval args s none [] s = some (.int z)) : ∃ (a : Addr) (cell : Cell), t.eval args s none [] s = some (.ref a) ∧ s.arrayAt? a = some cell ∧ cell.slots.size < 2147483648 ∧ cell.slots.size.toInt32 = z := by
  obtain ⟨a, cell, ht, harr, hv⟩ := Term.length_spec hl
  refine ⟨a, cell, ht, harr, ?_, (Value.int.inj hv).symm⟩
  simp only [Term.eval, ht, harr, Option.bind_eq_bind, Option.bind_some] at hl
  by_cases hlt : cell.slots.size < 2147483648
  · exact hlt
  · simp [hlt] at hl
theorem sz4 {n : Nat} (h1 : n < 2147483648) (h2 : n.toInt32 = 4) : n = 4 := by
  have e : Int32.ofNat n = Int32.ofNat 4 := h2
  have g1 : n ≤ 4 := (Int32.ofNat_le_ofNat h1 (by decide)).mp (by rw [e]; exact Int32.le_refl _)
  have g2 : 4 ≤ n := (Int32.ofNat_le_ofNat (by decide) h1).mp (by rw [e]; exact Int32.le_refl _)
  omega
/-- the settings' first values, out of the four words of them -/
theorem FsU_of {args : Array Value} {s : State} {A : Nat → Prop} (hlay : (Cond.laysStatic "HullOffsets" "SETTING_FIRST" "[I").before args s = true) (hini : (Cond.initialized "HullOffsets").before args s = true) (hex : (Cond.exactly (.static "HullOffsets" "SETTING_FIRST" "[I") "[I").before args s = true) (hlen : (Cond.eq (.length (.static "HullOffsets" "SETTING_FIRST" "[I")) (.int 4)).before args s = true)
    (x0 : (Cond.eq (.elem (.static "HullOffsets" "SETTING_FIRST" "[I") (.int 0)) (.int 10)).before args s = true) (x1 : (Cond.eq (.elem (.static "HullOffsets" "SETTING_FIRST" "[I") (.int 1)) (.int 2)).before args s = true) (x2 : (Cond.eq (.elem (.static "HullOffsets" "SETTING_FIRST" "[I") (.int 2)) (.int 10)).before args s = true) (x3 : (Cond.eq (.elem (.static "HullOffsets" "SETTING_FIRST" "[I") (.int 3)) (.int 5)).before args s = true)
    (hnA : ∀ q : Nat, q < s.heap.size → ¬ A q) : ∃ tF : Nat, FsU tF A s s.heap := by
  have y0 := va_eqt x0
  have y1 := va_eqt x1
  have y2 := va_eqt x2
  have y3 := va_eqt x3
  have y4 := va_eqt hlen
  generalize htm : Term.static "HullOffsets" "SETTING_FIRST" "[I" = tm at y0 y1 y2 y3 y4 hex
  obtain ⟨a, cell, ht, harr, hs1, hs2⟩ := len_sz y4
  have hsz := sz4 hs1 hs2
  obtain ⟨hcell, hkn, hst, -⟩ := State.arrayAt?_spec harr
  have el : ∀ (j : Nat) (z : Int32), j < 4 → (Term.elem tm (.int (Int32.ofNat j))).eval args s none [] s = some (.int z) → cell.slots[j]? = some (.int z) := by
    intro j z hj hv
    obtain ⟨a2, i, cell2, h1, h2, h3, h4, h5⟩ := Term.elem_spec hv
    cases ht.symm.trans h1
    cases harr.symm.trans h3
    have hi : i = Int32.ofNat j := by
      have e9 : (Term.int (Int32.ofNat j)).eval args s none [] s = some (.int (Int32.ofNat j)) := rfl
      cases h2.symm.trans e9
      rfl
    have hc : i.toNatClampNeg = j := by rw [hi]; exact Int32.toNatClampNeg_ofNat_of_lt (by omega)
    rw [hc] at h5
    exact h5
  obtain ⟨a3, c3, cell3, k3, g1, g2, g3, g4, g5, g6, -⟩ := Cond.exactly_spec hex
  cases ht.symm.trans g1
  cases hcell.symm.trans g3
  refine ⟨a, va_Zref hlay hini (by rw [htm]; exact ht) hnA, cell, hcell, fun k hk => ?_, hkn, by rw [g2, g6], ?_, hnA a (Array.getElem?_eq_some_iff.mp hcell).1⟩
  · rw [hk] at hst; cases hst
  · apply Array.ext_getElem?
    intro j
    by_cases hj : j < 4
    · rw [arrV_read _ _ hj]
      rcases (show j = 0 ∨ j = 1 ∨ j = 2 ∨ j = 3 by omega) with rfl | rfl | rfl | rfl
      · exact el 0 10 (by decide) y0
      · exact el 1 2 (by decide) y1
      · exact el 2 10 (by decide) y2
      · exact el 3 5 (by decide) y3
    · rw [Array.getElem?_eq_none (by omega), Array.getElem?_eq_none (by rw [arrV_size]; omega)]
def σ0 : Sto := fun k i => if k = 5 then (if i = 0 then 10 else if i = 1 then 2 else if i = 2 then 10 else 5) else if k = 100 then 7 else if k = 101 then 5 else if k = 110 then 7 else if k = 111 then 5 else if k = 112 then 10 else if k = 113 then 2 else if k = 114 then 10 else if k = 115 then 5 else 0
theorem Rel0 : Rel σ0 := by
  have hz : ∀ k i : Nat, k ≠ 5 → k < 100 → σ0 k i = 0 := fun k i h1 h2 => by
    unfold σ0
    rw [if_neg h1, if_neg (by omega), if_neg (by omega), if_neg (by omega), if_neg (by omega), if_neg (by omega), if_neg (by omega), if_neg (by omega), if_neg (by omega)]
  have hr : ∀ k : Nat, k ≠ 5 → k < 100 → Rng (σ0 k) := fun k h1 h2 i => by rw [hz k i h1 h2]; decide
  refine ⟨⟨by decide, by decide, by decide, by decide, by decide, by decide, hr 8 (by decide) (by decide), hr 9 (by decide) (by decide), fun i => Or.inl (hz 10 i (by decide) (by decide)), hr 11 (by decide) (by decide), fun i _ => hz 16 i (by decide) (by decide), fun i _ => ⟨hz 13 i (by decide) (by decide), hz 14 i (by decide) (by decide), hz 15 i (by decide) (by decide)⟩⟩,
    ⟨by decide, by decide, by decide, by decide, by decide, by decide, hr 20 (by decide) (by decide), hr 21 (by decide) (by decide), fun i => Or.inl (hz 22 i (by decide) (by decide)), hr 24 (by decide) (by decide)⟩, ?_⟩
  refine ⟨funext fun i => ?_, funext fun i => ?_, funext fun i => ?_, by decide, by decide, by decide, by decide, by decide, by decide⟩
  · rw [hz 8 i (by decide) (by decide), hz 20 i (by decide) (by decide)]
  · rw [hz 9 i (by decide) (by decide), hz 21 i (by decide) (by decide)]
  · rw [hz 10 i (by decide) (by decide), hz 22 i (by decide) (by decide)]
set_option maxRecDepth 100000 in
set_option maxHeartbeats 4000000 in
theorem whole_start {p : Program} {e : Env} {s : State} {m : MethodId} {below : List Frame} {meth : Method} {c : Code} (l : Launch) (hflags : l.flags = flags0) {b L : Nat} {xs : Nat → Int32} (hL : L ≤ 2048) (C0 : lw_At p s m meth c b L xs) : W p l e room_1 s m #[Value.ref b] below meth c s.heap [] 0 0 (lw_Z below #[Value.ref b] s) (entryFrame m ([Value.ref b] : List Value).toArray 4) := by
  obtain ⟨hx, hb, hr, hml, hown, htsL, hX, hbl, hlocks, hgv⟩ := id C0
  have hts : ∀ w ∈ TW, w.before #[Value.ref b] s = true := fun w hw => htsL w (TW_in hw)
  have hfl := flat_of_before _ hgv
  have hA : ∀ q : Nat, s.heap.size ≤ q → (fun q : Nat => s.heap.size ≤ q) q := fun _ hq => hq
  have hnA : ∀ q : Nat, q < s.heap.size → ¬ (fun q : Nat => s.heap.size ≤ q) q := fun _ hq => Nat.not_le.mpr hq
  obtain ⟨ccX0, iSX0, hKnX0⟩ := u_known (C := RX0) (T := TX0) (N := 5) (n := 5) hts in_X0 (hts _ tw_mk_X0)
  obtain ⟨ccX1, iSX1, hKnX1⟩ := u_known (C := RX1) (T := TX1) (N := 2) (n := 2) hts in_X1 (hts _ tw_mk_X1)
  obtain ⟨ccX2, iSX2, hKnX2⟩ := u_known (C := RX2) (T := TX2) (N := 7) (n := 7) hts in_X2 (hts _ tw_mk_X2)
  obtain ⟨ccX3, iSX3, hKnX3⟩ := u_known (C := RX3) (T := TX3) (N := 2) (n := 2) hts in_X3 (hts _ tw_mk_X3)
  obtain ⟨ccX4, iSX4, hKnX4⟩ := u_known (C := RX4) (T := TX4) (N := 7) (n := 7) hts in_X4 (hts _ tw_mk_X4)
  obtain ⟨ccX5, iSX5, hKnX5⟩ := u_known (C := RX5) (T := TX5) (N := 22) (n := 22) hts in_X5 (hts _ tw_mk_X5)
  obtain ⟨D, hKc⟩ : ∃ D : va_G, ∀ (k : Nat) (q : vw_C), vwCl[k]? = some q → u_Kn s q.1 q.2.1 q.2.2 (D.1 k) (D.2 k) := by
    refine ⟨(fun k => [ccX0, ccX1, ccX2, ccX3, ccX4, ccX5].getD k ccX0, fun k => [iSX0, iSX1, iSX2, iSX3, iSX4, iSX5].getD k iSX0), ?_⟩
    intro k q hq
    match k, hq with
    | 0, hq => cases hq; exact hKnX0
    | 1, hq => cases hq; exact hKnX1
    | 2, hq => cases hq; exact hKnX2
    | 3, hq => cases hq; exact hKnX3
    | 4, hq => cases hq; exact hKnX4
    | 5, hq => cases hq; exact hKnX5
    | k + 6, hq => simp [vwCl] at hq
  obtain ⟨cI, kkcI, cmcI, hncI, hkcI, hdcI⟩ := Cond.arrayClass_spec (hts _ tw_arr_int)
  obtain ⟨cJ, kkcJ, cmcJ, hncJ, hkcJ, hdcJ⟩ := Cond.arrayClass_spec (hts _ tw_arr_long)
  obtain ⟨cZ, kkcZ, cmcZ, hncZ, hkcZ, hdcZ⟩ := Cond.arrayClass_spec (hts _ tw_arr_boolean)
  have hK : va_K D vwCl (tys3 cI cJ cZ) s := by
    refine ⟨hKc, fun k q hq => ?_⟩
    match k, hq with
    | 0, hq => cases hq; exact ⟨fun n z => ⟨fun k hh => (by cases hh), kkcI, hkcI, cmcI, hdcI⟩, hncI⟩
    | 1, hq => cases hq; exact ⟨fun n z => ⟨fun k hh => (by cases hh), kkcJ, hkcJ, cmcJ, hdcJ⟩, hncJ⟩
    | 2, hq => cases hq; exact ⟨fun n z => ⟨fun k hh => (by cases hh), kkcZ, hkcZ, cmcZ, hdcZ⟩, hncZ⟩
    | k + 3, hq => simp [tys3] at hq
  have hNw : NwAll s := fun w hw => by
    have hb9 := htsL w (nwL_in w hw)
    rcases nwL_kinds w hw with ⟨a, i, b9, n, d, hh, rfl⟩ | ⟨a, i, y9, hh, rfl⟩
    · exact va_Nw.of rfl hb9
    · exact va_Nw.of rfl hb9
  have hCa : va_Nw (.castable "[I" "java/lang/Cloneable") s := va_Nw.of rfl (htsL _ tw_cast)
  have eL0 := va_eqt (hfl (Cond.eq (.elem (.static "HullOffsets" "SETTING_LOW" "[I") (.int 0)) (.int 0)) (by decide +kernel))
  have eL1 := va_eqt (hfl (Cond.eq (.elem (.static "HullOffsets" "SETTING_LOW" "[I") (.int 1)) (.int 0)) (by decide +kernel))
  have eL2 := va_eqt (hfl (Cond.eq (.elem (.static "HullOffsets" "SETTING_LOW" "[I") (.int 2)) (.int 1)) (by decide +kernel))
  have eL3 := va_eqt (hfl (Cond.eq (.elem (.static "HullOffsets" "SETTING_LOW" "[I") (.int 3)) (.int 1)) (by decide +kernel))
  obtain ⟨tL, hvL, hTL⟩ := va_Tof (tm := (.static "HullOffsets" "SETTING_LOW" "[I")) (ty := .int) (N := 4) (f := fun j => .int (i32 (if j < 2 then 0 else 1))) (A := fun q : Nat => s.heap.size ≤ q) (by decide) (hfl (Cond.arrayOf (.static "HullOffsets" "SETTING_LOW" "[I") .int) (by decide +kernel)) (va_eqt (hfl (Cond.eq (.length (.static "HullOffsets" "SETTING_LOW" "[I")) (.int 4)) (by decide +kernel))) (fun j hj => by rcases (show j = 0 ∨ j = 1 ∨ j = 2 ∨ j = 3 by omega) with rfl | rfl | rfl | rfl; exact eL0; exact eL1; exact eL2; exact eL3) hnA
  have hZL := va_Zref (htsL _ tw_ls_SETTING_LOW) (hts _ tw_ini_X4) hvL hnA
  have eT0 := va_eqt (hfl (Cond.eq (.elem (.static "HullOffsets" "SETTING_TOP" "[I") (.int 0)) (.int 999)) (by decide +kernel))
  have eT1 := va_eqt (hfl (Cond.eq (.elem (.static "HullOffsets" "SETTING_TOP" "[I") (.int 1)) (.int 3)) (by decide +kernel))
  have eT2 := va_eqt (hfl (Cond.eq (.elem (.static "HullOffsets" "SETTING_TOP" "[I") (.int 2)) (.int 99)) (by decide +kernel))
  have eT3 := va_eqt (hfl (Cond.eq (.elem (.static "HullOffsets" "SETTING_TOP" "[I") (.int 3)) (.int 99)) (by decide +kernel))
  obtain ⟨tT, hvT, hTT⟩ := va_Tof (tm := (.static "HullOffsets" "SETTING_TOP" "[I")) (ty := .int) (N := 4) (f := fun j => .int (i32 (if j = 0 then 999 else if j = 1 then 3 else 99))) (A := fun q : Nat => s.heap.size ≤ q) (by decide) (hfl (Cond.arrayOf (.static "HullOffsets" "SETTING_TOP" "[I") .int) (by decide +kernel)) (va_eqt (hfl (Cond.eq (.length (.static "HullOffsets" "SETTING_TOP" "[I")) (.int 4)) (by decide +kernel))) (fun j hj => by rcases (show j = 0 ∨ j = 1 ∨ j = 2 ∨ j = 3 by omega) with rfl | rfl | rfl | rfl; exact eT0; exact eT1; exact eT2; exact eT3) hnA
  have hZT := va_Zref (htsL _ tw_ls_SETTING_TOP) (hts _ tw_ini_X4) hvT hnA
  obtain ⟨tF, hF⟩ := FsU_of (A := fun q : Nat => s.heap.size ≤ q) (htsL _ tw_ls_SETTING_FIRST) (hts _ tw_ini_X4) (hfl (Cond.exactly (.static "HullOffsets" "SETTING_FIRST" "[I") "[I") (by decide +kernel)) (hfl (Cond.eq (.length (.static "HullOffsets" "SETTING_FIRST" "[I")) (.int 4)) (by decide +kernel)) (hfl (Cond.eq (.elem (.static "HullOffsets" "SETTING_FIRST" "[I") (.int 0)) (.int 10)) (by decide +kernel)) (hfl (Cond.eq (.elem (.static "HullOffsets" "SETTING_FIRST" "[I") (.int 1)) (.int 2)) (by decide +kernel)) (hfl (Cond.eq (.elem (.static "HullOffsets" "SETTING_FIRST" "[I") (.int 2)) (.int 10)) (by decide +kernel)) (hfl (Cond.eq (.elem (.static "HullOffsets" "SETTING_FIRST" "[I") (.int 3)) (.int 5)) (by decide +kernel)) hnA
  have hS : va_S (fun q : Nat => s.heap.size ≤ q) s.heap s.heap [] := va_S.rf
  have hP : va_P D vwCl [] s.heap := fun k q hq => by simp at hq
  have hD : va_D (fun q : Nat => s.heap.size ≤ q) [] := ⟨fun i j p q hq => by simp at hq, fun k q hq => by simp at hq⟩
  have hl := lv_entry ([.ref b]) (n := 4) (Nat.le_of_ble_eq_true rfl)
  rw [lg_entry_eq]
  generalize (lg_sl ([.ref b]) ++ List.replicate (4 - (lg_sl ([.ref b])).length) Slot.unset).toArray = ls at hl ⊢
  have hl : lv_has ls 4 [(0, .ref b)] := hl
  refine va_new (ci := 4) (fs := [.null, .null, .null, .null, .null, .null, .null]) (C := RX4) (T := TX4) (N := 7) hx hb hts in_X4 tyX4 tyX4_ok hown (hts _ tw_kl_L_7) (hts _ tw_mk_X4) (hts _ tw_ini_X4) hK hP hD hS hA rfl (by decide +kernel) (Nat.le_of_ble_eq_true rfl) (Nat.le_of_ble_eq_true rfl) dL_law_0 (fun q0 H hP hD hS => ?_)
  have hP : va_P D vwCl (bX4 q0) H := hP
  have hD : va_D (fun q : Nat => s.heap.size ≤ q) (bX4 q0) := hD
  refine lv_dup hx hb dL_law_3 rfl ?_
  have hFc := va_free (wc := bX4 q0) hD hS hA [0] rfl
  refine va_callv (va_runI (As := []) (rest := [.ref q0]) ⟨hx, hb, hml, hown, hts⟩ (i_X4 l D cI cJ cZ tF q0 H.size) (cwI 0 hts (wsM_good tw_cod_X4_init) rfl rfl rfl (hts _ tw_ini_X4) (hts _ tw_ml_L_9) (hts _ tw_ins_X4_init) rfl (by decide +kernel) ⟨(Nat.le_of_ble_eq_true rfl), (Nat.le_of_ble_eq_true rfl)⟩) ⟨fun a U g mk q => by obtain ⟨w0, w1, wP, wK, wD, wN, wC, wF⟩ := q; exact ⟨w0, w1, wP, va_K.moved (u := U) (U := U.calling g mk a) (Vm.Alike.refl U.vm) wK, wD, NwAll.same (u := U) (U := U.calling g mk a) rfl wN, va_Nw.same (u := U) (U := U.calling g mk a) rfl rfl wC, FsU.moved (u := U) (U := U.calling g mk a) (Vm.Alike.refl U.vm) wF⟩, fun U hU hW => ⟨rfl, by rw [hU], by rw [hU]; exact hP, va_K.moved hW.alike hK, hD.weaken (fun _ _ _ _ => trivial), NwAll.warm hW hNw, va_Nw.warmC hW hCa, by rw [hU]; exact ((hF.kept hS.2.1).moved hW.alike).narrow hFc⟩⟩ rfl rfl hl.1 rfl (lv_room (Nat.le_of_ble_eq_true rfl)) dL_law_4 ⟨(Nat.le_of_ble_eq_true rfl), (Nat.le_of_ble_eq_true rfl)⟩) hS (fun q _ hq => hFc q hq) hFc (fun u t H1 locs ht hvm _ hB hz1 hk1 hS => ?_)
  obtain ⟨hP1, hD1⟩ := hB
  rw [ht] at hP1
  obtain ⟨hP, hD⟩ := va_join (wr := []) (w1 := aX4 cI cJ cZ q0 u) hP hD [0] [] rfl rfl (by decide) (by decide) hk1 hFc hP1 hD1
  generalize H1 = H at hP hS ⊢
  have hP : va_P D vwCl (aX4 cI cJ cZ q0 u) H := hP
  have hD : va_D (fun q : Nat => s.heap.size ≤ q) (aX4 cI cJ cZ q0 u) := hD
  refine lv_astore_n (lv' := [(1, .ref q0), (0, .ref b)]) hx hb dL_law_7 rfl hl (by decide) rfl (fun ls hl => ?_)
  refine va_new (ci := 5) (fs := [.int (i32 0), .int (i32 0), .int (i32 0), .int (i32 0), .int (i32 0), .int (i32 0), .null, .null, .null, .int (i32 0), .null, .null, .null, .null, .int (i32 0), .null, .null, .null, .long (i64 0), .long (i64 0), .null, .null]) (C := RX5) (T := TX5) (N := 22) hx hb hts in_X5 tyX5 tyX5_ok hown (hts _ tw_kl_L_10) (hts _ tw_mk_X5) (hts _ tw_ini_X5) hK hP hD hS hA rfl (by decide +kernel) (Nat.le_of_ble_eq_true rfl) (Nat.le_of_ble_eq_true rfl) dL_law_8 (fun q19 H hP hD hS => ?_)
  have hP : va_P D vwCl (aX4 cI cJ cZ q0 u ++ bX5 q19) H := hP
  have hD : va_D (fun q : Nat => s.heap.size ≤ q) (aX4 cI cJ cZ q0 u ++ bX5 q19) := hD
  refine lv_dup hx hb dL_law_11 rfl ?_
  have hFc := va_free (wc := bX5 q19) hD hS hA [19] rfl
  have hPc := hP.sub (ws' := bX5 q19) [19] rfl
  have hDc := hD.sub (ws' := bX5 q19) [19] (by decide) rfl
  refine va_callv (va_runI (As := []) (rest := [.ref q19]) ⟨hx, hb, hml, hown, hts⟩ (i_X5 l D cI cJ cZ q19 H.size) (cwI 0 hts (wsM_good tw_cod_X5_init) rfl rfl rfl (hts _ tw_ini_X5) (hts _ tw_ml_L_12) (hts _ tw_ins_X5_init) rfl (by decide +kernel) ⟨(Nat.le_of_ble_eq_true rfl), (Nat.le_of_ble_eq_true rfl)⟩) ⟨fun a U g mk q => by obtain ⟨w0, w1, wP, wK, wD⟩ := q; exact ⟨w0, w1, wP, va_K.moved (u := U) (U := U.calling g mk a) (Vm.Alike.refl U.vm) wK, wD⟩, fun U hU hW => ⟨rfl, by rw [hU], by rw [hU]; exact hPc, va_K.moved hW.alike hK, hDc.weaken (fun _ _ _ _ => trivial)⟩⟩ rfl rfl hl.1 rfl (lv_room (Nat.le_of_ble_eq_true rfl)) dL_law_12 ⟨(Nat.le_of_ble_eq_true rfl), (Nat.le_of_ble_eq_true rfl)⟩) hS (fun q _ hq => hFc q hq) hFc (fun u2 t H1 locs ht hvm _ hB hz1 hk1 hS => ?_)
  obtain ⟨hP1, hD1⟩ := hB
  rw [ht] at hP1
  obtain ⟨hP, hD⟩ := va_join (wr := aX4 cI cJ cZ q0 u) (w1 := aX5 cI cJ cZ q19 u2) hP hD [19] [0, 1, 2, 3, 4, 5, 6, 7, 8, 9, 10, 11, 12, 13, 14, 15, 16, 17, 18] rfl rfl (by decide) (by decide) hk1 hFc hP1 hD1
  generalize H1 = H at hP hS ⊢
  refine lv_astore_n (lv' := [(2, .ref q19), (1, .ref q0), (0, .ref b)]) hx hb dL_law_15 rfl hl (by decide) rfl (fun ls hl => ?_)
  refine lv_iconst (v := i32 0) hx hb dL_law_16 rfl ?_
  refine lv_istore_n (lv' := [(3, .int (i32 0)), (2, .ref q19), (1, .ref q0), (0, .ref b)]) hx hb dL_law_17 rfl hl (by decide) rfl (fun ls hl => ?_)
  refine W.widen (k := 32) (n := 6874) (Nat.le_of_ble_eq_true rfl) (Nat.le_of_ble_eq_true rfl) ?_
  obtain ⟨K, hKd⟩ : ∃ K : Ctx, K = (D, fun k => if k = 0 then q0 else if k < 19 then u k else if k = 19 then q19 else u2 (k - 20), cI, cJ, cZ, tL, tT) := ⟨_, rfl⟩
  have hw : wld K σ0 = aX4 cI cJ cZ q0 u ++ aX5 cI cJ cZ q19 u2 := by rw [hKd]; rfl
  rw [← hw] at hP hD
  have hP : va_P K.1 vwCl (wld K σ0) H := by rw [hKd] at hP ⊢; exact hP
  have hinj : Inj K := fun i j h1 h2 h3 => hD.1 i j _ _ (wld_get K σ0 h1) (wld_get K σ0 h2) h3
  have hown2 : ∀ q, Own K q → s.heap.size ≤ q := fun q hq => by
    obtain ⟨k, h1, rfl⟩ := hq
    exact hD.2 k _ (wld_get K σ0 h1)
  have hl2 : lv_has ls 4 (al 0 [some (.ref b), some (.ref (kA K 0)), some (.ref (kA K 19)), some (.int (i32 0))]) := by
    rw [hKd]
    exact lv_sub hl [3, 2, 1, 0] rfl
  have hKU : KU K (fun q : Nat => s.heap.size ≤ q) s s.heap := ⟨by rw [hKd]; exact hK, hNw, by rw [hKd]; exact ⟨⟨hZL, hTL⟩, hZT, hTT⟩, hinj⟩
  have hOk : Ok K (p, l, e, room_1, s, m, #[Value.ref b], below, meth, c, 32, 6874, lw_Z below #[Value.ref b] s, fun q : Nat => s.heap.size ≤ q) mL_law 11 := ⟨hx, hb, hml, hown, hts, hKU, ⟨(Nat.le_of_ble_eq_true rfl), (Nat.le_of_ble_eq_true rfl), (Nat.le_of_ble_eq_true rfl), (Nat.le_of_ble_eq_true rfl)⟩, hown2⟩
  refine lp_law (b := b) (Ln := L) (xs := xs) ⟨hX, hbl, Nat.not_le.mpr hbl⟩ hL hOk (fun L' σ' H locs ls hP hS hl => ?_) (L + 5) 0 σ0 (by omega) (by omega) Rel0 H locs ls hP hS hl2
  refine va_forget (fun q hq => hS.2.2 q hq) ?_
  refine W.widen (k := 600000) (n := 7302250) (Nat.le_of_ble_eq_true rfl) (Nat.le_of_ble_eq_true rfl) ?_
  exact lw_ret hx hb hr hlocks dL_law_825
