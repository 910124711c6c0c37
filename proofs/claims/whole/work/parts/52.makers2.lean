abbrev f4 : Nat → Int32 := fun j => i32 (if j = 0 then 10 else if j = 1 then 2 else if j = 2 then 10 else 5)
/-- the settings' first values, as the static has them -/
def FsU (tF : Nat) (A : Nat → Prop) (U : State) (H : Heap) : Prop := va_Z "HullOffsets" "SETTING_FIRST" "[I" (.ref tF) A U H ∧ ∃ cell : Cell, H[tF]? = some cell ∧ (∀ k, cell.vm ≠ .statics k) ∧ cell.vm ≠ .unknown ∧ U.vm.findClass "[I" = some cell.cls ∧ cell.slots = (arrV cell.cls 4 (fun j => .int (f4 j))).slots ∧ ¬ A tF
theorem FsU.moved {tF : Nat} {A : Nat → Prop} {u U : State} {H : Heap} (hvm : u.vm.Alike U.vm) (hf : FsU tF A u H) : FsU tF A U H := by
  obtain ⟨h1, cell, h2, h3, h4, h5, h6⟩ := hf
  exact ⟨va_Z.moved hvm h1, cell, h2, h3, h4, by rw [hvm.findClass]; exact h5, h6⟩
theorem FsU.narrow {tF : Nat} {A B : Nat → Prop} {U : State} {H : Heap} (hf : FsU tF A U H) (hAB : ∀ q, B q → A q) : FsU tF B U H := by
  obtain ⟨h1, cell, h2, h3, h4, h5, h6, h7⟩ := hf
  exact ⟨h1.narrow hAB, cell, h2, h3, h4, h5, h6, fun hB => h7 (hAB _ hB)⟩
theorem FsU.kept {tF : Nat} {A : Nat → Prop} {U : State} {H H1 : Heap} (hf : FsU tF A U H) (hq : ∀ a : Nat, a < H.size → ¬ A a → H1[a]? = H[a]?) : FsU tF A U H1 := by
  obtain ⟨h1, cell, h2, h3, h4, h5, h6, h7⟩ := hf
  exact ⟨h1.kept hq, cell, by rw [hq tF (Array.getElem?_eq_some_iff.mp h2).1 h7]; exact h2, h3, h4, h5, h6, h7⟩
section CLT
variable {p : Program} {l : Launch} {e : Env} {R : Room} {s : State} {m : MethodId} {args : Array Value} {below : List Frame} {meth : Method} {c : Code} {H : Heap} {locs : List Loc} {cells slots : Nat} {Q : State → Prop}
variable {cc : ByteArray} {pc : Nat} {ls : Array Slot} {rest : List Value} {D : va_G} {cl : List vw_C} {A : Nat → Prop} {tys : List (ClassId × FieldType)} {ws : va_W}
theorem va_cloneT (hexec : p.tables.exec = Jvm.exec) (hb : c.code = cc) (hml : c.maxLocals = ls.size) {own : String} {index tF t0 : Nat} {cA : ClassId} (hown : s.vm.findClass own = some m.cls)
    (hlink : (Cond.methodLink own index ⟨"[I", "clone", "()Ljava/lang/Object;"⟩).before args s = true) (hsame : (Cond.sameMethod "[I" "java/lang/Object" "clone" "()Ljava/lang/Object;").before args s = true)
    (hnat : (Cond.native ⟨"java/lang/Object", "clone", "()Ljava/lang/Object;"⟩).before args s = true) (hinst : (Cond.instanceMethod ⟨"java/lang/Object", "clone", "()Ljava/lang/Object;"⟩).before args s = true)
    (hsel : (Cond.selects "[I" ⟨"[I", "clone", "()Ljava/lang/Object;"⟩ ⟨"java/lang/Object", "clone", "()Ljava/lang/Object;"⟩).before args s = true) (hcl : va_Nw (.castable "[I" "java/lang/Cloneable") s)
    (hK : va_K D cl tys s) (hP : va_P D cl ws H) (hD : va_D A ws) (hS : va_S A s.heap H locs) (hA : ∀ q, s.heap.size ≤ q → A q) (ht : tys[t0]? = some (cA, .int)) (hF : FsU tF A s s.heap)
    (hframes : 1 ≤ R.frames) (hlocals : (rest.map fun v => v.category).sum + 14 ≤ R.locals) (hcells : cells + 1 ≤ R.cells) (hslots : slots + 4 ≤ R.slots) (hdg : decode cc pc = .ok (.invokevirtual index, 3))
    (kk : ∀ (q : Nat) (H1 : Heap), va_P D cl (ws ++ [(q, .inl (cA, 4, .inl f4))]) H1 → va_D A (ws ++ [(q, .inl (cA, 4, .inl f4))]) → va_S A s.heap H1 locs →
      W p l e R s m args below meth c H1 locs (cells + 1) (slots + 4) Q (F0 m (pc + 3) ls (.ref q :: rest))) : W p l e R s m args below meth c H locs cells slots Q (F0 m pc ls (.ref tF :: rest)) := by
  obtain ⟨-, cell, g1, g2, g3, g4, g5, g6⟩ := hF
  have hcA : cell.cls = cA := Option.some.inj (g4.symm.trans (va_nm_int (hK.2 t0 _ ht).2))
  have hcell : H[tF]? = some cell := by rw [hS.2.1 tF (Array.getElem?_eq_some_iff.mp g1).1 g6]; exact g1
  have hsz : cell.slots.size = 4 := by rw [g5]; exact arrV_size _ _ _
  have hcellE : ({ cls := cell.cls, slots := cell.slots } : Cell) = vp_cell cA (4, .inl f4) := by rw [g5, hcA]; rfl
  obtain ⟨c0, t0', f1, f2, f3⟩ := Cond.castable_spec (va_Nw.use (A := args) rfl hcl)
  have hc0 : c0 = cell.cls := Option.some.inj (f1.symm.trans g4)
  subst hc0
  intro T hT X
  have hcellT : T.heap[tF]? = some cell := by rw [hT]; exact hcell
  obtain ⟨-, kA, hkA, comp, hkind⟩ := State.isArrayOf_alike X.warmed.alike ((hK.2 t0 _ ht).1 0 (fun _ => .null))
  obtain ⟨-, kS, hkS, compS, hkindS⟩ := (hK.2 t0 _ ht).1 0 (fun _ => .null)
  obtain ⟨vm', X', st⟩ := X.cloneArray hexec hown hlink hsame hnat hinst hsel (a := tF) (cell := cell) hcellT g2 g3 g4 f2 f3
    (fun i v hv => by
      rw [hcA]
      have hk' : T.vm.classes[cA]? = some kA := hkA
      rw [g5] at hv
      have hfit := va_fit (cA := cell.cls) (n := 4) (F := fun j => .int (f4 j)) (ty := .int) (fun _ _ => rfl) i v hv
      simpa [State.fitsSlot, State.slotType?, hk', hkind] using hfit)
    (g := F0 m pc ls (.ref tF :: rest)) rfl (by rw [hml]) rfl (by rw [hb]; exact hdg) hframes (by show 2 * 0 + _ + 14 ≤ _; omega) hcells (by rw [hsz]; exact hslots) (hloader := by rw [hcA]; exact Vm.clonesLoader_of_array hkS hkindS)
  rw [hcellE, hsz] at X'
  generalize hH1 : H.push (vp_cell cA (4, .inl f4)) = H1
  have z1 : H1.size = H.size + 1 := by rw [← hH1, Array.size_push]
  have e1 : H1[H.size]? = some (vp_cell cA (4, .inl f4)) := by rw [← hH1, Array.getElem?_push_size]
  have o1 : ∀ q : Nat, q < H.size → H1[q]? = H[q]? := fun q hq => by rw [← hH1, Array.getElem?_push, if_neg (Nat.ne_of_lt hq)]
  have hk : ∀ (k : Nat) (y : Nat × va_E), ws[k]? = some y → H1[y.1]? = H[y.1]? := fun k y hy => o1 y.1 ((hP k y hy).lt)
  obtain ⟨t, b1, b2⟩ := kk H.size H1 ((hP.kept hk).app (fun k y hy => by
      have hz : k < 1 := (List.getElem?_eq_some_iff.mp hy).1
      rw [show k = 0 by omega] at hy
      cases hy
      exact e1)) (hD.push hP rfl (hA _ hS.1)) ⟨Nat.le_trans hS.1 (by omega), fun y h1 h2 => (o1 y (Nat.lt_of_lt_of_le h1 hS.1)).trans (hS.2.1 y h1 h2), hS.2.2⟩
    ((T.setVm vm').pushCell (vp_cell cA (4, .inl f4))) (by rw [← hH1, ← hT]; rfl) X'
  refine ⟨t, st t ?_, b2⟩
  rw [hcellE, hT]
  exact b1
end CLT
theorem upd_zero (k : Nat) : upd (fun _ => i32 0) k (i32 0) = fun _ => i32 0 := by
  funext j
  by_cases hj : j = k <;> simp [upd, hj]
abbrev rX0 (cI cZ : ClassId) (h0 : Nat) (u : Nat → Nat) : va_W := [(h0, .inr (0, [.ref (u 0), .ref (u 1), .ref (u 2), .int (i32 7), .int (i32 5)])), (u 0, .inl (cI, 63, .inl (fun _ => i32 0))), (u 1, .inl (cI, 63, .inl (fun _ => i32 0))), (u 2, .inl (cZ, 63, .inl (fun _ => i32 0)))]
set_option maxRecDepth 100000 in
set_option maxHeartbeats 4000000 in
theorem i_renew (l : Launch) (D : va_G) (cI cJ cZ : ClassId) (h0 : Nat) (u : Nat → Nat) (sz : Nat) : Met l yX0_renew (wsM mX0_renew) ({ frames := 0, cells := 0, slots := 0, locals := 0 }) (va_Pc [.ref h0, .int (i32 7), .int (i32 5)] (fun U => U.heap.size = sz ∧ va_P D vwCl (aX0 cI cJ cZ h0 u) U.heap ∧ va_K D vwCl (tys3 cI cJ cZ) U ∧ va_D (fun _ => True) (aX0 cI cJ cZ h0 u))) (va_Qv (S := Unit) (fun _ => True) (fun _ t => va_P D vwCl (rX0 cI cZ h0 u) t.heap ∧ va_D (va_A (aX0 cI cJ cZ h0 u) sz) (rX0 cI cZ h0 u)) (va_A (aX0 cI cJ cZ h0 u) sz)) 0 0 (va_A (aX0 cI cJ cZ h0 u) sz) := by
  refine Met.ofW (cc := cX0_renew) (maxL := 4) (ret := none) (by decide) rfl ?_
  intro p e s m args below meth c s₁ B hml hv
  obtain ⟨rfl, hsz, hP, hK, hD0⟩ := hv
  have hx := B.exec
  have hb := B.bytes
  have hr := B.returns
  have hts0 := atoms_spec (ws := wsM mX0_renew) B.pre
  have hts : ∀ w ∈ TW, w.before _ s = true := fun w hw => hts0 w (List.mem_cons_of_mem _ hw)
  have hown : s.vm.findClass RX0 = some m.cls := findClass_of_methodNamed B.named
  have hlocks := B.notSynchronized
  subst hsz
  have hD := hD0.self (sz := s.heap.size)
  generalize hAe : va_A (aX0 cI cJ cZ h0 u) s.heap.size = A at hD ⊢
  have hA : ∀ q : Nat, s.heap.size ≤ q → A q := fun q hq => by rw [← hAe]; exact Or.inr hq
  have hS : va_S A s.heap s.heap [] := va_S.rf
  have hl := lv_entry ([.ref h0, .int (i32 7), .int (i32 5)]) (n := 4) (Nat.le_of_ble_eq_true rfl)
  rw [lg_entry_eq]
  generalize (lg_sl ([.ref h0, .int (i32 7), .int (i32 5)]) ++ List.replicate (4 - (lg_sl ([.ref h0, .int (i32 7), .int (i32 5)])).length) Slot.unset).toArray = ls at hl ⊢
  have hl : lv_has ls 4 [(0, .ref h0), (1, .int (i32 7)), (2, .int (i32 5))] := hl
  have key : ∀ (n : Nat) (i : Int) (H : Heap) (locs : List Loc) (ls : Array Slot), 63 - i < n → 0 ≤ i ∧ i ≤ 63 → va_P D vwCl [(h0, .inr (0, [.ref (u 0), .ref (u 1), .ref (u 2), .int (i32 7), .int (i32 5)])), (u 0, .inl (cI, 63, .inl (fun _ => i32 0))), (u 1, .inl (cI, 63, .inl (fun _ => i32 0))), (u 2, .inl (cZ, 63, .inl (fun _ => i32 0)))] H → va_D A [(h0, .inr (0, [.ref (u 0), .ref (u 1), .ref (u 2), .int (i32 7), .int (i32 5)])), (u 0, .inl (cI, 63, .inl (fun _ => i32 0))), (u 1, .inl (cI, 63, .inl (fun _ => i32 0))), (u 2, .inl (cZ, 63, .inl (fun _ => i32 0)))] → va_S A s.heap H locs → lv_has ls 4 [(3, .int (i32 i)), (0, .ref h0), (1, .int (i32 7)), (2, .int (i32 5))] → W p l e (headSpec (wsM mX0_renew) { frames := 0, cells := 0, slots := 0, locals := 0 }).room s m [Value.ref h0, .int (i32 7), .int (i32 5)].toArray below meth c H locs 0 0 (MQ below (va_Qv (S := Unit) (fun _ => True) (fun _ t => va_P D vwCl (rX0 cI cZ h0 u) t.heap ∧ va_D A (rX0 cI cZ h0 u)) A) [Value.ref h0, .int (i32 7), .int (i32 5)].toArray s 0 0 A) (F0 m 12 ls []) := by
    intro n
    induction n with
    | zero => intro i H locs ls hm hi; exfalso; omega
    | succ n ih =>
      intro i H locs ls hm hi hP hD hS hl
      refine lv_iload_n hx hb dX0_renew_12 rfl (lv_at hl 0 rfl) ?_
      refine lv_bipush (v := i32 63) hx hb dX0_renew_13 (by decide +kernel) ?_
      refine lv_icmp_ge (tgt := 45) hx hb dX0_renew_15 (by decide) (fun _ => ?_) (fun hlt => ?_)
      · exact W.vret hx hb hr (fun t ht hW => ⟨⟨(), rfl, trivial, by show va_P D vwCl [(h0, .inr (0, [.ref (u 0), .ref (u 1), .ref (u 2), .int (i32 7), .int (i32 5)])), (u 0, .inl (cI, 63, .inl (fun _ => i32 0))), (u 1, .inl (cI, 63, .inl (fun _ => i32 0))), (u 2, .inl (cZ, 63, .inl (fun _ => i32 0)))] t.heap; rw [ht]; exact hP, hD⟩, hS.F ht⟩) hS.2.2 dX0_renew_45
      · have hlt2 : i < 63 := by
          rcases Int.lt_or_le i 63 with hx1 | hx1
          · exact hx1
          · exact absurd ((i32_le ⟨by omega, by omega⟩ ⟨by omega, by omega⟩).mpr hx1) hlt
        have hin63 : vp_in (i32 i) 63 := i32_in (n := 63) ⟨hi.1, by omega⟩ (by decide)
        refine lv_aload_n hx hb dX0_renew_18 rfl (lv_at hl 1 rfl) ?_
        refine va_get (D := D) (ci := 0) (C := RX0) (T := TX0) (N := 5) (v := .ref (u 0)) hx hb hts in_X0 hown hK hP 0 rfl rfl 0 (by decide) (hts _ tw_fl_X0_9) (fun _ h9 => h9) rfl dX0_renew_19 ?_
        refine lv_iload_n hx hb dX0_renew_22 rfl (lv_at hl 0 rfl) ?_
        refine lv_iconst (v := i32 0) hx hb dX0_renew_23 rfl ?_
        refine va_iast (D := D) (f := fun _ => i32 0) hx hb hK hP hD hS 1 0 rfl rfl hin63 dX0_renew_24 (fun H locs hP hD hS => ?_)
        rw [upd_zero] at hP hD
        have hP : va_P D vwCl [(h0, .inr (0, [.ref (u 0), .ref (u 1), .ref (u 2), .int (i32 7), .int (i32 5)])), (u 0, .inl (cI, 63, .inl (fun _ => i32 0))), (u 1, .inl (cI, 63, .inl (fun _ => i32 0))), (u 2, .inl (cZ, 63, .inl (fun _ => i32 0)))] H := hP
        have hD : va_D A [(h0, .inr (0, [.ref (u 0), .ref (u 1), .ref (u 2), .int (i32 7), .int (i32 5)])), (u 0, .inl (cI, 63, .inl (fun _ => i32 0))), (u 1, .inl (cI, 63, .inl (fun _ => i32 0))), (u 2, .inl (cZ, 63, .inl (fun _ => i32 0)))] := hD
        refine lv_aload_n hx hb dX0_renew_25 rfl (lv_at hl 1 rfl) ?_
        refine va_get (D := D) (ci := 0) (C := RX0) (T := TX0) (N := 5) (v := .ref (u 1)) hx hb hts in_X0 hown hK hP 0 rfl rfl 1 (by decide) (hts _ tw_fl_X0_15) (fun _ h9 => h9) rfl dX0_renew_26 ?_
        refine lv_iload_n hx hb dX0_renew_29 rfl (lv_at hl 0 rfl) ?_
        refine lv_iconst (v := i32 0) hx hb dX0_renew_30 rfl ?_
        refine va_iast (D := D) (f := fun _ => i32 0) hx hb hK hP hD hS 2 0 rfl rfl hin63 dX0_renew_31 (fun H locs hP hD hS => ?_)
        rw [upd_zero] at hP hD
        have hP : va_P D vwCl [(h0, .inr (0, [.ref (u 0), .ref (u 1), .ref (u 2), .int (i32 7), .int (i32 5)])), (u 0, .inl (cI, 63, .inl (fun _ => i32 0))), (u 1, .inl (cI, 63, .inl (fun _ => i32 0))), (u 2, .inl (cZ, 63, .inl (fun _ => i32 0)))] H := hP
        have hD : va_D A [(h0, .inr (0, [.ref (u 0), .ref (u 1), .ref (u 2), .int (i32 7), .int (i32 5)])), (u 0, .inl (cI, 63, .inl (fun _ => i32 0))), (u 1, .inl (cI, 63, .inl (fun _ => i32 0))), (u 2, .inl (cZ, 63, .inl (fun _ => i32 0)))] := hD
        refine lv_aload_n hx hb dX0_renew_32 rfl (lv_at hl 1 rfl) ?_
        refine va_get (D := D) (ci := 0) (C := RX0) (T := TX0) (N := 5) (v := .ref (u 2)) hx hb hts in_X0 hown hK hP 0 rfl rfl 2 (by decide) (hts _ tw_fl_X0_18) (fun _ h9 => h9) rfl dX0_renew_33 ?_
        refine lv_iload_n hx hb dX0_renew_36 rfl (lv_at hl 0 rfl) ?_
        refine lv_iconst (v := i32 0) hx hb dX0_renew_37 rfl ?_
        refine va_zast (D := D) (f := fun _ => i32 0) hx hb hK hP hD hS 3 2 rfl rfl hin63 dX0_renew_38 (fun H locs hP hD hS => ?_)
        rw [show vp_nar .boolean (i32 0) = i32 0 from rfl, upd_zero] at hP hD
        have hP : va_P D vwCl [(h0, .inr (0, [.ref (u 0), .ref (u 1), .ref (u 2), .int (i32 7), .int (i32 5)])), (u 0, .inl (cI, 63, .inl (fun _ => i32 0))), (u 1, .inl (cI, 63, .inl (fun _ => i32 0))), (u 2, .inl (cZ, 63, .inl (fun _ => i32 0)))] H := hP
        have hD : va_D A [(h0, .inr (0, [.ref (u 0), .ref (u 1), .ref (u 2), .int (i32 7), .int (i32 5)])), (u 0, .inl (cI, 63, .inl (fun _ => i32 0))), (u 1, .inl (cI, 63, .inl (fun _ => i32 0))), (u 2, .inl (cZ, 63, .inl (fun _ => i32 0)))] := hD
        refine lv_iinc (k := 0) (v := i32 (i + 1)) hx hb dX0_renew_39 hl rfl (by show i32 i + i32 1 = _; exact (Int32.ofInt_add _ _).symm) (by decide) rfl (fun ls hl => ?_)
        refine lv_goto (tgt := 12) hx hb dX0_renew_42 (by decide) ?_
        exact ih (i + 1) H locs ls (by omega) (by omega) hP hD hS hl
  refine lv_aload_n hx hb dX0_renew_0 rfl (lv_at hl 0 rfl) ?_
  refine lv_iload_n hx hb dX0_renew_1 rfl (lv_at hl 1 rfl) ?_
  refine va_put (D := D) (ci := 0) (v := .int (i32 7)) (ty := .int) (C := RX0) (T := TX0) (N := 5) hx hb hts in_X0 tyX0 tyX0_ok nmX0 hown hK hP hD hS 0 rfl rfl 3 (by decide) (hts _ tw_fl_X0_22) (fun _ h9 => h9) rfl (by decide +kernel) rfl rfl (Nat.le_of_ble_eq_true rfl) dX0_renew_2 (fun H locs hP hD hS => ?_)
  have hP : va_P D vwCl [(h0, .inr (0, [.ref (u 0), .ref (u 1), .ref (u 2), .int (i32 7), .int (i32 0)])), (u 0, .inl (cI, 63, .inl (fun _ => i32 0))), (u 1, .inl (cI, 63, .inl (fun _ => i32 0))), (u 2, .inl (cZ, 63, .inl (fun _ => i32 0)))] H := hP
  have hD : va_D A [(h0, .inr (0, [.ref (u 0), .ref (u 1), .ref (u 2), .int (i32 7), .int (i32 0)])), (u 0, .inl (cI, 63, .inl (fun _ => i32 0))), (u 1, .inl (cI, 63, .inl (fun _ => i32 0))), (u 2, .inl (cZ, 63, .inl (fun _ => i32 0)))] := hD
  refine lv_aload_n hx hb dX0_renew_5 rfl (lv_at hl 0 rfl) ?_
  refine lv_iload_n hx hb dX0_renew_6 rfl (lv_at hl 2 rfl) ?_
  refine va_put (D := D) (ci := 0) (v := .int (i32 5)) (ty := .int) (C := RX0) (T := TX0) (N := 5) hx hb hts in_X0 tyX0 tyX0_ok nmX0 hown hK hP hD hS 0 rfl rfl 4 (by decide) (hts _ tw_fl_X0_26) (fun _ h9 => h9) rfl (by decide +kernel) rfl rfl (Nat.le_of_ble_eq_true rfl) dX0_renew_7 (fun H locs hP hD hS => ?_)
  have hP : va_P D vwCl [(h0, .inr (0, [.ref (u 0), .ref (u 1), .ref (u 2), .int (i32 7), .int (i32 5)])), (u 0, .inl (cI, 63, .inl (fun _ => i32 0))), (u 1, .inl (cI, 63, .inl (fun _ => i32 0))), (u 2, .inl (cZ, 63, .inl (fun _ => i32 0)))] H := hP
  have hD : va_D A [(h0, .inr (0, [.ref (u 0), .ref (u 1), .ref (u 2), .int (i32 7), .int (i32 5)])), (u 0, .inl (cI, 63, .inl (fun _ => i32 0))), (u 1, .inl (cI, 63, .inl (fun _ => i32 0))), (u 2, .inl (cZ, 63, .inl (fun _ => i32 0)))] := hD
  refine lv_iconst (v := i32 0) hx hb dX0_renew_10 rfl ?_
  refine lv_istore_n (i := 3) hx hb dX0_renew_11 rfl hl (by decide) rfl (fun ls hl => ?_)
  exact key 100 0 H locs ls (by omega) (by omega) hP hD hS hl
