/-! CONTRACTS over the pure store -/
def QcI (K : Ctx) (post : Int → Sto → Prop) : Array Value → State → Outcome → State → Prop := va_Qi (S := Int × Sto) (fun r u => r = i32 u.1 ∧ post u.1 u.2) (fun u t => va_P K.1 vwCl (wld K u.2) t.heap) (Own K)
def QcL (K : Ctx) (post : Int → Sto → Prop) : Array Value → State → Outcome → State → Prop := va_Ql (S := Int × Sto) (fun r u => r = i64 u.1 ∧ post u.1 u.2) (fun u t => va_P K.1 vwCl (wld K u.2) t.heap) (Own K)
def QcV (K : Ctx) (post : Sto → Prop) : Array Value → State → Outcome → State → Prop := va_Qv (S := Sto) post (fun u t => va_P K.1 vwCl (wld K u) t.heap) (Own K)
def PcK (K : Ctx) (As : List Value) (σ : Sto) : Array Value → State → Prop := va_Pc As (fun U => va_P K.1 vwCl (wld K σ) U.heap ∧ KU K (Own K) U U.heap)
def CtI (K : Ctx) (Mi : MI) (d : Nat) (As : List Value) (σ : Sto) (post : Int → Sto → Prop) : Prop := ∀ l : Launch, Met l Mi.1 (wsM Mi) (rmD d) (PcK K As σ) (QcI K post) 0 0 (Own K)
def CtL (K : Ctx) (Mi : MI) (d : Nat) (As : List Value) (σ : Sto) (post : Int → Sto → Prop) : Prop := ∀ l : Launch, Met l Mi.1 (wsM Mi) (rmD d) (PcK K As σ) (QcL K post) 0 0 (Own K)
def CtV (K : Ctx) (Mi : MI) (d : Nat) (As : List Value) (σ : Sto) (post : Sto → Prop) : Prop := ∀ l : Launch, Met l Mi.1 (wsM Mi) (rmD d) (PcK K As σ) (QcV K post) 0 0 (Own K)
def RetI (K : Ctx) (E : ME) (Mi : MI) (post : Int → Sto → Prop) : Prop := ∀ (pc : Nat) (ls : Array Slot) (H : Heap) (locs : List Loc) (r : Int) (σ : Sto), decode Mi.2.1 pc = .ok (.ireturn, 1) → post r σ → va_P K.1 vwCl (wld K σ) H → va_S (eA E) (eS E).heap H locs → WE E H locs (F0 (eM E) pc ls [.int (i32 r)])
def RetZ (K : Ctx) (E : ME) (Mi : MI) (post : Int → Sto → Prop) : Prop := ∀ (pc : Nat) (ls : Array Slot) (H : Heap) (locs : List Loc) (r : Int) (σ : Sto), decode Mi.2.1 pc = .ok (.ireturn, 1) → (r = 0 ∨ r = 1) → post r σ → va_P K.1 vwCl (wld K σ) H → va_S (eA E) (eS E).heap H locs → WE E H locs (F0 (eM E) pc ls [.int (i32 r)])
def RetL (K : Ctx) (E : ME) (Mi : MI) (post : Int → Sto → Prop) : Prop := ∀ (pc : Nat) (ls : Array Slot) (H : Heap) (locs : List Loc) (r : Int) (σ : Sto), decode Mi.2.1 pc = .ok (.lreturn, 1) → post r σ → va_P K.1 vwCl (wld K σ) H → va_S (eA E) (eS E).heap H locs → WE E H locs (F0 (eM E) pc ls [.long (i64 r)])
def RetV (K : Ctx) (E : ME) (Mi : MI) (post : Sto → Prop) : Prop := ∀ (pc : Nat) (ls : Array Slot) (H : Heap) (locs : List Loc) (σ : Sto), decode Mi.2.1 pc = .ok (.return_, 1) → post σ → va_P K.1 vwCl (wld K σ) H → va_S (eA E) (eS E).heap H locs → WE E H locs (F0 (eM E) pc ls [])
theorem narZ {r : Int} (h : r = 0 ∨ r = 1) : narrow .boolean (.int (i32 r)) = .int (i32 r) := by rcases h with rfl | rfl <;> rfl
section VCT
variable {K : Ctx} {Mi : MI} {d : Nat} {As : List Value} {σ : Sto} {L : List (Option Value)}
theorem CtI_of {post : Int → Sto → Prop} (hy : plainName Mi.1.cls = true) (hret : Mi.2.2.2 = some .int) (hlen : Nat.ble (lg_sl As).length Mi.2.2.1 = true) (hL : al 0 L = lv_args 0 As)
    (h : ∀ E, Ok K E Mi d → RetI K E Mi post → V K E Mi 0 L [] σ) : CtI K Mi d As σ post := by
  intro l
  refine Met.ofW (cc := Mi.2.1) (maxL := Mi.2.2.1) (ret := Mi.2.2.2) hy rfl ?_
  intro p e s m args below meth c s₁ B hml hv
  obtain ⟨rfl, hP, hKU⟩ := hv
  have hts := atoms_spec (ws := wsM Mi) B.pre
  have hl := lv_entry As (n := Mi.2.2.1) (Nat.le_of_ble_eq_true hlen)
  have hlocks := B.notSynchronized
  have hx := B.exec
  have hb := B.bytes
  have hr : meth.sig.returnType = some .int := B.returns.trans hret
  rw [lg_entry_eq]
  rw [← hL] at hl
  exact h (p, l, e, (headSpec (wsM Mi) (rmD d)).room, s, m, As.toArray, below, meth, c, 0, 0, MQ below (QcI K post) As.toArray s 0 0 (Own K), Own K) ⟨B.exec, B.bytes, hml, findClass_of_methodNamed B.named, fun w h => hts w (List.mem_cons_of_mem _ h), hKU, ⟨Nat.le_refl _, Nat.le_refl _, Nat.zero_le _, Nat.zero_le _⟩, fun _ h => h⟩
    (fun pc ls H locs r σ' hd hpost hP' hS' => W.iret (v := i32 r) hx hb hr (fun t ht hW => ⟨⟨i32 r, (r, σ'), rfl, ⟨rfl, hpost⟩, (by show va_P K.1 vwCl (wld K σ') t.heap; rw [ht]; exact hP')⟩, hS'.F ht⟩) hS'.2.2 hd) s.heap [] _ hP va_S.rf hl
theorem CtZ_of {post : Int → Sto → Prop} (hy : plainName Mi.1.cls = true) (hret : Mi.2.2.2 = some .boolean) (hlen : Nat.ble (lg_sl As).length Mi.2.2.1 = true) (hL : al 0 L = lv_args 0 As)
    (h : ∀ E, Ok K E Mi d → RetZ K E Mi post → V K E Mi 0 L [] σ) : CtI K Mi d As σ post := by
  intro l
  refine Met.ofW (cc := Mi.2.1) (maxL := Mi.2.2.1) (ret := Mi.2.2.2) hy rfl ?_
  intro p e s m args below meth c s₁ B hml hv
  obtain ⟨rfl, hP, hKU⟩ := hv
  have hts := atoms_spec (ws := wsM Mi) B.pre
  have hl := lv_entry As (n := Mi.2.2.1) (Nat.le_of_ble_eq_true hlen)
  have hlocks := B.notSynchronized
  have hx := B.exec
  have hb := B.bytes
  have hr : meth.sig.returnType = some .boolean := B.returns.trans hret
  rw [lg_entry_eq]
  rw [← hL] at hl
  exact h (p, l, e, (headSpec (wsM Mi) (rmD d)).room, s, m, As.toArray, below, meth, c, 0, 0, MQ below (QcI K post) As.toArray s 0 0 (Own K), Own K) ⟨B.exec, B.bytes, hml, findClass_of_methodNamed B.named, fun w h => hts w (List.mem_cons_of_mem _ h), hKU, ⟨Nat.le_refl _, Nat.le_refl _, Nat.zero_le _, Nat.zero_le _⟩, fun _ h => h⟩
    (fun pc ls H locs r σ' hd hz hpost hP' hS' => W.zret (v := i32 r) (ty := .boolean) hx hb hr (narZ hz) (fun t ht hW => ⟨⟨i32 r, (r, σ'), rfl, ⟨rfl, hpost⟩, (by show va_P K.1 vwCl (wld K σ') t.heap; rw [ht]; exact hP')⟩, hS'.F ht⟩) hS'.2.2 hd) s.heap [] _ hP va_S.rf hl
theorem CtL_of {post : Int → Sto → Prop} (hy : plainName Mi.1.cls = true) (hret : Mi.2.2.2 = some .long) (hlen : Nat.ble (lg_sl As).length Mi.2.2.1 = true) (hL : al 0 L = lv_args 0 As)
    (h : ∀ E, Ok K E Mi d → RetL K E Mi post → V K E Mi 0 L [] σ) : CtL K Mi d As σ post := by
  intro l
  refine Met.ofW (cc := Mi.2.1) (maxL := Mi.2.2.1) (ret := Mi.2.2.2) hy rfl ?_
  intro p e s m args below meth c s₁ B hml hv
  obtain ⟨rfl, hP, hKU⟩ := hv
  have hts := atoms_spec (ws := wsM Mi) B.pre
  have hl := lv_entry As (n := Mi.2.2.1) (Nat.le_of_ble_eq_true hlen)
  have hlocks := B.notSynchronized
  have hx := B.exec
  have hb := B.bytes
  have hr : meth.sig.returnType = some .long := B.returns.trans hret
  rw [lg_entry_eq]
  rw [← hL] at hl
  exact h (p, l, e, (headSpec (wsM Mi) (rmD d)).room, s, m, As.toArray, below, meth, c, 0, 0, MQ below (QcL K post) As.toArray s 0 0 (Own K), Own K) ⟨B.exec, B.bytes, hml, findClass_of_methodNamed B.named, fun w h => hts w (List.mem_cons_of_mem _ h), hKU, ⟨Nat.le_refl _, Nat.le_refl _, Nat.zero_le _, Nat.zero_le _⟩, fun _ h => h⟩
    (fun pc ls H locs r σ' hd hpost hP' hS' => W.lret (v := i64 r) hx hb hr (fun t ht hW => ⟨⟨i64 r, (r, σ'), rfl, ⟨rfl, hpost⟩, (by show va_P K.1 vwCl (wld K σ') t.heap; rw [ht]; exact hP')⟩, hS'.F ht⟩) hS'.2.2 hd) s.heap [] _ hP va_S.rf hl
theorem CtV_of {post : Sto → Prop} (hy : plainName Mi.1.cls = true) (hret : Mi.2.2.2 = none) (hlen : Nat.ble (lg_sl As).length Mi.2.2.1 = true) (hL : al 0 L = lv_args 0 As)
    (h : ∀ E, Ok K E Mi d → RetV K E Mi post → V K E Mi 0 L [] σ) : CtV K Mi d As σ post := by
  intro l
  refine Met.ofW (cc := Mi.2.1) (maxL := Mi.2.2.1) (ret := Mi.2.2.2) hy rfl ?_
  intro p e s m args below meth c s₁ B hml hv
  obtain ⟨rfl, hP, hKU⟩ := hv
  have hts := atoms_spec (ws := wsM Mi) B.pre
  have hl := lv_entry As (n := Mi.2.2.1) (Nat.le_of_ble_eq_true hlen)
  have hlocks := B.notSynchronized
  have hx := B.exec
  have hb := B.bytes
  have hr : meth.sig.returnType = none := B.returns.trans hret
  rw [lg_entry_eq]
  rw [← hL] at hl
  exact h (p, l, e, (headSpec (wsM Mi) (rmD d)).room, s, m, As.toArray, below, meth, c, 0, 0, MQ below (QcV K post) As.toArray s 0 0 (Own K), Own K) ⟨B.exec, B.bytes, hml, findClass_of_methodNamed B.named, fun w h => hts w (List.mem_cons_of_mem _ h), hKU, ⟨Nat.le_refl _, Nat.le_refl _, Nat.zero_le _, Nat.zero_le _⟩, fun _ h => h⟩
    (fun pc ls H locs σ' hd hpost hP' hS' => W.vret hx hb hr (fun t ht hW => ⟨⟨σ', rfl, hpost, (by show va_P K.1 vwCl (wld K σ') t.heap; rw [ht]; exact hP')⟩, hS'.F ht⟩) hS'.2.2 hd) s.heap [] _ hP va_S.rf hl
end VCT
section VRUN
variable {K : Ctx} {E : ME} {Mi Mc : MI} {d dc pc idx n : Nat} {L : List (Option Value)} {As rest : List Value} {σ : Sto} {Qc : Array Value → State → Outcome → State → Prop}
theorem V_ireturn {post : Int → Sto → Prop} {r : Int} (hR : RetI K E Mi post) (hd : decode Mi.2.1 pc = .ok (.ireturn, 1)) (h : post r σ) : V K E Mi pc L [.int (i32 r)] σ := fun H locs ls hP hS _ => hR pc ls H locs r σ hd h hP hS
theorem V_zreturn {post : Int → Sto → Prop} {r : Int} (hR : RetZ K E Mi post) (hd : decode Mi.2.1 pc = .ok (.ireturn, 1)) (hz : r = 0 ∨ r = 1) (h : post r σ) : V K E Mi pc L [.int (i32 r)] σ := fun H locs ls hP hS _ => hR pc ls H locs r σ hd hz h hP hS
theorem V_lreturn {post : Int → Sto → Prop} {r : Int} (hR : RetL K E Mi post) (hd : decode Mi.2.1 pc = .ok (.lreturn, 1)) (h : post r σ) : V K E Mi pc L [.long (i64 r)] σ := fun H locs ls hP hS _ => hR pc ls H locs r σ hd h hP hS
theorem V_return {post : Sto → Prop} (hR : RetV K E Mi post) (hd : decode Mi.2.1 pc = .ok (.return_, 1)) (h : post σ) : V K E Mi pc L [] σ := fun H locs ls hP hS _ => hR pc ls H locs σ hd h hP hS
theorem KU_pass (hE : Ok K E Mi d) {H : Heap} {locs : List Loc} (hS : va_S (eA E) (eS E).heap H locs) {U : State} (hU : U.heap = H) (hW : (eS E).WarmedH U.vm) : KU K (Own K) U U.heap := by
  obtain ⟨h1, h2, h3, h4⟩ := hE.2.2.2.2.2.1
  refine ⟨va_K.moved hW.alike h1, NwAll.warm hW h2, ?_, h4⟩
  rw [hU]
  exact ((h3.kept hS.2.1).moved hW.alike).narrow hE.2.2.2.2.2.2.2
theorem PcK_blind : FrameBlind (PcK K As σ) := fun a U g mk q => ⟨q.1, q.2.1, va_K.moved (u := U) (U := U.calling g mk a) (Vm.Alike.refl U.vm) q.2.2.1, NwAll.same (u := U) (U := U.calling g mk a) rfl q.2.2.2.1, StU.moved (u := U) (U := U.calling g mk a) (Vm.Alike.refl U.vm) q.2.2.2.2.1, q.2.2.2.2.2⟩
theorem wsM_good (hco : Cond.code Mc.1 Mc.2.1 Mc.2.2.1 Mc.2.2.2 ∈ TW) : GoodIn TW (wsM Mc) := fun w h => TW_good w (by rcases List.mem_cons.mp h with rfl | h; exact hco; exact h)
/-- what a callee's name must be, and its locals -/
abbrev NmOk (Mc : MI) (n : Nat) : Prop := (Mc.1.cls ≠ "java/lang/invoke/MethodHandle" ∧ Mc.1.cls ≠ "java/lang/invoke/VarHandle" ∧ (parseMethodDescriptor Mc.1.desc).map (fun d => d.parameters.length) = some n) ∧ Mc.2.2.1 ≤ 17
theorem room_ok (hE : Ok K E Mi d) (hdc : Nat.blt dc d = true) (hm : Mc.2.2.1 ≤ 17) : (rmD dc).frames + 1 ≤ (eR E).frames ∧ 8 + (Mc.2.2.1 + 11) + (rmD dc).locals ≤ (eR E).locals := by
  obtain ⟨h1, h2, -, -⟩ := hE.2.2.2.2.2.2.1
  have h3 : dc + 1 ≤ d := Nat.le_of_ble_eq_true hdc
  show dc + 1 ≤ _ ∧ 8 + (Mc.2.2.1 + 11) + 36 * dc ≤ _
  omega
theorem run_S (hE : Ok K E Mi d) (hlk : Cond.methodLink Mi.1.cls idx Mc.1 ∈ TW) (hst : Cond.static Mc.1 ∈ TW) (hini : Cond.initialized Mc.1.cls ∈ TW) (hco : Cond.code Mc.1 Mc.2.1 Mc.2.2.1 Mc.2.2.2 ∈ TW) (hnm : NmOk Mc n) (hdc : Nat.blt dc d = true) (hn : As.length = n) (h8 : Nat.ble (rest.map fun v => v.category).sum 8 = true)
    (hM : ∀ l : Launch, Met l Mc.1 (wsM Mc) (rmD dc) (PcK K As σ) Qc 0 0 (Own K)) (hd : decode Mi.2.1 pc = .ok (.invokestatic idx, 3)) {H : Heap} {locs : List Loc} {ls : Array Slot} (hP : va_P K.1 vwCl (wld K σ) H) (hS : va_S (eA E) (eS E).heap H locs) (hl : lv_has ls Mi.2.2.1 (al 0 L)) :
    va_Run (eP E) (eL E) (eE E) (eR E) (eS E) (eM E) (eG E) (eB E) (eT E) (eC E) H locs (eX E) (eY E) 0 0 (F0 (eM E) pc ls (As.reverse ++ rest)) rest (Qc As.toArray) (Own K) :=
  va_runS (g := F0 (eM E) pc ls (As.reverse ++ rest)) ⟨hE.1, hE.2.1, hE.2.2.1, hE.2.2.2.1, hE.2.2.2.2.1⟩ (hM (eL E)) ⟨callB_of n hE.2.2.2.2.1 (wsM_good hco) rfl rfl rfl (hE.2.2.2.2.1 _ hini) (hE.2.2.2.2.1 _ hlk) hnm.1 (room_ok hE hdc hnm.2), hE.2.2.2.2.1 _ hst⟩
    ⟨PcK_blind, fun U hU hW => ⟨rfl, by rw [hU]; exact hP, KU_pass hE hS hU hW⟩⟩ rfl hn hl.1 rfl (lv_room (Nat.le_of_ble_eq_true h8)) hd ⟨hE.2.2.2.2.2.2.1.2.2.1, hE.2.2.2.2.2.2.1.2.2.2⟩
theorem run_SN {host : String} (hE : Ok K E Mi d) (hlk : Cond.methodLinkNest Mi.1.cls idx Mc.1 host ∈ nwL) (hst : Cond.static Mc.1 ∈ TW) (hini : Cond.initialized Mc.1.cls ∈ TW) (hco : Cond.code Mc.1 Mc.2.1 Mc.2.2.1 Mc.2.2.2 ∈ TW) (hnm : NmOk Mc n) (hdc : Nat.blt dc d = true) (hn : As.length = n) (h8 : Nat.ble (rest.map fun v => v.category).sum 8 = true)
    (hM : ∀ l : Launch, Met l Mc.1 (wsM Mc) (rmD dc) (PcK K As σ) Qc 0 0 (Own K)) (hd : decode Mi.2.1 pc = .ok (.invokestatic idx, 3)) {H : Heap} {locs : List Loc} {ls : Array Slot} (hP : va_P K.1 vwCl (wld K σ) H) (hS : va_S (eA E) (eS E).heap H locs) (hl : lv_has ls Mi.2.2.1 (al 0 L)) :
    va_Run (eP E) (eL E) (eE E) (eR E) (eS E) (eM E) (eG E) (eB E) (eT E) (eC E) H locs (eX E) (eY E) 0 0 (F0 (eM E) pc ls (As.reverse ++ rest)) rest (Qc As.toArray) (Own K) :=
  va_runSN (g := F0 (eM E) pc ls (As.reverse ++ rest)) ⟨hE.1, hE.2.1, hE.2.2.1, hE.2.2.2.1, hE.2.2.2.2.1⟩ (hM (eL E)) ⟨va_cnB n hE.2.2.2.2.1 (wsM_good hco) rfl rfl rfl (hE.2.2.2.2.2.1.2.1 _ hlk) (hE.2.2.2.2.1 _ hini) hnm.1 (room_ok hE hdc hnm.2), hE.2.2.2.2.1 _ hst, trivial⟩
    ⟨PcK_blind, fun U hU hW => ⟨rfl, by rw [hU]; exact hP, KU_pass hE hS hU hW⟩⟩ rfl hn hl.1 rfl (lv_room (Nat.le_of_ble_eq_true h8)) hd ⟨hE.2.2.2.2.2.2.1.2.2.1, hE.2.2.2.2.2.2.1.2.2.2⟩
theorem run_V {k ci N : Nat} {fs : List (Nat × Nat)} {T : u_T} (hE : Ok K E Mi d) (hs : sh k = (3, ci, fs)) (hc : vwCl[ci]? = some (Mc.1.cls, T, N)) (hlk : Cond.methodLink Mi.1.cls idx Mc.1 ∈ TW) (hin : Cond.instanceMethod Mc.1 ∈ TW) (hse : Cond.selects Mc.1.cls Mc.1 Mc.1 ∈ TW) (hini : Cond.initialized Mc.1.cls ∈ TW) (hco : Cond.code Mc.1 Mc.2.1 Mc.2.2.1 Mc.2.2.2 ∈ TW) (hnm : NmOk Mc n) (hdc : Nat.blt dc d = true) (hn : As.length = n) (h8 : Nat.ble (rest.map fun v => v.category).sum 8 = true)
    (hM : ∀ l : Launch, Met l Mc.1 (wsM Mc) (rmD dc) (PcK K (.ref (kA K k) :: As) σ) Qc 0 0 (Own K)) (hd : decode Mi.2.1 pc = .ok (.invokevirtual idx, 3)) {H : Heap} {locs : List Loc} {ls : Array Slot} (hP : va_P K.1 vwCl (wld K σ) H) (hS : va_S (eA E) (eS E).heap H locs) (hl : lv_has ls Mi.2.2.1 (al 0 L)) :
    va_Run (eP E) (eL E) (eE E) (eR E) (eS E) (eM E) (eG E) (eB E) (eT E) (eC E) H locs (eX E) (eY E) 0 0 (F0 (eM E) pc ls (As.reverse ++ .ref (kA K k) :: rest)) rest (Qc (Value.ref (kA K k) :: As).toArray) (Own K) := by
  have hk := sh_lt hs (Or.inl (by decide))
  exact va_runV (g := F0 (eM E) pc ls (As.reverse ++ .ref (kA K k) :: rest)) ⟨hE.1, hE.2.1, hE.2.2.1, hE.2.2.2.1, hE.2.2.2.2.1⟩ (hM (eL E)) ⟨callB_of n hE.2.2.2.2.1 (wsM_good hco) rfl rfl rfl (hE.2.2.2.2.1 _ hini) (hE.2.2.2.2.1 _ hlk) hnm.1 (room_ok hE hdc hnm.2), hE.2.2.2.2.1 _ hin, hE.2.2.2.2.1 _ hse⟩
    ⟨PcK_blind, va_recv hE.2.2.2.2.2.1.1 hP hc (fs := fs.map (fv K σ)) (q0 := k) (by rw [wld_get K σ hk, ent, hs]; rfl), fun U hU hW => ⟨rfl, by rw [hU]; exact hP, KU_pass hE hS hU hW⟩⟩ rfl hn hl.1 rfl (lv_room (Nat.le_of_ble_eq_true h8)) hd ⟨hE.2.2.2.2.2.2.1.2.2.1, hE.2.2.2.2.2.2.1.2.2.2⟩
theorem run_VN {host : String} {k ci N : Nat} {fs : List (Nat × Nat)} {T : u_T} (hE : Ok K E Mi d) (hs : sh k = (3, ci, fs)) (hc : vwCl[ci]? = some (Mc.1.cls, T, N)) (hlk : Cond.methodLinkNest Mi.1.cls idx Mc.1 host ∈ nwL) (hin : Cond.instanceMethod Mc.1 ∈ TW) (hse : Cond.selects Mc.1.cls Mc.1 Mc.1 ∈ TW) (hini : Cond.initialized Mc.1.cls ∈ TW) (hco : Cond.code Mc.1 Mc.2.1 Mc.2.2.1 Mc.2.2.2 ∈ TW) (hnm : NmOk Mc n) (hdc : Nat.blt dc d = true) (hn : As.length = n) (h8 : Nat.ble (rest.map fun v => v.category).sum 8 = true)
    (hM : ∀ l : Launch, Met l Mc.1 (wsM Mc) (rmD dc) (PcK K (.ref (kA K k) :: As) σ) Qc 0 0 (Own K)) (hd : decode Mi.2.1 pc = .ok (.invokevirtual idx, 3)) {H : Heap} {locs : List Loc} {ls : Array Slot} (hP : va_P K.1 vwCl (wld K σ) H) (hS : va_S (eA E) (eS E).heap H locs) (hl : lv_has ls Mi.2.2.1 (al 0 L)) :
    va_Run (eP E) (eL E) (eE E) (eR E) (eS E) (eM E) (eG E) (eB E) (eT E) (eC E) H locs (eX E) (eY E) 0 0 (F0 (eM E) pc ls (As.reverse ++ .ref (kA K k) :: rest)) rest (Qc (Value.ref (kA K k) :: As).toArray) (Own K) := by
  have hk := sh_lt hs (Or.inl (by decide))
  exact va_runVN (g := F0 (eM E) pc ls (As.reverse ++ .ref (kA K k) :: rest)) ⟨hE.1, hE.2.1, hE.2.2.1, hE.2.2.2.1, hE.2.2.2.2.1⟩ (hM (eL E)) ⟨va_cnB n hE.2.2.2.2.1 (wsM_good hco) rfl rfl rfl (hE.2.2.2.2.2.1.2.1 _ hlk) (hE.2.2.2.2.1 _ hini) hnm.1 (room_ok hE hdc hnm.2), hE.2.2.2.2.1 _ hin, hE.2.2.2.2.1 _ hse⟩
    ⟨PcK_blind, va_recv hE.2.2.2.2.2.1.1 hP hc (fs := fs.map (fv K σ)) (q0 := k) (by rw [wld_get K σ hk, ent, hs]; rfl), fun U hU hW => ⟨rfl, by rw [hU]; exact hP, KU_pass hE hS hU hW⟩⟩ rfl hn hl.1 rfl (lv_room (Nat.le_of_ble_eq_true h8)) hd ⟨hE.2.2.2.2.2.2.1.2.2.1, hE.2.2.2.2.2.2.1.2.2.2⟩
abbrev Runs (K : Ctx) (E : ME) (Mi : MI) (pc : Nat) (L : List (Option Value)) (st rest : List Value) (σ : Sto) (Qa : State → Outcome → State → Prop) : Prop := ∀ {H : Heap} {locs : List Loc} {ls : Array Slot}, va_P K.1 vwCl (wld K σ) H → va_S (eA E) (eS E).heap H locs → lv_has ls Mi.2.2.1 (al 0 L) → va_Run (eP E) (eL E) (eE E) (eR E) (eS E) (eM E) (eG E) (eB E) (eT E) (eC E) H locs (eX E) (eY E) 0 0 (F0 (eM E) pc ls st) rest Qa (Own K)
theorem V_callI {post : Int → Sto → Prop} {st : List Value} {a : Array Value} (hE : Ok K E Mi d) (hr : Runs K E Mi pc L st rest σ (QcI K post a)) (kk : ∀ (r : Int) (σ' : Sto), post r σ' → V K E Mi (pc + 3) L (.int (i32 r) :: rest) σ') : V K E Mi pc L st σ :=
  fun H locs ls hP hS hl => va_calli (hr hP hS hl) hS (fun q _ h => hE.2.2.2.2.2.2.2 q h) hE.2.2.2.2.2.2.2 (fun r u t H1 locs1 ht hvm hp hB hz hk hS1 => by
    obtain ⟨rfl, hp⟩ := hp
    subst ht
    exact kk u.1 u.2 hp t.heap locs1 ls hB hS1 hl)
theorem V_callL {post : Int → Sto → Prop} {st : List Value} {a : Array Value} (hE : Ok K E Mi d) (hr : Runs K E Mi pc L st rest σ (QcL K post a)) (kk : ∀ (r : Int) (σ' : Sto), post r σ' → V K E Mi (pc + 3) L (.long (i64 r) :: rest) σ') : V K E Mi pc L st σ :=
  fun H locs ls hP hS hl => va_calll (hr hP hS hl) hS (fun q _ h => hE.2.2.2.2.2.2.2 q h) hE.2.2.2.2.2.2.2 (fun r u t H1 locs1 ht hvm hp hB hz hk hS1 => by
    obtain ⟨rfl, hp⟩ := hp
    subst ht
    exact kk u.1 u.2 hp t.heap locs1 ls hB hS1 hl)
theorem V_callV {post : Sto → Prop} {st : List Value} {a : Array Value} (hE : Ok K E Mi d) (hr : Runs K E Mi pc L st rest σ (QcV K post a)) (kk : ∀ σ' : Sto, post σ' → V K E Mi (pc + 3) L rest σ') : V K E Mi pc L st σ :=
  fun H locs ls hP hS hl => va_callv (hr hP hS hl) hS (fun q _ h => hE.2.2.2.2.2.2.2 q h) hE.2.2.2.2.2.2.2 (fun u t H1 locs1 ht hvm hp hB hz hk hS1 => by
    subst ht
    exact kk u hp t.heap locs1 ls hB hS1 hl)
/-! the JDK's: Math, arraycopy -/
theorem V_max (hE : Ok K E Mi d) {a b : Int} (hlk : Cond.methodLink Mi.1.cls idx Lib.Math.max.name ∈ TW) (hd : decode Mi.2.1 pc = .ok (.invokestatic idx, 3)) (h1 : Nat.blt 0 d = true) (h8 : Nat.ble (rest.map fun v => v.category).sum 8 = true) (hr : InI a ∧ InI b) (kk : V K E Mi (pc + 3) L (.int (i32 (max a b)) :: rest) σ) : V K E Mi pc L (.int (i32 b) :: .int (i32 a) :: rest) σ := by
  intro H locs ls hP hS hl
  have h1 : 1 ≤ d := Nat.le_of_ble_eq_true h1
  have h8 := Nat.le_of_ble_eq_true h8
  obtain ⟨r1, r2, r3, r4⟩ := hE.2.2.2.2.2.2.1
  refine va_mmax hE.1 hE.2.1 (hE.2.2.1.trans hl.1.symm) hE.2.2.2.1 (hE.2.2.2.2.1 _ hlk) (hE.2.2.2.2.1 _ tw_max_static) (hE.2.2.2.2.1 _ tw_math_init) (hE.2.2.2.2.1 _ tw_max_code) (by omega) (by omega) r3 r4 hd ?_
  have e : (if i32 a < i32 b then i32 b else i32 a) = i32 (max a b) := by
    by_cases h : a < b
    · rw [if_pos ((i32_lt hr.1 hr.2).mpr h), Int.max_eq_right (by omega)]
    · rw [if_neg (fun q => h ((i32_lt hr.1 hr.2).mp q)), Int.max_eq_left (by omega)]
  rw [e]
  exact kk H locs ls hP hS hl
theorem V_min (hE : Ok K E Mi d) {a b : Int} (hlk : Cond.methodLink Mi.1.cls idx Lib.Math.min.name ∈ TW) (hd : decode Mi.2.1 pc = .ok (.invokestatic idx, 3)) (h1 : Nat.blt 0 d = true) (h8 : Nat.ble (rest.map fun v => v.category).sum 8 = true) (hr : InI a ∧ InI b) (kk : V K E Mi (pc + 3) L (.int (i32 (min a b)) :: rest) σ) : V K E Mi pc L (.int (i32 b) :: .int (i32 a) :: rest) σ := by
  intro H locs ls hP hS hl
  have h1 : 1 ≤ d := Nat.le_of_ble_eq_true h1
  have h8 := Nat.le_of_ble_eq_true h8
  obtain ⟨r1, r2, r3, r4⟩ := hE.2.2.2.2.2.2.1
  refine va_mmin hE.1 hE.2.1 (hE.2.2.1.trans hl.1.symm) hE.2.2.2.1 (hE.2.2.2.2.1 _ hlk) (hE.2.2.2.2.1 _ tw_min_static) (hE.2.2.2.2.1 _ tw_math_init) (hE.2.2.2.2.1 _ tw_min_code) (by omega) (by omega) r3 r4 hd ?_
  have e : (if i32 b < i32 a then i32 b else i32 a) = i32 (min a b) := by
    by_cases h : b < a
    · rw [if_pos ((i32_lt hr.2 hr.1).mpr h), Int.min_eq_right (by omega)]
    · rw [if_neg (fun q => h ((i32_lt hr.2 hr.1).mp q)), Int.min_eq_left (by omega)]
  rw [e]
  exact kk H locs ls hP hS hl
theorem V_abs (hE : Ok K E Mi d) {a : Int} (hlk : Cond.methodLink Mi.1.cls idx Lib.Math.abs.name ∈ TW) (hd : decode Mi.2.1 pc = .ok (.invokestatic idx, 3)) (h1 : Nat.blt 0 d = true) (h8 : Nat.ble (rest.map fun v => v.category).sum 8 = true) (hr : InI a) (kk : V K E Mi (pc + 3) L (.int (i32 ((a.natAbs : Nat) : Int)) :: rest) σ) : V K E Mi pc L (.int (i32 a) :: rest) σ := by
  intro H locs ls hP hS hl
  have h1 : 1 ≤ d := Nat.le_of_ble_eq_true h1
  have h8 := Nat.le_of_ble_eq_true h8
  obtain ⟨r1, r2, r3, r4⟩ := hE.2.2.2.2.2.2.1
  refine va_mabs hE.1 hE.2.1 (hE.2.2.1.trans hl.1.symm) hE.2.2.2.1 (hE.2.2.2.2.1 _ hlk) (hE.2.2.2.2.1 _ tw_abs_static) (hE.2.2.2.2.1 _ tw_math_init) (hE.2.2.2.2.1 _ tw_abs_code) (by omega) (by omega) r3 r4 hd ?_
  have e0 : (0 : Int32) ≤ i32 a ↔ 0 ≤ a := i32_le (a := 0) ⟨by omega, by omega⟩ hr
  have e : (if 0 ≤ i32 a then i32 a else 0 - i32 a) = i32 ((a.natAbs : Nat) : Int) := by
    by_cases h : 0 ≤ a
    · rw [if_pos (e0.mpr h)]; congr 1; omega
    · rw [if_neg (fun q => h (e0.mp q)), show (0 : Int32) = i32 0 from rfl, ← Int32.ofInt_sub]; congr 1; omega
  rw [e]
  exact kk H locs ls hP hS hl
theorem V_absL (hE : Ok K E Mi d) {a : Int} (hlk : Cond.methodLink Mi.1.cls idx Lib.MathLoose.abs_long.x ∈ TW) (hd : decode Mi.2.1 pc = .ok (.invokestatic idx, 3)) (h1 : Nat.blt 0 d = true) (h8 : Nat.ble (rest.map fun v => v.category).sum 8 = true) (hr : InL a) (kk : V K E Mi (pc + 3) L (.long (i64 ((a.natAbs : Nat) : Int)) :: rest) σ) : V K E Mi pc L (.long (i64 a) :: rest) σ := by
  intro H locs ls hP hS hl
  have h1 : 1 ≤ d := Nat.le_of_ble_eq_true h1
  have h8 := Nat.le_of_ble_eq_true h8
  obtain ⟨r1, r2, r3, r4⟩ := hE.2.2.2.2.2.2.1
  refine va_mabs_long hE.1 hE.2.1 (hE.2.2.1.trans hl.1.symm) hE.2.2.2.1 (hE.2.2.2.2.1 _ hlk) (hE.2.2.2.2.1 _ tw_absL_static) (hE.2.2.2.2.1 _ tw_math_init) (hE.2.2.2.2.1 _ tw_absL_code) (by omega) (by omega) r3 r4 hd ?_
  have e0 : (0 : Int64) < i64 a ↔ 0 < a := i64_lt (a := 0) ⟨by omega, by omega⟩ hr
  have e : (if 0 < i64 a then i64 a else -i64 a) = i64 ((a.natAbs : Nat) : Int) := by
    by_cases h : 0 < a
    · rw [if_pos (e0.mpr h)]; congr 1; omega
    · rw [if_neg (fun q => h (e0.mp q)), ← Int64.ofInt_neg]; congr 1; omega
  rw [e]
  exact kk H locs ls hP hS hl
theorem copy_ent {k : Nat} (h : k ≠ 6) : ent K (fun k i => if k = 6 ∧ i < 63 then σ 8 i else σ k i) k = ent K σ k := by
  have e1 : ∀ i, (fun k i => if k = 6 ∧ i < 63 then σ 8 i else σ k i : Sto) k i = σ k i := fun i => by simp [h]
  have key : ∀ S : Nat × Nat × List (Nat × Nat), (∀ f ∈ S.2.2, f.1 = 0 ∨ f.2 ≠ 6) → entOf K (fun k i => if k = 6 ∧ i < 63 then σ 8 i else σ k i) k S = entOf K σ k S := by
    intro S hf
    obtain ⟨a, n, fs⟩ := S
    match a with
    | 0 => simp only [entOf, e1]
    | 1 => simp only [entOf, e1]
    | 2 => simp only [entOf, e1]
    | a + 3 =>
      simp only [entOf]
      congr 2
      refine List.map_congr_left (fun f h => ?_)
      obtain ⟨x, y⟩ := f
      have h2 := hf _ h
      match x, h2 with
      | 0, _ => rfl
      | 1, h2 =>
        have h2 : y ≠ 6 := by simpa using h2
        simp [fv, h2]
      | x + 2, h2 =>
        have h2 : y ≠ 6 := by simpa using h2
        simp [fv, h2]
  refine key (sh k) (fun f hf => ?_)
  rcases Nat.lt_or_ge k 32 with h3 | h3
  · exact (sh_ids k h3 f hf).imp id (fun h2 => by omega)
  · obtain ⟨j, rfl⟩ : ∃ j, k = j + 32 := ⟨k - 32, by omega⟩
    rw [show sh (j + 32) = (0, 0, []) from rfl] at hf
    simp at hf
theorem V_copy (hE : Ok K E Mi d) (hlk : Cond.methodLink Mi.1.cls idx arraycopyName ∈ TW) (hd : decode Mi.2.1 pc = .ok (.invokestatic idx, 3)) (h1 : Nat.blt 0 d = true) (h8 : Nat.ble (rest.map fun v => v.category).sum 8 = true) (kk : V K E Mi (pc + 3) L rest (fun k i => if k = 6 ∧ i < 63 then σ 8 i else σ k i)) : V K E Mi pc L (.int (i32 63) :: .int (i32 0) :: .ref (kA K 6) :: .int (i32 0) :: .ref (kA K 8) :: rest) σ := by
  intro H locs ls hP hS hl
  have h1 : 1 ≤ d := Nat.le_of_ble_eq_true h1
  have h8 := Nat.le_of_ble_eq_true h8
  obtain ⟨r1, r2, r3, r4⟩ := hE.2.2.2.2.2.2.1
  refine va_copyi (f := fun i => i32 (σ 8 i)) (g := fun i => i32 (σ 6 i)) (ty := .int) hE.1 hE.2.1 (hE.2.2.1.trans hl.1.symm) hE.2.2.2.1 (hE.2.2.2.2.1 _ hlk) (hE.2.2.2.2.1 _ tw_copy_native) (hE.2.2.2.2.1 _ tw_copy_static) (hE.2.2.2.2.1 _ tw_sys_init) hE.2.2.2.2.2.1.1 hP (wld_D hE.2.2.2.2.2.1.2.2.2 hE.2.2.2.2.2.2.2 σ) hS 8 6 0 0
    (by rw [wld_get K σ (by decide), ent_int (n := 63) rfl]) (by rw [wld_get K σ (by decide), ent_int (n := 63) rfl]) rfl rfl rfl (by decide) (by decide) (by decide) (by decide) (by decide) (fun _ _ => rfl) (by omega) (by
      have e : nativeFrameWords "java/lang/System" "arraycopy" 5 + 11 ≤ 28 := by decide +kernel
      omega) hd ?_
  rw [wld_set (σ' := fun k i => if k = 6 ∧ i < 63 then σ 8 i else σ k i) (by decide) (fun k _ h => copy_ent h) (by
    rw [ent_int (n := 63) rfl]
    congr 4
    funext j
    rw [show (i32 0).toNatClampNeg = 0 from rfl, show (i32 63).toNatClampNeg = 63 from rfl]
    by_cases hj : j < 63 <;> simp [va_cpy, hj])]
  exact fun H1 locs1 h1 _ h3 => kk H1 locs1 ls h1 h3 hl
end VRUN
