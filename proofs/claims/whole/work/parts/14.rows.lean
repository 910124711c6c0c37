/-! THE JUDGEMENT over the pure store -/
theorem TW_in {w : Cond} (h : w ∈ TW) : w ∈ lw_tbl := (List.mem_filter.mp h).1
theorem TW_good : GoodIn TW TW := fun w h => ⟨h, good_of_word (List.mem_filter.mp h).2⟩
abbrev MI : Type := MethodName × ByteArray × Nat × Option FieldType
abbrev wsM (Mi : MI) : List Cond := Cond.code Mi.1 Mi.2.1 Mi.2.2.1 Mi.2.2.2 :: TW
abbrev ME : Type := Program × Launch × Env × Room × State × MethodId × Array Value × List Frame × Method × Code × Nat × Nat × (State → Prop) × (Nat → Prop)
abbrev rmD (d : Nat) : Room := { frames := d, cells := 0, slots := 0, locals := 36 * d }
def StU (K : Ctx) (A : Nat → Prop) (U : State) (H : Heap) : Prop :=
  (va_Z "HullOffsets" "SETTING_LOW" "[I" (.ref (kLow K)) A U H ∧ va_T .int (kLow K) 4 (fun j => .int (i32 (if j < 2 then 0 else 1))) A U H) ∧
  (va_Z "HullOffsets" "SETTING_TOP" "[I" (.ref (kTop K)) A U H ∧ va_T .int (kTop K) 4 (fun j => .int (i32 (if j = 0 then 999 else if j = 1 then 3 else 99))) A U H)
def NwAll (U : State) : Prop := ∀ w ∈ nwL, va_Nw w U
def KU (K : Ctx) (A : Nat → Prop) (U : State) (H : Heap) : Prop := va_K K.1 vwCl (tysK K) U ∧ NwAll U ∧ StU K A U H ∧ Inj K
theorem StU.moved {K : Ctx} {A : Nat → Prop} {u U : State} {H : Heap} (hvm : u.vm.Alike U.vm) (h : StU K A u H) : StU K A U H :=
  ⟨⟨va_Z.moved hvm h.1.1, va_T.moved hvm h.1.2⟩, va_Z.moved hvm h.2.1, va_T.moved hvm h.2.2⟩
theorem StU.kept {K : Ctx} {A : Nat → Prop} {U : State} {H H1 : Heap} (h : StU K A U H) (hq : ∀ a : Nat, a < H.size → ¬ A a → H1[a]? = H[a]?) : StU K A U H1 :=
  ⟨⟨h.1.1.kept hq, h.1.2.kept hq⟩, h.2.1.kept hq, h.2.2.kept hq⟩
theorem StU.narrow {K : Ctx} {A B : Nat → Prop} {U : State} {H : Heap} (h : StU K A U H) (hAB : ∀ q, B q → A q) : StU K B U H :=
  ⟨⟨h.1.1.narrow hAB, h.1.2.narrow hAB⟩, h.2.1.narrow hAB, h.2.2.narrow hAB⟩
theorem nwL_kind : ∀ w ∈ nwL, (∃ a i b n d h, w = Cond.fieldLinkNest a i b n d h) ∨ (∃ a i x h, w = Cond.methodLinkNest a i x h) := nwL_kinds
theorem NwAll.warm {s U : State} (hW : s.WarmedH U.vm) (h : NwAll s) : NwAll U := by
  intro w hw
  have h1 := h w hw
  rcases nwL_kind w hw with ⟨a, i, b, n, d, h, rfl⟩ | ⟨a, i, x, h, rfl⟩
  · exact va_Nw.warmF hW h1
  · exact va_Nw.warmM hW h1
theorem NwAll.same {u U : State} (hv : u.vm = U.vm) (h : NwAll u) : NwAll U := by
  intro w hw
  have h1 := h w hw
  rcases nwL_kind w hw with ⟨a, i, b, n, d, h, rfl⟩ | ⟨a, i, x, h, rfl⟩
  · exact va_Nw.same rfl hv h1
  · exact va_Nw.same rfl hv h1
abbrev eP (E : ME) : Program := E.1
abbrev eL (E : ME) : Launch := E.2.1
abbrev eE (E : ME) : Env := E.2.2.1
abbrev eR (E : ME) : Room := E.2.2.2.1
abbrev eS (E : ME) : State := E.2.2.2.2.1
abbrev eM (E : ME) : MethodId := E.2.2.2.2.2.1
abbrev eG (E : ME) : Array Value := E.2.2.2.2.2.2.1
abbrev eB (E : ME) : List Frame := E.2.2.2.2.2.2.2.1
abbrev eT (E : ME) : Method := E.2.2.2.2.2.2.2.2.1
abbrev eC (E : ME) : Code := E.2.2.2.2.2.2.2.2.2.1
abbrev eX (E : ME) : Nat := E.2.2.2.2.2.2.2.2.2.2.1
abbrev eY (E : ME) : Nat := E.2.2.2.2.2.2.2.2.2.2.2.1
abbrev eQ (E : ME) : State → Prop := E.2.2.2.2.2.2.2.2.2.2.2.2.1
abbrev eA (E : ME) : Nat → Prop := E.2.2.2.2.2.2.2.2.2.2.2.2.2
abbrev WE (E : ME) (H : Heap) (locs : List Loc) (g : JFrame) : Prop := W (eP E) (eL E) (eE E) (eR E) (eS E) (eM E) (eG E) (eB E) (eT E) (eC E) H locs (eX E) (eY E) (eQ E) g
def V (K : Ctx) (E : ME) (Mi : MI) (pc : Nat) (L : List (Option Value)) (st : List Value) (σ : Sto) : Prop :=
  ∀ (H : Heap) (locs : List Loc) (ls : Array Slot), va_P K.1 vwCl (wld K σ) H → va_S (eA E) (eS E).heap H locs → lv_has ls Mi.2.2.1 (al 0 L) → WE E H locs (F0 (eM E) pc ls st)
def Ok (K : Ctx) (E : ME) (Mi : MI) (d : Nat) : Prop :=
  (eP E).tables.exec = Jvm.exec ∧ (eC E).code = Mi.2.1 ∧ (eC E).maxLocals = Mi.2.2.1 ∧ (eS E).vm.findClass Mi.1.cls = some (eM E).cls ∧ (∀ w ∈ TW, w.before (eG E) (eS E) = true) ∧ KU K (eA E) (eS E) (eS E).heap ∧
  (d ≤ (eR E).frames ∧ 36 * d ≤ (eR E).locals ∧ eX E ≤ (eR E).cells ∧ eY E ≤ (eR E).slots) ∧ ∀ q, Own K q → eA E q
section VROWS
variable {K : Ctx} {E : ME} {Mi : MI} {d pc : Nat} {L : List (Option Value)} {st : List Value} {σ : Sto}
theorem V_iconst (hE : Ok K E Mi d) {n : Int} (hd : decode Mi.2.1 pc = .ok (.iconst n, 1)) (k : V K E Mi (pc + 1) L (.int (i32 n) :: st) σ) : V K E Mi pc L st σ :=
  fun H locs ls hP hS hl => lv_iconst (v := i32 n) hE.1 hE.2.1 hd rfl (k H locs ls hP hS hl)
theorem V_bipush (hE : Ok K E Mi d) {n : Int} (hd : decode Mi.2.1 pc = .ok (.bipush n, 2)) (hv : (Int8.ofInt n).toInt32 = i32 n) (k : V K E Mi (pc + 2) L (.int (i32 n) :: st) σ) : V K E Mi pc L st σ :=
  fun H locs ls hP hS hl => lv_bipush (v := i32 n) hE.1 hE.2.1 hd hv (k H locs ls hP hS hl)
theorem V_sipush (hE : Ok K E Mi d) {n : Int} (hd : decode Mi.2.1 pc = .ok (.sipush n, 3)) (hv : (Int16.ofInt n).toInt32 = i32 n) (k : V K E Mi (pc + 3) L (.int (i32 n) :: st) σ) : V K E Mi pc L st σ :=
  fun H locs ls hP hS hl => lv_sipush (v := i32 n) hE.1 hE.2.1 hd hv (k H locs ls hP hS hl)
theorem V_iload_n (hE : Ok K E Mi d) {k : Fin 4} {x : Int32} (hd : decode Mi.2.1 pc = .ok (.iload_n k, 1)) (hL : lk L k = some (.int x)) (kk : V K E Mi (pc + 1) L (.int x :: st) σ) : V K E Mi pc L st σ :=
  fun H locs ls hP hS hl => lv_iload_n hE.1 hE.2.1 hd rfl (lv_lk hl hL) (kk H locs ls hP hS hl)
theorem V_iload (hE : Ok K E Mi d) {i : Nat} {x : Int32} (hd : decode Mi.2.1 pc = .ok (.iload i, 2)) (hL : lk L i = some (.int x)) (kk : V K E Mi (pc + 2) L (.int x :: st) σ) : V K E Mi pc L st σ :=
  fun H locs ls hP hS hl => lv_iload hE.1 hE.2.1 hd (lv_lk hl hL) (kk H locs ls hP hS hl)
theorem V_lload_n (hE : Ok K E Mi d) {k : Fin 4} {x : Int64} (hd : decode Mi.2.1 pc = .ok (.lload_n k, 1)) (hL : lk L k = some (.long x)) (kk : V K E Mi (pc + 1) L (.long x :: st) σ) : V K E Mi pc L st σ :=
  fun H locs ls hP hS hl => lv_lload_n hE.1 hE.2.1 hd rfl (lv_lk hl hL) (kk H locs ls hP hS hl)
theorem V_lload (hE : Ok K E Mi d) {i : Nat} {x : Int64} (hd : decode Mi.2.1 pc = .ok (.lload i, 2)) (hL : lk L i = some (.long x)) (kk : V K E Mi (pc + 2) L (.long x :: st) σ) : V K E Mi pc L st σ :=
  fun H locs ls hP hS hl => lv_lload hE.1 hE.2.1 hd (lv_lk hl hL) (kk H locs ls hP hS hl)
theorem V_aload_n (hE : Ok K E Mi d) {k : Fin 4} {x : Nat} (hd : decode Mi.2.1 pc = .ok (.aload_n k, 1)) (hL : lk L k = some (.ref x)) (kk : V K E Mi (pc + 1) L (.ref x :: st) σ) : V K E Mi pc L st σ :=
  fun H locs ls hP hS hl => lv_aload_n hE.1 hE.2.1 hd rfl (lv_lk hl hL) (kk H locs ls hP hS hl)
theorem V_istore_n (hE : Ok K E Mi d) {k : Fin 4} {x : Int32} (hd : decode Mi.2.1 pc = .ok (.istore_n k, 1)) (hn : Nat.blt k Mi.2.2.1 = true) (kk : V K E Mi (pc + 1) (stI L k (.int x)) st σ) : V K E Mi pc L (.int x :: st) σ :=
  fun H locs ls hP hS hl => lv_istore_n hE.1 hE.2.1 hd rfl hl (Nat.le_of_ble_eq_true hn) rfl (fun ls' hl' => kk H locs ls' hP hS (lv_stI hl'))
theorem V_istore (hE : Ok K E Mi d) {i : Nat} {x : Int32} (hd : decode Mi.2.1 pc = .ok (.istore i, 2)) (hn : Nat.blt i Mi.2.2.1 = true) (kk : V K E Mi (pc + 2) (stI L i (.int x)) st σ) : V K E Mi pc L (.int x :: st) σ :=
  fun H locs ls hP hS hl => lv_istore hE.1 hE.2.1 hd hl (Nat.le_of_ble_eq_true hn) rfl (fun ls' hl' => kk H locs ls' hP hS (lv_stI hl'))
theorem V_lstore_n (hE : Ok K E Mi d) {k : Fin 4} {x : Int64} (hd : decode Mi.2.1 pc = .ok (.lstore_n k, 1)) (hn : Nat.blt (k + 1) Mi.2.2.1 = true) (kk : V K E Mi (pc + 1) (stL L k (.long x)) st σ) : V K E Mi pc L (.long x :: st) σ :=
  fun H locs ls hP hS hl => lv_lstore_n hE.1 hE.2.1 hd rfl hl (Nat.le_of_ble_eq_true hn) rfl (fun ls' hl' => kk H locs ls' hP hS (lv_stL hl'))
theorem V_lstore (hE : Ok K E Mi d) {i : Nat} {x : Int64} (hd : decode Mi.2.1 pc = .ok (.lstore i, 2)) (hn : Nat.blt (i + 1) Mi.2.2.1 = true) (kk : V K E Mi (pc + 2) (stL L i (.long x)) st σ) : V K E Mi pc L (.long x :: st) σ :=
  fun H locs ls hP hS hl => lv_lstore hE.1 hE.2.1 hd hl (Nat.le_of_ble_eq_true hn) rfl (fun ls' hl' => kk H locs ls' hP hS (lv_stL hl'))
theorem V_iinc (hE : Ok K E Mi d) {i : Nat} {n x : Int} (hd : decode Mi.2.1 pc = .ok (.iinc i n, 3)) (hL : lk L i = some (.int (i32 x))) (hn : Nat.blt i Mi.2.2.1 = true) (kk : V K E Mi (pc + 3) (stI L i (.int (i32 (x + n)))) st σ) : V K E Mi pc L st σ := by
  intro H locs ls hP hS hl
  have hm := al_lk L i 0 _ hL
  rw [Nat.zero_add] at hm
  obtain ⟨k, hk⟩ := List.getElem?_of_mem hm
  exact lv_iinc (x := i32 x) (v := i32 (x + n)) (k := k) hE.1 hE.2.1 hd hl hk (by rw [i32, i32, Int32.ofInt_add]) (Nat.le_of_ble_eq_true hn) rfl (fun ls' hl' => kk H locs ls' hP hS (lv_stI hl'))
theorem V_iadd (hE : Ok K E Mi d) {a b : Int} (hd : decode Mi.2.1 pc = .ok (.iadd, 1)) (k : V K E Mi (pc + 1) L (.int (i32 (a + b)) :: st) σ) : V K E Mi pc L (.int (i32 b) :: .int (i32 a) :: st) σ :=
  fun H locs ls hP hS hl => lv_iadd hE.1 hE.2.1 hd (by rw [← Int32.ofInt_add]; exact k H locs ls hP hS hl)
theorem V_isub (hE : Ok K E Mi d) {a b : Int} (hd : decode Mi.2.1 pc = .ok (.isub, 1)) (k : V K E Mi (pc + 1) L (.int (i32 (a - b)) :: st) σ) : V K E Mi pc L (.int (i32 b) :: .int (i32 a) :: st) σ :=
  fun H locs ls hP hS hl => lv_isub hE.1 hE.2.1 hd (by rw [← Int32.ofInt_sub]; exact k H locs ls hP hS hl)
theorem V_imul (hE : Ok K E Mi d) {a b : Int} (hd : decode Mi.2.1 pc = .ok (.imul, 1)) (k : V K E Mi (pc + 1) L (.int (i32 (a * b)) :: st) σ) : V K E Mi pc L (.int (i32 b) :: .int (i32 a) :: st) σ :=
  fun H locs ls hP hS hl => lv_imul hE.1 hE.2.1 hd (by rw [← Int32.ofInt_mul]; exact k H locs ls hP hS hl)
theorem V_ineg (hE : Ok K E Mi d) {a : Int} (hd : decode Mi.2.1 pc = .ok (.ineg, 1)) (k : V K E Mi (pc + 1) L (.int (i32 (-a)) :: st) σ) : V K E Mi pc L (.int (i32 a) :: st) σ :=
  fun H locs ls hP hS hl => lv_ineg hE.1 hE.2.1 hd (by rw [← Int32.ofInt_neg]; exact k H locs ls hP hS hl)
theorem V_idiv (hE : Ok K E Mi d) {a b : Int} (hd : decode Mi.2.1 pc = .ok (.idiv, 1)) (ha : 0 ≤ a ∧ a ≤ 2147483647) (hb : 0 < b ∧ b ≤ 2147483647) (k : V K E Mi (pc + 1) L (.int (i32 (a / b)) :: st) σ) : V K E Mi pc L (.int (i32 b) :: .int (i32 a) :: st) σ :=
  fun H locs ls hP hS hl => lv_idiv hE.1 hE.2.1 hd (fun h => by rw [← i32_0, i32_eq ⟨by omega, by omega⟩ ⟨by omega, by omega⟩] at h; omega) (by rw [i32_div ha hb]; exact k H locs ls hP hS hl)
theorem V_irem (hE : Ok K E Mi d) {a b : Int} (hd : decode Mi.2.1 pc = .ok (.irem, 1)) (ha : 0 ≤ a ∧ a ≤ 2147483647) (hb : 0 < b ∧ b ≤ 2147483647) (k : V K E Mi (pc + 1) L (.int (i32 (a % b)) :: st) σ) : V K E Mi pc L (.int (i32 b) :: .int (i32 a) :: st) σ :=
  fun H locs ls hP hS hl => lv_irem hE.1 hE.2.1 hd (fun h => by rw [← i32_0, i32_eq ⟨by omega, by omega⟩ ⟨by omega, by omega⟩] at h; omega) (by rw [i32_rem ha hb]; exact k H locs ls hP hS hl)
theorem V_ladd (hE : Ok K E Mi d) {a b : Int} (hd : decode Mi.2.1 pc = .ok (.ladd, 1)) (k : V K E Mi (pc + 1) L (.long (i64 (a + b)) :: st) σ) : V K E Mi pc L (.long (i64 b) :: .long (i64 a) :: st) σ :=
  fun H locs ls hP hS hl => lv_ladd hE.1 hE.2.1 hd (by rw [← Int64.ofInt_add]; exact k H locs ls hP hS hl)
theorem V_lsub (hE : Ok K E Mi d) {a b : Int} (hd : decode Mi.2.1 pc = .ok (.lsub, 1)) (k : V K E Mi (pc + 1) L (.long (i64 (a - b)) :: st) σ) : V K E Mi pc L (.long (i64 b) :: .long (i64 a) :: st) σ :=
  fun H locs ls hP hS hl => lv_lsub hE.1 hE.2.1 hd (by rw [← Int64.ofInt_sub]; exact k H locs ls hP hS hl)
theorem V_lmul (hE : Ok K E Mi d) {a b : Int} (hd : decode Mi.2.1 pc = .ok (.lmul, 1)) (k : V K E Mi (pc + 1) L (.long (i64 (a * b)) :: st) σ) : V K E Mi pc L (.long (i64 b) :: .long (i64 a) :: st) σ :=
  fun H locs ls hP hS hl => lv_lmul hE.1 hE.2.1 hd (by rw [← Int64.ofInt_mul]; exact k H locs ls hP hS hl)
theorem V_lneg (hE : Ok K E Mi d) {a : Int} (hd : decode Mi.2.1 pc = .ok (.lneg, 1)) (k : V K E Mi (pc + 1) L (.long (i64 (-a)) :: st) σ) : V K E Mi pc L (.long (i64 a) :: st) σ :=
  fun H locs ls hP hS hl => lv_lneg hE.1 hE.2.1 hd (by rw [← Int64.ofInt_neg]; exact k H locs ls hP hS hl)
theorem V_ldiv (hE : Ok K E Mi d) {a b : Int} (hd : decode Mi.2.1 pc = .ok (.ldiv, 1)) (ha : 0 ≤ a ∧ a ≤ 9223372036854775807) (hb : 0 < b ∧ b ≤ 9223372036854775807) (k : V K E Mi (pc + 1) L (.long (i64 (a / b)) :: st) σ) : V K E Mi pc L (.long (i64 b) :: .long (i64 a) :: st) σ :=
  fun H locs ls hP hS hl => lv_ldiv hE.1 hE.2.1 hd (fun h => by rw [show (0 : Int64) = i64 0 from rfl, i64_eq ⟨by omega, by omega⟩ ⟨by omega, by omega⟩] at h; omega) (by rw [i64_div ha hb]; exact k H locs ls hP hS hl)
theorem V_lrem (hE : Ok K E Mi d) {a b : Int} (hd : decode Mi.2.1 pc = .ok (.lrem, 1)) (ha : 0 ≤ a ∧ a ≤ 9223372036854775807) (hb : 0 < b ∧ b ≤ 9223372036854775807) (k : V K E Mi (pc + 1) L (.long (i64 (a % b)) :: st) σ) : V K E Mi pc L (.long (i64 b) :: .long (i64 a) :: st) σ :=
  fun H locs ls hP hS hl => lv_lrem hE.1 hE.2.1 hd (fun h => by rw [show (0 : Int64) = i64 0 from rfl, i64_eq ⟨by omega, by omega⟩ ⟨by omega, by omega⟩] at h; omega) (by rw [i64_rem ha hb]; exact k H locs ls hP hS hl)
theorem V_i2l (hE : Ok K E Mi d) {a : Int} (hd : decode Mi.2.1 pc = .ok (.i2l, 1)) (ha : InI a) (k : V K E Mi (pc + 1) L (.long (i64 a) :: st) σ) : V K E Mi pc L (.int (i32 a) :: st) σ :=
  fun H locs ls hP hS hl => lv_i2l (v := i64 a) hE.1 hE.2.1 hd (i32_l ha) (k H locs ls hP hS hl)
theorem V_lconst0 (hE : Ok K E Mi d) (hd : decode Mi.2.1 pc = .ok (.lconst 0, 1)) (k : V K E Mi (pc + 1) L (.long (i64 0) :: st) σ) : V K E Mi pc L st σ :=
  fun H locs ls hP hS hl => lv_lconst (v := i64 0) hE.1 hE.2.1 hd rfl (k H locs ls hP hS hl)
theorem V_lconst1 (hE : Ok K E Mi d) (hd : decode Mi.2.1 pc = .ok (.lconst 1, 1)) (k : V K E Mi (pc + 1) L (.long (i64 1) :: st) σ) : V K E Mi pc L st σ :=
  fun H locs ls hP hS hl => lv_lconst (v := i64 1) hE.1 hE.2.1 hd rfl (k H locs ls hP hS hl)
theorem V_ldc (hE : Ok K E Mi d) {i : Nat} {n : Int} (hw : Cond.constant Mi.1.cls i (i32 n) ∈ TW) (hd : decode Mi.2.1 pc = .ok (.ldc i, 2)) (k : V K E Mi (pc + 2) L (.int (i32 n) :: st) σ) : V K E Mi pc L st σ :=
  fun H locs ls hP hS hl => lv_ldc hE.1 hE.2.1 hE.2.2.2.1 (hE.2.2.2.2.1 _ hw) hd (k H locs ls hP hS hl)
theorem V_ldc2 (hE : Ok K E Mi d) {i : Nat} {n : Int} (hw : Cond.constantLong Mi.1.cls i (i64 n) ∈ TW) (hd : decode Mi.2.1 pc = .ok (.ldc2_w i, 3)) (k : V K E Mi (pc + 3) L (.long (i64 n) :: st) σ) : V K E Mi pc L st σ :=
  fun H locs ls hP hS hl => lv_ldc2 hE.1 hE.2.1 hE.2.2.2.1 (hE.2.2.2.2.1 _ hw) hd (k H locs ls hP hS hl)
theorem V_dup (hE : Ok K E Mi d) {v : Value} (hd : decode Mi.2.1 pc = .ok (.dup, 1)) (hv : v.category = 1) (k : V K E Mi (pc + 1) L (v :: v :: st) σ) : V K E Mi pc L (v :: st) σ :=
  fun H locs ls hP hS hl => lv_dup hE.1 hE.2.1 hd hv (k H locs ls hP hS hl)
theorem V_dup2 (hE : Ok K E Mi d) {v w : Value} (hd : decode Mi.2.1 pc = .ok (.dup2, 1)) (hv : v.category = 1) (hw : w.category = 1) (k : V K E Mi (pc + 1) L (v :: w :: v :: w :: st) σ) : V K E Mi pc L (v :: w :: st) σ :=
  fun H locs ls hP hS hl => lv_dup2_11 hE.1 hE.2.1 hd hv hw (k H locs ls hP hS hl)
theorem V_pop (hE : Ok K E Mi d) {v : Value} (hd : decode Mi.2.1 pc = .ok (.pop, 1)) (hv : v.category = 1) (k : V K E Mi (pc + 1) L st σ) : V K E Mi pc L (v :: st) σ :=
  fun H locs ls hP hS hl => lv_pop hE.1 hE.2.1 hd hv (k H locs ls hP hS hl)
theorem V_goto (hE : Ok K E Mi d) {off : Int} (tgt : Nat) (hd : decode Mi.2.1 pc = .ok (.goto off, 3)) (ht : (pc : Int) + off = (tgt : Int)) (k : V K E Mi tgt L st σ) : V K E Mi pc L st σ :=
  fun H locs ls hP hS hl => lv_goto hE.1 hE.2.1 hd ht (k H locs ls hP hS hl)
theorem V_icmp_eq (hE : Ok K E Mi d) {a b off : Int} (tgt : Nat) (hd : decode Mi.2.1 pc = .ok (.if_icmp .eq off, 3)) (ht : (pc : Int) + off = (tgt : Int)) (hr : InI a ∧ InI b) (kt : a = b → V K E Mi tgt L st σ) (kf : ¬ a = b → V K E Mi (pc + 3) L st σ) : V K E Mi pc L (.int (i32 b) :: .int (i32 a) :: st) σ :=
  fun H locs ls hP hS hl => lv_icmp_eq hE.1 hE.2.1 hd ht (fun h => kt ((i32_eq hr.1 hr.2).mp h) H locs ls hP hS hl) (fun h => kf (fun q => h ((i32_eq hr.1 hr.2).mpr q)) H locs ls hP hS hl)
theorem V_icmp_ne (hE : Ok K E Mi d) {a b off : Int} (tgt : Nat) (hd : decode Mi.2.1 pc = .ok (.if_icmp .ne off, 3)) (ht : (pc : Int) + off = (tgt : Int)) (hr : InI a ∧ InI b) (kt : ¬ a = b → V K E Mi tgt L st σ) (kf : a = b → V K E Mi (pc + 3) L st σ) : V K E Mi pc L (.int (i32 b) :: .int (i32 a) :: st) σ :=
  fun H locs ls hP hS hl => lv_icmp_ne hE.1 hE.2.1 hd ht (fun h => kt (fun q => h ((i32_eq hr.1 hr.2).mpr q)) H locs ls hP hS hl) (fun h => kf ((i32_eq hr.1 hr.2).mp h) H locs ls hP hS hl)
theorem V_icmp_lt (hE : Ok K E Mi d) {a b off : Int} (tgt : Nat) (hd : decode Mi.2.1 pc = .ok (.if_icmp .lt off, 3)) (ht : (pc : Int) + off = (tgt : Int)) (hr : InI a ∧ InI b) (kt : a < b → V K E Mi tgt L st σ) (kf : b ≤ a → V K E Mi (pc + 3) L st σ) : V K E Mi pc L (.int (i32 b) :: .int (i32 a) :: st) σ :=
  fun H locs ls hP hS hl => lv_icmp_lt hE.1 hE.2.1 hd ht (fun h => kt ((i32_lt hr.1 hr.2).mp h) H locs ls hP hS hl) (fun h => kf (Int.not_lt.mp fun q => h ((i32_lt hr.1 hr.2).mpr q)) H locs ls hP hS hl)
theorem V_icmp_ge (hE : Ok K E Mi d) {a b off : Int} (tgt : Nat) (hd : decode Mi.2.1 pc = .ok (.if_icmp .ge off, 3)) (ht : (pc : Int) + off = (tgt : Int)) (hr : InI a ∧ InI b) (kt : b ≤ a → V K E Mi tgt L st σ) (kf : a < b → V K E Mi (pc + 3) L st σ) : V K E Mi pc L (.int (i32 b) :: .int (i32 a) :: st) σ :=
  fun H locs ls hP hS hl => lv_icmp_ge hE.1 hE.2.1 hd ht (fun h => kt ((i32_le hr.2 hr.1).mp h) H locs ls hP hS hl) (fun h => kf (Int.not_le.mp fun q => h ((i32_le hr.2 hr.1).mpr q)) H locs ls hP hS hl)
theorem V_icmp_gt (hE : Ok K E Mi d) {a b off : Int} (tgt : Nat) (hd : decode Mi.2.1 pc = .ok (.if_icmp .gt off, 3)) (ht : (pc : Int) + off = (tgt : Int)) (hr : InI a ∧ InI b) (kt : b < a → V K E Mi tgt L st σ) (kf : a ≤ b → V K E Mi (pc + 3) L st σ) : V K E Mi pc L (.int (i32 b) :: .int (i32 a) :: st) σ :=
  fun H locs ls hP hS hl => lv_icmp_gt hE.1 hE.2.1 hd ht (fun h => kt ((i32_lt hr.2 hr.1).mp h) H locs ls hP hS hl) (fun h => kf (Int.not_lt.mp fun q => h ((i32_lt hr.2 hr.1).mpr q)) H locs ls hP hS hl)
theorem V_icmp_le (hE : Ok K E Mi d) {a b off : Int} (tgt : Nat) (hd : decode Mi.2.1 pc = .ok (.if_icmp .le off, 3)) (ht : (pc : Int) + off = (tgt : Int)) (hr : InI a ∧ InI b) (kt : a ≤ b → V K E Mi tgt L st σ) (kf : b < a → V K E Mi (pc + 3) L st σ) : V K E Mi pc L (.int (i32 b) :: .int (i32 a) :: st) σ :=
  fun H locs ls hP hS hl => lv_icmp_le hE.1 hE.2.1 hd ht (fun h => kt ((i32_le hr.1 hr.2).mp h) H locs ls hP hS hl) (fun h => kf (Int.not_le.mp fun q => h ((i32_le hr.1 hr.2).mpr q)) H locs ls hP hS hl)
theorem i32_z {a : Int} (h : InI a) : i32 a = 0 ↔ a = 0 := i32_eq (b := 0) h ⟨by omega, by omega⟩
theorem V_if_eq (hE : Ok K E Mi d) {a off : Int} (tgt : Nat) (hd : decode Mi.2.1 pc = .ok (.ifCond .eq off, 3)) (ht : (pc : Int) + off = (tgt : Int)) (hr : InI a) (kt : a = 0 → V K E Mi tgt L st σ) (kf : ¬ a = 0 → V K E Mi (pc + 3) L st σ) : V K E Mi pc L (.int (i32 a) :: st) σ :=
  fun H locs ls hP hS hl => lv_if_eq hE.1 hE.2.1 hd ht (fun h => kt ((i32_z hr).mp h) H locs ls hP hS hl) (fun h => kf (fun q => h ((i32_z hr).mpr q)) H locs ls hP hS hl)
theorem V_if_ne (hE : Ok K E Mi d) {a off : Int} (tgt : Nat) (hd : decode Mi.2.1 pc = .ok (.ifCond .ne off, 3)) (ht : (pc : Int) + off = (tgt : Int)) (hr : InI a) (kt : ¬ a = 0 → V K E Mi tgt L st σ) (kf : a = 0 → V K E Mi (pc + 3) L st σ) : V K E Mi pc L (.int (i32 a) :: st) σ :=
  fun H locs ls hP hS hl => lv_if_ne hE.1 hE.2.1 hd ht (fun h => kt (fun q => h ((i32_z hr).mpr q)) H locs ls hP hS hl) (fun h => kf ((i32_z hr).mp h) H locs ls hP hS hl)
theorem V_if_lt (hE : Ok K E Mi d) {a off : Int} (tgt : Nat) (hd : decode Mi.2.1 pc = .ok (.ifCond .lt off, 3)) (ht : (pc : Int) + off = (tgt : Int)) (hr : InI a) (kt : a < 0 → V K E Mi tgt L st σ) (kf : 0 ≤ a → V K E Mi (pc + 3) L st σ) : V K E Mi pc L (.int (i32 a) :: st) σ :=
  fun H locs ls hP hS hl => lv_if_lt hE.1 hE.2.1 hd ht (fun h => kt ((i32_lt (b := 0) hr ⟨by omega, by omega⟩).mp h) H locs ls hP hS hl) (fun h => kf (Int.not_lt.mp fun q => h ((i32_lt (b := 0) hr ⟨by omega, by omega⟩).mpr q)) H locs ls hP hS hl)
theorem V_if_ge (hE : Ok K E Mi d) {a off : Int} (tgt : Nat) (hd : decode Mi.2.1 pc = .ok (.ifCond .ge off, 3)) (ht : (pc : Int) + off = (tgt : Int)) (hr : InI a) (kt : 0 ≤ a → V K E Mi tgt L st σ) (kf : a < 0 → V K E Mi (pc + 3) L st σ) : V K E Mi pc L (.int (i32 a) :: st) σ :=
  fun H locs ls hP hS hl => lv_if_ge hE.1 hE.2.1 hd ht (fun h => kt ((i32_le (a := 0) ⟨by omega, by omega⟩ hr).mp h) H locs ls hP hS hl) (fun h => kf (Int.not_le.mp fun q => h ((i32_le (a := 0) ⟨by omega, by omega⟩ hr).mpr q)) H locs ls hP hS hl)
theorem V_if_gt (hE : Ok K E Mi d) {a off : Int} (tgt : Nat) (hd : decode Mi.2.1 pc = .ok (.ifCond .gt off, 3)) (ht : (pc : Int) + off = (tgt : Int)) (hr : InI a) (kt : 0 < a → V K E Mi tgt L st σ) (kf : a ≤ 0 → V K E Mi (pc + 3) L st σ) : V K E Mi pc L (.int (i32 a) :: st) σ :=
  fun H locs ls hP hS hl => lv_if_gt hE.1 hE.2.1 hd ht (fun h => kt ((i32_lt (a := 0) ⟨by omega, by omega⟩ hr).mp h) H locs ls hP hS hl) (fun h => kf (Int.not_lt.mp fun q => h ((i32_lt (a := 0) ⟨by omega, by omega⟩ hr).mpr q)) H locs ls hP hS hl)
theorem V_if_le (hE : Ok K E Mi d) {a off : Int} (tgt : Nat) (hd : decode Mi.2.1 pc = .ok (.ifCond .le off, 3)) (ht : (pc : Int) + off = (tgt : Int)) (hr : InI a) (kt : a ≤ 0 → V K E Mi tgt L st σ) (kf : 0 < a → V K E Mi (pc + 3) L st σ) : V K E Mi pc L (.int (i32 a) :: st) σ :=
  fun H locs ls hP hS hl => lv_if_le hE.1 hE.2.1 hd ht (fun h => kt ((i32_le (b := 0) hr ⟨by omega, by omega⟩).mp h) H locs ls hP hS hl) (fun h => kf (Int.not_le.mp fun q => h ((i32_le (b := 0) hr ⟨by omega, by omega⟩).mpr q)) H locs ls hP hS hl)
theorem V_lcmp_ge (hE : Ok K E Mi d) {a b off : Int} (tgt : Nat) (hc : decode Mi.2.1 pc = .ok (.lcmp, 1)) (hd : decode Mi.2.1 (pc + 1) = .ok (.ifCond .ge off, 3)) (ht : ((pc + 1 : Nat) : Int) + off = (tgt : Int)) (hr : InL a ∧ InL b) (kt : b ≤ a → V K E Mi tgt L st σ) (kf : a < b → V K E Mi (pc + 4) L st σ) : V K E Mi pc L (.long (i64 b) :: .long (i64 a) :: st) σ :=
  fun H locs ls hP hS hl => W.lcmp hE.1 hE.2.1 hc (lv_if_ge hE.1 hE.2.1 hd ht (fun h => kt ((i64_le hr.2 hr.1).mp ((lg_cmp_ge _ _).mp h)) H locs ls hP hS hl) (fun h => kf (Int.not_le.mp fun q => h ((lg_cmp_ge _ _).mpr ((i64_le hr.2 hr.1).mpr q))) H locs ls hP hS hl))
theorem V_lcmp_lt (hE : Ok K E Mi d) {a b off : Int} (tgt : Nat) (hc : decode Mi.2.1 pc = .ok (.lcmp, 1)) (hd : decode Mi.2.1 (pc + 1) = .ok (.ifCond .lt off, 3)) (ht : ((pc + 1 : Nat) : Int) + off = (tgt : Int)) (hr : InL a ∧ InL b) (kt : a < b → V K E Mi tgt L st σ) (kf : b ≤ a → V K E Mi (pc + 4) L st σ) : V K E Mi pc L (.long (i64 b) :: .long (i64 a) :: st) σ :=
  fun H locs ls hP hS hl => W.lcmp hE.1 hE.2.1 hc (lv_if_lt hE.1 hE.2.1 hd ht (fun h => kt ((i64_lt hr.1 hr.2).mp ((lg_cmp_lt _ _).mp h)) H locs ls hP hS hl) (fun h => kf (Int.not_lt.mp fun q => h ((lg_cmp_lt _ _).mpr ((i64_lt hr.1 hr.2).mpr q))) H locs ls hP hS hl))
theorem V_lcmp_gt (hE : Ok K E Mi d) {a b off : Int} (tgt : Nat) (hc : decode Mi.2.1 pc = .ok (.lcmp, 1)) (hd : decode Mi.2.1 (pc + 1) = .ok (.ifCond .gt off, 3)) (ht : ((pc + 1 : Nat) : Int) + off = (tgt : Int)) (hr : InL a ∧ InL b) (kt : b < a → V K E Mi tgt L st σ) (kf : a ≤ b → V K E Mi (pc + 4) L st σ) : V K E Mi pc L (.long (i64 b) :: .long (i64 a) :: st) σ :=
  fun H locs ls hP hS hl => W.lcmp hE.1 hE.2.1 hc (lv_if_gt hE.1 hE.2.1 hd ht (fun h => kt ((i64_lt hr.2 hr.1).mp ((lg_cmp_gt _ _).mp h)) H locs ls hP hS hl) (fun h => kf (Int.not_lt.mp fun q => h ((lg_cmp_gt _ _).mpr ((i64_lt hr.2 hr.1).mpr q))) H locs ls hP hS hl))
theorem V_lcmp_le (hE : Ok K E Mi d) {a b off : Int} (tgt : Nat) (hc : decode Mi.2.1 pc = .ok (.lcmp, 1)) (hd : decode Mi.2.1 (pc + 1) = .ok (.ifCond .le off, 3)) (ht : ((pc + 1 : Nat) : Int) + off = (tgt : Int)) (hr : InL a ∧ InL b) (kt : a ≤ b → V K E Mi tgt L st σ) (kf : b < a → V K E Mi (pc + 4) L st σ) : V K E Mi pc L (.long (i64 b) :: .long (i64 a) :: st) σ :=
  fun H locs ls hP hS hl => W.lcmp hE.1 hE.2.1 hc (lv_if_le hE.1 hE.2.1 hd ht (fun h => kt ((i64_le hr.1 hr.2).mp ((lg_cmp_le _ _).mp h)) H locs ls hP hS hl) (fun h => kf (Int.not_le.mp fun q => h ((lg_cmp_le _ _).mpr ((i64_le hr.1 hr.2).mpr q))) H locs ls hP hS hl))
theorem V_lcmp_eq (hE : Ok K E Mi d) {a b off : Int} (tgt : Nat) (hc : decode Mi.2.1 pc = .ok (.lcmp, 1)) (hd : decode Mi.2.1 (pc + 1) = .ok (.ifCond .eq off, 3)) (ht : ((pc + 1 : Nat) : Int) + off = (tgt : Int)) (hr : InL a ∧ InL b) (kt : a = b → V K E Mi tgt L st σ) (kf : ¬ a = b → V K E Mi (pc + 4) L st σ) : V K E Mi pc L (.long (i64 b) :: .long (i64 a) :: st) σ :=
  fun H locs ls hP hS hl => W.lcmp hE.1 hE.2.1 hc (lv_if_eq hE.1 hE.2.1 hd ht (fun h => kt ((i64_eq hr.1 hr.2).mp ((lg_cmp_eq _ _).mp h)) H locs ls hP hS hl) (fun h => kf (fun q => h ((lg_cmp_eq _ _).mpr ((i64_eq hr.1 hr.2).mpr q))) H locs ls hP hS hl))
theorem V_lcmp_ne (hE : Ok K E Mi d) {a b off : Int} (tgt : Nat) (hc : decode Mi.2.1 pc = .ok (.lcmp, 1)) (hd : decode Mi.2.1 (pc + 1) = .ok (.ifCond .ne off, 3)) (ht : ((pc + 1 : Nat) : Int) + off = (tgt : Int)) (hr : InL a ∧ InL b) (kt : ¬ a = b → V K E Mi tgt L st σ) (kf : a = b → V K E Mi (pc + 4) L st σ) : V K E Mi pc L (.long (i64 b) :: .long (i64 a) :: st) σ :=
  fun H locs ls hP hS hl => W.lcmp hE.1 hE.2.1 hc (lv_if_ne hE.1 hE.2.1 hd ht (fun h => kt (fun q => h ((lg_cmp_eq _ _).mpr ((i64_eq hr.1 hr.2).mpr q))) H locs ls hP hS hl) (fun h => kf ((i64_eq hr.1 hr.2).mp ((lg_cmp_eq _ _).mp h)) H locs ls hP hS hl))
theorem V_tableOut (hE : Ok K E Mi d) {a dflt lo hi : Int} {offs : Array Int} {len : Nat} (tgt : Nat) (hd : decode Mi.2.1 pc = .ok (.tableswitch dflt lo hi offs, len)) (hr : InI a) (h : a < lo ∨ hi < a) (ht : (pc : Int) + dflt = (tgt : Int)) (k : V K E Mi tgt L st σ) : V K E Mi pc L (.int (i32 a) :: st) σ :=
  fun H locs ls hP hS hl => lv_tableOut hE.1 hE.2.1 hd (by rw [i32_toInt hr]; exact h) ht (k H locs ls hP hS hl)
theorem V_tableIn (hE : Ok K E Mi d) {a dflt lo hi : Int} {offs : Array Int} {len : Nat} {off : Int} (tgt : Nat) (hd : decode Mi.2.1 pc = .ok (.tableswitch dflt lo hi offs, len)) (hr : InI a) (h1 : lo ≤ a) (h2 : a ≤ hi) (ho : offs[(a - lo).toNat]? = some off) (ht : (pc : Int) + off = (tgt : Int)) (k : V K E Mi tgt L st σ) : V K E Mi pc L (.int (i32 a) :: st) σ :=
  fun H locs ls hP hS hl => lv_tableIn hE.1 hE.2.1 hd (by rw [i32_toInt hr]; omega) (by rw [i32_toInt hr]; omega) (by rw [i32_toInt hr]; exact ho) ht (k H locs ls hP hS hl)
end VROWS
