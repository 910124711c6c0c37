section VHEAP
variable {K : Ctx} {E : ME} {Mi : MI} {d pc : Nat} {L : List (Option Value)} {st : List Value} {σ : Sto}
theorem ent_int {K : Ctx} {σ : Sto} {k n : Nat} (h : sh k = (0, n, [])) : ent K σ k = .inl (kI K, n, .inl (fun i => i32 (σ k i))) := by rw [ent, h]; rfl
theorem ent_long {K : Ctx} {σ : Sto} {k n : Nat} (h : sh k = (1, n, [])) : ent K σ k = .inl (kJ K, n, .inr (.inl (fun i => i64 (σ k i)))) := by rw [ent, h]; rfl
theorem ent_bool {K : Ctx} {σ : Sto} {k n : Nat} (h : sh k = (2, n, [])) : ent K σ k = .inl (kZ K, n, .inl (fun i => i32 (σ k i))) := by rw [ent, h]; rfl
theorem sh_lt {k a n : Nat} {fs : List (Nat × Nat)} (h : sh k = (a, n, fs)) (hn : a ≠ 0 ∨ n ≠ 0) : k < 32 := by
  rcases Nat.lt_or_ge k 32 with h1 | h1
  · exact h1
  · exfalso
    obtain ⟨j, rfl⟩ : ∃ j, k = j + 32 := ⟨k - 32, by omega⟩
    rw [show sh (j + 32) = (0, 0, []) from rfl] at h
    cases h
    omega
theorem sh_le : ∀ k, k < 32 → (sh k).2.1 < 4000 := by decide +kernel
theorem sh_n {k a n : Nat} {fs : List (Nat × Nat)} (h : sh k = (a, n, fs)) (hk : k < 32) : n < 2147483648 := by
  have h1 := sh_le k hk
  rw [h] at h1
  have h2 : n < 4000 := h1
  omega
theorem V_iaload (hE : Ok K E Mi d) {k n : Nat} {i : Int} (hd : decode Mi.2.1 pc = .ok (.iaload, 1)) (hs : sh k = (0, n, [])) (hi : 0 ≤ i ∧ i < n) (kk : V K E Mi (pc + 1) L (.int (i32 (σ k i.toNat)) :: st) σ) : V K E Mi pc L (.int (i32 i) :: .ref (kA K k) :: st) σ := by
  intro H locs ls hP hS hl
  have hk := sh_lt hs (Or.inr (by omega))
  have hn := sh_n hs hk
  refine va_iald (f := fun i => i32 (σ k i)) hE.1 hE.2.1 hE.2.2.2.2.2.1.1 hP k 0 (by rw [wld_get K σ hk, ent_int hs]) rfl (i32_in hi hn) hd ?_
  rw [i32_cl ⟨by omega, by omega⟩]
  exact kk H locs ls hP hS hl
theorem V_baload (hE : Ok K E Mi d) {k n : Nat} {i : Int} (hd : decode Mi.2.1 pc = .ok (.baload, 1)) (hs : sh k = (2, n, [])) (hi : 0 ≤ i ∧ i < n) (kk : V K E Mi (pc + 1) L (.int (i32 (σ k i.toNat)) :: st) σ) : V K E Mi pc L (.int (i32 i) :: .ref (kA K k) :: st) σ := by
  intro H locs ls hP hS hl
  have hk := sh_lt hs (Or.inl (by decide))
  have hn := sh_n hs hk
  refine va_zald (f := fun i => i32 (σ k i)) hE.1 hE.2.1 hE.2.2.2.2.2.1.1 hP k 2 (by rw [wld_get K σ hk, ent_bool hs]) rfl (i32_in hi hn) hd ?_
  rw [i32_cl ⟨by omega, by omega⟩]
  exact kk H locs ls hP hS hl
theorem V_laload (hE : Ok K E Mi d) {k n : Nat} {i : Int} (hd : decode Mi.2.1 pc = .ok (.laload, 1)) (hs : sh k = (1, n, [])) (hi : 0 ≤ i ∧ i < n) (kk : V K E Mi (pc + 1) L (.long (i64 (σ k i.toNat)) :: st) σ) : V K E Mi pc L (.int (i32 i) :: .ref (kA K k) :: st) σ := by
  intro H locs ls hP hS hl
  have hk := sh_lt hs (Or.inl (by decide))
  have hn := sh_n hs hk
  refine va_lald (f := fun i => i64 (σ k i)) hE.1 hE.2.1 hE.2.2.2.2.2.1.1 hP k 1 (by rw [wld_get K σ hk, ent_long hs]) rfl (i32_in hi hn) hd ?_
  rw [i32_cl ⟨by omega, by omega⟩]
  exact kk H locs ls hP hS hl
theorem V_alen (hE : Ok K E Mi d) {k n : Nat} (hd : decode Mi.2.1 pc = .ok (.arraylength, 1)) (hs : sh k = (0, n, [])) (hn : n ≠ 0) (kk : V K E Mi (pc + 1) L (.int (i32 n) :: st) σ) : V K E Mi pc L (.ref (kA K k) :: st) σ := by
  intro H locs ls hP hS hl
  have hk := sh_lt hs (Or.inr hn)
  exact va_alen (v := i32 n) hE.1 hE.2.1 hE.2.2.2.2.2.1.1 hP k 0 (by rw [wld_get K σ hk, ent_int hs]) rfl (by first | rfl | exact (Int32.ofInt_eq_ofNat).symm | simp [i32]) hd (kk H locs ls hP hS hl)
theorem ent_int_up {k n i : Nat} {v : Int} (hs : sh k = (0, n, [])) : ent K (up σ k i v) k = .inl (kI K, n, .inl (upd (fun i => i32 (σ k i)) i (i32 v))) := by
  rw [ent_int hs]
  congr 4
  funext j
  by_cases h : j = i <;> simp [up, upd, h]
theorem ent_bool_up {k n i : Nat} {v : Int} (hs : sh k = (2, n, [])) : ent K (up σ k i v) k = .inl (kZ K, n, .inl (upd (fun i => i32 (σ k i)) i (i32 v))) := by
  rw [ent_bool hs]
  congr 4
  funext j
  by_cases h : j = i <;> simp [up, upd, h]
theorem ent_long_up {k n i : Nat} {v : Int} (hs : sh k = (1, n, [])) : ent K (up σ k i v) k = .inl (kJ K, n, .inr (.inl (vp_updL (fun i => i64 (σ k i)) i (i64 v)))) := by
  rw [ent_long hs]
  congr 5
  funext j
  by_cases h : j = i <;> simp [up, vp_updL, h]
theorem V_iastore (hE : Ok K E Mi d) {k n : Nat} {i v : Int} (hd : decode Mi.2.1 pc = .ok (.iastore, 1)) (hs : sh k = (0, n, [])) (hi : 0 ≤ i ∧ i < n) (kk : V K E Mi (pc + 1) L st (up σ k i.toNat v)) : V K E Mi pc L (.int (i32 v) :: .int (i32 i) :: .ref (kA K k) :: st) σ := by
  intro H locs ls hP hS hl
  have hk := sh_lt hs (Or.inr (by omega))
  have hn := sh_n hs hk
  refine va_iast (f := fun i => i32 (σ k i)) hE.1 hE.2.1 hE.2.2.2.2.2.1.1 hP (wld_D hE.2.2.2.2.2.1.2.2.2 hE.2.2.2.2.2.2.2 σ) hS k 0 (by rw [wld_get K σ hk, ent_int hs]) rfl (i32_in hi hn) hd ?_
  rw [i32_cl ⟨by omega, by omega⟩, wld_set hk (ent_arr_ne (by omega)) (ent_int_up hs)]
  exact fun H1 locs1 h1 _ h3 => kk H1 locs1 ls h1 h3 hl
theorem nar_bool {v : Int} (h : v = 0 ∨ v = 1) : vp_nar .boolean (i32 v) = i32 v := by rcases h with rfl | rfl <;> rfl
theorem V_bastore (hE : Ok K E Mi d) {k n : Nat} {i v : Int} (hd : decode Mi.2.1 pc = .ok (.bastore, 1)) (hs : sh k = (2, n, [])) (hi : 0 ≤ i ∧ i < n) (hv : v = 0 ∨ v = 1) (kk : V K E Mi (pc + 1) L st (up σ k i.toNat v)) : V K E Mi pc L (.int (i32 v) :: .int (i32 i) :: .ref (kA K k) :: st) σ := by
  intro H locs ls hP hS hl
  have hk := sh_lt hs (Or.inl (by decide))
  have hn := sh_n hs hk
  refine va_zast (f := fun i => i32 (σ k i)) hE.1 hE.2.1 hE.2.2.2.2.2.1.1 hP (wld_D hE.2.2.2.2.2.1.2.2.2 hE.2.2.2.2.2.2.2 σ) hS k 2 (by rw [wld_get K σ hk, ent_bool hs]) rfl (i32_in hi hn) hd ?_
  rw [i32_cl ⟨by omega, by omega⟩, nar_bool hv, wld_set hk (ent_arr_ne (by omega)) (ent_bool_up hs)]
  exact fun H1 locs1 h1 _ h3 => kk H1 locs1 ls h1 h3 hl
theorem V_lastore (hE : Ok K E Mi d) {k n : Nat} {i v : Int} (hd : decode Mi.2.1 pc = .ok (.lastore, 1)) (hs : sh k = (1, n, [])) (hi : 0 ≤ i ∧ i < n) (kk : V K E Mi (pc + 1) L st (up σ k i.toNat v)) : V K E Mi pc L (.long (i64 v) :: .int (i32 i) :: .ref (kA K k) :: st) σ := by
  intro H locs ls hP hS hl
  have hk := sh_lt hs (Or.inl (by decide))
  have hn := sh_n hs hk
  refine va_last (f := fun i => i64 (σ k i)) hE.1 hE.2.1 hE.2.2.2.2.2.1.1 hP (wld_D hE.2.2.2.2.2.1.2.2.2 hE.2.2.2.2.2.2.2 σ) hS k 1 (by rw [wld_get K σ hk, ent_long hs]) rfl (i32_in hi hn) hd ?_
  rw [i32_cl ⟨by omega, by omega⟩, wld_set hk (ent_arr_ne (by omega)) (ent_long_up hs)]
  exact fun H1 locs1 h1 _ h3 => kk H1 locs1 ls h1 h3 hl
/-- a field is read: object k of class ci, its field j -/
theorem V_get (hE : Ok K E Mi d) {k ci j index N : Nat} {ref C : String} {T : u_T} {fs : List (Nat × Nat)} {f : Nat × Nat} (hs : sh k = (3, ci, fs)) (hf : fs[j]? = some f) (hc : vwCl[ci]? = some (C, T, N)) (hj : Nat.blt j N = true) (hin : ∀ w ∈ u_ws C T N, w ∈ TW)
    (hlink : Cond.fieldLink Mi.1.cls index ref (T j).2.1 (T j).2.2.1 ∈ TW) (href : (T j).1 = ref) (hd : decode Mi.2.1 pc = .ok (.getfield index, 3)) (kk : V K E Mi (pc + 3) L (fv K σ f :: st) σ) : V K E Mi pc L (.ref (kA K k) :: st) σ := by
  intro H locs ls hP hS hl
  have hk := sh_lt hs (Or.inl (by decide))
  exact va_get (v := fv K σ f) hE.1 hE.2.1 hE.2.2.2.2.1 hin hE.2.2.2.1 hE.2.2.2.2.2.1.1 hP k (fs := fs.map (fv K σ)) (by rw [wld_get K σ hk, ent, hs]; rfl) hc j (Nat.le_of_ble_eq_true hj) (hE.2.2.2.2.1 _ hlink) (fun _ h => by rw [← href]; exact h) (by rw [List.getElem?_map, hf]; rfl) hd (kk H locs ls hP hS hl)
theorem V_getN (hE : Ok K E Mi d) {k ci j index N : Nat} {ref C host : String} {T : u_T} {fs : List (Nat × Nat)} {f : Nat × Nat} (hs : sh k = (3, ci, fs)) (hf : fs[j]? = some f) (hc : vwCl[ci]? = some (C, T, N)) (hj : Nat.blt j N = true) (hin : ∀ w ∈ u_ws C T N, w ∈ TW)
    (hlink : Cond.fieldLinkNest Mi.1.cls index ref (T j).2.1 (T j).2.2.1 host ∈ nwL) (href : (T j).1 = ref) (hd : decode Mi.2.1 pc = .ok (.getfield index, 3)) (kk : V K E Mi (pc + 3) L (fv K σ f :: st) σ) : V K E Mi pc L (.ref (kA K k) :: st) σ := by
  intro H locs ls hP hS hl
  have hk := sh_lt hs (Or.inl (by decide))
  exact va_getN (v := fv K σ f) hE.1 hE.2.1 hE.2.2.2.2.1 hin hE.2.2.2.1 hE.2.2.2.2.2.1.1 hP k (fs := fs.map (fv K σ)) (by rw [wld_get K σ hk, ent, hs]; rfl) hc j (Nat.le_of_ble_eq_true hj) (va_Nw.use rfl (hE.2.2.2.2.2.1.2.1 _ hlink)) (fun _ h => by rw [← href]; exact h) (by rw [List.getElem?_map, hf]; rfl) hd (kk H locs ls hP hS hl)
/-- a number of an object is written -/
theorem V_put (hE : Ok K E Mi d) {k ci j index N dd : Nat} {ref C : String} {T : u_T} {fs : List (Nat × Nat)} {ty0 : Nat → FieldType} {x : Int} (hs : sh k = (3, ci, fs)) (hc : vwCl[ci]? = some (C, T, N)) (hj : Nat.blt j N = true) (hin : ∀ w ∈ u_ws C T N, w ∈ TW)
    (hty : ∀ k, k < N → parseFieldDescriptor (T k).2.2.1 = some (ty0 k)) (hnm : ∀ a, a < N → ∀ b, b < N → a ≠ b → (T a).2.1 ≠ (T b).2.1) (hlink : Cond.fieldLink Mi.1.cls index ref (T j).2.1 (T j).2.2.1 ∈ TW) (href : (T j).1 = ref) (hfin : (T j).2.2.2 = false)
    (hd0 : parseFieldDescriptor (T j).2.2.1 = some .int) (hlen : Nat.blt j fs.length = true) (hdd : 100 ≤ dd) (hot : ∀ k', k' < 32 → k' ≠ k → ∀ f ∈ (sh k').2.2, f.1 = 0 ∨ f.2 ≠ dd) (hset : ∀ v : Int, fs.map (fv K (up σ dd 0 v)) = (fs.map (fv K σ)).set j (.int (i32 v)))
    (hd : decode Mi.2.1 pc = .ok (.putfield index, 3)) (kk : V K E Mi (pc + 3) L st (up σ dd 0 x)) : V K E Mi pc L (.int (i32 x) :: .ref (kA K k) :: st) σ := by
  intro H locs ls hP hS hl
  have hk := sh_lt hs (Or.inl (by decide))
  refine va_put (v := .int (i32 x)) (ty := .int) hE.1 hE.2.1 hE.2.2.2.2.1 hin ty0 hty hnm hE.2.2.2.1 hE.2.2.2.2.2.1.1 hP (wld_D hE.2.2.2.2.2.1.2.2.2 hE.2.2.2.2.2.2.2 σ) hS k (fs := fs.map (fv K σ)) (by rw [wld_get K σ hk, ent, hs]; rfl) hc j (Nat.le_of_ble_eq_true hj) (hE.2.2.2.2.1 _ hlink) (fun _ h => by rw [← href]; exact h) hfin hd0 rfl rfl (by rw [List.length_map]; exact Nat.le_of_ble_eq_true hlen) hd ?_
  rw [wld_set hk (ent_fld_ne hdd hot) (by rw [ent, hs]; show Sum.inr (ci, fs.map (fv K (up σ dd 0 x))) = _; rw [hset])]
  exact fun H1 locs1 h1 _ h3 => kk H1 locs1 ls h1 h3 hl
theorem V_putN (hE : Ok K E Mi d) {k ci j index N dd : Nat} {ref C host : String} {T : u_T} {fs : List (Nat × Nat)} {ty0 : Nat → FieldType} {x : Int} (hs : sh k = (3, ci, fs)) (hc : vwCl[ci]? = some (C, T, N)) (hj : Nat.blt j N = true) (hin : ∀ w ∈ u_ws C T N, w ∈ TW)
    (hty : ∀ k, k < N → parseFieldDescriptor (T k).2.2.1 = some (ty0 k)) (hnm : ∀ a, a < N → ∀ b, b < N → a ≠ b → (T a).2.1 ≠ (T b).2.1) (hlink : Cond.fieldLinkNest Mi.1.cls index ref (T j).2.1 (T j).2.2.1 host ∈ nwL) (href : (T j).1 = ref) (hfin : (T j).2.2.2 = false)
    (hd0 : parseFieldDescriptor (T j).2.2.1 = some .int) (hlen : Nat.blt j fs.length = true) (hdd : 100 ≤ dd) (hot : ∀ k', k' < 32 → k' ≠ k → ∀ f ∈ (sh k').2.2, f.1 = 0 ∨ f.2 ≠ dd) (hset : ∀ v : Int, fs.map (fv K (up σ dd 0 v)) = (fs.map (fv K σ)).set j (.int (i32 v)))
    (hd : decode Mi.2.1 pc = .ok (.putfield index, 3)) (kk : V K E Mi (pc + 3) L st (up σ dd 0 x)) : V K E Mi pc L (.int (i32 x) :: .ref (kA K k) :: st) σ := by
  intro H locs ls hP hS hl
  have hk := sh_lt hs (Or.inl (by decide))
  refine va_putN (v := .int (i32 x)) (ty := .int) hE.1 hE.2.1 hE.2.2.2.2.1 hin ty0 hty hnm hE.2.2.2.1 hE.2.2.2.2.2.1.1 hP (wld_D hE.2.2.2.2.2.1.2.2.2 hE.2.2.2.2.2.2.2 σ) hS k (fs := fs.map (fv K σ)) (by rw [wld_get K σ hk, ent, hs]; rfl) hc j (Nat.le_of_ble_eq_true hj) (va_Nw.use rfl (hE.2.2.2.2.2.1.2.1 _ hlink)) (fun _ h => by rw [← href]; exact h) hfin hd0 rfl rfl (by rw [List.length_map]; exact Nat.le_of_ble_eq_true hlen) hd ?_
  rw [wld_set hk (ent_fld_ne hdd hot) (by rw [ent, hs]; show Sum.inr (ci, fs.map (fv K (up σ dd 0 x))) = _; rw [hset])]
  exact fun H1 locs1 h1 _ h3 => kk H1 locs1 ls h1 h3 hl
theorem V_putL (hE : Ok K E Mi d) {k ci j index N dd : Nat} {ref C : String} {T : u_T} {fs : List (Nat × Nat)} {ty0 : Nat → FieldType} {x : Int} (hs : sh k = (3, ci, fs)) (hc : vwCl[ci]? = some (C, T, N)) (hj : Nat.blt j N = true) (hin : ∀ w ∈ u_ws C T N, w ∈ TW)
    (hty : ∀ k, k < N → parseFieldDescriptor (T k).2.2.1 = some (ty0 k)) (hnm : ∀ a, a < N → ∀ b, b < N → a ≠ b → (T a).2.1 ≠ (T b).2.1) (hlink : Cond.fieldLink Mi.1.cls index ref (T j).2.1 (T j).2.2.1 ∈ TW) (href : (T j).1 = ref) (hfin : (T j).2.2.2 = false)
    (hd0 : parseFieldDescriptor (T j).2.2.1 = some .long) (hlen : Nat.blt j fs.length = true) (hdd : 100 ≤ dd) (hot : ∀ k', k' < 32 → k' ≠ k → ∀ f ∈ (sh k').2.2, f.1 = 0 ∨ f.2 ≠ dd) (hset : ∀ v : Int, fs.map (fv K (up σ dd 0 v)) = (fs.map (fv K σ)).set j (.long (i64 v)))
    (hd : decode Mi.2.1 pc = .ok (.putfield index, 3)) (kk : V K E Mi (pc + 3) L st (up σ dd 0 x)) : V K E Mi pc L (.long (i64 x) :: .ref (kA K k) :: st) σ := by
  intro H locs ls hP hS hl
  have hk := sh_lt hs (Or.inl (by decide))
  refine va_put (v := .long (i64 x)) (ty := .long) hE.1 hE.2.1 hE.2.2.2.2.1 hin ty0 hty hnm hE.2.2.2.1 hE.2.2.2.2.2.1.1 hP (wld_D hE.2.2.2.2.2.1.2.2.2 hE.2.2.2.2.2.2.2 σ) hS k (fs := fs.map (fv K σ)) (by rw [wld_get K σ hk, ent, hs]; rfl) hc j (Nat.le_of_ble_eq_true hj) (hE.2.2.2.2.1 _ hlink) (fun _ h => by rw [← href]; exact h) hfin hd0 rfl rfl (by rw [List.length_map]; exact Nat.le_of_ble_eq_true hlen) hd ?_
  rw [wld_set hk (ent_fld_ne hdd hot) (by rw [ent, hs]; show Sum.inr (ci, fs.map (fv K (up σ dd 0 x))) = _; rw [hset])]
  exact fun H1 locs1 h1 _ h3 => kk H1 locs1 ls h1 h3 hl
/-- the two static arrays -/
theorem V_low (hE : Ok K E Mi d) {index : Nat} (hlink : Cond.fieldLink Mi.1.cls index "HullOffsets" "SETTING_LOW" "[I" ∈ TW) (hd : decode Mi.2.1 pc = .ok (.getstatic index, 3)) (kk : V K E Mi (pc + 3) L (.ref (kLow K) :: st) σ) : V K E Mi pc L st σ :=
  fun H locs ls hP hS hl => va_gets hE.1 hE.2.1 hE.2.2.2.2.2.1.2.2.1.1.1 hS hE.2.2.2.1 (hE.2.2.2.2.1 _ hlink) (fun _ h => h) hd (kk H locs ls hP hS hl)
theorem V_top (hE : Ok K E Mi d) {index : Nat} (hlink : Cond.fieldLink Mi.1.cls index "HullOffsets" "SETTING_TOP" "[I" ∈ TW) (hd : decode Mi.2.1 pc = .ok (.getstatic index, 3)) (kk : V K E Mi (pc + 3) L (.ref (kTop K) :: st) σ) : V K E Mi pc L st σ :=
  fun H locs ls hP hS hl => va_gets hE.1 hE.2.1 hE.2.2.2.2.2.1.2.2.1.2.1 hS hE.2.2.2.1 (hE.2.2.2.2.1 _ hlink) (fun _ h => h) hd (kk H locs ls hP hS hl)
theorem V_lowAt (hE : Ok K E Mi d) {i : Int} (hd : decode Mi.2.1 pc = .ok (.iaload, 1)) (hi : 0 ≤ i ∧ i < 4) (kk : V K E Mi (pc + 1) L (.int (i32 (if i < 2 then 0 else 1)) :: st) σ) : V K E Mi pc L (.int (i32 i) :: .ref (kLow K) :: st) σ := by
  intro H locs ls hP hS hl
  refine va_ti (v := .int (i32 (if i < 2 then 0 else 1))) hE.1 hE.2.1 hE.2.2.2.2.2.1.2.2.1.1.2 hS (i32_in (n := 4) hi (by decide)) ?_ hd (kk H locs ls hP hS hl)
  rw [i32_cl ⟨by omega, by omega⟩]
  by_cases h : i < 2
  · rw [if_pos h, if_pos (by omega)]
  · rw [if_neg h, if_neg (by omega)]
theorem V_topAt (hE : Ok K E Mi d) {i : Int} (hd : decode Mi.2.1 pc = .ok (.iaload, 1)) (hi : 0 ≤ i ∧ i < 4) (kk : V K E Mi (pc + 1) L (.int (i32 (if i = 0 then 999 else if i = 1 then 3 else 99)) :: st) σ) : V K E Mi pc L (.int (i32 i) :: .ref (kTop K) :: st) σ := by
  intro H locs ls hP hS hl
  refine va_ti (v := .int (i32 (if i = 0 then 999 else if i = 1 then 3 else 99))) hE.1 hE.2.1 hE.2.2.2.2.2.1.2.2.1.2.2 hS (i32_in (n := 4) hi (by decide)) ?_ hd (kk H locs ls hP hS hl)
  rw [i32_cl ⟨by omega, by omega⟩]
  rcases (show i = 0 ∨ i = 1 ∨ i = 2 ∨ i = 3 by omega) with rfl | rfl | rfl | rfl <;> rfl
end VHEAP
