/-! Ground: one form of contract for every method, over lists of cells; rows of the kit put together for it -/
abbrev mm_cl : List vw_C := [(RX0, TX0, 5), (RX1, TX1, 5), (RX2, TX2, 10), (RX3, TX3, 4), (RX4, TX4, 8), (RX5, TX5, 15), (RX6, TX6, 5), (RX7, TX7, 3), (RX8, TX8, 10), (RX9, TX9, 69)]
def mm_rr (d : Nat) : Room := { frames := d, cells := 0, slots := 0, locals := 64 * d }
def mm_tbl : List Cond := lw_tbl.filter goodWord
theorem mm_tin {w : Cond} (h : w ∈ lw_tbl) (g : goodWord w = true) : w ∈ mm_tbl := List.mem_filter.mpr ⟨h, g⟩
abbrev mm_ws (y : MethodName) (cc : ByteArray) (nL : Nat) (ret : Option FieldType) : List Cond := Cond.code y cc nL ret :: mm_tbl
theorem mm_GI {y : MethodName} {cc : ByteArray} {nL : Nat} {ret : Option FieldType} (h : Cond.code y cc nL ret ∈ mm_tbl) : GoodIn mm_tbl (mm_ws y cc nL ret) := by
  intro w hw
  have hm : w ∈ mm_tbl := (List.mem_cons.mp hw).elim (fun e => e ▸ h) id
  exact ⟨hm, good_of_word (List.mem_filter.mp hm).2⟩
abbrev mm_T (cI cL cS cH : ClassId) : List (ClassId × FieldType) := [(cI, .int), (cL, .long), (cS, .object "MapFold$Sheet"), (cH, .object "MapFold$Shelf")]
/-! the class's own tables, that nobody writes -/
def mm_START : List Int32 := [0, 0, 0, 2, 8, 24, 74, 218, 680]
def mm_ABOVE : List Int32 := [-1, 0, 0, 2, 0, 3, 1, 4]
def mm_OWN : List Int32 := [1, 10, 11, 2, 20, 0, 0, 0, 0, 30, 0, 0, 0, 41, 40, 0, 0, 0, 50, 0, 0, 0, 0, 60, 70, 0, 0, 0, 0, 80, 0, 81]
def mm_Sa (C n : String) (xs : List Int32) (A : Nat → Prop) (U : State) (H : Heap) : Prop := ∃ t : Nat, va_Z C n "[I" (.ref t) A U H ∧ va_T .int t xs.length (fun j => .int (xs.getD j 0)) A U H
def mm_nest : List (String × Nat × MethodName × String) := [(RX8, 21, yX2_init, RX8), (RX8, 28, yX3_init, RX8), (RX8, 42, yX7_init, RX8), (RX8, 49, yX0_init, RX8), (RX8, 56, yX1_init, RX8), (RX8, 67, yX6_init, RX8), (RX3, 38, yX8_isPlannedFold, RX8)]
/-- what holds of the machine through all, beside the words of the tables: the class's own arrays, the links between nest mates -/
def mm_St (A : Nat → Prop) (U : State) (H : Heap) : Prop := mm_Sa RX7 "START" mm_START A U H ∧ mm_Sa RX1 "ABOVE" mm_ABOVE A U H ∧ mm_Sa RX1 "OWN" mm_OWN A U H ∧ ∀ q ∈ mm_nest, va_Nw (.methodLinkNest q.1 q.2.1 q.2.2.1 q.2.2.2) U
theorem mm_Sa.move {C n : String} {xs : List Int32} {A B : Nat → Prop} {s U : State} {H0 H : Heap} (h : mm_Sa C n xs A s H0) (hk : ∀ q : Nat, q < H0.size → ¬ A q → H[q]? = H0[q]?) (hW : s.vm.Alike U.vm) (hB : ∀ q, B q → A q) : mm_Sa C n xs B U H := by
  obtain ⟨t, hZ, hT⟩ := h
  exact ⟨t, ((hZ.kept hk).moved hW).narrow hB, ((hT.kept hk).moved hW).narrow hB⟩
theorem mm_St.move {A B : Nat → Prop} {s U : State} {H0 H : Heap} (h : mm_St A s H0) (hk : ∀ q : Nat, q < H0.size → ¬ A q → H[q]? = H0[q]?) (hW : s.WarmedH U.vm) (hB : ∀ q, B q → A q) : mm_St B U H :=
  ⟨h.1.move hk hW.alike hB, h.2.1.move hk hW.alike hB, h.2.2.1.move hk hW.alike hB, fun q hq => va_Nw.warmM hW (h.2.2.2 q hq)⟩
theorem mm_St.calls {A : Nat → Prop} {U : State} {g : JFrame} {mk : MethodId} {a : Array Value} (h : mm_St A U U.heap) : mm_St A (U.calling g mk a) (U.calling g mk a).heap :=
  ⟨h.1.move (fun _ _ _ => rfl) (Vm.Alike.refl U.vm) (fun _ h => h), h.2.1.move (fun _ _ _ => rfl) (Vm.Alike.refl U.vm) (fun _ h => h), h.2.2.1.move (fun _ _ _ => rfl) (Vm.Alike.refl U.vm) (fun _ h => h), fun q hq => va_Nw.same (u := U) (U := U.calling g mk a) rfl rfl (h.2.2.2 q hq)⟩
/-- what holds through a method's body -/
def mm_Cx (p : Program) (s : State) (m : MethodId) (args : Array Value) (meth : Method) (c : Code) (own : String) (cc : ByteArray) (nL : Nat) (ret : Option FieldType) (D : va_G) (tys : List (ClassId × FieldType)) (A : Nat → Prop) : Prop :=
  p.tables.exec = Jvm.exec ∧ c.code = cc ∧ c.maxLocals = nL ∧ s.vm.findClass own = some m.cls ∧ (∀ w ∈ mm_tbl, w.before args s = true) ∧ meth.sig.returnType = ret ∧ meth.locks = false ∧ va_K D mm_cl tys s ∧ mm_St A s s.heap
def mm_Q (r : Option Value) (D : va_G) (w' : va_W) (A : Nat → Prop) : Array Value → State → Outcome → State → Prop := fun _ st oc t => (oc = .returned r ∧ va_P D mm_cl w' t.heap ∧ va_D A w') ∧ va_F A st t
/-- THE CONTRACT: from a heap that holds the cells w the method returns r, and the heap holds w' there; no cell is new, no other cell changes -/
def mm_Ct (l : Launch) (y : MethodName) (cc : ByteArray) (nL : Nat) (ret : Option FieldType) (d : Nat) (D : va_G) (tys : List (ClassId × FieldType)) (av : List Value) (w w' : va_W) (r : Option Value) : Prop :=
  ∀ sz, Met l y (mm_ws y cc nL ret) (mm_rr d) (va_Pc av (fun U => U.heap.size = sz ∧ va_P D mm_cl w U.heap ∧ va_K D mm_cl tys U ∧ va_D (fun _ => True) w ∧ mm_St (va_A w sz) U U.heap)) (mm_Q r D w' (va_A w sz)) 0 0 (va_A w sz)
def mm_Z (below : List Frame) (D : va_G) (A : Nat → Prop) (w' : va_W) (r : Option Value) (args : Array Value) (s : State) : State → Prop := MQ below (mm_Q r D w' A) args s 0 0 A
theorem mm_of {l : Launch} {y : MethodName} {cc : ByteArray} {nL d : Nat} {ret : Option FieldType} {D : va_G} {tys : List (ClassId × FieldType)} {av : List Value} {w w' : va_W} {r : Option Value} (hy : plainName y.cls = true) (hn : (lg_sl av).length ≤ nL)
    (body : ∀ (p : Program) (e : Env) (s : State) (m : MethodId) (args : Array Value) (below : List Frame) (meth : Method) (c : Code) (A : Nat → Prop) (H : Heap) (locs : List Loc) (ls : Array Slot), mm_Cx p s m args meth c y.cls cc nL ret D tys A → va_P D mm_cl w H → va_D A w → (∀ q, s.heap.size ≤ q → A q) → va_S A s.heap H locs → lv_has ls nL (lv_args 0 av) →
      W p l e (mm_rr d) s m args below meth c H locs 0 0 (mm_Z below D A w' r args s) (F0 m 0 ls [])) : mm_Ct l y cc nL ret d D tys av w w' r := by
  intro sz
  refine Met.ofW (cc := cc) (maxL := nL) (ret := ret) hy rfl ?_
  intro p e s m args below meth c s₁ B hml hv
  obtain ⟨rfl, hsz, hP, hK, hD0, hSt⟩ := hv
  have hts := atoms_spec (ws := mm_ws y cc nL ret) B.pre
  have hown : s.vm.findClass y.cls = some m.cls := findClass_of_methodNamed B.named
  subst hsz
  have hl := lv_entry av (n := nL) hn
  rw [lg_entry_eq]
  generalize (lg_sl av ++ List.replicate (nL - (lg_sl av).length) Slot.unset).toArray = ls at hl ⊢
  exact body p e s m av.toArray below meth c (va_A w s.heap.size) s.heap [] ls ⟨B.exec, B.bytes, hml, hown, fun w hw => hts w (List.mem_cons_of_mem _ hw), B.returns, B.notSynchronized, hK, hSt⟩ hP (hD0.self) (fun q h => Or.inr h) va_S.rf hl
/-! what a pure text of a method is made of -/
def mm_ck {α : Type} (c : Bool) (x : Option α) : Option α := if c = true then x else none
theorem mm_cks {α : Type} {c : Bool} {x : Option α} {r : α} (h : mm_ck c x = some r) : c = true ∧ x = some r := by
  unfold mm_ck at h
  by_cases hc : c = true
  · rw [if_pos hc] at h; exact ⟨hc, h⟩
  · rw [if_neg hc] at h; cases h
def mm_bd {α β : Type} (x : Option α) (k : α → Option β) : Option β := match x with
  | some a => k a
  | none => none
theorem mm_bds {α β : Type} {x : Option α} {k : α → Option β} {r : β} (h : mm_bd x k = some r) : ∃ a, x = some a ∧ k a = some r := by
  cases x with
  | none => cases h
  | some a => exact ⟨a, rfl, h⟩
def mm_nm {α β : Type} (x : α) (k : α → β) : β := k x
theorem mm_nms {α β : Type} {x y : α} {k : α → β} {r : β} (h : mm_nm x k = r) (e : y = x) : k y = r := by subst e; exact h
theorem mm_ip {α : Sort _} {c : Prop} [Decidable c] {a b r : α} (h : (if c then a else b) = r) (hc : c) : a = r := by rw [if_pos hc] at h; exact h
theorem mm_in {α : Sort _} {c : Prop} [Decidable c] {a b r : α} (h : (if c then a else b) = r) (hc : ¬ c) : b = r := by rw [if_neg hc] at h; exact h
/-- a boolean as the machine has it -/
def mm_b (b : Bool) : Int32 := if b = true then 1 else 0
theorem mm_b0 {b : Bool} (h : mm_b b = 0) : b = false := by cases b <;> first | rfl | (exact absurd h (by decide))
theorem mm_b1 {b : Bool} (h : ¬ mm_b b = 0) : ¬ b = false := by cases b <;> first | (exact absurd rfl h) | (intro z; cases z)
theorem mm_bf {b : Bool} : fits .boolean (.int (mm_b b)) = true := by cases b <;> rfl
theorem mm_bn {b : Bool} : narrow .boolean (.int (mm_b b)) = .int (mm_b b) := by cases b <;> rfl
def mm_isb (v : Int32) : Bool := decide (v = 0) || decide (v = 1)
def mm_tb (v : Int32) : Bool := decide (v = 1)
theorem mm_tbs {v : Int32} (h : mm_isb v = true) : v = mm_b (mm_tb v) := by
  unfold mm_isb at h
  rw [Bool.or_eq_true] at h
  rcases h with h | h <;> (have h := of_decide_eq_true h; subst h; decide)
abbrev mm_rem (x y : Int32) : Int32 := x - x / y * y
theorem mm_cat {l : List Value} (h : Nat.ble ((l.map fun v => v.category).sum) 8 = true) : (l.map fun v => v.category).sum ≤ 8 := Nat.le_of_ble_eq_true h
/-- a place of a row -/
def mm_inb (i : Int32) (n : Nat) : Bool := decide (0 ≤ i) && decide (i.toNatClampNeg < n)
theorem mm_inbs {i : Int32} {n : Nat} (h : mm_inb i n = true) : vp_in i n ∧ i.toNatClampNeg < n := by
  unfold mm_inb at h
  rw [Bool.and_eq_true] at h
  have h1 := of_decide_eq_true h.1
  have h2 := of_decide_eq_true h.2
  exact ⟨fun q => q.elim (fun q => Int32.not_lt.mpr h1 q) (fun q => absurd h2 (Nat.not_lt.mpr q)), h2⟩
def mm_nz (i : Int32) : Bool := decide (¬ i = 0)
theorem mm_nzs {i : Int32} (h : mm_nz i = true) : ¬ i = 0 := of_decide_eq_true h
def mm_ig (l : List Int32) (i : Int32) : Int32 := l.getD i.toNatClampNeg 0
def mm_is (l : List Int32) (i x : Int32) : List Int32 := l.set i.toNatClampNeg x
def mm_lg (l : List Int64) (i : Int32) : Int64 := l.getD i.toNatClampNeg 0
def mm_ls (l : List Int64) (i : Int32) (x : Int64) : List Int64 := l.set i.toNatClampNeg x
def mm_li (cI : ClassId) (l : List Int32) : va_E := .inl (cI, l.length, .inl (fun j => l.getD j 0))
def mm_ll (cL : ClassId) (l : List Int64) : va_E := .inl (cL, l.length, .inr (.inl (fun j => l.getD j 0)))
theorem mm_setD {α : Type} {l : List α} {k : Nat} {x d : α} (h : k < l.length) : (fun j => (l.set k x).getD j d) = fun j => if j = k then x else l.getD j d := by
  funext j
  rw [List.getD_eq_getElem?_getD, List.getElem?_set, List.getD_eq_getElem?_getD]
  by_cases e : k = j
  · subst e; simp [h]
  · simp [e, Ne.symm e]
theorem mm_liset {cI : ClassId} {l : List Int32} {i x : Int32} (h : i.toNatClampNeg < l.length) : mm_li cI (mm_is l i x) = .inl (cI, l.length, .inl (upd (fun j => l.getD j 0) i.toNatClampNeg x)) := by
  unfold mm_li mm_is
  rw [List.length_set, mm_setD h]
  rfl
theorem mm_llset {cL : ClassId} {l : List Int64} {i : Int32} {x : Int64} (h : i.toNatClampNeg < l.length) : mm_ll cL (mm_ls l i x) = .inl (cL, l.length, .inr (.inl (vp_updL (fun j => l.getD j 0) i.toNatClampNeg x))) := by
  unfold mm_ll mm_ls
  rw [List.length_set, mm_setD h]
  rfl
section Rows
variable {p : Program} {l : Launch} {e : Env} {R : Room} {s : State} {m : MethodId} {args : Array Value} {below : List Frame} {meth : Method} {c : Code} {H : Heap} {locs : List Loc} {cells slots : Nat} {Q : State → Prop}
variable {own : String} {cc : ByteArray} {nL : Nat} {ret : Option FieldType} {D : va_G} {cI cL cS cH : ClassId} {ws : va_W} {A : Nat → Prop} {H0 : Heap}
variable {pc : Nat} {ls : Array Slot} {rest : List Value} {a : Nat}
theorem mm_get (C0 : mm_Cx p s m args meth c own cc nL ret D (mm_T cI cL cS cH) A) (hP : va_P D mm_cl ws H) {C : String} {T : u_T} {N ci index : Nat} (hin : ∀ w ∈ u_ws C T N, w ∈ mm_tbl) (q0 : Nat) {fs : List Value} (he : ws[q0]? = some (a, .inr (ci, fs))) (hc : mm_cl[ci]? = some (C, T, N)) (k : Nat) (hk : k < N) (hlink : Cond.fieldLink own index (T k).1 (T k).2.1 (T k).2.2.1 ∈ mm_tbl) {v : Value} (hv : fs[k]? = some v) (hdg : decode cc pc = .ok (.getfield index, 3))
    (kk : W p l e R s m args below meth c H locs cells slots Q (F0 m (pc + 3) ls (v :: rest))) : W p l e R s m args below meth c H locs cells slots Q (F0 m pc ls (.ref a :: rest)) := by
  obtain ⟨hx, hb, -, hown, hts, -, -, hK, -⟩ := C0
  exact va_get hx hb hts hin hown hK hP q0 he hc k hk (hts _ hlink) (fun _ h => h) hv hdg kk
theorem mm_put (C0 : mm_Cx p s m args meth c own cc nL ret D (mm_T cI cL cS cH) A) (hP : va_P D mm_cl ws H) (hD : va_D A ws) (hS : va_S A H0 H locs) {C : String} {T : u_T} {N ci index : Nat} (hin : ∀ w ∈ u_ws C T N, w ∈ mm_tbl) (ty0 : Nat → FieldType) (hty : ∀ k, k < N → parseFieldDescriptor (T k).2.2.1 = some (ty0 k)) (hnm : ∀ a, a < N → ∀ b, b < N → a ≠ b → (T a).2.1 ≠ (T b).2.1) (q0 : Nat) {fs : List Value} (he : ws[q0]? = some (a, .inr (ci, fs))) (hc : mm_cl[ci]? = some (C, T, N)) (k : Nat) (hk : k < N) (hlink : Cond.fieldLink own index (T k).1 (T k).2.1 (T k).2.2.1 ∈ mm_tbl) (hfin : (T k).2.2.2 = false) {v : Value} (hn : narrow (ty0 k) v = v) (hfit : fits (ty0 k) v = true) (hl : k < fs.length) (hdg : decode cc pc = .ok (.putfield index, 3)) {w2 : va_W} (h2 : ws.set q0 (a, .inr (ci, fs.set k v)) = w2)
    (kk : ∀ (H1 : Heap) (locs1 : List Loc), va_P D mm_cl w2 H1 → va_D A w2 → va_S A H0 H1 locs1 → W p l e R s m args below meth c H1 locs1 cells slots Q (F0 m (pc + 3) ls rest)) : W p l e R s m args below meth c H locs cells slots Q (F0 m pc ls (v :: .ref a :: rest)) := by
  obtain ⟨hx, hb, -, hown, hts, -, -, hK, -⟩ := C0
  subst h2
  exact va_put hx hb hts hin ty0 hty hnm hown hK hP hD hS q0 he hc k hk (hts _ hlink) (fun _ h => h) hfin (hty k hk) hn hfit hl hdg kk
theorem mm_iald (C0 : mm_Cx p s m args meth c own cc nL ret D (mm_T cI cL cS cH) A) (hP : va_P D mm_cl ws H) (q0 : Nat) {xs : List Int32} (ha : ws[q0]? = some (a, mm_li cI xs)) {i : Int32} (hin : mm_inb i xs.length = true) (hdg : decode cc pc = .ok (.iaload, 1))
    (kk : W p l e R s m args below meth c H locs cells slots Q (F0 m (pc + 1) ls (.int (mm_ig xs i) :: rest))) : W p l e R s m args below meth c H locs cells slots Q (F0 m pc ls (.int i :: .ref a :: rest)) := by
  obtain ⟨hx, hb, -, hown, hts, -, -, hK, -⟩ := C0
  exact va_iald hx hb hK hP q0 0 ha rfl (mm_inbs hin).1 hdg kk
theorem mm_lald (C0 : mm_Cx p s m args meth c own cc nL ret D (mm_T cI cL cS cH) A) (hP : va_P D mm_cl ws H) (q0 : Nat) {xs : List Int64} (ha : ws[q0]? = some (a, mm_ll cL xs)) {i : Int32} (hin : mm_inb i xs.length = true) (hdg : decode cc pc = .ok (.laload, 1))
    (kk : W p l e R s m args below meth c H locs cells slots Q (F0 m (pc + 1) ls (.long (mm_lg xs i) :: rest))) : W p l e R s m args below meth c H locs cells slots Q (F0 m pc ls (.int i :: .ref a :: rest)) := by
  obtain ⟨hx, hb, -, hown, hts, -, -, hK, -⟩ := C0
  exact va_lald hx hb hK hP q0 1 ha rfl (mm_inbs hin).1 hdg kk
theorem mm_iast (C0 : mm_Cx p s m args meth c own cc nL ret D (mm_T cI cL cS cH) A) (hP : va_P D mm_cl ws H) (hD : va_D A ws) (hS : va_S A H0 H locs) (q0 : Nat) {xs : List Int32} (ha : ws[q0]? = some (a, mm_li cI xs)) {i x : Int32} (hin : mm_inb i xs.length = true) (hdg : decode cc pc = .ok (.iastore, 1)) {w2 : va_W} (h2 : ws.set q0 (a, mm_li cI (mm_is xs i x)) = w2)
    (kk : ∀ (H1 : Heap) (locs1 : List Loc), va_P D mm_cl w2 H1 → va_D A w2 → va_S A H0 H1 locs1 → W p l e R s m args below meth c H1 locs1 cells slots Q (F0 m (pc + 1) ls rest)) : W p l e R s m args below meth c H locs cells slots Q (F0 m pc ls (.int x :: .int i :: .ref a :: rest)) := by
  obtain ⟨hx, hb, -, hown, hts, -, -, hK, -⟩ := C0
  subst h2
  rw [mm_liset (mm_inbs hin).2] at kk
  exact va_iast hx hb hK hP hD hS q0 0 ha rfl (mm_inbs hin).1 hdg kk
theorem mm_last (C0 : mm_Cx p s m args meth c own cc nL ret D (mm_T cI cL cS cH) A) (hP : va_P D mm_cl ws H) (hD : va_D A ws) (hS : va_S A H0 H locs) (q0 : Nat) {xs : List Int64} (ha : ws[q0]? = some (a, mm_ll cL xs)) {i : Int32} {x : Int64} (hin : mm_inb i xs.length = true) (hdg : decode cc pc = .ok (.lastore, 1)) {w2 : va_W} (h2 : ws.set q0 (a, mm_ll cL (mm_ls xs i x)) = w2)
    (kk : ∀ (H1 : Heap) (locs1 : List Loc), va_P D mm_cl w2 H1 → va_D A w2 → va_S A H0 H1 locs1 → W p l e R s m args below meth c H1 locs1 cells slots Q (F0 m (pc + 1) ls rest)) : W p l e R s m args below meth c H locs cells slots Q (F0 m pc ls (.long x :: .int i :: .ref a :: rest)) := by
  obtain ⟨hx, hb, -, hown, hts, -, -, hK, -⟩ := C0
  subst h2
  rw [mm_llset (mm_inbs hin).2] at kk
  exact va_last hx hb hK hP hD hS q0 1 ha rfl (mm_inbs hin).1 hdg kk
theorem mm_iret {w' : va_W} {v : Int32} (C0 : mm_Cx p s m args meth c own cc nL (some .int) D (mm_T cI cL cS cH) A) (hP : va_P D mm_cl w' H) (hD : va_D A w') (hS : va_S A s.heap H locs) (hdg : decode cc pc = .ok (.ireturn, 1)) :
    W p l e R s m args below meth c H locs 0 0 (mm_Z below D A w' (some (.int v)) args s) (F0 m pc ls [.int v]) := by
  obtain ⟨hx, hb, -, hown, hts, hr, hlocks, hK, -⟩ := C0
  exact W.iret hx hb hr (fun t ht hW => ⟨⟨rfl, by rw [ht]; exact hP, hD⟩, hS.F ht⟩) hS.2.2 hdg hlocks
theorem mm_zret {w' : va_W} {v : Bool} (C0 : mm_Cx p s m args meth c own cc nL (some .boolean) D (mm_T cI cL cS cH) A) (hP : va_P D mm_cl w' H) (hD : va_D A w') (hS : va_S A s.heap H locs) (hdg : decode cc pc = .ok (.ireturn, 1)) {x : Int32} (hv : x = mm_b v) :
    W p l e R s m args below meth c H locs 0 0 (mm_Z below D A w' (some (.int (mm_b v))) args s) (F0 m pc ls [.int x]) := by
  obtain ⟨hx, hb, -, hown, hts, hr, hlocks, hK, -⟩ := C0
  subst hv
  exact W.zret hx hb hr mm_bn (fun t ht hW => ⟨⟨rfl, by rw [ht]; exact hP, hD⟩, hS.F ht⟩) hS.2.2 hdg hlocks
theorem mm_vret {w' : va_W} (C0 : mm_Cx p s m args meth c own cc nL none D (mm_T cI cL cS cH) A) (hP : va_P D mm_cl w' H) (hD : va_D A w') (hS : va_S A s.heap H locs) (hdg : decode cc pc = .ok (.return_, 1)) :
    W p l e R s m args below meth c H locs 0 0 (mm_Z below D A w' none args s) (F0 m pc ls []) := by
  obtain ⟨hx, hb, -, hown, hts, hr, hlocks, hK, -⟩ := C0
  exact W.vret hx hb hr (fun t ht hW => ⟨⟨rfl, by rw [ht]; exact hP, hD⟩, hS.F ht⟩) hS.2.2 hdg hlocks
theorem mm_lret {w' : va_W} {v : Int64} (C0 : mm_Cx p s m args meth c own cc nL (some .long) D (mm_T cI cL cS cH) A) (hP : va_P D mm_cl w' H) (hD : va_D A w') (hS : va_S A s.heap H locs) (hdg : decode cc pc = .ok (.lreturn, 1)) :
    W p l e R s m args below meth c H locs 0 0 (mm_Z below D A w' (some (.long v)) args s) (F0 m pc ls [.long v]) := by
  obtain ⟨hx, hb, -, hown, hts, hr, hlocks, hK, -⟩ := C0
  exact W.lret hx hb hr (fun t ht hW => ⟨⟨rfl, by rw [ht]; exact hP, hD⟩, hS.F ht⟩) hS.2.2 hdg hlocks
theorem mm_topz {x : Int32} (h : mm_isb x = true) (k : W p l e R s m args below meth c H locs cells slots Q (F0 m pc ls (.int (mm_b (mm_tb x)) :: rest))) : W p l e R s m args below meth c H locs cells slots Q (F0 m pc ls (.int x :: rest)) := by
  rw [← mm_tbs h] at k
  exact k
theorem mm_ilen (C0 : mm_Cx p s m args meth c own cc nL ret D (mm_T cI cL cS cH) A) (hP : va_P D mm_cl ws H) (q0 : Nat) {xs : List Int32} (ha : ws[q0]? = some (a, mm_li cI xs)) (hdg : decode cc pc = .ok (.arraylength, 1))
    (kk : W p l e R s m args below meth c H locs cells slots Q (F0 m (pc + 1) ls (.int (Int32.ofNat xs.length) :: rest))) : W p l e R s m args below meth c H locs cells slots Q (F0 m pc ls (.ref a :: rest)) := by
  obtain ⟨hx, hb, -, hown, hts, -, -, hK, -⟩ := C0
  exact va_alen hx hb hK hP q0 0 ha rfl rfl hdg kk
theorem mm_llen (C0 : mm_Cx p s m args meth c own cc nL ret D (mm_T cI cL cS cH) A) (hP : va_P D mm_cl ws H) (q0 : Nat) {xs : List Int64} (ha : ws[q0]? = some (a, mm_ll cL xs)) (hdg : decode cc pc = .ok (.arraylength, 1))
    (kk : W p l e R s m args below meth c H locs cells slots Q (F0 m (pc + 1) ls (.int (Int32.ofNat xs.length) :: rest))) : W p l e R s m args below meth c H locs cells slots Q (F0 m pc ls (.ref a :: rest)) := by
  obtain ⟨hx, hb, -, hown, hts, -, -, hK, -⟩ := C0
  exact va_alen hx hb hK hP q0 1 ha rfl rfl hdg kk
def mm_lr (cA : ClassId) (l : List Nat) : va_E := .inl (cA, l.length, .inr (.inr (.inr (.inr (fun j => l[j]?)))))
theorem mm_aald {cA : ClassId} {C : String} (t0 : Nat) (ht : (mm_T cI cL cS cH)[t0]? = some (cA, .object C)) (C0 : mm_Cx p s m args meth c own cc nL ret D (mm_T cI cL cS cH) A) (hP : va_P D mm_cl ws H) (q0 : Nat) {xs : List Nat} (ha : ws[q0]? = some (a, mm_lr cA xs)) {i : Int32} {b : Nat} (hin : mm_inb i xs.length = true) (hv : xs[i.toNatClampNeg]? = some b) (hdg : decode cc pc = .ok (.aaload, 1))
    (kk : W p l e R s m args below meth c H locs cells slots Q (F0 m (pc + 1) ls (.ref b :: rest))) : W p l e R s m args below meth c H locs cells slots Q (F0 m pc ls (.int i :: .ref a :: rest)) := by
  obtain ⟨hx, hb, -, hown, hts, -, -, hK, -⟩ := C0
  refine va_aldq hx hb hK hP q0 t0 ha ht (mm_inbs hin).1 hdg ?_
  rw [hv]
  exact kk
end Rows
/-! System.arraycopy -/
def mm_cok (sp dp n : Int32) (a b : Nat) : Bool := decide (0 ≤ sp) && (decide (0 ≤ dp) && (decide (0 ≤ n) && (decide (sp.toNatClampNeg + n.toNatClampNeg ≤ a) && decide (dp.toNatClampNeg + n.toNatClampNeg ≤ b))))
def mm_cp {α : Type} (xs ys : List α) (sp dp n : Int32) : List α := ys.take dp.toNatClampNeg ++ ((xs.drop sp.toNatClampNeg).take n.toNatClampNeg ++ ys.drop (dp.toNatClampNeg + n.toNatClampNeg))
theorem mm_coks {sp dp n : Int32} {a b : Nat} (h : mm_cok sp dp n a b = true) : ¬ sp < 0 ∧ ¬ dp < 0 ∧ ¬ n < 0 ∧ sp.toNatClampNeg + n.toNatClampNeg ≤ a ∧ dp.toNatClampNeg + n.toNatClampNeg ≤ b := by
  unfold mm_cok at h
  simp only [Bool.and_eq_true, decide_eq_true_eq] at h
  obtain ⟨h1, h2, h3, h4, h5⟩ := h
  exact ⟨Int32.not_lt.mpr h1, Int32.not_lt.mpr h2, Int32.not_lt.mpr h3, h4, h5⟩
theorem mm_cpl {α : Type} {xs ys : List α} {sp dp n : Int32} (h4 : sp.toNatClampNeg + n.toNatClampNeg ≤ xs.length) (h5 : dp.toNatClampNeg + n.toNatClampNeg ≤ ys.length) : (mm_cp xs ys sp dp n).length = ys.length := by
  unfold mm_cp
  simp only [List.length_append, List.length_take, List.length_drop]
  omega
theorem mm_cpd {α : Type} {xs ys : List α} {sp dp n : Int32} {z : α} (h4 : sp.toNatClampNeg + n.toNatClampNeg ≤ xs.length) (h5 : dp.toNatClampNeg + n.toNatClampNeg ≤ ys.length) : (fun k => (mm_cp xs ys sp dp n).getD k z) = va_cpy (fun j => xs.getD j z) (fun j => ys.getD j z) sp.toNatClampNeg dp.toNatClampNeg n.toNatClampNeg := by
  funext k
  unfold mm_cp va_cpy
  generalize sp.toNatClampNeg = S at *
  generalize dp.toNatClampNeg = P at *
  generalize n.toNatClampNeg = K at *
  simp only [List.getD_eq_getElem?_getD]
  by_cases h1 : k < P
  · rw [List.getElem?_append_left (by rw [List.length_take]; omega), List.getElem?_take, if_pos h1, if_neg (by omega)]
  · rw [List.getElem?_append_right (by rw [List.length_take]; omega), List.length_take, Nat.min_eq_left (by omega)]
    by_cases h2 : k < P + K
    · rw [List.getElem?_append_left (by rw [List.length_take, List.length_drop]; omega), List.getElem?_take, if_pos (by omega), List.getElem?_drop, if_pos ⟨by omega, h2⟩]
    · rw [List.getElem?_append_right (by rw [List.length_take, List.length_drop]; omega), List.length_take, List.length_drop, Nat.min_eq_left (by omega), List.getElem?_drop, if_neg (by omega), show P + K + (k - P - K) = k by omega]
section Copies
variable {p : Program} {l : Launch} {e : Env} {s : State} {m : MethodId} {args : Array Value} {below : List Frame} {meth : Method} {c : Code} {H : Heap} {locs : List Loc} {cells slots : Nat} {Q : State → Prop}
variable {own : String} {cc : ByteArray} {nL : Nat} {ret : Option FieldType} {D : va_G} {cI cL cS cH : ClassId} {ws : va_W} {A : Nat → Prop} {H0 : Heap}
variable {pc d : Nat} {ls : Array Slot} {rest : List Value} {a a0 : Nat}
def mm_LC (own : String) (index : Nat) : Prop := Cond.methodLink own index arraycopyName ∈ mm_tbl ∧ Cond.native arraycopyName ∈ mm_tbl ∧ Cond.static arraycopyName ∈ mm_tbl ∧ Cond.initialized "java/lang/System" ∈ mm_tbl
theorem mm_croom {st : List Value} (hd : 1 ≤ d) (hW : (st.map fun v => v.category).sum ≤ 8) : (st.map fun v => v.category).sum + (nativeFrameWords "java/lang/System" "arraycopy" 5 + 11) ≤ (mm_rr d).locals := by
  have e : nativeFrameWords "java/lang/System" "arraycopy" 5 = 7 := by decide
  rw [e]
  show _ ≤ 64 * d
  omega
theorem mm_copyi {index : Nat} (C0 : mm_Cx p s m args meth c own cc nL ret D (mm_T cI cL cS cH) A) (L : mm_LC own index) (hP : va_P D mm_cl ws H) (hD : va_D A ws) (hS : va_S A H0 H locs) (q0 q1 : Nat) {xs ys : List Int32} (ha0 : ws[q0]? = some (a0, mm_li cI xs)) (ha1 : ws[q1]? = some (a, mm_li cI ys)) {sp dp n : Int32} (hok : mm_cok sp dp n xs.length ys.length = true) (hl : ls.size = nL) (hd : 1 ≤ d) (hW : (rest.map fun v => v.category).sum ≤ 8) (hdg : decode cc pc = .ok (.invokestatic index, 3)) {w2 : va_W} (h2 : ws.set q1 (a, mm_li cI (mm_cp xs ys sp dp n)) = w2)
    (kk : ∀ (H1 : Heap) (locs1 : List Loc), va_P D mm_cl w2 H1 → va_D A w2 → va_S A H0 H1 locs1 → W p l e (mm_rr d) s m args below meth c H1 locs1 cells slots Q (F0 m (pc + 3) ls rest)) : W p l e (mm_rr d) s m args below meth c H locs cells slots Q (F0 m pc ls (.int n :: .int dp :: .ref a :: .int sp :: .ref a0 :: rest)) := by
  obtain ⟨hx, hb, hml, hown, hts, -, -, hK, -⟩ := C0
  obtain ⟨l1, l2, l3, l4⟩ := L
  obtain ⟨h1, h2', h3, h4, h5⟩ := mm_coks hok
  subst h2
  have e : mm_li cI (mm_cp xs ys sp dp n) = .inl (cI, ys.length, .inl (va_cpy (fun j => xs.getD j 0) (fun j => ys.getD j 0) sp.toNatClampNeg dp.toNatClampNeg n.toNatClampNeg)) := by
    unfold mm_li
    rw [mm_cpl h4 h5, mm_cpd h4 h5]
  rw [e] at kk
  exact va_copyi hx hb (hml.trans hl.symm) hown (hts _ l1) (hts _ l2) (hts _ l3) (hts _ l4) hK hP hD hS q0 q1 0 0 ha0 ha1 rfl rfl rfl h1 h2' h3 h4 h5 (fun _ _ => rfl) hd (mm_croom hd hW) hdg kk
theorem mm_copyl {index : Nat} (C0 : mm_Cx p s m args meth c own cc nL ret D (mm_T cI cL cS cH) A) (L : mm_LC own index) (hP : va_P D mm_cl ws H) (hD : va_D A ws) (hS : va_S A H0 H locs) (q0 q1 : Nat) {xs ys : List Int64} (ha0 : ws[q0]? = some (a0, mm_ll cL xs)) (ha1 : ws[q1]? = some (a, mm_ll cL ys)) {sp dp n : Int32} (hok : mm_cok sp dp n xs.length ys.length = true) (hl : ls.size = nL) (hd : 1 ≤ d) (hW : (rest.map fun v => v.category).sum ≤ 8) (hdg : decode cc pc = .ok (.invokestatic index, 3)) {w2 : va_W} (h2 : ws.set q1 (a, mm_ll cL (mm_cp xs ys sp dp n)) = w2)
    (kk : ∀ (H1 : Heap) (locs1 : List Loc), va_P D mm_cl w2 H1 → va_D A w2 → va_S A H0 H1 locs1 → W p l e (mm_rr d) s m args below meth c H1 locs1 cells slots Q (F0 m (pc + 3) ls rest)) : W p l e (mm_rr d) s m args below meth c H locs cells slots Q (F0 m pc ls (.int n :: .int dp :: .ref a :: .int sp :: .ref a0 :: rest)) := by
  obtain ⟨hx, hb, hml, hown, hts, -, -, hK, -⟩ := C0
  obtain ⟨l1, l2, l3, l4⟩ := L
  obtain ⟨h1, h2', h3, h4, h5⟩ := mm_coks hok
  subst h2
  have e : mm_ll cL (mm_cp xs ys sp dp n) = .inl (cL, ys.length, .inr (.inl (va_cpy (fun j => xs.getD j 0) (fun j => ys.getD j 0) sp.toNatClampNeg dp.toNatClampNeg n.toNatClampNeg))) := by
    unfold mm_ll
    rw [mm_cpl h4 h5, mm_cpd h4 h5]
  rw [e] at kk
  exact va_copyl hx hb (hml.trans hl.symm) hown (hts _ l1) (hts _ l2) (hts _ l3) (hts _ l4) hK hP hD hS q0 q1 1 1 ha0 ha1 rfl rfl rfl h1 h2' h3 h4 h5 (fun _ _ => rfl) hd (mm_croom hd hW) hdg kk
end Copies
