/-! Constructors: a contract that gives the whole layout at addresses of its own; the rows for it -/
def mm_rk (d mc ms : Nat) : Room := { frames := d, cells := mc, slots := ms, locals := 64 * d }
def mm_Qn (D : va_G) (wf : (Nat → Nat) → va_W) (o : Nat) (A : Nat → Prop) : Array Value → State → Outcome → State → Prop := fun _ st oc t => (oc = .returned none ∧ ∃ a : Nat → Nat, a 0 = o ∧ va_P D mm_cl (wf a) t.heap ∧ va_D A (wf a)) ∧ va_F A st t
abbrev mm_Pn (D : va_G) (tys : List (ClassId × FieldType)) (w : va_W) (sz : Nat) (U : State) : Prop := U.heap.size = sz ∧ va_P D mm_cl w U.heap ∧ va_K D mm_cl tys U ∧ va_D (fun _ => True) w ∧ mm_St (va_A w sz) U U.heap ∧ va_AO RX5 U ∧ va_AO RX6 U
def mm_Cn (l : Launch) (y : MethodName) (cc : ByteArray) (nL d mc ms : Nat) (D : va_G) (tys : List (ClassId × FieldType)) (o : Nat) (w : va_W) (wf : (Nat → Nat) → va_W) : Prop :=
  ∀ sz, Met l y (mm_ws y cc nL none) (mm_rk d mc ms) (va_Pc [.ref o] (mm_Pn D tys w sz)) (mm_Qn D wf o (va_A w sz)) mc ms (va_A w sz)
def mm_Zn (below : List Frame) (D : va_G) (A : Nat → Prop) (wf : (Nat → Nat) → va_W) (o mc ms : Nat) (args : Array Value) (s : State) : State → Prop := MQ below (mm_Qn D wf o A) args s mc ms A
theorem mm_ofn {l : Launch} {y : MethodName} {cc : ByteArray} {nL d mc ms o : Nat} {D : va_G} {tys : List (ClassId × FieldType)} {w : va_W} {wf : (Nat → Nat) → va_W} (hy : plainName y.cls = true) (hyn : y.name = "<init>") (hn : 1 ≤ nL)
    (body : ∀ (p : Program) (e : Env) (s : State) (m : MethodId) (args : Array Value) (below : List Frame) (meth : Method) (c : Code) (A : Nat → Prop) (H : Heap) (locs : List Loc) (ls : Array Slot), mm_Cx p s m args meth c y.cls cc nL none D tys A → meth.name = "<init>" → va_AO RX5 s → va_AO RX6 s → va_P D mm_cl w H → va_D A w → (∀ q, s.heap.size ≤ q → A q) → va_S A s.heap H locs → lv_has ls nL [(0, .ref o)] →
      W p l e (mm_rk d mc ms) s m args below meth c H locs 0 0 (mm_Zn below D A wf o mc ms args s) (F0 m 0 ls [])) : mm_Cn l y cc nL d mc ms D tys o w wf := by
  intro sz
  refine Met.ofW (cc := cc) (maxL := nL) (ret := none) hy rfl ?_
  intro p e s m args below meth c s₁ B hml hv
  obtain ⟨rfl, hsz, hP, hK, hD0, hSt, hO1, hO2⟩ := hv
  have hts := atoms_spec (ws := mm_ws y cc nL none) B.pre
  have hown : s.vm.findClass y.cls = some m.cls := findClass_of_methodNamed B.named
  have hin : meth.name = "<init>" := (name_of_methodNamed B.named B.method).1.trans hyn
  subst hsz
  have hl := lv_entry [.ref o] (n := nL) hn
  rw [lg_entry_eq]
  generalize (lg_sl [Value.ref o] ++ List.replicate (nL - (lg_sl [Value.ref o]).length) Slot.unset).toArray = ls at hl ⊢
  exact body p e s m _ below meth c (va_A w s.heap.size) s.heap [] ls ⟨B.exec, B.bytes, hml, hown, fun w hw => hts w (List.mem_cons_of_mem _ hw), B.returns, B.notSynchronized, hK, hSt⟩ hin hO1 hO2 hP (hD0.self) (fun q h => Or.inr h) va_S.rf hl
theorem mm_oi : Cond.instanceMethod objectInit ∈ mm_tbl := mm_tin (lw_c1 (List.mem_of_getElem? (i := 20) (by decide +kernel))) rfl
theorem mm_oc : Cond.code objectInit ⟨#[0xb1]⟩ 1 none ∈ mm_tbl := mm_tin (lw_c1 (List.mem_of_getElem? (i := 21) (by decide +kernel))) rfl
theorem mm_ai : Cond.arrayClass .int ∈ mm_tbl := mm_tin (lw_c1 (List.mem_of_getElem? (i := 102) (by decide +kernel))) rfl
theorem mm_al : Cond.arrayClass .long ∈ mm_tbl := mm_tin (lw_c2 (List.mem_of_getElem? (i := 57) (by decide +kernel))) rfl
def mm_zs (n : Nat) : List Int32 := List.replicate n 0
def mm_zl (n : Nat) : List Int64 := List.replicate n 0
theorem mm_zsd (n : Nat) : (fun j => (mm_zs n).getD j 0) = fun _ => 0 := by
  funext j
  unfold mm_zs
  rw [List.getD_eq_getElem?_getD, List.getElem?_replicate]
  by_cases h : j < n <;> simp [h]
theorem mm_zld (n : Nat) : (fun j => (mm_zl n).getD j 0) = fun _ => 0 := by
  funext j
  unfold mm_zl
  rw [List.getD_eq_getElem?_getD, List.getElem?_replicate]
  by_cases h : j < n <;> simp [h]
def mm_lo (cA : ClassId) (l : List (Option Nat)) : va_E := .inl (cA, l.length, .inr (.inr (.inr (.inr (fun j => l.getD j none)))))
theorem mm_lolr (cA : ClassId) (l : List Nat) : mm_lo cA (l.map some) = mm_lr cA l := by
  unfold mm_lo mm_lr
  rw [List.length_map]
  congr 7
  funext j
  rw [List.getD_eq_getElem?_getD, List.getElem?_map]
  cases l[j]? <;> rfl
section News
variable {p : Program} {l : Launch} {e : Env} {R : Room} {s : State} {m : MethodId} {args : Array Value} {below : List Frame} {meth : Method} {c : Code} {H : Heap} {locs : List Loc} {cells slots : Nat} {Q : State → Prop}
variable {own : String} {cc : ByteArray} {nL : Nat} {ret : Option FieldType} {D : va_G} {cI cL cS cH : ClassId} {ws : va_W} {A : Nat → Prop} {H0 : Heap}
variable {pc : Nat} {ls : Array Slot} {rest st0 : List Value} {a : Nat}
theorem mm_obj {d mc ms idx : Nat} (C0 : mm_Cx p s m args meth c own cc nL ret D (mm_T cI cL cS cH) A) (hlink : Cond.methodLink own idx objectInit ∈ mm_tbl) (hl : ls.size = nL) (hd : 1 ≤ d) (hdg : decode cc pc = .ok (.invokespecial idx, 3))
    (kk : W p l e (mm_rk d mc ms) s m args below meth c H locs cells slots Q (F0 m (pc + 3) ls [])) : W p l e (mm_rk d mc ms) s m args below meth c H locs cells slots Q (F0 m pc ls [.ref a]) := by
  obtain ⟨hx, hb, hml, hown, hts, hr, hlocks, hK, hSt⟩ := C0
  refine W.objInit hx hb hown (hts _ hlink) (hts _ mm_oi) (hts _ mm_oc) rfl (by rw [hml]; exact hl) rfl hdg hd ?_ kk
  show 2 * 0 + 0 + 12 ≤ 64 * d
  omega
theorem mm_newi (C0 : mm_Cx p s m args meth c own cc nL ret D (mm_T cI cL cS cH) A) (hP : va_P D mm_cl ws H) (hD : va_D A ws) (hA : ∀ q, s.heap.size ≤ q → A q) (hS : va_S A s.heap H locs) {n : Int32} {N : Nat} (hn : ¬ n < 0) (hN : n.toNatClampNeg = N) (hby : N * 4 ≤ 536870912) (hcells : cells + 1 ≤ R.cells) (hslots : slots + N ≤ R.slots) (hdg : decode cc pc = .ok (.newarray .int, 2))
    (kk : ∀ (q : Nat) (H1 : Heap), va_P D mm_cl (ws ++ [(q, mm_li cI (mm_zs N))]) H1 → va_D A (ws ++ [(q, mm_li cI (mm_zs N))]) → va_S A s.heap H1 locs → W p l e R s m args below meth c H1 locs (cells + 1) (slots + N) Q (F0 m (pc + 2) ls (.ref q :: rest))) : W p l e R s m args below meth c H locs cells slots Q (F0 m pc ls (.int n :: rest)) := by
  obtain ⟨hx, hb, hml, hown, hts, hr, hlocks, hK, hSt⟩ := C0
  refine va_newa (atype := .int) (ty := .int) (a0 := (N, .inl (fun _ => 0))) hx hb (hts _ mm_ai) rfl hK hP hD hS hA (fun _ => rfl) hn hN hby hcells hslots hdg ?_
  intro q cA H1 hK1 hP1 hD1 hS1
  have e1 : s.vm.findClass ("[" ++ FieldType.int.toString) = some cI := (hK.2 0 (cI, .int) rfl).2
  have e2 : s.vm.findClass ("[" ++ FieldType.int.toString) = some cA := (hK1.2 4 (cA, .int) rfl).2
  have e3 : cI = cA := Option.some.inj (e1.symm.trans e2)
  subst e3
  have e4 : mm_li cI (mm_zs N) = .inl (cI, N, .inl (fun _ => 0)) := by
    unfold mm_li
    rw [mm_zsd]
    unfold mm_zs
    rw [List.length_replicate]
  rw [e4] at kk
  exact kk q H1 hP1 hD1 hS1
theorem mm_newl (C0 : mm_Cx p s m args meth c own cc nL ret D (mm_T cI cL cS cH) A) (hP : va_P D mm_cl ws H) (hD : va_D A ws) (hA : ∀ q, s.heap.size ≤ q → A q) (hS : va_S A s.heap H locs) {n : Int32} {N : Nat} (hn : ¬ n < 0) (hN : n.toNatClampNeg = N) (hby : N * 8 ≤ 536870912) (hcells : cells + 1 ≤ R.cells) (hslots : slots + N ≤ R.slots) (hdg : decode cc pc = .ok (.newarray .long, 2))
    (kk : ∀ (q : Nat) (H1 : Heap), va_P D mm_cl (ws ++ [(q, mm_ll cL (mm_zl N))]) H1 → va_D A (ws ++ [(q, mm_ll cL (mm_zl N))]) → va_S A s.heap H1 locs → W p l e R s m args below meth c H1 locs (cells + 1) (slots + N) Q (F0 m (pc + 2) ls (.ref q :: rest))) : W p l e R s m args below meth c H locs cells slots Q (F0 m pc ls (.int n :: rest)) := by
  obtain ⟨hx, hb, hml, hown, hts, hr, hlocks, hK, hSt⟩ := C0
  refine va_newa (atype := .long) (ty := .long) (a0 := (N, .inr (.inl (fun _ => 0)))) hx hb (hts _ mm_al) rfl hK hP hD hS hA (fun _ => rfl) hn hN hby hcells hslots hdg ?_
  intro q cA H1 hK1 hP1 hD1 hS1
  have e1 : s.vm.findClass ("[" ++ FieldType.long.toString) = some cL := (hK.2 1 (cL, .long) rfl).2
  have e2 : s.vm.findClass ("[" ++ FieldType.long.toString) = some cA := (hK1.2 4 (cA, .long) rfl).2
  have e3 : cL = cA := Option.some.inj (e1.symm.trans e2)
  subst e3
  have e4 : mm_ll cL (mm_zl N) = .inl (cL, N, .inr (.inl (fun _ => 0))) := by
    unfold mm_ll
    rw [mm_zld]
    unfold mm_zl
    rw [List.length_replicate]
  rw [e4] at kk
  exact kk q H1 hP1 hD1 hS1
theorem mm_newq {cA : ClassId} {C : String} {index : Nat} (t0 : Nat) (ht : (mm_T cI cL cS cH)[t0]? = some (cA, .object C)) (C0 : mm_Cx p s m args meth c own cc nL ret D (mm_T cI cL cS cH) A) (hO : va_AO C s) (hlink : Cond.classLink own index C ∈ mm_tbl) (hP : va_P D mm_cl ws H) (hD : va_D A ws) (hA : ∀ q, s.heap.size ≤ q → A q) (hS : va_S A s.heap H locs) {n : Int32} {N : Nat} (hn : ¬ n < 0) (hN : n.toNatClampNeg = N) (hby : N * 4 ≤ 536870912) (hcells : cells + 1 ≤ R.cells) (hslots : slots + N ≤ R.slots) (hdg : decode cc pc = .ok (.anewarray index, 3))
    (kk : ∀ (q : Nat) (H1 : Heap), va_P D mm_cl (ws ++ [(q, mm_lo cA (List.replicate N none))]) H1 → va_D A (ws ++ [(q, mm_lo cA (List.replicate N none))]) → va_S A s.heap H1 locs → W p l e R s m args below meth c H1 locs (cells + 1) (slots + N) Q (F0 m (pc + 3) ls (.ref q :: rest))) : W p l e R s m args below meth c H locs cells slots Q (F0 m pc ls (.int n :: rest)) := by
  obtain ⟨hx, hb, hml, hown, hts, hr, hlocks, hK, hSt⟩ := C0
  refine va_newq hx hb hown (hts _ hlink) hO hK hP hD hS hA hn hN hby hcells hslots hdg ?_
  intro q cB H1 hK1 hP1 hD1 hS1
  obtain ⟨-, k1, g1, -, -, -, e1⟩ := hK.2 t0 (cA, .object C) ht
  obtain ⟨-, k2, g2, -, -, -, e2⟩ := hK1.2 4 (cB, .object C) rfl
  have e3 : cA = cB := Option.some.inj (e1.symm.trans e2)
  subst e3
  have e4 : mm_lo cA (List.replicate N none) = .inl (cA, N, .inr (.inr (.inr (.inr (fun _ => none))))) := by
    unfold mm_lo
    rw [List.length_replicate]
    congr 7
    funext j
    rw [List.getD_eq_getElem?_getD, List.getElem?_replicate]
    by_cases h : j < N <;> simp [h]
  rw [e4] at kk
  exact kk q H1 hP1 hD1 hS1
theorem mm_astq {cA : ClassId} {C : String} {T : u_T} {N ci : Nat} (t0 : Nat) (ht : (mm_T cI cL cS cH)[t0]? = some (cA, .object C)) (C0 : mm_Cx p s m args meth c own cc nL ret D (mm_T cI cL cS cH) A) (hP : va_P D mm_cl ws H) (hD : va_D A ws) (hS : va_S A s.heap H locs) (q0 qk : Nat) {xs : List (Option Nat)} {v : Nat} {vs : List Value} (ha : ws[q0]? = some (a, mm_lo cA xs)) (hv : ws[qk]? = some (v, .inr (ci, vs))) (hc : mm_cl[ci]? = some (C, T, N)) {i : Int32} (hin : mm_inb i xs.length = true) (hdg : decode cc pc = .ok (.aastore, 1)) {w2 : va_W} (h2 : ws.set q0 (a, mm_lo cA (xs.set i.toNatClampNeg (some v))) = w2)
    (kk : ∀ (H1 : Heap) (locs1 : List Loc), va_P D mm_cl w2 H1 → va_D A w2 → va_S A s.heap H1 locs1 → W p l e R s m args below meth c H1 locs1 cells slots Q (F0 m (pc + 1) ls rest)) : W p l e R s m args below meth c H locs cells slots Q (F0 m pc ls (.ref v :: .int i :: .ref a :: rest)) := by
  obtain ⟨hx, hb, hml, hown, hts, hr, hlocks, hK, hSt⟩ := C0
  subst h2
  have e4 : mm_lo cA (xs.set i.toNatClampNeg (some v)) = .inl (cA, xs.length, .inr (.inr (.inr (.inr (va_up (fun j => xs.getD j none) i.toNatClampNeg (some v)))))) := by
    unfold mm_lo
    rw [List.length_set, mm_setD (mm_inbs hin).2]
    rfl
  rw [e4] at kk
  exact va_astq hx hb hK hP hD hS q0 t0 qk ci ha ht hv hc (mm_inbs hin).1 hdg kk
theorem mm_newo {C : String} {T : u_T} {N ci index : Nat} (C0 : mm_Cx p s m args meth c own cc nL ret D (mm_T cI cL cS cH) A) (hP : va_P D mm_cl ws H) (hD : va_D A ws) (hA : ∀ q, s.heap.size ≤ q → A q) (hS : va_S A s.heap H locs) (hin : ∀ w ∈ u_ws C T N, w ∈ mm_tbl) (ty : Nat → FieldType) (hty : ∀ k, k < N → parseFieldDescriptor (T k).2.2.1 = some (ty k)) (hlink : Cond.classLink own index C ∈ mm_tbl) (hins : Cond.instantiable C N ∈ mm_tbl) (hini : Cond.initialized C ∈ mm_tbl) (hc : mm_cl[ci]? = some (C, T, N)) {fs : List Value} (hfs : ∀ j, j < N → defaultValue (ty j) = vp_V fs j) (hcells : cells + 1 ≤ R.cells) (hslots : slots + N ≤ R.slots) (hdg : decode cc pc = .ok (.new index, 3))
    (kk : ∀ (q : Nat) (H1 : Heap), va_P D mm_cl (ws ++ [(q, .inr (ci, fs))]) H1 → va_D A (ws ++ [(q, .inr (ci, fs))]) → va_S A s.heap H1 locs → W p l e R s m args below meth c H1 locs (cells + 1) (slots + N) Q (F0 m (pc + 3) ls (.ref q :: rest))) : W p l e R s m args below meth c H locs cells slots Q (F0 m pc ls rest) := by
  obtain ⟨hx, hb, hml, hown, hts, hr, hlocks, hK, hSt⟩ := C0
  exact va_new hx hb hts hin ty hty hown (hts _ hlink) (hts _ hins) (hts _ hini) hK hP hD hS hA hc hfs hcells hslots hdg kk
theorem mm_putf (C0 : mm_Cx p s m args meth c own cc nL ret D (mm_T cI cL cS cH) A) (hm : meth.name = "<init>") (hP : va_P D mm_cl ws H) (hD : va_D A ws) (hS : va_S A H0 H locs) {C : String} {T : u_T} {N ci index : Nat} (hin : ∀ w ∈ u_ws C T N, w ∈ mm_tbl) (ty0 : Nat → FieldType) (hty : ∀ k, k < N → parseFieldDescriptor (T k).2.2.1 = some (ty0 k)) (hnm : ∀ a, a < N → ∀ b, b < N → a ≠ b → (T a).2.1 ≠ (T b).2.1) (q0 : Nat) {fs : List Value} (he : ws[q0]? = some (a, .inr (ci, fs))) (hc : mm_cl[ci]? = some (C, T, N)) (k : Nat) (hk : k < N) (hlink : Cond.fieldLink own index (T k).1 (T k).2.1 (T k).2.2.1 ∈ mm_tbl) (hfin : (T k).2.2.2 = true) (hdecl : (T k).1 = own) {v : Value} (hn : narrow (ty0 k) v = v) (hfit : fits (ty0 k) v = true) (hl : k < fs.length) (hdg : decode cc pc = .ok (.putfield index, 3)) {w2 : va_W} (h2 : ws.set q0 (a, .inr (ci, fs.set k v)) = w2)
    (kk : ∀ (H1 : Heap) (locs1 : List Loc), va_P D mm_cl w2 H1 → va_D A w2 → va_S A H0 H1 locs1 → W p l e R s m args below meth c H1 locs1 cells slots Q (F0 m (pc + 3) ls rest)) : W p l e R s m args below meth c H locs cells slots Q (F0 m pc ls (v :: .ref a :: rest)) := by
  obtain ⟨hx, hb, -, hown, hts, -, -, hK, -⟩ := C0
  subst h2
  exact va_putF hx hb hts hin ty0 hty hnm hown hK hP hD hS q0 he hc k hk (hts _ hlink) (fun _ h => h) hfin hm hdecl (hty k hk) hn hfit hl hdg kk
/-- the end of a constructor -/
theorem mm_nret {mc ms o : Nat} {w' : va_W} {wf : (Nat → Nat) → va_W} (a : Nat → Nat) (ha : a 0 = o) (isP : List Nat) (hnP : va_nd isP = true) (h2 : isP.map (fun i => w'[i]?) = (wf a).map some) (C0 : mm_Cx p s m args meth c own cc nL none D (mm_T cI cL cS cH) A) (hP : va_P D mm_cl w' H) (hD : va_D A w') (hS : va_S A s.heap H locs) (hdg : decode cc pc = .ok (.return_, 1)) (hc1 : cells ≤ mc) (hc2 : slots ≤ ms) :
    W p l e R s m args below meth c H locs cells slots (mm_Zn below D A wf o mc ms args s) (F0 m pc ls []) := by
  obtain ⟨hx, hb, -, hown, hts, hr, hlocks, hK, -⟩ := C0
  refine W.widen (k := mc) (n := ms) hc1 hc2 ?_
  exact W.vret hx hb hr (fun t ht hW => ⟨⟨rfl, a, ha, by rw [ht]; exact hP.sub isP (mm_fm h2), hD.sub isP hnP h2⟩, hS.F ht⟩) hS.2.2 hdg hlocks
/-- a call that makes nothing, from where something was made; the callee's world is the caller's -/
theorem mm_callVn {d mc ms d' index maxL n b ci q0 N : Nat} {T : u_T} {fs As : List Value} {y : MethodName} {bytes : ByteArray} {rt : Option FieldType} {w1 : va_W} {r : Option Value} (C0 : mm_Cx p s m args meth c own cc nL ret D (mm_T cI cL cS cH) A) (L : mm_LV own index y bytes maxL rt n) (ct : mm_Ct l y bytes maxL rt d' D (mm_T cI cL cS cH) (.ref b :: As) ws w1 r) (hd : d' + 1 ≤ d) (hn : As.length = n) (hl : ls.size = nL) (hst : st0 = As.reverse ++ .ref b :: rest) (hW : (rest.map fun v => v.category).sum ≤ 8) (hdg : decode cc pc = .ok (.invokevirtual index, 3))
    (hP : va_P D mm_cl ws H) (hD : va_D A ws) (hA : ∀ q, s.heap.size ≤ q → A q) (hS : va_S A s.heap H locs) (he : ws[q0]? = some (b, .inr (ci, fs))) (hc : mm_cl[ci]? = some (y.cls, T, N)) (hc1 : cells ≤ mc) (hc2 : slots ≤ ms)
    (kk : ∀ (H1 : Heap) (locs1 : List Loc), va_P D mm_cl w1 H1 → va_D A w1 → va_S A s.heap H1 locs1 → W p l e (mm_rk d mc ms) s m args below meth c H1 locs1 cells slots Q (F0 m (pc + 3) ls (r.toList ++ rest))) : W p l e (mm_rk d mc ms) s m args below meth c H locs cells slots Q (F0 m pc ls st0) := by
  obtain ⟨hx, hb, hml, hown, hts, hr, hlocks, hK, hSt⟩ := C0
  obtain ⟨⟨l1, l2, l3, l4, l5⟩, hdd, hm⟩ := L
  subst hst
  have hF : ∀ q, va_A ws H.size q → A q := fun q h => h.elim (fun ⟨k, z, hz⟩ => hD.2 k (q, z) hz) (fun h => hA q (Nat.le_trans hS.1 h))
  have hRm : (mm_rr d').frames + 1 ≤ (mm_rk d mc ms).frames ∧ 8 + (maxL + 11) + (mm_rr d').locals ≤ (mm_rk d mc ms).locals := mm_room hd hm
  have hr := va_runV (p := p) (e := e) (below := below) (meth := meth) (locs := locs) (cells := cells) (slots := slots) (R := mm_rk d mc ms) (g := F0 m pc ls (As.reverse ++ .ref b :: rest)) (As := As) (rest := rest) (b := b) ⟨hx, hb, hml, hown, hts⟩ (ct H.size) ⟨callB_of n hts (mm_GI l5) rfl rfl rfl (hts _ l4) (hts _ l1) hdd hRm, hts _ l2, hts _ l3⟩ ⟨mm_blind, va_recv hK hP hc he, fun U hU hW => ⟨rfl, by rw [hU], by rw [hU]; exact hP, va_K.moved hW.alike hK, hD.weaken (fun _ _ _ _ => trivial), by rw [hU]; exact hSt.move hS.2.1 hW hF⟩⟩ rfl hn hl rfl (lv_room hW) hdg ⟨hc1, hc2⟩
  intro T hT X
  obtain ⟨v, st₀, t, T', L, h0, X', hL, e1, e2, ⟨⟨hv, hP1, hD1⟩, hz, hk⟩, st⟩ := hr T hT X
  cases hv
  rw [h0] at hz hk
  rw [← e1] at hP1 hz hk
  obtain ⟨t2, a1, b1⟩ := kk T'.heap (locs ++ L) hP1 (hD1.weaken (fun k q _ h => hF q.1 h))
    ⟨Nat.le_trans hS.1 hz, fun q h1 h2 => by rw [hk q (Nat.lt_of_lt_of_le h1 hS.1) (fun z => h2 (hF q z))]; exact hS.2.1 q h1 h2, fun q hq => by
      rcases List.mem_append.mp hq with h | h
      · exact hS.2.2 q h
      · exact hF _ (hL q h)⟩ T' rfl X'
  exact ⟨t2, st t2 a1, b1⟩
def mm_LI (own : String) (index : Nat) (y : MethodName) (bytes : ByteArray) (maxL : Nat) : Prop :=
  (Cond.methodLink own index y ∈ mm_tbl ∧ Cond.instanceMethod y ∈ mm_tbl ∧ Cond.initialized y.cls ∈ mm_tbl ∧ Cond.code y bytes maxL none ∈ mm_tbl) ∧ (y.cls ≠ "java/lang/invoke/MethodHandle" ∧ y.cls ≠ "java/lang/invoke/VarHandle" ∧ (parseMethodDescriptor y.desc).map (fun d => d.parameters.length) = some 0) ∧ maxL ≤ 45 ∧ y.name = "<init>"
def mm_LJ (own : String) (index : Nat) (y : MethodName) (bytes : ByteArray) (maxL : Nat) : Prop :=
  ((own, index, y, RX8) ∈ mm_nest ∧ Cond.instanceMethod y ∈ mm_tbl ∧ Cond.initialized y.cls ∈ mm_tbl ∧ Cond.code y bytes maxL none ∈ mm_tbl) ∧ (y.cls ≠ "java/lang/invoke/MethodHandle" ∧ y.cls ≠ "java/lang/invoke/VarHandle" ∧ (parseMethodDescriptor y.desc).map (fun d => d.parameters.length) = some 0) ∧ maxL ≤ 45 ∧ y.name = "<init>"
theorem mm_blindn {D : va_G} {tys : List (ClassId × FieldType)} {av : List Value} {w : va_W} {sz : Nat} : FrameBlind (va_Pc av (mm_Pn D tys w sz)) := fun a U g mk q => by
  obtain ⟨q0, q1, qP, qK, qD, qS, o1, o2⟩ := q
  exact ⟨q0, q1, qP, va_K.moved (u := U) (U := U.calling g mk a) (Vm.Alike.refl U.vm) qK, qD, qS.calls, o1.moved (U := U.calling g mk a) (Vm.Alike.refl U.vm), o2.moved (U := U.calling g mk a) (Vm.Alike.refl U.vm)⟩
/-- behind a constructor's call: the other cells, and the new layout -/
theorem mm_aftern {o mc ms : Nat} {wc : va_W} {wf : (Nat → Nat) → va_W} {a' : Array Value} (hr : va_Run p l e R s m args below meth c H locs cells slots mc ms (F0 m pc ls st0) rest (mm_Qn D wf o (va_A wc H.size) a') (va_A wc H.size)) (hP : va_P D mm_cl ws H) (hD : va_D A ws) (hA : ∀ q, s.heap.size ≤ q → A q) (hS : va_S A s.heap H locs) (isC isR : List Nat) (hC : isC.map (fun i => ws[i]?) = wc.map some) (hR : isR.map (fun i => ws[i]?) = (isR.filterMap (fun i => ws[i]?)).map some) (hn : va_nd isR = true) (hdis : ∀ i ∈ isR, i ∉ isC)
    (kk : ∀ (b : Nat → Nat) (H1 : Heap) (locs1 : List Loc), b 0 = o → va_P D mm_cl (isR.filterMap (fun i => ws[i]?) ++ wf b) H1 → va_D A (isR.filterMap (fun i => ws[i]?) ++ wf b) → va_S A s.heap H1 locs1 → W p l e R s m args below meth c H1 locs1 (cells + mc) (slots + ms) Q (F0 m (pc + 3) ls rest)) : W p l e R s m args below meth c H locs cells slots Q (F0 m pc ls st0) := by
  have hF := va_free hD hS hA isC hC
  intro T hT X
  obtain ⟨v, st₀, t, T', L, h0, X', hL, e1, e2, ⟨⟨hv, b, hb0, hP1, hD1⟩, hz, hk⟩, st⟩ := hr T hT X
  cases hv
  rw [h0] at hz hk
  rw [← e1] at hP1 hz hk
  obtain ⟨hP2, hD2⟩ := va_join hP hD isC isR hC hR hn hdis hk hF hP1 hD1
  obtain ⟨t2, a1, b1⟩ := kk b T'.heap (locs ++ L) hb0 hP2 hD2
    ⟨Nat.le_trans hS.1 hz, fun q h1 h2 => by rw [hk q (Nat.lt_of_lt_of_le h1 hS.1) (fun z => h2 (hF q z))]; exact hS.2.1 q h1 h2, fun q hq => by
      rcases List.mem_append.mp hq with h | h
      · exact hS.2.2 q h
      · exact hF _ (hL q h)⟩ T' rfl X'
  exact ⟨t2, st t2 a1, b1⟩
theorem mm_preN {tys : List (ClassId × FieldType)} {wc : va_W} {av : List Value} (hK : va_K D mm_cl tys s) (hSt : mm_St A s s.heap) (hO1 : va_AO RX5 s) (hO2 : va_AO RX6 s) (hS : va_S A s.heap H locs) (hA : ∀ q, s.heap.size ≤ q → A q) (hP : va_P D mm_cl ws H) (hD : va_D A ws) (isC : List Nat) (hnC : va_nd isC = true) (hC : isC.map (fun i => ws[i]?) = wc.map some) : ∀ U : State, U.heap = H → s.WarmedH U.vm → va_Pc av (mm_Pn D tys wc H.size) av.toArray U := fun U hU hW =>
  ⟨rfl, by rw [hU], by rw [hU]; exact hP.sub isC (mm_fm hC), va_K.moved hW.alike hK, (hD.sub isC hnC hC).weaken (fun _ _ _ _ => trivial), by rw [hU]; exact hSt.move hS.2.1 hW (va_free hD hS hA isC hC), hO1.moved hW.alike, hO2.moved hW.alike⟩
/-- a constructor is called -/
theorem mm_callI {d mcR msR d' mc ms index maxL o : Nat} {y : MethodName} {bytes : ByteArray} {wc : va_W} {wf : (Nat → Nat) → va_W} (C0 : mm_Cx p s m args meth c own cc nL ret D (mm_T cI cL cS cH) A) (hO1 : va_AO RX5 s) (hO2 : va_AO RX6 s) (L : mm_LI own index y bytes maxL) (ct : mm_Cn l y bytes maxL d' mc ms D (mm_T cI cL cS cH) o wc wf) (hd : d' + 1 ≤ d) (hR1 : R.frames = d) (hR2 : R.locals = 64 * d) (hl : ls.size = nL) (hst : st0 = .ref o :: rest) (hW : (rest.map fun v => v.category).sum ≤ 8) (hdg : decode cc pc = .ok (.invokespecial index, 3)) (hc1 : cells + mc ≤ R.cells) (hc2 : slots + ms ≤ R.slots)
    (hP : va_P D mm_cl ws H) (hD : va_D A ws) (hA : ∀ q, s.heap.size ≤ q → A q) (hS : va_S A s.heap H locs) (isC isR : List Nat) (hnC : va_nd isC = true) (hC : isC.map (fun i => ws[i]?) = wc.map some) (hR : isR.map (fun i => ws[i]?) = (isR.filterMap (fun i => ws[i]?)).map some) (hn : va_nd isR = true) (hdis : ∀ i ∈ isR, i ∉ isC)
    (kk : ∀ (b : Nat → Nat) (H1 : Heap) (locs1 : List Loc), b 0 = o → va_P D mm_cl (isR.filterMap (fun i => ws[i]?) ++ wf b) H1 → va_D A (isR.filterMap (fun i => ws[i]?) ++ wf b) → va_S A s.heap H1 locs1 → W p l e R s m args below meth c H1 locs1 (cells + mc) (slots + ms) Q (F0 m (pc + 3) ls rest)) : W p l e R s m args below meth c H locs cells slots Q (F0 m pc ls st0) := by
  obtain ⟨hx, hb, hml, hown, hts, hr, hlocks, hK, hSt⟩ := C0
  obtain ⟨⟨l1, l2, l4, l5⟩, hdd, hm, hyn⟩ := L
  subst hst
  have hRm : (mm_rk d' mc ms).frames + 1 ≤ R.frames ∧ 8 + (maxL + 11) + (mm_rk d' mc ms).locals ≤ R.locals := by
    rw [hR1, hR2]
    exact mm_room hd hm
  exact mm_aftern (va_runI (As := []) (rest := rest) (b := o) ⟨hx, hb, hml, hown, hts⟩ (ct H.size) ⟨callB_of 0 hts (mm_GI l5) rfl rfl rfl (hts _ l4) (hts _ l1) hdd hRm, hyn, hts _ l2⟩ ⟨mm_blindn, mm_preN hK hSt hO1 hO2 hS hA hP hD isC hnC hC⟩ rfl rfl hl rfl (lv_room hW) hdg ⟨hc1, hc2⟩) hP hD hA hS isC isR hC hR hn hdis kk
theorem mm_callJ {d d' mc ms index maxL o : Nat} {y : MethodName} {bytes : ByteArray} {wc : va_W} {wf : (Nat → Nat) → va_W} (C0 : mm_Cx p s m args meth c own cc nL ret D (mm_T cI cL cS cH) A) (hO1 : va_AO RX5 s) (hO2 : va_AO RX6 s) (L : mm_LJ own index y bytes maxL) (ct : mm_Cn l y bytes maxL d' mc ms D (mm_T cI cL cS cH) o wc wf) (hd : d' + 1 ≤ d) (hR1 : R.frames = d) (hR2 : R.locals = 64 * d) (hl : ls.size = nL) (hst : st0 = .ref o :: rest) (hW : (rest.map fun v => v.category).sum ≤ 8) (hdg : decode cc pc = .ok (.invokespecial index, 3)) (hc1 : cells + mc ≤ R.cells) (hc2 : slots + ms ≤ R.slots)
    (hP : va_P D mm_cl ws H) (hD : va_D A ws) (hA : ∀ q, s.heap.size ≤ q → A q) (hS : va_S A s.heap H locs) (isC isR : List Nat) (hnC : va_nd isC = true) (hC : isC.map (fun i => ws[i]?) = wc.map some) (hR : isR.map (fun i => ws[i]?) = (isR.filterMap (fun i => ws[i]?)).map some) (hn : va_nd isR = true) (hdis : ∀ i ∈ isR, i ∉ isC)
    (kk : ∀ (b : Nat → Nat) (H1 : Heap) (locs1 : List Loc), b 0 = o → va_P D mm_cl (isR.filterMap (fun i => ws[i]?) ++ wf b) H1 → va_D A (isR.filterMap (fun i => ws[i]?) ++ wf b) → va_S A s.heap H1 locs1 → W p l e R s m args below meth c H1 locs1 (cells + mc) (slots + ms) Q (F0 m (pc + 3) ls rest)) : W p l e R s m args below meth c H locs cells slots Q (F0 m pc ls st0) := by
  obtain ⟨hx, hb, hml, hown, hts, hr, hlocks, hK, hSt⟩ := C0
  obtain ⟨⟨l1, l2, l4, l5⟩, hdd, hm, hyn⟩ := L
  subst hst
  have hRm : (mm_rk d' mc ms).frames + 1 ≤ R.frames ∧ 8 + (maxL + 11) + (mm_rk d' mc ms).locals ≤ R.locals := by
    rw [hR1, hR2]
    exact mm_room hd hm
  exact mm_aftern (va_runIN (host := RX8) (As := []) (rest := rest) (b := o) ⟨hx, hb, hml, hown, hts⟩ (ct H.size) ⟨va_cnB 0 hts (mm_GI l5) rfl rfl rfl (hSt.2.2.2 _ l1) (hts _ l4) hdd hRm, hyn, hts _ l2⟩ ⟨mm_blindn, mm_preN hK hSt hO1 hO2 hS hA hP hD isC hnC hC⟩ rfl rfl hl rfl (lv_room hW) hdg ⟨hc1, hc2⟩) hP hD hA hS isC isR hC hR hn hdis kk
theorem mm_rng {α : Type} (w : List α) (x : α) : (List.range w.length).map (fun i => (w ++ [x])[i]?) = w.map some := by
  apply List.ext_getElem?
  intro k
  rw [List.getElem?_map, List.getElem?_map]
  by_cases h : k < w.length
  · rw [List.getElem?_range h, Option.map_some, List.getElem?_append_left h]
    rw [List.getElem?_eq_getElem h]
    rfl
  · rw [List.getElem?_eq_none (by rw [List.length_range]; omega), List.getElem?_eq_none (l := w) (by omega)]
    rfl
theorem mm_nd : ∀ n : Nat, va_nd (List.range n) = true := by
  have key : ∀ (l : List Nat), l.Nodup → va_nd l = true := by
    intro l
    induction l with
    | nil => intro _; rfl
    | cons a l ih =>
      intro h
      have h1 := List.nodup_cons.mp h
      simp [va_nd, h1.1, ih h1.2]
  exact fun n => key _ List.nodup_range
/-- the same, where the new object's cell is the last one -/
theorem mm_callI2 {d d' mc ms index maxL o : Nat} {e0 : va_E} {w0 : va_W} {y : MethodName} {bytes : ByteArray} {wf : (Nat → Nat) → va_W} (C0 : mm_Cx p s m args meth c own cc nL ret D (mm_T cI cL cS cH) A) (hO1 : va_AO RX5 s) (hO2 : va_AO RX6 s) (L : mm_LI own index y bytes maxL) (ct : mm_Cn l y bytes maxL d' mc ms D (mm_T cI cL cS cH) o [(o, e0)] wf) (hd : d' + 1 ≤ d) (hR1 : R.frames = d) (hR2 : R.locals = 64 * d) (hl : ls.size = nL) (hst : st0 = .ref o :: rest) (hW : (rest.map fun v => v.category).sum ≤ 8) (hdg : decode cc pc = .ok (.invokespecial index, 3)) (hc1 : cells + mc ≤ R.cells) (hc2 : slots + ms ≤ R.slots)
    (hP : va_P D mm_cl (w0 ++ [(o, e0)]) H) (hD : va_D A (w0 ++ [(o, e0)])) (hA : ∀ q, s.heap.size ≤ q → A q) (hS : va_S A s.heap H locs)
    (kk : ∀ (b : Nat → Nat) (H1 : Heap) (locs1 : List Loc), b 0 = o → va_P D mm_cl (w0 ++ wf b) H1 → va_D A (w0 ++ wf b) → va_S A s.heap H1 locs1 → W p l e R s m args below meth c H1 locs1 (cells + mc) (slots + ms) Q (F0 m (pc + 3) ls rest)) : W p l e R s m args below meth c H locs cells slots Q (F0 m pc ls st0) := by
  have hr := mm_rng w0 (o, e0)
  refine mm_callI (mcR := 0) (msR := 0) C0 hO1 hO2 L ct hd hR1 hR2 hl hst hW hdg hc1 hc2 hP hD hA hS [w0.length] (List.range w0.length) rfl (by simp) (by rw [mm_fm hr]; exact hr) (mm_nd _) (fun i hi h => by simp at h hi; omega) ?_
  rw [mm_fm hr]
  exact kk
theorem mm_callJ2 {d d' mc ms index maxL o : Nat} {e0 : va_E} {w0 : va_W} {y : MethodName} {bytes : ByteArray} {wf : (Nat → Nat) → va_W} (C0 : mm_Cx p s m args meth c own cc nL ret D (mm_T cI cL cS cH) A) (hO1 : va_AO RX5 s) (hO2 : va_AO RX6 s) (L : mm_LJ own index y bytes maxL) (ct : mm_Cn l y bytes maxL d' mc ms D (mm_T cI cL cS cH) o [(o, e0)] wf) (hd : d' + 1 ≤ d) (hR1 : R.frames = d) (hR2 : R.locals = 64 * d) (hl : ls.size = nL) (hst : st0 = .ref o :: rest) (hW : (rest.map fun v => v.category).sum ≤ 8) (hdg : decode cc pc = .ok (.invokespecial index, 3)) (hc1 : cells + mc ≤ R.cells) (hc2 : slots + ms ≤ R.slots)
    (hP : va_P D mm_cl (w0 ++ [(o, e0)]) H) (hD : va_D A (w0 ++ [(o, e0)])) (hA : ∀ q, s.heap.size ≤ q → A q) (hS : va_S A s.heap H locs)
    (kk : ∀ (b : Nat → Nat) (H1 : Heap) (locs1 : List Loc), b 0 = o → va_P D mm_cl (w0 ++ wf b) H1 → va_D A (w0 ++ wf b) → va_S A s.heap H1 locs1 → W p l e R s m args below meth c H1 locs1 (cells + mc) (slots + ms) Q (F0 m (pc + 3) ls rest)) : W p l e R s m args below meth c H locs cells slots Q (F0 m pc ls st0) := by
  have hr := mm_rng w0 (o, e0)
  refine mm_callJ C0 hO1 hO2 L ct hd hR1 hR2 hl hst hW hdg hc1 hc2 hP hD hA hS [w0.length] (List.range w0.length) rfl (by simp) (by rw [mm_fm hr]; exact hr) (mm_nd _) (fun i hi h => by simp at h hi; omega) ?_
  rw [mm_fm hr]
  exact kk
end News
