/-! More rows: calls with a world cut out, Math, a static method of a nest mate -/
section Calls
variable {p : Program} {l : Launch} {e : Env} {R : Room} {s : State} {m : MethodId} {args : Array Value} {below : List Frame} {meth : Method} {c : Code} {H : Heap} {locs : List Loc} {cells slots : Nat} {Q : State → Prop}
variable {own : String} {cc : ByteArray} {nL : Nat} {ret : Option FieldType} {D : va_G} {tys : List (ClassId × FieldType)} {ws : va_W} {A : Nat → Prop}
variable {pc : Nat} {ls : Array Slot} {rest st0 : List Value}
/-- invokevirtual -/
theorem mm_callW {d d' index maxL n b ci q0 N : Nat} {T : u_T} {fs As : List Value} {y : MethodName} {bytes : ByteArray} {rt : Option FieldType} {wc w1 w2 : va_W} {r : Option Value} (C0 : mm_Cx p s m args meth c own cc nL ret D tys A) (L : mm_LV own index y bytes maxL rt n) (ct : mm_Ct l y bytes maxL rt d' D tys (.ref b :: As) wc w1 r) (hd : d' + 1 ≤ d) (hn : As.length = n) (hl : ls.size = nL) (hst : st0 = As.reverse ++ .ref b :: rest) (hW : (rest.map fun v => v.category).sum ≤ 8) (hdg : decode cc pc = .ok (.invokevirtual index, 3))
    (hP : va_P D mm_cl ws H) (hD : va_D A ws) (hA : ∀ q, s.heap.size ≤ q → A q) (hS : va_S A s.heap H locs) (he : ws[q0]? = some (b, .inr (ci, fs))) (hc : mm_cl[ci]? = some (y.cls, T, N)) (isC isR isP : List Nat) (hnC : va_nd isC = true) (hC : isC.map (fun i => ws[i]?) = wc.map some) (hR : isR.map (fun i => ws[i]?) = (isR.filterMap (fun i => ws[i]?)).map some) (hnR : va_nd isR = true) (hdis : ∀ i ∈ isR, i ∉ isC) (hn2 : va_nd isP = true) (h2 : isP.map (fun i => (isR.filterMap (fun i => ws[i]?) ++ w1)[i]?) = w2.map some)
    (kk : ∀ (H1 : Heap) (locs1 : List Loc), va_P D mm_cl w2 H1 → va_D A w2 → va_S A s.heap H1 locs1 → W p l e (mm_rr d) s m args below meth c H1 locs1 0 0 Q (F0 m (pc + 3) ls (r.toList ++ rest))) : W p l e (mm_rr d) s m args below meth c H locs 0 0 Q (F0 m pc ls st0) := by
  obtain ⟨hx, hb, hml, hown, hts, hr, hlocks, hK, hSt⟩ := C0
  obtain ⟨⟨l1, l2, l3, l4, l5⟩, hdd, hm⟩ := L
  subst hst
  exact mm_after (wr := isR.filterMap (fun i => ws[i]?)) (va_runV (As := As) (rest := rest) (b := b) ⟨hx, hb, hml, hown, hts⟩ (ct H.size) ⟨callB_of n hts (mm_GI l5) rfl rfl rfl (hts _ l4) (hts _ l1) hdd (mm_room hd hm), hts _ l2, hts _ l3⟩ ⟨mm_blind, va_recv hK hP hc he, mm_pre hK hSt hS hA hP hD isC hnC hC⟩ rfl hn hl rfl (lv_room hW) hdg ⟨Nat.zero_le _, Nat.zero_le _⟩) hP hD hA hS isC isR isP hC hR hnR hdis hn2 h2 kk
/-- invokestatic -/
theorem mm_callT {d d' index maxL n : Nat} {As : List Value} {y : MethodName} {bytes : ByteArray} {rt : Option FieldType} {wc w1 w2 : va_W} {r : Option Value} (C0 : mm_Cx p s m args meth c own cc nL ret D tys A) (L : mm_LS own index y bytes maxL rt n) (ct : mm_Ct l y bytes maxL rt d' D tys As wc w1 r) (hd : d' + 1 ≤ d) (hn : As.length = n) (hl : ls.size = nL) (hst : st0 = As.reverse ++ rest) (hW : (rest.map fun v => v.category).sum ≤ 8) (hdg : decode cc pc = .ok (.invokestatic index, 3))
    (hP : va_P D mm_cl ws H) (hD : va_D A ws) (hA : ∀ q, s.heap.size ≤ q → A q) (hS : va_S A s.heap H locs) (isC isR isP : List Nat) (hnC : va_nd isC = true) (hC : isC.map (fun i => ws[i]?) = wc.map some) (hR : isR.map (fun i => ws[i]?) = (isR.filterMap (fun i => ws[i]?)).map some) (hnR : va_nd isR = true) (hdis : ∀ i ∈ isR, i ∉ isC) (hn2 : va_nd isP = true) (h2 : isP.map (fun i => (isR.filterMap (fun i => ws[i]?) ++ w1)[i]?) = w2.map some)
    (kk : ∀ (H1 : Heap) (locs1 : List Loc), va_P D mm_cl w2 H1 → va_D A w2 → va_S A s.heap H1 locs1 → W p l e (mm_rr d) s m args below meth c H1 locs1 0 0 Q (F0 m (pc + 3) ls (r.toList ++ rest))) : W p l e (mm_rr d) s m args below meth c H locs 0 0 Q (F0 m pc ls st0) := by
  obtain ⟨hx, hb, hml, hown, hts, hr, hlocks, hK, hSt⟩ := C0
  obtain ⟨⟨l1, l2, l4, l5⟩, hdd, hm⟩ := L
  subst hst
  exact mm_after (wr := isR.filterMap (fun i => ws[i]?)) (va_runS (As := As) (rest := rest) ⟨hx, hb, hml, hown, hts⟩ (ct H.size) ⟨callB_of n hts (mm_GI l5) rfl rfl rfl (hts _ l4) (hts _ l1) hdd (mm_room hd hm), hts _ l2⟩ ⟨mm_blind, mm_pre hK hSt hS hA hP hD isC hnC hC⟩ rfl hn hl rfl (lv_room hW) hdg ⟨Nat.zero_le _, Nat.zero_le _⟩) hP hD hA hS isC isR isP hC hR hnR hdis hn2 h2 kk
theorem mm_mroom {d : Nat} {st : List Value} (hd : 1 ≤ d) (hW : (st.map fun v => v.category).sum ≤ 8) : (st.map fun v => v.category).sum + 13 ≤ (mm_rr d).locals := by
  show _ ≤ 64 * d
  omega
def mm_LM (own : String) (index : Nat) (y : MethodName) (bytes : ByteArray) (maxL : Nat) : Prop := Cond.methodLink own index y ∈ mm_tbl ∧ Cond.static y ∈ mm_tbl ∧ Cond.initialized "java/lang/Math" ∈ mm_tbl ∧ Cond.code y bytes maxL (some .int) ∈ mm_tbl
def mm_max (x y : Int32) : Int32 := if x < y then y else x
def mm_min (x y : Int32) : Int32 := if y < x then y else x
def mm_abs (x : Int32) : Int32 := if 0 ≤ x then x else 0 - x
theorem mm_mmax {d index : Nat} {x y : Int32} (C0 : mm_Cx p s m args meth c own cc nL ret D tys A) (L : mm_LM own index Lib.Math.max.name Lib.Math.max.code 2) (hd : 1 ≤ d) (hl : ls.size = nL) (hW : (rest.map fun v => v.category).sum ≤ 8) (hdg : decode cc pc = .ok (.invokestatic index, 3))
    (kk : W p l e (mm_rr d) s m args below meth c H locs 0 0 Q (F0 m (pc + 3) ls (.int (mm_max x y) :: rest))) : W p l e (mm_rr d) s m args below meth c H locs 0 0 Q (F0 m pc ls (.int y :: .int x :: rest)) := by
  obtain ⟨hx, hb, hml, hown, hts, hr, hlocks, hK, hSt⟩ := C0
  obtain ⟨l1, l2, l3, l4⟩ := L
  exact va_mmax hx hb (hml.trans hl.symm) hown (hts _ l1) (hts _ l2) (hts _ l3) (hts _ l4) hd (mm_mroom hd hW) (Nat.zero_le _) (Nat.zero_le _) hdg kk
theorem mm_mmin {d index : Nat} {x y : Int32} (C0 : mm_Cx p s m args meth c own cc nL ret D tys A) (L : mm_LM own index Lib.Math.min.name Lib.Math.min.code 2) (hd : 1 ≤ d) (hl : ls.size = nL) (hW : (rest.map fun v => v.category).sum ≤ 8) (hdg : decode cc pc = .ok (.invokestatic index, 3))
    (kk : W p l e (mm_rr d) s m args below meth c H locs 0 0 Q (F0 m (pc + 3) ls (.int (mm_min x y) :: rest))) : W p l e (mm_rr d) s m args below meth c H locs 0 0 Q (F0 m pc ls (.int y :: .int x :: rest)) := by
  obtain ⟨hx, hb, hml, hown, hts, hr, hlocks, hK, hSt⟩ := C0
  obtain ⟨l1, l2, l3, l4⟩ := L
  exact va_mmin hx hb (hml.trans hl.symm) hown (hts _ l1) (hts _ l2) (hts _ l3) (hts _ l4) hd (mm_mroom hd hW) (Nat.zero_le _) (Nat.zero_le _) hdg kk
theorem mm_mabs {d index : Nat} {x : Int32} (C0 : mm_Cx p s m args meth c own cc nL ret D tys A) (L : mm_LM own index Lib.Math.abs.name Lib.Math.abs.code 1) (hd : 1 ≤ d) (hl : ls.size = nL) (hW : (rest.map fun v => v.category).sum ≤ 8) (hdg : decode cc pc = .ok (.invokestatic index, 3))
    (kk : W p l e (mm_rr d) s m args below meth c H locs 0 0 Q (F0 m (pc + 3) ls (.int (mm_abs x) :: rest))) : W p l e (mm_rr d) s m args below meth c H locs 0 0 Q (F0 m pc ls (.int x :: rest)) := by
  obtain ⟨hx, hb, hml, hown, hts, hr, hlocks, hK, hSt⟩ := C0
  obtain ⟨l1, l2, l3, l4⟩ := L
  exact va_mabs hx hb (hml.trans hl.symm) hown (hts _ l1) (hts _ l2) (hts _ l3) (hts _ l4) hd (mm_mroom hd hW) (Nat.zero_le _) (Nat.zero_le _) hdg kk
def mm_LN (own : String) (index : Nat) (y : MethodName) (bytes : ByteArray) (maxL : Nat) (ret : Option FieldType) (n : Nat) : Prop :=
  ((own, index, y, RX8) ∈ mm_nest ∧ Cond.static y ∈ mm_tbl ∧ Cond.initialized y.cls ∈ mm_tbl ∧ Cond.code y bytes maxL ret ∈ mm_tbl) ∧ (y.cls ≠ "java/lang/invoke/MethodHandle" ∧ y.cls ≠ "java/lang/invoke/VarHandle" ∧ (parseMethodDescriptor y.desc).map (fun d => d.parameters.length) = some n) ∧ maxL ≤ 45
/-- a static method of a nest mate, without a world -/
theorem mm_callS0N {d d' index maxL n : Nat} {As : List Value} {y : MethodName} {bytes : ByteArray} {rt : Option FieldType} {r : Option Value} (C0 : mm_Cx p s m args meth c own cc nL ret D tys A) (L : mm_LN own index y bytes maxL rt n) (ct : mm_Ct l y bytes maxL rt d' D tys As [] [] r) (hd : d' + 1 ≤ d) (hn : As.length = n) (hl : ls.size = nL) (hst : st0 = As.reverse ++ rest) (hW : (rest.map fun v => v.category).sum ≤ 8) (hdg : decode cc pc = .ok (.invokestatic index, 3))
    (hP : va_P D mm_cl ws H) (hD : va_D A ws) (hA : ∀ q, s.heap.size ≤ q → A q) (hS : va_S A s.heap H locs)
    (kk : ∀ (H1 : Heap) (locs1 : List Loc), va_P D mm_cl ws H1 → va_S A s.heap H1 locs1 → W p l e (mm_rr d) s m args below meth c H1 locs1 0 0 Q (F0 m (pc + 3) ls (r.toList ++ rest))) : W p l e (mm_rr d) s m args below meth c H locs 0 0 Q (F0 m pc ls st0) := by
  obtain ⟨hx, hb, hml, hown, hts, hr, hlocks, hK, hSt⟩ := C0
  obtain ⟨⟨l1, l2, l4, l5⟩, hdd, hm⟩ := L
  subst hst
  have hF : ∀ q, va_A [] H.size q → A q := fun q h => h.elim (fun ⟨k, z, hz⟩ => by simp at hz) (fun h => hA q (Nat.le_trans hS.1 h))
  have hr := va_runSN (host := RX8) (p := p) (e := e) (below := below) (meth := meth) (locs := locs) (cells := 0) (slots := 0) (R := mm_rr d) (g := F0 m pc ls (As.reverse ++ rest)) (As := As) (rest := rest) ⟨hx, hb, hml, hown, hts⟩ (ct H.size) ⟨va_cnB n hts (mm_GI l5) rfl rfl rfl (hSt.2.2.2 _ l1) (hts _ l4) hdd (mm_room hd hm), hts _ l2, trivial⟩ ⟨mm_blind, fun U hU hW => ⟨rfl, by rw [hU], fun k q h => by simp at h, va_K.moved hW.alike hK, ⟨fun i j p q h => by simp at h, fun k q h => by simp at h⟩, by rw [hU]; exact hSt.move hS.2.1 hW hF⟩⟩ rfl hn hl rfl (lv_room hW) hdg ⟨Nat.zero_le _, Nat.zero_le _⟩
  intro T hT X
  obtain ⟨v, st₀, t, T', L, h0, X', hL, e1, e2, ⟨⟨hv, hP1, hD1⟩, hz, hk⟩, st⟩ := hr T hT X
  cases hv
  rw [h0] at hz hk
  rw [← e1] at hz hk
  have ho : ∀ q : Nat, q < H.size → ¬ va_A [] H.size q := fun q h z => z.elim (fun ⟨k, z, hz⟩ => by simp at hz) (fun z => absurd h (Nat.not_lt.mpr z))
  obtain ⟨t2, a1, b1⟩ := kk T'.heap (locs ++ L) (hP.kept (fun k q h => hk q.1 (hP k q h).lt (ho _ (hP k q h).lt)))
    ⟨Nat.le_trans hS.1 hz, fun q h1 h2 => by rw [hk q (Nat.lt_of_lt_of_le h1 hS.1) (ho q (Nat.lt_of_lt_of_le h1 hS.1))]; exact hS.2.1 q h1 h2, fun q hq => by
      rcases List.mem_append.mp hq with h | h
      · exact hS.2.2 q h
      · exact hF _ (hL q h)⟩ T' rfl X'
  exact ⟨t2, st t2 a1, b1⟩
end Calls
