/-! Calls: one row a kind, over the form of contract above -/
def mm_LV (own : String) (index : Nat) (y : MethodName) (bytes : ByteArray) (maxL : Nat) (ret : Option FieldType) (n : Nat) : Prop :=
  (Cond.methodLink own index y ∈ mm_tbl ∧ Cond.instanceMethod y ∈ mm_tbl ∧ Cond.selects y.cls y y ∈ mm_tbl ∧ Cond.initialized y.cls ∈ mm_tbl ∧ Cond.code y bytes maxL ret ∈ mm_tbl) ∧ (y.cls ≠ "java/lang/invoke/MethodHandle" ∧ y.cls ≠ "java/lang/invoke/VarHandle" ∧ (parseMethodDescriptor y.desc).map (fun d => d.parameters.length) = some n) ∧ maxL ≤ 45
def mm_LS (own : String) (index : Nat) (y : MethodName) (bytes : ByteArray) (maxL : Nat) (ret : Option FieldType) (n : Nat) : Prop :=
  (Cond.methodLink own index y ∈ mm_tbl ∧ Cond.static y ∈ mm_tbl ∧ Cond.initialized y.cls ∈ mm_tbl ∧ Cond.code y bytes maxL ret ∈ mm_tbl) ∧ (y.cls ≠ "java/lang/invoke/MethodHandle" ∧ y.cls ≠ "java/lang/invoke/VarHandle" ∧ (parseMethodDescriptor y.desc).map (fun d => d.parameters.length) = some n) ∧ maxL ≤ 45
theorem mm_fm {α β : Type} {f : α → Option β} {is : List α} {w : List β} (h : is.map f = w.map some) : is.filterMap f = w := by
  have e : is.filterMap f = (is.map f).filterMap id := by rw [List.filterMap_map]; rfl
  rw [e, h, List.filterMap_map]
  show w.filterMap some = w
  exact List.filterMap_some
section Calls
variable {p : Program} {l : Launch} {e : Env} {R : Room} {s : State} {m : MethodId} {args : Array Value} {below : List Frame} {meth : Method} {c : Code} {H : Heap} {locs : List Loc} {cells slots : Nat} {Q : State → Prop}
variable {own : String} {cc : ByteArray} {nL : Nat} {ret : Option FieldType} {D : va_G} {tys : List (ClassId × FieldType)} {ws : va_W} {A : Nat → Prop}
variable {pc : Nat} {ls : Array Slot} {rest st0 : List Value}
theorem mm_after {wc w1 w2 wr : va_W} {r : Option Value} {a' : Array Value} (hr : va_Run p l e R s m args below meth c H locs cells slots 0 0 (F0 m pc ls st0) rest (mm_Q r D w1 (va_A wc H.size) a') (va_A wc H.size)) (hP : va_P D mm_cl ws H) (hD : va_D A ws) (hA : ∀ q, s.heap.size ≤ q → A q) (hS : va_S A s.heap H locs) (isC isR isP : List Nat) (hC : isC.map (fun i => ws[i]?) = wc.map some) (hR : isR.map (fun i => ws[i]?) = wr.map some) (hn : va_nd isR = true) (hdis : ∀ i ∈ isR, i ∉ isC) (hn2 : va_nd isP = true) (h2 : isP.map (fun i => (wr ++ w1)[i]?) = w2.map some)
    (kk : ∀ (H1 : Heap) (locs1 : List Loc), va_P D mm_cl w2 H1 → va_D A w2 → va_S A s.heap H1 locs1 → W p l e R s m args below meth c H1 locs1 cells slots Q (F0 m (pc + 3) ls (r.toList ++ rest))) : W p l e R s m args below meth c H locs cells slots Q (F0 m pc ls st0) := by
  have hF := va_free hD hS hA isC hC
  intro T hT X
  obtain ⟨v, st₀, t, T', L, h0, X', hL, e1, e2, ⟨⟨hv, hP1, hD1⟩, hz, hk⟩, st⟩ := hr T hT X
  cases hv
  rw [h0] at hz hk
  rw [← e1] at hP1 hz hk
  obtain ⟨hP2, hD2⟩ := va_join hP hD isC isR hC hR hn hdis hk hF hP1 hD1
  obtain ⟨t2, a1, b1⟩ := kk T'.heap (locs ++ L) (hP2.sub isP (mm_fm h2)) (hD2.sub isP hn2 h2)
    ⟨Nat.le_trans hS.1 hz, fun q h1 h2 => by rw [hk q (Nat.lt_of_lt_of_le h1 hS.1) (fun z => h2 (hF q z))]; exact hS.2.1 q h1 h2, fun q hq => by
      rcases List.mem_append.mp hq with h | h
      · exact hS.2.2 q h
      · exact hF _ (hL q h)⟩ T' rfl X'
  exact ⟨t2, st t2 a1, b1⟩
theorem mm_blind {D : va_G} {tys : List (ClassId × FieldType)} {av : List Value} {w : va_W} {sz : Nat} : FrameBlind (va_Pc av (fun U => U.heap.size = sz ∧ va_P D mm_cl w U.heap ∧ va_K D mm_cl tys U ∧ va_D (fun _ => True) w ∧ mm_St (va_A w sz) U U.heap)) := fun a U g mk q => by
  obtain ⟨q0, q1, qP, qK, qD, qS⟩ := q
  exact ⟨q0, q1, qP, va_K.moved (u := U) (U := U.calling g mk a) (Vm.Alike.refl U.vm) qK, qD, qS.calls⟩
theorem mm_room {d d' maxL : Nat} (h : d' + 1 ≤ d) (hm : maxL ≤ 45) : (mm_rr d').frames + 1 ≤ (mm_rr d).frames ∧ 8 + (maxL + 11) + (mm_rr d').locals ≤ (mm_rr d).locals := by
  refine ⟨h, ?_⟩
  show 8 + (maxL + 11) + 64 * d' ≤ 64 * d
  omega
theorem mm_pre {D : va_G} {tys : List (ClassId × FieldType)} {ws wc : va_W} {A : Nat → Prop} {H : Heap} {s : State} {av : List Value} {locs : List Loc} (hK : va_K D mm_cl tys s) (hSt : mm_St A s s.heap) (hS : va_S A s.heap H locs) (hA : ∀ q, s.heap.size ≤ q → A q) (hP : va_P D mm_cl ws H) (hD : va_D A ws) (isC : List Nat) (hnC : va_nd isC = true) (hC : isC.map (fun i => ws[i]?) = wc.map some) : ∀ U : State, U.heap = H → s.WarmedH U.vm → va_Pc av (fun U => U.heap.size = H.size ∧ va_P D mm_cl wc U.heap ∧ va_K D mm_cl tys U ∧ va_D (fun _ => True) wc ∧ mm_St (va_A wc H.size) U U.heap) av.toArray U := fun U hU hW =>
  ⟨rfl, by rw [hU], by rw [hU]; exact hP.sub isC (mm_fm hC), va_K.moved hW.alike hK, (hD.sub isC hnC hC).weaken (fun _ _ _ _ => trivial), by rw [hU]; exact hSt.move hS.2.1 hW (va_free hD hS hA isC hC)⟩
/-- invokevirtual -/
theorem mm_callV {d d' index maxL n b ci q0 N : Nat} {T : u_T} {fs As : List Value} {y : MethodName} {bytes : ByteArray} {rt : Option FieldType} {wc w1 w2 wr : va_W} {r : Option Value} (C0 : mm_Cx p s m args meth c own cc nL ret D tys A) (L : mm_LV own index y bytes maxL rt n) (ct : mm_Ct l y bytes maxL rt d' D tys (.ref b :: As) wc w1 r) (hd : d' + 1 ≤ d) (hn : As.length = n) (hl : ls.size = nL) (hst : st0 = As.reverse ++ .ref b :: rest) (hW : (rest.map fun v => v.category).sum ≤ 8) (hdg : decode cc pc = .ok (.invokevirtual index, 3))
    (hP : va_P D mm_cl ws H) (hD : va_D A ws) (hA : ∀ q, s.heap.size ≤ q → A q) (hS : va_S A s.heap H locs) (he : ws[q0]? = some (b, .inr (ci, fs))) (hc : mm_cl[ci]? = some (y.cls, T, N)) (isC isR isP : List Nat) (hnC : va_nd isC = true) (hC : isC.map (fun i => ws[i]?) = wc.map some) (hR : isR.map (fun i => ws[i]?) = wr.map some) (hnR : va_nd isR = true) (hdis : ∀ i ∈ isR, i ∉ isC) (hn2 : va_nd isP = true) (h2 : isP.map (fun i => (wr ++ w1)[i]?) = w2.map some)
    (kk : ∀ (H1 : Heap) (locs1 : List Loc), va_P D mm_cl w2 H1 → va_D A w2 → va_S A s.heap H1 locs1 → W p l e (mm_rr d) s m args below meth c H1 locs1 0 0 Q (F0 m (pc + 3) ls (r.toList ++ rest))) : W p l e (mm_rr d) s m args below meth c H locs 0 0 Q (F0 m pc ls st0) := by
  obtain ⟨hx, hb, hml, hown, hts, hr, hlocks, hK, hSt⟩ := C0
  obtain ⟨⟨l1, l2, l3, l4, l5⟩, hdd, hm⟩ := L
  subst hst
  exact mm_after (va_runV (As := As) (rest := rest) (b := b) ⟨hx, hb, hml, hown, hts⟩ (ct H.size) ⟨callB_of n hts (mm_GI l5) rfl rfl rfl (hts _ l4) (hts _ l1) hdd (mm_room hd hm), hts _ l2, hts _ l3⟩ ⟨mm_blind, va_recv hK hP hc he, mm_pre hK hSt hS hA hP hD isC hnC hC⟩ rfl hn hl rfl (lv_room hW) hdg ⟨Nat.zero_le _, Nat.zero_le _⟩) hP hD hA hS isC isR isP hC hR hnR hdis hn2 h2 kk
/-- invokestatic -/
theorem mm_callS {d d' index maxL n : Nat} {As : List Value} {y : MethodName} {bytes : ByteArray} {rt : Option FieldType} {wc w1 w2 wr : va_W} {r : Option Value} (C0 : mm_Cx p s m args meth c own cc nL ret D tys A) (L : mm_LS own index y bytes maxL rt n) (ct : mm_Ct l y bytes maxL rt d' D tys As wc w1 r) (hd : d' + 1 ≤ d) (hn : As.length = n) (hl : ls.size = nL) (hst : st0 = As.reverse ++ rest) (hW : (rest.map fun v => v.category).sum ≤ 8) (hdg : decode cc pc = .ok (.invokestatic index, 3))
    (hP : va_P D mm_cl ws H) (hD : va_D A ws) (hA : ∀ q, s.heap.size ≤ q → A q) (hS : va_S A s.heap H locs) (isC isR isP : List Nat) (hnC : va_nd isC = true) (hC : isC.map (fun i => ws[i]?) = wc.map some) (hR : isR.map (fun i => ws[i]?) = wr.map some) (hnR : va_nd isR = true) (hdis : ∀ i ∈ isR, i ∉ isC) (hn2 : va_nd isP = true) (h2 : isP.map (fun i => (wr ++ w1)[i]?) = w2.map some)
    (kk : ∀ (H1 : Heap) (locs1 : List Loc), va_P D mm_cl w2 H1 → va_D A w2 → va_S A s.heap H1 locs1 → W p l e (mm_rr d) s m args below meth c H1 locs1 0 0 Q (F0 m (pc + 3) ls (r.toList ++ rest))) : W p l e (mm_rr d) s m args below meth c H locs 0 0 Q (F0 m pc ls st0) := by
  obtain ⟨hx, hb, hml, hown, hts, hr, hlocks, hK, hSt⟩ := C0
  obtain ⟨⟨l1, l2, l4, l5⟩, hdd, hm⟩ := L
  subst hst
  exact mm_after (va_runS (As := As) (rest := rest) ⟨hx, hb, hml, hown, hts⟩ (ct H.size) ⟨callB_of n hts (mm_GI l5) rfl rfl rfl (hts _ l4) (hts _ l1) hdd (mm_room hd hm), hts _ l2⟩ ⟨mm_blind, mm_pre hK hSt hS hA hP hD isC hnC hC⟩ rfl hn hl rfl (lv_room hW) hdg ⟨Nat.zero_le _, Nat.zero_le _⟩) hP hD hA hS isC isR isP hC hR hnR hdis hn2 h2 kk
/-- the same, where the callee's world is the caller's -/
theorem mm_callVF {d d' index maxL n b ci q0 N : Nat} {T : u_T} {fs As : List Value} {y : MethodName} {bytes : ByteArray} {rt : Option FieldType} {w1 : va_W} {r : Option Value} (C0 : mm_Cx p s m args meth c own cc nL ret D tys A) (L : mm_LV own index y bytes maxL rt n) (ct : mm_Ct l y bytes maxL rt d' D tys (.ref b :: As) ws w1 r) (hd : d' + 1 ≤ d) (hn : As.length = n) (hl : ls.size = nL) (hst : st0 = As.reverse ++ .ref b :: rest) (hW : (rest.map fun v => v.category).sum ≤ 8) (hdg : decode cc pc = .ok (.invokevirtual index, 3))
    (hP : va_P D mm_cl ws H) (hD : va_D A ws) (hA : ∀ q, s.heap.size ≤ q → A q) (hS : va_S A s.heap H locs) (he : ws[q0]? = some (b, .inr (ci, fs))) (hc : mm_cl[ci]? = some (y.cls, T, N))
    (kk : ∀ (H1 : Heap) (locs1 : List Loc), va_P D mm_cl w1 H1 → va_D A w1 → va_S A s.heap H1 locs1 → W p l e (mm_rr d) s m args below meth c H1 locs1 0 0 Q (F0 m (pc + 3) ls (r.toList ++ rest))) : W p l e (mm_rr d) s m args below meth c H locs 0 0 Q (F0 m pc ls st0) := by
  obtain ⟨hx, hb, hml, hown, hts, hr, hlocks, hK, hSt⟩ := C0
  obtain ⟨⟨l1, l2, l3, l4, l5⟩, hdd, hm⟩ := L
  subst hst
  have hF : ∀ q, va_A ws H.size q → A q := fun q h => h.elim (fun ⟨k, z, hz⟩ => hD.2 k (q, z) hz) (fun h => hA q (Nat.le_trans hS.1 h))
  have hr := va_runV (p := p) (e := e) (below := below) (meth := meth) (locs := locs) (cells := 0) (slots := 0) (R := mm_rr d) (g := F0 m pc ls (As.reverse ++ .ref b :: rest)) (As := As) (rest := rest) (b := b) ⟨hx, hb, hml, hown, hts⟩ (ct H.size) ⟨callB_of n hts (mm_GI l5) rfl rfl rfl (hts _ l4) (hts _ l1) hdd (mm_room hd hm), hts _ l2, hts _ l3⟩ ⟨mm_blind, va_recv hK hP hc he, fun U hU hW => ⟨rfl, by rw [hU], by rw [hU]; exact hP, va_K.moved hW.alike hK, hD.weaken (fun _ _ _ _ => trivial), by rw [hU]; exact hSt.move hS.2.1 hW hF⟩⟩ rfl hn hl rfl (lv_room hW) hdg ⟨Nat.zero_le _, Nat.zero_le _⟩
  intro T hT X
  obtain ⟨v, st₀, t, T', L, h0, X', hL, e1, e2, ⟨⟨hv, hP1, hD1⟩, hz, hk⟩, st⟩ := hr T hT X
  cases hv
  rw [h0] at hz hk
  rw [← e1] at hP1 hz hk
  obtain ⟨t2, a1, b1⟩ := kk T'.heap (locs ++ L) hP1 (hD1.weaken (fun k q _ h => hF q.1 h))
    ⟨Nat.le_trans hS.1 hz, fun q h1 h2 => by rw [hk q (Nat.lt_of_lt_of_le h1 hS.1) (fun z => h2 (hF q z))]; exact hS.2.1 q h1 h2, fun q hq => by
      rcases List.mem_append.mp hq with h | h
      · exact hS.2.2 q h
      · exact hF _ (hL q h)⟩ T' rfl X'
  exact ⟨t2, st t2 a1, b1⟩
/-- a static method without a world -/
theorem mm_callS0 {d d' index maxL n : Nat} {As : List Value} {y : MethodName} {bytes : ByteArray} {rt : Option FieldType} {r : Option Value} (C0 : mm_Cx p s m args meth c own cc nL ret D tys A) (L : mm_LS own index y bytes maxL rt n) (ct : mm_Ct l y bytes maxL rt d' D tys As [] [] r) (hd : d' + 1 ≤ d) (hn : As.length = n) (hl : ls.size = nL) (hst : st0 = As.reverse ++ rest) (hW : (rest.map fun v => v.category).sum ≤ 8) (hdg : decode cc pc = .ok (.invokestatic index, 3))
    (hP : va_P D mm_cl ws H) (hD : va_D A ws) (hA : ∀ q, s.heap.size ≤ q → A q) (hS : va_S A s.heap H locs)
    (kk : ∀ (H1 : Heap) (locs1 : List Loc), va_P D mm_cl ws H1 → va_S A s.heap H1 locs1 → W p l e (mm_rr d) s m args below meth c H1 locs1 0 0 Q (F0 m (pc + 3) ls (r.toList ++ rest))) : W p l e (mm_rr d) s m args below meth c H locs 0 0 Q (F0 m pc ls st0) := by
  obtain ⟨hx, hb, hml, hown, hts, hr, hlocks, hK, hSt⟩ := C0
  obtain ⟨⟨l1, l2, l4, l5⟩, hdd, hm⟩ := L
  subst hst
  have hF : ∀ q, va_A [] H.size q → A q := fun q h => h.elim (fun ⟨k, z, hz⟩ => by simp at hz) (fun h => hA q (Nat.le_trans hS.1 h))
  have hr := va_runS (p := p) (e := e) (below := below) (meth := meth) (locs := locs) (cells := 0) (slots := 0) (R := mm_rr d) (g := F0 m pc ls (As.reverse ++ rest)) (As := As) (rest := rest) ⟨hx, hb, hml, hown, hts⟩ (ct H.size) ⟨callB_of n hts (mm_GI l5) rfl rfl rfl (hts _ l4) (hts _ l1) hdd (mm_room hd hm), hts _ l2⟩ ⟨mm_blind, fun U hU hW => ⟨rfl, by rw [hU], fun k q h => by simp at h, va_K.moved hW.alike hK, ⟨fun i j p q h => by simp at h, fun k q h => by simp at h⟩, by rw [hU]; exact hSt.move hS.2.1 hW hF⟩⟩ rfl hn hl rfl (lv_room hW) hdg ⟨Nat.zero_le _, Nat.zero_le _⟩
  intro T hT X
  obtain ⟨v, st₀, t, T', L, h0, X', hL, e1, e2, ⟨⟨hv, hP1, hD1⟩, hz, hk⟩, st⟩ := hr T hT X
  cases hv
  rw [h0] at hz hk
  rw [← e1] at hz hk
  have ho : ∀ q : Nat, q < H.size → ¬ va_A [] H.size q := fun q h z => z.elim (fun ⟨k, z, hz⟩ => by simp at hz) (fun z => absurd h (Nat.not_lt.mpr z))
  obtain ⟨t2, a1, b1⟩ := kk T'.heap (locs ++ L) (hP.kept (fun k q h => hk q.1 (hP k q h).lt (ho _ (hP k q h).lt)))
    ⟨Nat.le_trans hS.1 hz, fun q h1 h2 => by rw [hk q (Nat.lt_of_lt_of_le h1 hS.1) (ho q (Nat.lt_of_lt_of_le h1 hS.1))]; exact hS.2.1 q h1 h2, fun q hq => by
      rcases List.mem_append.mp hq with h | h
      · exact hS.2.2 q h
      · exact hF _ (hL q h)⟩ T' rfl X'
  exact ⟨t2, st t2 a1, b1⟩
end Calls
