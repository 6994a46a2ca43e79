/-! The law's own calls: a world of two, the callee's is the first or the second -/
theorem mm_rngA {α : Type} (u v : List α) : (List.range u.length).map (fun i => (u ++ v)[i]?) = u.map some := by
  apply List.ext_getElem?
  intro k
  rw [List.getElem?_map, List.getElem?_map]
  by_cases h : k < u.length
  · rw [List.getElem?_range h, Option.map_some, List.getElem?_append_left h, List.getElem?_eq_getElem h]
    rfl
  · rw [List.getElem?_eq_none (by rw [List.length_range]; omega), List.getElem?_eq_none (l := u) (by omega)]
    rfl
theorem mm_rngB {α : Type} (u v : List α) : ((List.range v.length).map (fun i => i + u.length)).map (fun i => (u ++ v)[i]?) = v.map some := by
  apply List.ext_getElem?
  intro k
  rw [List.getElem?_map, List.getElem?_map, List.getElem?_map]
  by_cases h : k < v.length
  · rw [List.getElem?_range h, Option.map_some, Option.map_some, List.getElem?_append_right (by omega), Nat.add_sub_cancel, List.getElem?_eq_getElem h]
    rfl
  · rw [List.getElem?_eq_none (by rw [List.length_range]; omega), List.getElem?_eq_none (l := v) (by omega)]
    rfl
theorem mm_ndA (n : Nat) : va_nd (List.range n) = true := mm_ndk _ List.nodup_range
theorem mm_ndB (n m : Nat) : va_nd ((List.range n).map (fun i => i + m)) = true := mm_ndk _ (List.Pairwise.map _ (fun a b h e => h (by omega)) List.nodup_range)
theorem mm_swap {α : Type} (u v : List α) : ((List.range u.length).map (fun i => i + v.length) ++ List.range v.length).map (fun i => (v ++ u)[i]?) = (u ++ v).map some := by
  rw [List.map_append, mm_rngB v u, mm_rngA v u, List.map_append]
theorem mm_ndS (n m : Nat) : va_nd ((List.range n).map (fun i => i + m) ++ List.range m) = true := by
  apply mm_ndk
  rw [List.nodup_append]
  refine ⟨List.Pairwise.map _ (fun a b h e => h (by omega)) List.nodup_range, List.nodup_range, ?_⟩
  intro a ha b hb e
  obtain ⟨i, -, hi⟩ := List.mem_map.mp ha
  have := List.mem_range.mp hb
  omega
section LawCalls
variable {p : Program} {l : Launch} {e : Env} {R : Room} {s : State} {m : MethodId} {args : Array Value} {below : List Frame} {meth : Method} {c : Code} {H : Heap} {locs : List Loc} {cells slots : Nat} {Q : State → Prop}
variable {own : String} {cc : ByteArray} {nL : Nat} {ret : Option FieldType} {D : va_G} {tys : List (ClassId × FieldType)} {ws : va_W} {A : Nat → Prop}
variable {pc : Nat} {ls : Array Slot} {rest st0 : List Value}
theorem mm_run {d' index maxL n b ci q0 N : Nat} {T : u_T} {fs As : List Value} {y : MethodName} {bytes : ByteArray} {rt : Option FieldType} {wc w1 : va_W} {r : Option Value} (C0 : mm_Cx p s m args meth c own cc nL ret D tys A) (L : mm_LV own index y bytes maxL rt n) (ct : mm_Ct l y bytes maxL rt d' D tys (.ref b :: As) wc w1 r) (hRm : (mm_rr d').frames + 1 ≤ R.frames ∧ 8 + (maxL + 11) + (mm_rr d').locals ≤ R.locals) (hn : As.length = n) (hl : ls.size = nL) (hW : (rest.map fun v => v.category).sum ≤ 8) (hdg : decode cc pc = .ok (.invokevirtual index, 3)) (hc1 : cells ≤ R.cells) (hc2 : slots ≤ R.slots)
    (hP : va_P D mm_cl ws H) (hD : va_D A ws) (hA : ∀ q, s.heap.size ≤ q → A q) (hS : va_S A s.heap H locs) (he : ws[q0]? = some (b, .inr (ci, fs))) (hc : mm_cl[ci]? = some (y.cls, T, N)) (isC : List Nat) (hnC : va_nd isC = true) (hC : isC.map (fun i => ws[i]?) = wc.map some) :
    va_Run p l e R s m args below meth c H locs cells slots 0 0 (F0 m pc ls (As.reverse ++ .ref b :: rest)) rest (mm_Q r D w1 (va_A wc H.size) (Value.ref b :: As).toArray) (va_A wc H.size) := by
  obtain ⟨hx, hb, hml, hown, hts, hr, hlocks, hK, hSt⟩ := C0
  obtain ⟨⟨l1, l2, l3, l4, l5⟩, hdd, hm⟩ := L
  exact va_runV (As := As) (rest := rest) (b := b) ⟨hx, hb, hml, hown, hts⟩ (ct H.size) ⟨callB_of n hts (mm_GI l5) rfl rfl rfl (hts _ l4) (hts _ l1) hdd hRm, hts _ l2, hts _ l3⟩ ⟨mm_blind, va_recv hK hP hc he, mm_pre hK hSt hS hA hP hD isC hnC hC⟩ rfl hn hl rfl (lv_room hW) hdg ⟨hc1, hc2⟩
/-- the callee's world is the first -/
theorem mm_callA {d' index maxL n b ci N : Nat} {T : u_T} {fs As : List Value} {y : MethodName} {bytes : ByteArray} {rt : Option FieldType} {wc w1 wr : va_W} {r : Option Value} (C0 : mm_Cx p s m args meth c own cc nL ret D tys A) (L : mm_LV own index y bytes maxL rt n) (ct : mm_Ct l y bytes maxL rt d' D tys (.ref b :: As) wc w1 r) (hRm : (mm_rr d').frames + 1 ≤ R.frames ∧ 8 + (maxL + 11) + (mm_rr d').locals ≤ R.locals) (hn : As.length = n) (hl : ls.size = nL) (hst : st0 = As.reverse ++ .ref b :: rest) (hW : (rest.map fun v => v.category).sum ≤ 8) (hdg : decode cc pc = .ok (.invokevirtual index, 3)) (hc1 : cells ≤ R.cells) (hc2 : slots ≤ R.slots)
    (hP : va_P D mm_cl (wc ++ wr) H) (hD : va_D A (wc ++ wr)) (hA : ∀ q, s.heap.size ≤ q → A q) (hS : va_S A s.heap H locs) (he : (wc ++ wr)[0]? = some (b, .inr (ci, fs))) (hc : mm_cl[ci]? = some (y.cls, T, N))
    (kk : ∀ (H1 : Heap) (locs1 : List Loc), va_P D mm_cl (w1 ++ wr) H1 → va_D A (w1 ++ wr) → va_S A s.heap H1 locs1 → W p l e R s m args below meth c H1 locs1 cells slots Q (F0 m (pc + 3) ls (r.toList ++ rest))) : W p l e R s m args below meth c H locs cells slots Q (F0 m pc ls st0) := by
  subst hst
  exact mm_after (wr := wr) (w2 := w1 ++ wr) (mm_run C0 L ct hRm hn hl hW hdg hc1 hc2 hP hD hA hS he hc (List.range wc.length) (mm_ndA _) (mm_rngA wc wr)) hP hD hA hS (List.range wc.length) ((List.range wr.length).map (fun i => i + wc.length)) ((List.range w1.length).map (fun i => i + wr.length) ++ List.range wr.length) (mm_rngA wc wr) (mm_rngB wc wr) (mm_ndB _ _) (fun i hi h => by
    obtain ⟨k, -, hk⟩ := List.mem_map.mp hi
    have := List.mem_range.mp h
    omega) (mm_ndS _ _) (mm_swap w1 wr) kk
/-- the callee's world is the second -/
theorem mm_callB {d' index maxL n b ci q0 N : Nat} {T : u_T} {fs As : List Value} {y : MethodName} {bytes : ByteArray} {rt : Option FieldType} {wc w1 wr : va_W} {r : Option Value} (C0 : mm_Cx p s m args meth c own cc nL ret D tys A) (L : mm_LV own index y bytes maxL rt n) (ct : mm_Ct l y bytes maxL rt d' D tys (.ref b :: As) wc w1 r) (hRm : (mm_rr d').frames + 1 ≤ R.frames ∧ 8 + (maxL + 11) + (mm_rr d').locals ≤ R.locals) (hn : As.length = n) (hl : ls.size = nL) (hst : st0 = As.reverse ++ .ref b :: rest) (hW : (rest.map fun v => v.category).sum ≤ 8) (hdg : decode cc pc = .ok (.invokevirtual index, 3)) (hc1 : cells ≤ R.cells) (hc2 : slots ≤ R.slots)
    (hP : va_P D mm_cl (wr ++ wc) H) (hD : va_D A (wr ++ wc)) (hA : ∀ q, s.heap.size ≤ q → A q) (hS : va_S A s.heap H locs) (he : (wr ++ wc)[q0]? = some (b, .inr (ci, fs))) (hc : mm_cl[ci]? = some (y.cls, T, N))
    (kk : ∀ (H1 : Heap) (locs1 : List Loc), va_P D mm_cl (wr ++ w1) H1 → va_D A (wr ++ w1) → va_S A s.heap H1 locs1 → W p l e R s m args below meth c H1 locs1 cells slots Q (F0 m (pc + 3) ls (r.toList ++ rest))) : W p l e R s m args below meth c H locs cells slots Q (F0 m pc ls st0) := by
  subst hst
  have hid : (List.range (wr ++ w1).length).map (fun i => (wr ++ w1)[i]?) = (wr ++ w1).map some := by
    have h := mm_rngA (wr ++ w1) ([] : va_W)
    rw [List.append_nil] at h
    exact h
  exact mm_after (wr := wr) (w2 := wr ++ w1) (mm_run C0 L ct hRm hn hl hW hdg hc1 hc2 hP hD hA hS he hc ((List.range wc.length).map (fun i => i + wr.length)) (mm_ndB _ _) (mm_rngB wr wc)) hP hD hA hS ((List.range wc.length).map (fun i => i + wr.length)) (List.range wr.length) (List.range (wr ++ w1).length) (mm_rngB wr wc) (mm_rngA wr wc) (mm_ndA _) (fun i hi h => by
    obtain ⟨k, -, hk⟩ := List.mem_map.mp h
    have := List.mem_range.mp hi
    omega) (mm_ndA _) hid kk
/-- a constructor is called by the law; the new object's cell is the last one -/
theorem mm_callK {d' mc ms index maxL o : Nat} {e0 : va_E} {w0 : va_W} {cI cL cS cH : ClassId} {y : MethodName} {bytes : ByteArray} {wf : (Nat → Nat) → va_W} (C0 : mm_Cx p s m args meth c own cc nL ret D (mm_T cI cL cS cH) A) (hO1 : va_AO RX5 s) (hO2 : va_AO RX6 s) (L : mm_LI own index y bytes maxL) (ct : mm_Cn l y bytes maxL d' mc ms D (mm_T cI cL cS cH) o [(o, e0)] wf) (hRm : (mm_rk d' mc ms).frames + 1 ≤ R.frames ∧ 8 + (maxL + 11) + (mm_rk d' mc ms).locals ≤ R.locals) (hl : ls.size = nL) (hst : st0 = .ref o :: rest) (hW : (rest.map fun v => v.category).sum ≤ 8) (hdg : decode cc pc = .ok (.invokespecial index, 3)) (hc1 : cells + mc ≤ R.cells) (hc2 : slots + ms ≤ R.slots)
    (hP : va_P D mm_cl (w0 ++ [(o, e0)]) H) (hD : va_D A (w0 ++ [(o, e0)])) (hA : ∀ q, s.heap.size ≤ q → A q) (hS : va_S A s.heap H locs)
    (kk : ∀ (b : Nat → Nat) (H1 : Heap) (locs1 : List Loc), b 0 = o → va_P D mm_cl (w0 ++ wf b) H1 → va_D A (w0 ++ wf b) → va_S A s.heap H1 locs1 → W p l e R s m args below meth c H1 locs1 (cells + mc) (slots + ms) Q (F0 m (pc + 3) ls rest)) : W p l e R s m args below meth c H locs cells slots Q (F0 m pc ls st0) := by
  obtain ⟨hx, hb, hml, hown, hts, hr, hlocks, hK, hSt⟩ := C0
  obtain ⟨⟨l1, l2, l4, l5⟩, hdd, hm, hyn⟩ := L
  subst hst
  have hr := mm_rng w0 (o, e0)
  refine mm_aftern (va_runI (As := []) (rest := rest) (b := o) ⟨hx, hb, hml, hown, hts⟩ (ct H.size) ⟨callB_of 0 hts (mm_GI l5) rfl rfl rfl (hts _ l4) (hts _ l1) hdd hRm, hyn, hts _ l2⟩ ⟨mm_blindn, mm_preN hK hSt hO1 hO2 hS hA hP hD [w0.length] rfl (by simp)⟩ rfl rfl hl rfl (lv_room hW) hdg ⟨hc1, hc2⟩) hP hD hA hS [w0.length] (List.range w0.length) (by simp) (by rw [mm_fm hr]; exact hr) (mm_nd _) (fun i hi h => by simp at h hi; omega) ?_
  rw [mm_fm hr]
  exact kk
end LawCalls
/-! what the Statement gives at the law's entry -/
theorem mm_sa {args : Array Value} {s : State} {C n : String} {xs : List Int32} {A : Nat → Prop} (hN : xs.length < 2 ^ 31) (hl : (Cond.laysStatic C n "[I").before args s = true) (hini : (Cond.initialized C).before args s = true) (harr : (Cond.arrayOf (.static C n "[I") .int).before args s = true) (hlen : (Cond.eq (.length (.static C n "[I")) (.int (Int32.ofNat xs.length))).before args s = true) (hel : ∀ j : Nat, j < xs.length → (Cond.eq (.elem (.static C n "[I") (.int (Int32.ofNat j))) (.int (xs.getD j 0))).before args s = true) (hA : ∀ a : Nat, a < s.heap.size → ¬ A a) : mm_Sa C n xs A s s.heap := by
  obtain ⟨t, ht, hT⟩ := va_Tof (f := fun j => .int (xs.getD j 0)) hN harr (va_eqt hlen) (fun j hj => va_eqt (hel j hj)) hA
  exact ⟨t, va_Zof hl hini ht hA, hT⟩
