/-! More rows: calls with a world cut out, Math, a static method of a nest mate -/
section Calls
variable {p : Program} {l : Launch} {e : Env} {R : Room} {s : State} {m : MethodId} {args : Array Value} {below : List Frame} {meth : Method} {c : Code} {H : Heap} {locs : List Loc} {cells slots : Nat} {Q : State → Prop}
variable {own : String} {cc : ByteArray} {nL : Nat} {ret : Option FieldType} {D : va_G} {tys : List (ClassId × FieldType)} {ws : va_W} {A : Nat → Prop}
variable {pc : Nat} {ls : Array Slot} {rest st0 : List Value}
/-- cells put into a world, at places -/
def mm_sets : va_W → List Nat → va_W → va_W
  | ws, i :: is, q :: w1 => mm_sets (ws.set i q) is w1
  | ws, _, _ => ws
theorem mm_setsA : ∀ (is : List Nat) (w1 ws : va_W), is.length = w1.length → ∀ (i : Nat) (q : Nat × va_E), (mm_sets ws is w1)[i]? = some q → (∃ k : Nat, is[k]? = some i ∧ w1[k]? = some q) ∨ (i ∉ is ∧ ws[i]? = some q)
  | [], w1, ws, _, i, q, h => Or.inr ⟨List.not_mem_nil, by cases w1 <;> exact h⟩
  | j :: is, [], ws, hl, _, _, _ => by simp at hl
  | j :: is, x :: w1, ws, hl, i, q, h => by
    rcases mm_setsA is w1 (ws.set j x) (by simpa using hl) i q h with ⟨k, h1, h2⟩ | ⟨h1, h2⟩
    · exact Or.inl ⟨k + 1, h1, h2⟩
    · by_cases e : j = i
      · subst e
        refine Or.inl ⟨0, rfl, ?_⟩
        have hlt : j < (ws.set j x).length := (List.getElem?_eq_some_iff.mp h2).1
        rw [List.length_set] at hlt
        rw [List.getElem?_set_self hlt] at h2
        exact h2
      · rw [List.getElem?_set_ne e] at h2
        exact Or.inr ⟨fun z => (List.mem_cons.mp z).elim (fun z => e z.symm) h1, h2⟩
theorem mm_put1 {wc w1 w2 : va_W} {H1 : Heap} (hP : va_P D mm_cl ws H) (hD : va_D A ws) (isC : List Nat) (hC : isC.map (fun i => ws[i]?) = wc.map some) (hl : isC.length = w1.length) (hk : ∀ q : Nat, q < H.size → ¬ va_A wc H.size q → H1[q]? = H[q]?) (hF : ∀ q, va_A wc H.size q → A q) (hP1 : va_P D mm_cl w1 H1) (hD1 : va_D (va_A wc H.size) w1) (h2 : mm_sets ws isC w1 = w2) : va_P D mm_cl w2 H1 ∧ va_D A w2 := by
  subst h2
  have apart : ∀ (i : Nat) (q : Nat × va_E), i ∉ isC → ws[i]? = some q → q.1 < H.size ∧ ¬ va_A wc H.size q.1 := by
    intro i q hi hq
    have hlt := (hP i q hq).lt
    refine ⟨hlt, fun h => ?_⟩
    rcases h with ⟨k, e, h⟩ | h
    · have h1 : (isC.map (fun i => ws[i]?))[k]? = some (some (q.1, e)) := by rw [hC, List.getElem?_map, h]; rfl
      rw [List.getElem?_map] at h1
      cases hj : isC[k]? with
      | none => rw [hj] at h1; cases h1
      | some j =>
        rw [hj] at h1
        have h3 : ws[j]? = some (q.1, e) := Option.some.inj h1
        have := hD.1 i j q (q.1, e) hq h3 rfl
        subst this
        exact hi (List.mem_of_getElem? hj)
    · omega
  refine ⟨fun i q hq => ?_, fun i j x y hx hy hxy => ?_, fun i q hq => ?_⟩
  · rcases mm_setsA isC w1 ws hl i q hq with ⟨k, -, h2⟩ | ⟨h1, h2⟩
    · exact hP1 k q h2
    · obtain ⟨g1, g2⟩ := apart i q h1 h2
      exact (hP i q h2).kept (hk q.1 g1 g2)
  · rcases mm_setsA isC w1 ws hl i x hx with ⟨k, a1, a2⟩ | ⟨a1, a2⟩ <;> rcases mm_setsA isC w1 ws hl j y hy with ⟨k', b1, b2⟩ | ⟨b1, b2⟩
    · have := hD1.1 k k' x y a2 b2 hxy
      subst this
      exact Option.some.inj (a1.symm.trans b1)
    · exact absurd (by rw [← hxy]; exact hD1.2 k x a2) (apart j y b1 b2).2
    · exact absurd (by rw [hxy]; exact hD1.2 k' y b2) (apart i x a1 a2).2
    · exact hD.1 i j x y a2 b2 hxy
  · rcases mm_setsA isC w1 ws hl i q hq with ⟨k, -, h2⟩ | ⟨h1, h2⟩
    · exact hF _ (hD1.2 k q h2)
    · exact hD.2 i q h2
theorem mm_afterX {wc w1 w2 : va_W} {r : Option Value} {a' : Array Value} (hr : va_Run p l e R s m args below meth c H locs cells slots 0 0 (F0 m pc ls st0) rest (mm_Q r D w1 (va_A wc H.size) a') (va_A wc H.size)) (hP : va_P D mm_cl ws H) (hD : va_D A ws) (hA : ∀ q, s.heap.size ≤ q → A q) (hS : va_S A s.heap H locs) (isC : List Nat) (hC : isC.map (fun i => ws[i]?) = wc.map some) (hl : isC.length = w1.length) (h2 : mm_sets ws isC w1 = w2)
    (kk : ∀ (H1 : Heap) (locs1 : List Loc), va_P D mm_cl w2 H1 → va_D A w2 → va_S A s.heap H1 locs1 → W p l e R s m args below meth c H1 locs1 cells slots Q (F0 m (pc + 3) ls (r.toList ++ rest))) : W p l e R s m args below meth c H locs cells slots Q (F0 m pc ls st0) := by
  have hF := va_free hD hS hA isC hC
  intro T hT X
  obtain ⟨v, st₀, t, T', L, h0, X', hL, e1, e2, ⟨⟨hv, hP1, hD1⟩, hz, hk⟩, st⟩ := hr T hT X
  cases hv
  rw [h0] at hz hk
  rw [← e1] at hP1 hz hk
  obtain ⟨hP2, hD2⟩ := mm_put1 hP hD isC hC hl hk hF hP1 hD1 h2
  obtain ⟨t2, a1, b1⟩ := kk T'.heap (locs ++ L) hP2 hD2
    ⟨Nat.le_trans hS.1 hz, fun q h1 h2 => by rw [hk q (Nat.lt_of_lt_of_le h1 hS.1) (fun z => h2 (hF q z))]; exact hS.2.1 q h1 h2, fun q hq => by
      rcases List.mem_append.mp hq with h | h
      · exact hS.2.2 q h
      · exact hF _ (hL q h)⟩ T' rfl X'
  exact ⟨t2, st t2 a1, b1⟩
/-- a world cut out by a mask -/
def mm_pick : List Bool → va_W → va_W
  | true :: bs, x :: ws => x :: mm_pick bs ws
  | false :: bs, _ :: ws => mm_pick bs ws
  | _, _ => []
/-- and put back -/
def mm_merge : List Bool → va_W → va_W → va_W
  | true :: bs, _ :: ws, q :: w1 => q :: mm_merge bs ws w1
  | false :: bs, x :: ws, w1 => x :: mm_merge bs ws w1
  | _, ws, _ => ws
def mm_ix : List Bool → List Nat
  | [] => []
  | true :: bs => 0 :: (mm_ix bs).map (fun i => i + 1)
  | false :: bs => (mm_ix bs).map (fun i => i + 1)
theorem mm_setsS : ∀ (is : List Nat) (x : Nat × va_E) (ws w1 : va_W), mm_sets (x :: ws) (is.map (fun i => i + 1)) w1 = x :: mm_sets ws is w1
  | [], _, _, w1 => by cases w1 <;> rfl
  | _ :: _, _, _, [] => rfl
  | i :: is, x, ws, q :: w1 => by
    show mm_sets ((x :: ws).set (i + 1) q) (is.map (fun i => i + 1)) w1 = x :: mm_sets (ws.set i q) is w1
    rw [List.set_cons_succ]
    exact mm_setsS is x (ws.set i q) w1
theorem mm_ixA : ∀ (bs : List Bool) (ws w1 : va_W), bs.length = ws.length → w1.length = (mm_ix bs).length → mm_merge bs ws w1 = mm_sets ws (mm_ix bs) w1
  | [], [], w1, _, _ => by cases w1 <;> rfl
  | [], _ :: _, _, h, _ => by simp at h
  | _ :: _, [], _, h, _ => by simp at h
  | true :: bs, x :: ws, [], _, h => by simp [mm_ix] at h
  | true :: bs, x :: ws, q :: w1, h, h2 => by
    show q :: mm_merge bs ws w1 = mm_sets (q :: ws) ((mm_ix bs).map (fun i => i + 1)) w1
    rw [mm_setsS, mm_ixA bs ws w1 (by simpa using h) (by simpa [mm_ix] using h2)]
  | false :: bs, x :: ws, w1, h, h2 => by
    have e : mm_merge (false :: bs) (x :: ws) w1 = x :: mm_merge bs ws w1 := by cases w1 <;> rfl
    rw [e]
    show x :: mm_merge bs ws w1 = mm_sets (x :: ws) ((mm_ix bs).map (fun i => i + 1)) w1
    rw [mm_setsS, mm_ixA bs ws w1 (by simpa using h) (by simpa [mm_ix] using h2)]
theorem mm_ixB : ∀ (bs : List Bool) (ws : va_W), bs.length = ws.length → (mm_ix bs).map (fun i => ws[i]?) = (mm_pick bs ws).map some
  | [], [], _ => rfl
  | [], _ :: _, h => by simp at h
  | _ :: _, [], h => by simp at h
  | true :: bs, x :: ws, h => by
    have ih := mm_ixB bs ws (by simpa using h)
    show (x :: ws)[0]? :: ((mm_ix bs).map (fun i => i + 1)).map (fun i => (x :: ws)[i]?) = some x :: (mm_pick bs ws).map some
    rw [List.map_map, ← ih]
    rfl
  | false :: bs, x :: ws, h => by
    have ih := mm_ixB bs ws (by simpa using h)
    show ((mm_ix bs).map (fun i => i + 1)).map (fun i => (x :: ws)[i]?) = (mm_pick bs ws).map some
    rw [List.map_map, ← ih]
    rfl
theorem mm_ixC : ∀ (bs : List Bool), (mm_ix bs).Nodup
  | [] => List.nodup_nil
  | true :: bs => by
    refine List.nodup_cons.mpr ⟨fun h => ?_, List.Pairwise.map _ (fun a b h e => h (by omega)) (mm_ixC bs)⟩
    obtain ⟨i, -, hi⟩ := List.mem_map.mp h
    omega
  | false :: bs => List.Pairwise.map _ (fun a b h e => h (by omega)) (mm_ixC bs)
theorem mm_ndk : ∀ (l : List Nat), l.Nodup → va_nd l = true := by
  intro l
  induction l with
  | nil => intro _; rfl
  | cons a l ih =>
    intro h
    have h1 := List.nodup_cons.mp h
    simp [va_nd, h1.1, ih h1.2]
/-- the cells of a contract in another order -/
theorem mm_permA {w v : va_W} (h : w.Perm v) (sz : Nat) : va_A w sz = va_A v sz := by
  funext q
  apply propext
  have key : ∀ {w v : va_W}, w.Perm v → va_A w sz q → va_A v sz q := fun h z => z.elim (fun ⟨k, e, hk⟩ => by
    obtain ⟨j, hj⟩ := List.getElem?_of_mem (h.mem_iff.mp (List.mem_of_getElem? hk))
    exact Or.inl ⟨j, e, hj⟩) Or.inr
  exact ⟨key h, key h.symm⟩
theorem mm_permP {w v : va_W} {H : Heap} (h : w.Perm v) (hP : va_P D mm_cl w H) : va_P D mm_cl v H := fun k q hk => by
  obtain ⟨j, hj⟩ := List.getElem?_of_mem (h.symm.mem_iff.mp (List.mem_of_getElem? hk))
  exact hP j q hj
theorem mm_dmap {w : va_W} {A : Nat → Prop} : va_D A w ↔ (w.map (fun q => q.1)).Nodup ∧ ∀ q ∈ w, A q.1 := by
  constructor
  · intro h
    refine ⟨List.pairwise_iff_getElem.mpr (fun i j hi hj hij e => ?_), fun q hq => ?_⟩
    · rw [List.length_map] at hi hj
      rw [List.getElem_map, List.getElem_map] at e
      have := h.1 i j _ _ (List.getElem?_eq_getElem hi) (List.getElem?_eq_getElem hj) e
      omega
    · obtain ⟨k, hk⟩ := List.getElem?_of_mem hq
      exact h.2 k q hk
  · intro ⟨h1, h2⟩
    refine ⟨fun i j p q hp hq e => ?_, fun k q hk => h2 q (List.mem_of_getElem? hk)⟩
    have hi := (List.getElem?_eq_some_iff.mp hp).1
    have hj := (List.getElem?_eq_some_iff.mp hq).1
    have e1 : (w.map (fun q => q.1))[i]'(by rw [List.length_map]; exact hi) = (w.map (fun q => q.1))[j]'(by rw [List.length_map]; exact hj) := by
      rw [List.getElem_map, List.getElem_map, (List.getElem?_eq_some_iff.mp hp).2, (List.getElem?_eq_some_iff.mp hq).2]
      exact e
    have hp2 := List.pairwise_iff_getElem.mp h1
    rcases Nat.lt_trichotomy i j with z | z | z
    · exact absurd e1 (hp2 i j (by rw [List.length_map]; exact hi) (by rw [List.length_map]; exact hj) z)
    · exact z
    · exact absurd e1.symm (hp2 j i (by rw [List.length_map]; exact hj) (by rw [List.length_map]; exact hi) z)
theorem mm_permD {w v : va_W} {A : Nat → Prop} (h : w.Perm v) (hD : va_D A w) : va_D A v := by
  rw [mm_dmap] at hD ⊢
  exact ⟨(h.map _).nodup_iff.mp hD.1, fun q hq => hD.2 q (h.symm.mem_iff.mp hq)⟩
theorem mm_Ct.perm {l : Launch} {y : MethodName} {cc : ByteArray} {nL d : Nat} {ret : Option FieldType} {tys : List (ClassId × FieldType)} {av : List Value} {w w' v v' : va_W} {r : Option Value} (h : w.Perm v) (h' : w'.Perm v') (ct : mm_Ct l y cc nL ret d D tys av w w' r) : mm_Ct l y cc nL ret d D tys av v v' r := by
  intro sz
  rw [← mm_permA h sz]
  have e1 : (va_Pc av (fun U => U.heap.size = sz ∧ va_P D mm_cl v U.heap ∧ va_K D mm_cl tys U ∧ va_D (fun _ => True) v ∧ mm_St (va_A w sz) U U.heap)) = (va_Pc av (fun U => U.heap.size = sz ∧ va_P D mm_cl w U.heap ∧ va_K D mm_cl tys U ∧ va_D (fun _ => True) w ∧ mm_St (va_A w sz) U U.heap)) := by
    funext a U
    apply propext
    exact ⟨fun ⟨a1, a2, a3, a4, a5, a6⟩ => ⟨a1, a2, mm_permP h.symm a3, a4, mm_permD h.symm a5, a6⟩, fun ⟨a1, a2, a3, a4, a5, a6⟩ => ⟨a1, a2, mm_permP h a3, a4, mm_permD h a5, a6⟩⟩
  have e2 : mm_Q r D v' (va_A w sz) = mm_Q r D w' (va_A w sz) := by
    funext a st oc t
    apply propext
    exact ⟨fun ⟨⟨a1, a2, a3⟩, a4⟩ => ⟨⟨a1, mm_permP h'.symm a2, mm_permD h'.symm a3⟩, a4⟩, fun ⟨⟨a1, a2, a3⟩, a4⟩ => ⟨⟨a1, mm_permP h' a2, mm_permD h' a3⟩, a4⟩⟩
  rw [e1, e2]
  exact ct sz
theorem mm_p2 (a b : va_W) : (a ++ b).Perm (b ++ a) := List.perm_append_comm
theorem mm_p3 (a b c : va_W) : (a ++ b ++ c).Perm (b ++ c ++ a) := by
  rw [List.append_assoc]
  exact List.perm_append_comm
/-- invokevirtual, a world cut out by a mask -/
theorem mm_callW {d d' index maxL n b ci q0 N : Nat} {T : u_T} {fs As : List Value} {y : MethodName} {bytes : ByteArray} {rt : Option FieldType} {wc w1 w2 : va_W} {r : Option Value} (C0 : mm_Cx p s m args meth c own cc nL ret D tys A) (L : mm_LV own index y bytes maxL rt n) (ct : mm_Ct l y bytes maxL rt d' D tys (.ref b :: As) wc w1 r) (hd : d' + 1 ≤ d) (hn : As.length = n) (hl : ls.size = nL) (hst : st0 = As.reverse ++ .ref b :: rest) (hW : (rest.map fun v => v.category).sum ≤ 8) (hdg : decode cc pc = .ok (.invokevirtual index, 3))
    (hP : va_P D mm_cl ws H) (hD : va_D A ws) (hA : ∀ q, s.heap.size ≤ q → A q) (hS : va_S A s.heap H locs) (he : ws[q0]? = some (b, .inr (ci, fs))) (hc : mm_cl[ci]? = some (y.cls, T, N)) (mask : List Bool) (hml : mask.length = ws.length) (hC : mm_pick mask ws = wc) (hlen : w1.length = wc.length) (h2 : mm_merge mask ws w1 = w2)
    (kk : ∀ (H1 : Heap) (locs1 : List Loc), va_P D mm_cl w2 H1 → va_D A w2 → va_S A s.heap H1 locs1 → W p l e (mm_rr d) s m args below meth c H1 locs1 0 0 Q (F0 m (pc + 3) ls (r.toList ++ rest))) : W p l e (mm_rr d) s m args below meth c H locs 0 0 Q (F0 m pc ls st0) := by
  obtain ⟨hx, hb, hml', hown, hts, hr, hlocks, hK, hSt⟩ := C0
  obtain ⟨⟨l1, l2, l3, l4, l5⟩, hdd, hm⟩ := L
  subst hst
  have hC2 := mm_ixB mask ws hml
  rw [hC] at hC2
  have hl2 : w1.length = (mm_ix mask).length := by
    have := congrArg List.length hC2
    rw [List.length_map, List.length_map] at this
    rw [hlen, this]
  rw [mm_ixA mask ws w1 hml hl2] at h2
  have hnd := mm_ndk _ (mm_ixC mask)
  exact mm_afterX (va_runV (As := As) (rest := rest) (b := b) ⟨hx, hb, hml', hown, hts⟩ (ct H.size) ⟨callB_of n hts (mm_GI l5) rfl rfl rfl (hts _ l4) (hts _ l1) hdd (mm_room hd hm), hts _ l2, hts _ l3⟩ ⟨mm_blind, va_recv hK hP hc he, mm_pre hK hSt hS hA hP hD (mm_ix mask) hnd hC2⟩ rfl hn hl rfl (lv_room hW) hdg ⟨Nat.zero_le _, Nat.zero_le _⟩) hP hD hA hS (mm_ix mask) hC2 hl2.symm h2 kk
/-- invokestatic, the same -/
theorem mm_callT {d d' index maxL n : Nat} {As : List Value} {y : MethodName} {bytes : ByteArray} {rt : Option FieldType} {wc w1 w2 : va_W} {r : Option Value} (C0 : mm_Cx p s m args meth c own cc nL ret D tys A) (L : mm_LS own index y bytes maxL rt n) (ct : mm_Ct l y bytes maxL rt d' D tys As wc w1 r) (hd : d' + 1 ≤ d) (hn : As.length = n) (hl : ls.size = nL) (hst : st0 = As.reverse ++ rest) (hW : (rest.map fun v => v.category).sum ≤ 8) (hdg : decode cc pc = .ok (.invokestatic index, 3))
    (hP : va_P D mm_cl ws H) (hD : va_D A ws) (hA : ∀ q, s.heap.size ≤ q → A q) (hS : va_S A s.heap H locs) (mask : List Bool) (hml : mask.length = ws.length) (hC : mm_pick mask ws = wc) (hlen : w1.length = wc.length) (h2 : mm_merge mask ws w1 = w2)
    (kk : ∀ (H1 : Heap) (locs1 : List Loc), va_P D mm_cl w2 H1 → va_D A w2 → va_S A s.heap H1 locs1 → W p l e (mm_rr d) s m args below meth c H1 locs1 0 0 Q (F0 m (pc + 3) ls (r.toList ++ rest))) : W p l e (mm_rr d) s m args below meth c H locs 0 0 Q (F0 m pc ls st0) := by
  obtain ⟨hx, hb, hml', hown, hts, hr, hlocks, hK, hSt⟩ := C0
  obtain ⟨⟨l1, l2, l4, l5⟩, hdd, hm⟩ := L
  subst hst
  have hC2 := mm_ixB mask ws hml
  rw [hC] at hC2
  have hl2 : w1.length = (mm_ix mask).length := by
    have := congrArg List.length hC2
    rw [List.length_map, List.length_map] at this
    rw [hlen, this]
  rw [mm_ixA mask ws w1 hml hl2] at h2
  have hnd := mm_ndk _ (mm_ixC mask)
  exact mm_afterX (va_runS (As := As) (rest := rest) ⟨hx, hb, hml', hown, hts⟩ (ct H.size) ⟨callB_of n hts (mm_GI l5) rfl rfl rfl (hts _ l4) (hts _ l1) hdd (mm_room hd hm), hts _ l2⟩ ⟨mm_blind, mm_pre hK hSt hS hA hP hD (mm_ix mask) hnd hC2⟩ rfl hn hl rfl (lv_room hW) hdg ⟨Nat.zero_le _, Nat.zero_le _⟩) hP hD hA hS (mm_ix mask) hC2 hl2.symm h2 kk
theorem mm_mroom {d : Nat} {st : List Value} (hd : 1 ≤ d) (hW : (st.map fun v => v.category).sum ≤ 8) : (st.map fun v => v.category).sum + 13 ≤ (mm_rr d).locals := by
  show _ ≤ 64 * d
  omega
def mm_LM (own : String) (index : Nat) (y : MethodName) (bytes : ByteArray) (maxL : Nat) : Prop := Cond.methodLink own index y ∈ mm_tbl ∧ Cond.static y ∈ mm_tbl ∧ Cond.initialized "java/lang/Math" ∈ mm_tbl ∧ Cond.code y bytes maxL (some .int) ∈ mm_tbl
def mm_max (x y : Int32) : Int32 := if x < y then y else x
def mm_min (x y : Int32) : Int32 := if y < x then y else x
def mm_abs (x : Int32) : Int32 := if 0 ≤ x then x else 0 - x
theorem mm_mmax {d index : Nat} {x y : Int32} (C0 : mm_Cx p s m args meth c own cc nL ret D tys A) (L : mm_LM own index Lib.Math.max.name Lib.Math.max.code 2) (hd : 1 ≤ d) (hl : ls.size = nL) (hW : (rest.map fun v => v.category).sum ≤ 8) (hdg : decode cc pc = .ok (.invokestatic index, 3))
    (kk : W p l e (mm_rr d) s m args below meth c H locs 0 0 Q (F0 m (pc + 3) ls (.int (mm_max x y) :: rest))) : W p l e (mm_rr d) s m args below meth c H locs 0 0 Q (F0 m pc ls (.int y :: .int x :: rest)) := by
  obtain ⟨hx, hb, hml, hown, hts, hr, hlocks, hK, hSt⟩ := C0
  obtain ⟨l1, l2, l3, l4⟩ := L
  exact va_mmax hx hb (hml.trans hl.symm) hown (hts _ l1) (hts _ l2) (hts _ l3) (hts _ l4) hd (mm_mroom hd hW) (Nat.zero_le _) (Nat.zero_le _) hdg kk
theorem mm_mmin {d index : Nat} {x y : Int32} (C0 : mm_Cx p s m args meth c own cc nL ret D tys A) (L : mm_LM own index Lib.Math.min.name Lib.Math.min.code 2) (hd : 1 ≤ d) (hl : ls.size = nL) (hW : (rest.map fun v => v.category).sum ≤ 8) (hdg : decode cc pc = .ok (.invokestatic index, 3))
    (kk : W p l e (mm_rr d) s m args below meth c H locs 0 0 Q (F0 m (pc + 3) ls (.int (mm_min x y) :: rest))) : W p l e (mm_rr d) s m args below meth c H locs 0 0 Q (F0 m pc ls (.int y :: .int x :: rest)) := by
  obtain ⟨hx, hb, hml, hown, hts, hr, hlocks, hK, hSt⟩ := C0
  obtain ⟨l1, l2, l3, l4⟩ := L
  exact va_mmin hx hb (hml.trans hl.symm) hown (hts _ l1) (hts _ l2) (hts _ l3) (hts _ l4) hd (mm_mroom hd hW) (Nat.zero_le _) (Nat.zero_le _) hdg kk
theorem mm_mabs {d index : Nat} {x : Int32} (C0 : mm_Cx p s m args meth c own cc nL ret D tys A) (L : mm_LM own index Lib.Math.abs.name Lib.Math.abs.code 1) (hd : 1 ≤ d) (hl : ls.size = nL) (hW : (rest.map fun v => v.category).sum ≤ 8) (hdg : decode cc pc = .ok (.invokestatic index, 3))
    (kk : W p l e (mm_rr d) s m args below meth c H locs 0 0 Q (F0 m (pc + 3) ls (.int (mm_abs x) :: rest))) : W p l e (mm_rr d) s m args below meth c H locs 0 0 Q (F0 m pc ls (.int x :: rest)) := by
  obtain ⟨hx, hb, hml, hown, hts, hr, hlocks, hK, hSt⟩ := C0
  obtain ⟨l1, l2, l3, l4⟩ := L
  exact va_mabs hx hb (hml.trans hl.symm) hown (hts _ l1) (hts _ l2) (hts _ l3) (hts _ l4) hd (mm_mroom hd hW) (Nat.zero_le _) (Nat.zero_le _) hdg kk
def mm_LN (own : String) (index : Nat) (y : MethodName) (bytes : ByteArray) (maxL : Nat) (ret : Option FieldType) (n : Nat) : Prop :=
  ((own, index, y, RX8) ∈ mm_nest ∧ Cond.static y ∈ mm_tbl ∧ Cond.initialized y.cls ∈ mm_tbl ∧ Cond.code y bytes maxL ret ∈ mm_tbl) ∧ (y.cls ≠ "java/lang/invoke/MethodHandle" ∧ y.cls ≠ "java/lang/invoke/VarHandle" ∧ (parseMethodDescriptor y.desc).map (fun d => d.parameters.length) = some n) ∧ maxL ≤ 45
/-- a static method of a nest mate, without a world -/
theorem mm_callS0N {d d' index maxL n : Nat} {As : List Value} {y : MethodName} {bytes : ByteArray} {rt : Option FieldType} {r : Option Value} (C0 : mm_Cx p s m args meth c own cc nL ret D tys A) (L : mm_LN own index y bytes maxL rt n) (ct : mm_Ct l y bytes maxL rt d' D tys As [] [] r) (hd : d' + 1 ≤ d) (hn : As.length = n) (hl : ls.size = nL) (hst : st0 = As.reverse ++ rest) (hW : (rest.map fun v => v.category).sum ≤ 8) (hdg : decode cc pc = .ok (.invokestatic index, 3))
    (hP : va_P D mm_cl ws H) (hD : va_D A ws) (hA : ∀ q, s.heap.size ≤ q → A q) (hS : va_S A s.heap H locs)
    (kk : ∀ (H1 : Heap) (locs1 : List Loc), va_P D mm_cl ws H1 → va_S A s.heap H1 locs1 → W p l e (mm_rr d) s m args below meth c H1 locs1 0 0 Q (F0 m (pc + 3) ls (r.toList ++ rest))) : W p l e (mm_rr d) s m args below meth c H locs 0 0 Q (F0 m pc ls st0) := by
  obtain ⟨hx, hb, hml, hown, hts, hr, hlocks, hK, hSt⟩ := C0
  obtain ⟨⟨l1, l2, l4, l5⟩, hdd, hm⟩ := L
  subst hst
  have hF : ∀ q, va_A [] H.size q → A q := fun q h => h.elim (fun ⟨k, z, hz⟩ => by simp at hz) (fun h => hA q (Nat.le_trans hS.1 h))
  have hr := va_runSN (host := RX8) (p := p) (e := e) (below := below) (meth := meth) (locs := locs) (cells := 0) (slots := 0) (R := mm_rr d) (g := F0 m pc ls (As.reverse ++ rest)) (As := As) (rest := rest) ⟨hx, hb, hml, hown, hts⟩ (ct H.size) ⟨va_cnB n hts (mm_GI l5) rfl rfl rfl (hSt.2.2.2 _ l1) (hts _ l4) hdd (mm_room hd hm), hts _ l2, trivial⟩ ⟨mm_blind, fun U hU hW => ⟨rfl, by rw [hU], fun k q h => by simp at h, va_K.moved hW.alike hK, ⟨fun i j p q h => by simp at h, fun k q h => by simp at h⟩, by rw [hU]; exact hSt.move hS.2.1 hW hF⟩⟩ rfl hn hl rfl (lv_room hW) hdg ⟨Nat.zero_le _, Nat.zero_le _⟩
  intro T hT X
  obtain ⟨v, st₀, t, T', L, h0, X', hL, e1, e2, ⟨⟨hv, hP1, hD1⟩, hz, hk⟩, st⟩ := hr T hT X
  cases hv
  rw [h0] at hz hk
  rw [← e1] at hz hk
  have ho : ∀ q : Nat, q < H.size → ¬ va_A [] H.size q := fun q h z => z.elim (fun ⟨k, z, hz⟩ => by simp at hz) (fun z => absurd h (Nat.not_lt.mpr z))
  obtain ⟨t2, a1, b1⟩ := kk T'.heap (locs ++ L) (hP.kept (fun k q h => hk q.1 (hP k q h).lt (ho _ (hP k q h).lt)))
    ⟨Nat.le_trans hS.1 hz, fun q h1 h2 => by rw [hk q (Nat.lt_of_lt_of_le h1 hS.1) (ho q (Nat.lt_of_lt_of_le h1 hS.1))]; exact hS.2.1 q h1 h2, fun q hq => by
      rcases List.mem_append.mp hq with h | h
      · exact hS.2.2 q h
      · exact hF _ (hL q h)⟩ T' rfl X'
  exact ⟨t2, st t2 a1, b1⟩
end Calls
