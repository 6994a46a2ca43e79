/-! crosses, bends: the same crossings, the same bends -/
theorem rg_all4 (f : Int32 → Int32 → Int32 → Int32 → Bool) (n : Nat) (h : ((List.range n).all (fun i => (List.range n).all (fun j => (List.range n).all (fun k => (List.range n).all (fun l => f (Int32.ofNat i) (Int32.ofNat j) (Int32.ofNat k) (Int32.ofNat l)))))) = true) (a b c d : Int32) (a0 : 0 ≤ a.toInt) (a1 : a.toInt < n) (b0 : 0 ≤ b.toInt) (b1 : b.toInt < n) (c0 : 0 ≤ c.toInt) (c1 : c.toInt < n) (d0 : 0 ≤ d.toInt) (d1 : d.toInt < n) : f a b c d = true :=
  rg_all2 (fun c d => f a b c d) n n (rg_all2 (fun a b => (List.range n).all (fun k => (List.range n).all (fun l => f a b (Int32.ofNat k) (Int32.ofNat l)))) n n h a b a0 a1 b0 b1) c d c0 c1 d0 d1
def sb_w8 (a b x : Int32) : Option Bool := if x ≤ mm_min a b then some false else (if mm_max a b ≤ x then some false else some true)
def sb_c8 (a b c d : Int32) : Option Bool := mm_bd1 (sb_w8 a b c) (fun r => mm_bd1 (sb_w8 a b d) (fun s => if mm_b r = mm_b s then some false else some true))
def sb_w9 (x y z : Int32) : Option Bool := if z ≤ y then (if x ≤ z then some false else (if y ≤ x then some false else some true)) else (if x ≤ y then some false else (if z ≤ x then some false else some true))
def sb_c9 (a b c d : Int32) : Option Bool := mm_bd1 (sb_w9 c a b) (fun r => mm_bd1 (sb_w9 d a b) (fun s => if mm_b r = mm_b s then some false else mm_bd1 (sb_w9 a c d) (fun t => mm_bd1 (sb_w9 b c d) (fun u => if mm_b t = mm_b u then some false else some true))))
set_option maxHeartbeats 8000000 in
set_option maxRecDepth 100000 in
theorem sb_x4 : ((List.range 7).all (fun i => (List.range 7).all (fun j => (List.range 7).all (fun k => (List.range 7).all (fun l => (decide (i = j) || decide (i = k) || decide (i = l) || decide (j = k) || decide (j = l) || decide (k = l)) || mm_sameN (sb_c8 (Int32.ofNat i) (Int32.ofNat j) (Int32.ofNat k) (Int32.ofNat l)) (sb_c9 (Int32.ofNat i) (Int32.ofNat j) (Int32.ofNat k) (Int32.ofNat l))))))) = true := by decide +kernel
theorem sb_nat (a : Int32) (h0 : 0 ≤ a.toInt) (h1 : a.toInt < 7) : ∃ i : Nat, i < 7 ∧ a = Int32.ofNat i := by
  obtain ⟨i, hi⟩ : ∃ i : Nat, a.toInt = i := ⟨a.toInt.toNat, by omega⟩
  have h : i < 7 := by omega
  exact ⟨i, h, sb_of a i h hi⟩
theorem sb_x (a b c d : Int32) (a0 : 0 ≤ a.toInt) (a1 : a.toInt < 7) (b0 : 0 ≤ b.toInt) (b1 : b.toInt < 7) (c0 : 0 ≤ c.toInt) (c1 : c.toInt < 7) (d0 : 0 ≤ d.toInt) (d1 : d.toInt < 7) (n1 : a ≠ b) (n2 : a ≠ c) (n3 : a ≠ d) (n4 : b ≠ c) (n5 : b ≠ d) (n6 : c ≠ d) : ∃ r : Bool, sb_c8 a b c d = some r ∧ sb_c9 a b c d = some r := by
  obtain ⟨i, hi, ei⟩ := sb_nat a a0 a1
  obtain ⟨j, hj, ej⟩ := sb_nat b b0 b1
  obtain ⟨k, hk, ek⟩ := sb_nat c c0 c1
  obtain ⟨l, hl, el⟩ := sb_nat d d0 d1
  have h := List.all_eq_true.mp (List.all_eq_true.mp (List.all_eq_true.mp (List.all_eq_true.mp sb_x4 i (List.mem_range.mpr hi)) j (List.mem_range.mpr hj)) k (List.mem_range.mpr hk)) l (List.mem_range.mpr hl)
  rw [decide_eq_false (fun c => n1 (by rw [ei, ej, c])), decide_eq_false (fun c => n2 (by rw [ei, ek, c])), decide_eq_false (fun c => n3 (by rw [ei, el, c])), decide_eq_false (fun c => n4 (by rw [ej, ek, c])), decide_eq_false (fun c => n5 (by rw [ej, el, c])), decide_eq_false (fun c => n6 (by rw [ek, el, c]))] at h
  rw [ei, ej, ek, el]
  exact mm_sameNs h
theorem sb_l7 (l : List Int32) (h : l.length = 7) : ∃ a0 a1 a2 a3 a4 a5 a6, l = [a0, a1, a2, a3, a4, a5, a6] := by
  match l, h with
  | [a0, a1, a2, a3, a4, a5, a6], _ => exact ⟨a0, a1, a2, a3, a4, a5, a6, rfl⟩
/-- what a laid order has -/
theorem sb_done (n : Nat) (hn : n ≤ 7) (l p : List Int32) (m : Nat) (R : sb_R n 0 l p m) : (∀ f, f < n → 0 ≤ (l.getD f 0).toInt ∧ (l.getD f 0).toInt < 7 ∧ p.getD f 0 = l.getD f 0) ∧ (∀ f g, f < n → g < n → f ≠ g → l.getD f 0 ≠ l.getD g 0) := by
  obtain ⟨a1, a2, a3, a4, a5, a6, a7⟩ := R
  have b := sb_g4 n m hn a3 a5 a4
  refine ⟨fun f hf => ?_, fun f g hf hg hfg => a7 f g hf hg hfg (b f hf) (b g hg)⟩
  rcases a6 f hf with c | c
  · rw [b f hf] at c; cases c.1
  · clear a5 a1 a2
    obtain ⟨c1, c2, c3, c4⟩ := c
    exact ⟨by omega, by omega, c4⟩
theorem sb_init (n : Nat) (hn : n ≤ 7) : sb_R n n (List.replicate 7 (-1)) (mm_zs 7) 0 := by
  refine ⟨rfl, rfl, by decide, ?_, ?_, ?_, ?_⟩
  · intro e _ _
    unfold sb_nb
    rw [Nat.zero_div]; rfl
  · unfold sb_C
    have : sb_ct 0 = 0 := by decide
    rw [this, Nat.zero_add]
  · intro f hf
    refine .inl ⟨by unfold sb_nb; rw [Nat.zero_div]; rfl, ?_⟩
    have : f = 0 ∨ f = 1 ∨ f = 2 ∨ f = 3 ∨ f = 4 ∨ f = 5 ∨ f = 6 := by omega
    rcases this with e | e | e | e | e | e | e <;> subst e <;> decide
  · intro f g _ _ _ bf _
    unfold sb_nb at bf
    rw [Nat.zero_div] at bf
    cases bf
theorem sb_fill : fJ7_fill_53178 700 (-1) (mm_zs 7) = some (List.replicate 7 (-1)) := rfl
set_option maxHeartbeats 8000000 in
set_option maxRecDepth 100000 in
theorem sb_fc2 (a0 a1 a2 a3 a4 a5 a6 p2 p3 p4 p5 p6 : Int32) (h0 : 0 ≤ a0.toInt) (k0 : a0.toInt < 7) (h1 : 0 ≤ a1.toInt) (k1 : a1.toInt < 7) (n01 : a0 ≠ a1) : (fX7_firstCross 700 2 [a0, a1, a2, a3, a4, a5, a6] = some (-1) ∧ fX9_firstCross 700 2 [a0, a1, p2, p3, p4, p5, p6] = some (-2)) ∨ (∃ q : Int32, 0 ≤ q ∧ fX7_firstCross 700 2 [a0, a1, a2, a3, a4, a5, a6] = some q ∧ fX9_firstCross 700 2 [a0, a1, p2, p3, p4, p5, p6] = some q) := by
  have e8 : fX7_firstCross 700 2 [a0, a1, a2, a3, a4, a5, a6] = some (-1) := rfl
  have e9 : fX9_firstCross 700 2 [a0, a1, p2, p3, p4, p5, p6] = some (-2) := rfl
  rw [e8, e9]
  exact .inl ⟨rfl, rfl⟩
set_option maxHeartbeats 8000000 in
set_option maxRecDepth 100000 in
theorem sb_fc3 (a0 a1 a2 a3 a4 a5 a6 p3 p4 p5 p6 : Int32) (h0 : 0 ≤ a0.toInt) (k0 : a0.toInt < 7) (h1 : 0 ≤ a1.toInt) (k1 : a1.toInt < 7) (h2 : 0 ≤ a2.toInt) (k2 : a2.toInt < 7) (n01 : a0 ≠ a1) (n02 : a0 ≠ a2) (n12 : a1 ≠ a2) : (fX7_firstCross 700 3 [a0, a1, a2, a3, a4, a5, a6] = some (-1) ∧ fX9_firstCross 700 3 [a0, a1, a2, p3, p4, p5, p6] = some (-2)) ∨ (∃ q : Int32, 0 ≤ q ∧ fX7_firstCross 700 3 [a0, a1, a2, a3, a4, a5, a6] = some q ∧ fX9_firstCross 700 3 [a0, a1, a2, p3, p4, p5, p6] = some q) := by
  have e8 : fX7_firstCross 700 3 [a0, a1, a2, a3, a4, a5, a6] = some (-1) := rfl
  have e9 : fX9_firstCross 700 3 [a0, a1, a2, p3, p4, p5, p6] = some (-2) := rfl
  rw [e8, e9]
  exact .inl ⟨rfl, rfl⟩
set_option maxHeartbeats 8000000 in
set_option maxRecDepth 100000 in
theorem sb_fc4 (a0 a1 a2 a3 a4 a5 a6 p4 p5 p6 : Int32) (h0 : 0 ≤ a0.toInt) (k0 : a0.toInt < 7) (h1 : 0 ≤ a1.toInt) (k1 : a1.toInt < 7) (h2 : 0 ≤ a2.toInt) (k2 : a2.toInt < 7) (h3 : 0 ≤ a3.toInt) (k3 : a3.toInt < 7) (n01 : a0 ≠ a1) (n02 : a0 ≠ a2) (n03 : a0 ≠ a3) (n12 : a1 ≠ a2) (n13 : a1 ≠ a3) (n23 : a2 ≠ a3) : (fX7_firstCross 700 4 [a0, a1, a2, a3, a4, a5, a6] = some (-1) ∧ fX9_firstCross 700 4 [a0, a1, a2, a3, p4, p5, p6] = some (-2)) ∨ (∃ q : Int32, 0 ≤ q ∧ fX7_firstCross 700 4 [a0, a1, a2, a3, a4, a5, a6] = some q ∧ fX9_firstCross 700 4 [a0, a1, a2, a3, p4, p5, p6] = some q) := by
  have e8 : fX7_firstCross 700 4 [a0, a1, a2, a3, a4, a5, a6] = mm_bd1 (fX7_crossing 700 0 2 [a0, a1, a2, a3, a4, a5, a6]) (fun r => if r = false then (some (-1)) else some 2) := rfl
  have e9 : fX9_firstCross 700 4 [a0, a1, a2, a3, p4, p5, p6] = mm_bd1 (fX9_areCrossed 700 0 2 [a0, a1, a2, a3, p4, p5, p6]) (fun r => if r = false then (some (-2)) else some 2) := rfl
  rw [e8, e9]
  obtain ⟨b02, u02, v02⟩ := sb_x a0 a1 a2 a3 h0 k0 h1 k1 h2 k2 h3 k3 n01 n02 n03 n12 n13 n23
  have x02 : fX7_crossing 700 0 2 [a0, a1, a2, a3, a4, a5, a6] = sb_c8 a0 a1 a2 a3 := rfl
  have z02 : fX9_areCrossed 700 0 2 [a0, a1, a2, a3, p4, p5, p6] = sb_c9 a0 a1 a2 a3 := rfl
  have u02' : fX7_crossing 700 0 2 [a0, a1, a2, a3, a4, a5, a6] = some b02 := x02.trans u02
  have v02' : fX9_areCrossed 700 0 2 [a0, a1, a2, a3, p4, p5, p6] = some b02 := z02.trans v02
  rw [u02', v02']
  cases b02 with
  | true => exact .inr ⟨2, by decide, rfl, rfl⟩
  | false =>
  exact .inl ⟨rfl, rfl⟩
set_option maxHeartbeats 8000000 in
set_option maxRecDepth 100000 in
theorem sb_fc5 (a0 a1 a2 a3 a4 a5 a6 p5 p6 : Int32) (h0 : 0 ≤ a0.toInt) (k0 : a0.toInt < 7) (h1 : 0 ≤ a1.toInt) (k1 : a1.toInt < 7) (h2 : 0 ≤ a2.toInt) (k2 : a2.toInt < 7) (h3 : 0 ≤ a3.toInt) (k3 : a3.toInt < 7) (h4 : 0 ≤ a4.toInt) (k4 : a4.toInt < 7) (n01 : a0 ≠ a1) (n02 : a0 ≠ a2) (n03 : a0 ≠ a3) (n04 : a0 ≠ a4) (n12 : a1 ≠ a2) (n13 : a1 ≠ a3) (n14 : a1 ≠ a4) (n23 : a2 ≠ a3) (n24 : a2 ≠ a4) (n34 : a3 ≠ a4) : (fX7_firstCross 700 5 [a0, a1, a2, a3, a4, a5, a6] = some (-1) ∧ fX9_firstCross 700 5 [a0, a1, a2, a3, a4, p5, p6] = some (-2)) ∨ (∃ q : Int32, 0 ≤ q ∧ fX7_firstCross 700 5 [a0, a1, a2, a3, a4, a5, a6] = some q ∧ fX9_firstCross 700 5 [a0, a1, a2, a3, a4, p5, p6] = some q) := by
  have e8 : fX7_firstCross 700 5 [a0, a1, a2, a3, a4, a5, a6] = mm_bd1 (fX7_crossing 700 0 2 [a0, a1, a2, a3, a4, a5, a6]) (fun r => if r = false then (mm_bd1 (fX7_crossing 700 1 3 [a0, a1, a2, a3, a4, a5, a6]) (fun r => if r = false then (some (-1)) else some 13)) else some 2) := rfl
  have e9 : fX9_firstCross 700 5 [a0, a1, a2, a3, a4, p5, p6] = mm_bd1 (fX9_areCrossed 700 0 2 [a0, a1, a2, a3, a4, p5, p6]) (fun r => if r = false then (mm_bd1 (fX9_areCrossed 700 1 3 [a0, a1, a2, a3, a4, p5, p6]) (fun r => if r = false then (some (-2)) else some 13)) else some 2) := rfl
  rw [e8, e9]
  obtain ⟨b02, u02, v02⟩ := sb_x a0 a1 a2 a3 h0 k0 h1 k1 h2 k2 h3 k3 n01 n02 n03 n12 n13 n23
  have x02 : fX7_crossing 700 0 2 [a0, a1, a2, a3, a4, a5, a6] = sb_c8 a0 a1 a2 a3 := rfl
  have z02 : fX9_areCrossed 700 0 2 [a0, a1, a2, a3, a4, p5, p6] = sb_c9 a0 a1 a2 a3 := rfl
  have u02' : fX7_crossing 700 0 2 [a0, a1, a2, a3, a4, a5, a6] = some b02 := x02.trans u02
  have v02' : fX9_areCrossed 700 0 2 [a0, a1, a2, a3, a4, p5, p6] = some b02 := z02.trans v02
  obtain ⟨b13, u13, v13⟩ := sb_x a1 a2 a3 a4 h1 k1 h2 k2 h3 k3 h4 k4 n12 n13 n14 n23 n24 n34
  have x13 : fX7_crossing 700 1 3 [a0, a1, a2, a3, a4, a5, a6] = sb_c8 a1 a2 a3 a4 := rfl
  have z13 : fX9_areCrossed 700 1 3 [a0, a1, a2, a3, a4, p5, p6] = sb_c9 a1 a2 a3 a4 := rfl
  have u13' : fX7_crossing 700 1 3 [a0, a1, a2, a3, a4, a5, a6] = some b13 := x13.trans u13
  have v13' : fX9_areCrossed 700 1 3 [a0, a1, a2, a3, a4, p5, p6] = some b13 := z13.trans v13
  rw [u02', u13', v02', v13']
  cases b02 with
  | true => exact .inr ⟨2, by decide, rfl, rfl⟩
  | false =>
  cases b13 with
  | true => exact .inr ⟨13, by decide, rfl, rfl⟩
  | false =>
  exact .inl ⟨rfl, rfl⟩
set_option maxHeartbeats 8000000 in
set_option maxRecDepth 100000 in
theorem sb_fc6 (a0 a1 a2 a3 a4 a5 a6 p6 : Int32) (h0 : 0 ≤ a0.toInt) (k0 : a0.toInt < 7) (h1 : 0 ≤ a1.toInt) (k1 : a1.toInt < 7) (h2 : 0 ≤ a2.toInt) (k2 : a2.toInt < 7) (h3 : 0 ≤ a3.toInt) (k3 : a3.toInt < 7) (h4 : 0 ≤ a4.toInt) (k4 : a4.toInt < 7) (h5 : 0 ≤ a5.toInt) (k5 : a5.toInt < 7) (n01 : a0 ≠ a1) (n02 : a0 ≠ a2) (n03 : a0 ≠ a3) (n04 : a0 ≠ a4) (n05 : a0 ≠ a5) (n12 : a1 ≠ a2) (n13 : a1 ≠ a3) (n14 : a1 ≠ a4) (n15 : a1 ≠ a5) (n23 : a2 ≠ a3) (n24 : a2 ≠ a4) (n25 : a2 ≠ a5) (n34 : a3 ≠ a4) (n35 : a3 ≠ a5) (n45 : a4 ≠ a5) : (fX7_firstCross 700 6 [a0, a1, a2, a3, a4, a5, a6] = some (-1) ∧ fX9_firstCross 700 6 [a0, a1, a2, a3, a4, a5, p6] = some (-2)) ∨ (∃ q : Int32, 0 ≤ q ∧ fX7_firstCross 700 6 [a0, a1, a2, a3, a4, a5, a6] = some q ∧ fX9_firstCross 700 6 [a0, a1, a2, a3, a4, a5, p6] = some q) := by
  have e8 : fX7_firstCross 700 6 [a0, a1, a2, a3, a4, a5, a6] = mm_bd1 (fX7_crossing 700 0 2 [a0, a1, a2, a3, a4, a5, a6]) (fun r => if r = false then (mm_bd1 (fX7_crossing 700 0 4 [a0, a1, a2, a3, a4, a5, a6]) (fun r => if r = false then (mm_bd1 (fX7_crossing 700 1 3 [a0, a1, a2, a3, a4, a5, a6]) (fun r => if r = false then (mm_bd1 (fX7_crossing 700 2 4 [a0, a1, a2, a3, a4, a5, a6]) (fun r => if r = false then (some (-1)) else some 24)) else some 13)) else some 4)) else some 2) := rfl
  have e9 : fX9_firstCross 700 6 [a0, a1, a2, a3, a4, a5, p6] = mm_bd1 (fX9_areCrossed 700 0 2 [a0, a1, a2, a3, a4, a5, p6]) (fun r => if r = false then (mm_bd1 (fX9_areCrossed 700 0 4 [a0, a1, a2, a3, a4, a5, p6]) (fun r => if r = false then (mm_bd1 (fX9_areCrossed 700 1 3 [a0, a1, a2, a3, a4, a5, p6]) (fun r => if r = false then (mm_bd1 (fX9_areCrossed 700 2 4 [a0, a1, a2, a3, a4, a5, p6]) (fun r => if r = false then (some (-2)) else some 24)) else some 13)) else some 4)) else some 2) := rfl
  rw [e8, e9]
  obtain ⟨b02, u02, v02⟩ := sb_x a0 a1 a2 a3 h0 k0 h1 k1 h2 k2 h3 k3 n01 n02 n03 n12 n13 n23
  have x02 : fX7_crossing 700 0 2 [a0, a1, a2, a3, a4, a5, a6] = sb_c8 a0 a1 a2 a3 := rfl
  have z02 : fX9_areCrossed 700 0 2 [a0, a1, a2, a3, a4, a5, p6] = sb_c9 a0 a1 a2 a3 := rfl
  have u02' : fX7_crossing 700 0 2 [a0, a1, a2, a3, a4, a5, a6] = some b02 := x02.trans u02
  have v02' : fX9_areCrossed 700 0 2 [a0, a1, a2, a3, a4, a5, p6] = some b02 := z02.trans v02
  obtain ⟨b04, u04, v04⟩ := sb_x a0 a1 a4 a5 h0 k0 h1 k1 h4 k4 h5 k5 n01 n04 n05 n14 n15 n45
  have x04 : fX7_crossing 700 0 4 [a0, a1, a2, a3, a4, a5, a6] = sb_c8 a0 a1 a4 a5 := rfl
  have z04 : fX9_areCrossed 700 0 4 [a0, a1, a2, a3, a4, a5, p6] = sb_c9 a0 a1 a4 a5 := rfl
  have u04' : fX7_crossing 700 0 4 [a0, a1, a2, a3, a4, a5, a6] = some b04 := x04.trans u04
  have v04' : fX9_areCrossed 700 0 4 [a0, a1, a2, a3, a4, a5, p6] = some b04 := z04.trans v04
  obtain ⟨b13, u13, v13⟩ := sb_x a1 a2 a3 a4 h1 k1 h2 k2 h3 k3 h4 k4 n12 n13 n14 n23 n24 n34
  have x13 : fX7_crossing 700 1 3 [a0, a1, a2, a3, a4, a5, a6] = sb_c8 a1 a2 a3 a4 := rfl
  have z13 : fX9_areCrossed 700 1 3 [a0, a1, a2, a3, a4, a5, p6] = sb_c9 a1 a2 a3 a4 := rfl
  have u13' : fX7_crossing 700 1 3 [a0, a1, a2, a3, a4, a5, a6] = some b13 := x13.trans u13
  have v13' : fX9_areCrossed 700 1 3 [a0, a1, a2, a3, a4, a5, p6] = some b13 := z13.trans v13
  obtain ⟨b24, u24, v24⟩ := sb_x a2 a3 a4 a5 h2 k2 h3 k3 h4 k4 h5 k5 n23 n24 n25 n34 n35 n45
  have x24 : fX7_crossing 700 2 4 [a0, a1, a2, a3, a4, a5, a6] = sb_c8 a2 a3 a4 a5 := rfl
  have z24 : fX9_areCrossed 700 2 4 [a0, a1, a2, a3, a4, a5, p6] = sb_c9 a2 a3 a4 a5 := rfl
  have u24' : fX7_crossing 700 2 4 [a0, a1, a2, a3, a4, a5, a6] = some b24 := x24.trans u24
  have v24' : fX9_areCrossed 700 2 4 [a0, a1, a2, a3, a4, a5, p6] = some b24 := z24.trans v24
  rw [u02', u04', u13', u24', v02', v04', v13', v24']
  cases b02 with
  | true => exact .inr ⟨2, by decide, rfl, rfl⟩
  | false =>
  cases b04 with
  | true => exact .inr ⟨4, by decide, rfl, rfl⟩
  | false =>
  cases b13 with
  | true => exact .inr ⟨13, by decide, rfl, rfl⟩
  | false =>
  cases b24 with
  | true => exact .inr ⟨24, by decide, rfl, rfl⟩
  | false =>
  exact .inl ⟨rfl, rfl⟩
set_option maxHeartbeats 8000000 in
set_option maxRecDepth 100000 in
theorem sb_fc7 (a0 a1 a2 a3 a4 a5 a6 : Int32) (h0 : 0 ≤ a0.toInt) (k0 : a0.toInt < 7) (h1 : 0 ≤ a1.toInt) (k1 : a1.toInt < 7) (h2 : 0 ≤ a2.toInt) (k2 : a2.toInt < 7) (h3 : 0 ≤ a3.toInt) (k3 : a3.toInt < 7) (h4 : 0 ≤ a4.toInt) (k4 : a4.toInt < 7) (h5 : 0 ≤ a5.toInt) (k5 : a5.toInt < 7) (h6 : 0 ≤ a6.toInt) (k6 : a6.toInt < 7) (n01 : a0 ≠ a1) (n02 : a0 ≠ a2) (n03 : a0 ≠ a3) (n04 : a0 ≠ a4) (n05 : a0 ≠ a5) (n06 : a0 ≠ a6) (n12 : a1 ≠ a2) (n13 : a1 ≠ a3) (n14 : a1 ≠ a4) (n15 : a1 ≠ a5) (n16 : a1 ≠ a6) (n23 : a2 ≠ a3) (n24 : a2 ≠ a4) (n25 : a2 ≠ a5) (n26 : a2 ≠ a6) (n34 : a3 ≠ a4) (n35 : a3 ≠ a5) (n36 : a3 ≠ a6) (n45 : a4 ≠ a5) (n46 : a4 ≠ a6) (n56 : a5 ≠ a6) : (fX7_firstCross 700 7 [a0, a1, a2, a3, a4, a5, a6] = some (-1) ∧ fX9_firstCross 700 7 [a0, a1, a2, a3, a4, a5, a6] = some (-2)) ∨ (∃ q : Int32, 0 ≤ q ∧ fX7_firstCross 700 7 [a0, a1, a2, a3, a4, a5, a6] = some q ∧ fX9_firstCross 700 7 [a0, a1, a2, a3, a4, a5, a6] = some q) := by
  have e8 : fX7_firstCross 700 7 [a0, a1, a2, a3, a4, a5, a6] = mm_bd1 (fX7_crossing 700 0 2 [a0, a1, a2, a3, a4, a5, a6]) (fun r => if r = false then (mm_bd1 (fX7_crossing 700 0 4 [a0, a1, a2, a3, a4, a5, a6]) (fun r => if r = false then (mm_bd1 (fX7_crossing 700 1 3 [a0, a1, a2, a3, a4, a5, a6]) (fun r => if r = false then (mm_bd1 (fX7_crossing 700 1 5 [a0, a1, a2, a3, a4, a5, a6]) (fun r => if r = false then (mm_bd1 (fX7_crossing 700 2 4 [a0, a1, a2, a3, a4, a5, a6]) (fun r => if r = false then (mm_bd1 (fX7_crossing 700 3 5 [a0, a1, a2, a3, a4, a5, a6]) (fun r => if r = false then (some (-1)) else some 35)) else some 24)) else some 15)) else some 13)) else some 4)) else some 2) := rfl
  have e9 : fX9_firstCross 700 7 [a0, a1, a2, a3, a4, a5, a6] = mm_bd1 (fX9_areCrossed 700 0 2 [a0, a1, a2, a3, a4, a5, a6]) (fun r => if r = false then (mm_bd1 (fX9_areCrossed 700 0 4 [a0, a1, a2, a3, a4, a5, a6]) (fun r => if r = false then (mm_bd1 (fX9_areCrossed 700 1 3 [a0, a1, a2, a3, a4, a5, a6]) (fun r => if r = false then (mm_bd1 (fX9_areCrossed 700 1 5 [a0, a1, a2, a3, a4, a5, a6]) (fun r => if r = false then (mm_bd1 (fX9_areCrossed 700 2 4 [a0, a1, a2, a3, a4, a5, a6]) (fun r => if r = false then (mm_bd1 (fX9_areCrossed 700 3 5 [a0, a1, a2, a3, a4, a5, a6]) (fun r => if r = false then (some (-2)) else some 35)) else some 24)) else some 15)) else some 13)) else some 4)) else some 2) := rfl
  rw [e8, e9]
  obtain ⟨b02, u02, v02⟩ := sb_x a0 a1 a2 a3 h0 k0 h1 k1 h2 k2 h3 k3 n01 n02 n03 n12 n13 n23
  have x02 : fX7_crossing 700 0 2 [a0, a1, a2, a3, a4, a5, a6] = sb_c8 a0 a1 a2 a3 := rfl
  have z02 : fX9_areCrossed 700 0 2 [a0, a1, a2, a3, a4, a5, a6] = sb_c9 a0 a1 a2 a3 := rfl
  have u02' : fX7_crossing 700 0 2 [a0, a1, a2, a3, a4, a5, a6] = some b02 := x02.trans u02
  have v02' : fX9_areCrossed 700 0 2 [a0, a1, a2, a3, a4, a5, a6] = some b02 := z02.trans v02
  obtain ⟨b04, u04, v04⟩ := sb_x a0 a1 a4 a5 h0 k0 h1 k1 h4 k4 h5 k5 n01 n04 n05 n14 n15 n45
  have x04 : fX7_crossing 700 0 4 [a0, a1, a2, a3, a4, a5, a6] = sb_c8 a0 a1 a4 a5 := rfl
  have z04 : fX9_areCrossed 700 0 4 [a0, a1, a2, a3, a4, a5, a6] = sb_c9 a0 a1 a4 a5 := rfl
  have u04' : fX7_crossing 700 0 4 [a0, a1, a2, a3, a4, a5, a6] = some b04 := x04.trans u04
  have v04' : fX9_areCrossed 700 0 4 [a0, a1, a2, a3, a4, a5, a6] = some b04 := z04.trans v04
  obtain ⟨b13, u13, v13⟩ := sb_x a1 a2 a3 a4 h1 k1 h2 k2 h3 k3 h4 k4 n12 n13 n14 n23 n24 n34
  have x13 : fX7_crossing 700 1 3 [a0, a1, a2, a3, a4, a5, a6] = sb_c8 a1 a2 a3 a4 := rfl
  have z13 : fX9_areCrossed 700 1 3 [a0, a1, a2, a3, a4, a5, a6] = sb_c9 a1 a2 a3 a4 := rfl
  have u13' : fX7_crossing 700 1 3 [a0, a1, a2, a3, a4, a5, a6] = some b13 := x13.trans u13
  have v13' : fX9_areCrossed 700 1 3 [a0, a1, a2, a3, a4, a5, a6] = some b13 := z13.trans v13
  obtain ⟨b15, u15, v15⟩ := sb_x a1 a2 a5 a6 h1 k1 h2 k2 h5 k5 h6 k6 n12 n15 n16 n25 n26 n56
  have x15 : fX7_crossing 700 1 5 [a0, a1, a2, a3, a4, a5, a6] = sb_c8 a1 a2 a5 a6 := rfl
  have z15 : fX9_areCrossed 700 1 5 [a0, a1, a2, a3, a4, a5, a6] = sb_c9 a1 a2 a5 a6 := rfl
  have u15' : fX7_crossing 700 1 5 [a0, a1, a2, a3, a4, a5, a6] = some b15 := x15.trans u15
  have v15' : fX9_areCrossed 700 1 5 [a0, a1, a2, a3, a4, a5, a6] = some b15 := z15.trans v15
  obtain ⟨b24, u24, v24⟩ := sb_x a2 a3 a4 a5 h2 k2 h3 k3 h4 k4 h5 k5 n23 n24 n25 n34 n35 n45
  have x24 : fX7_crossing 700 2 4 [a0, a1, a2, a3, a4, a5, a6] = sb_c8 a2 a3 a4 a5 := rfl
  have z24 : fX9_areCrossed 700 2 4 [a0, a1, a2, a3, a4, a5, a6] = sb_c9 a2 a3 a4 a5 := rfl
  have u24' : fX7_crossing 700 2 4 [a0, a1, a2, a3, a4, a5, a6] = some b24 := x24.trans u24
  have v24' : fX9_areCrossed 700 2 4 [a0, a1, a2, a3, a4, a5, a6] = some b24 := z24.trans v24
  obtain ⟨b35, u35, v35⟩ := sb_x a3 a4 a5 a6 h3 k3 h4 k4 h5 k5 h6 k6 n34 n35 n36 n45 n46 n56
  have x35 : fX7_crossing 700 3 5 [a0, a1, a2, a3, a4, a5, a6] = sb_c8 a3 a4 a5 a6 := rfl
  have z35 : fX9_areCrossed 700 3 5 [a0, a1, a2, a3, a4, a5, a6] = sb_c9 a3 a4 a5 a6 := rfl
  have u35' : fX7_crossing 700 3 5 [a0, a1, a2, a3, a4, a5, a6] = some b35 := x35.trans u35
  have v35' : fX9_areCrossed 700 3 5 [a0, a1, a2, a3, a4, a5, a6] = some b35 := z35.trans v35
  rw [u02', u04', u13', u15', u24', u35', v02', v04', v13', v15', v24', v35']
  cases b02 with
  | true => exact .inr ⟨2, by decide, rfl, rfl⟩
  | false =>
  cases b04 with
  | true => exact .inr ⟨4, by decide, rfl, rfl⟩
  | false =>
  cases b13 with
  | true => exact .inr ⟨13, by decide, rfl, rfl⟩
  | false =>
  cases b15 with
  | true => exact .inr ⟨15, by decide, rfl, rfl⟩
  | false =>
  cases b24 with
  | true => exact .inr ⟨24, by decide, rfl, rfl⟩
  | false =>
  cases b35 with
  | true => exact .inr ⟨35, by decide, rfl, rfl⟩
  | false =>
  exact .inl ⟨rfl, rfl⟩
theorem sq_ig (l p : List Int32) (n : Nat) (E : ∀ f, f < n → p.getD f 0 = l.getD f 0) (i : Int32) (h : i.toInt.toNat < n) : mm_ig p i = mm_ig l i := E _ h
theorem sq_p1 (i : Int32) (d : Nat) (h : i.toInt = d) (hd : d < 100) : (i + 1).toInt = (d + 1 : Nat) := by
  have t1 : (1 : Int32).toInt = 1 := by decide
  rw [Int32.toInt_add, h, t1, Int.bmod_eq_of_le (by omega) (by omega)]
  omega
theorem sq_m1 (i : Int32) (d : Nat) (h : i.toInt = d) (h0 : 0 < d) (hd : d < 100) : (i - 1).toInt = (d - 1 : Nat) := by
  have t1 : (1 : Int32).toInt = 1 := by decide
  rw [Int32.toInt_sub, h, t1, Int.bmod_eq_of_le (by omega) (by omega)]
  omega
set_option maxHeartbeats 4000000 in
theorem sb_bits (n : Nat) (hn : 2 ≤ n) (hn7 : n ≤ 7) (X : Int32) (hX : X.toInt = n) (l p : List Int32) (ll : l.length = 7) (lp : p.length = 7) (E : ∀ f, f < n → p.getD f 0 = l.getD f 0) : ∀ (d N1 N2 j : Nat) (i x : Int32), d < N1 → d < N2 → j + d + 1 = n → i.toInt = j → ∃ v, fX7_bits_4 700 N1 X x i l = some v ∧ fX9_bendsOf_4 700 N2 X x i p = some v := by
  have hX1 := sq_m1 X n hX (by omega) (by omega)
  intro d
  induction d with
  | zero =>
    intro N1 N2 j i x h1 h2 hj hi
    cases N1 with
    | zero => omega
    | succ N1 =>
    cases N2 with
    | zero => omega
    | succ N2 =>
    have hi1 := sq_p1 i j hi (by omega)
    rw [fX7_bits_4, fX9_bendsOf_4]
    dsimp only
    rw [if_pos (Int32.le_iff_toInt_le.mpr (by rw [hX1, hi]; omega)), if_pos (Int32.le_iff_toInt_le.mpr (by rw [hX, hi1]; omega))]
    exact ⟨x, rfl, rfl⟩
  | succ d ih =>
    intro N1 N2 j i x h1 h2 hj hi
    cases N1 with
    | zero => omega
    | succ N1 =>
    cases N2 with
    | zero => omega
    | succ N2 =>
    have hi1 := sq_p1 i j hi (by omega)
    have c1 : ¬ (X - 1) ≤ i := fun k => by
      have := Int32.le_iff_toInt_le.mp k
      rw [hX1, hi] at this
      omega
    have c2 : ¬ X ≤ i + 1 := fun k => by
      have := Int32.le_iff_toInt_le.mp k
      rw [hX, hi1] at this
      omega
    have b1 : mm_inb i l.length = true := sb_inb7 i l ll j hi (by omega)
    have b2 : mm_inb (i + 1) l.length = true := sb_inb7 (i + 1) l ll (j + 1) hi1 (by omega)
    have b3 : mm_inb i p.length = true := sb_inb7 i p lp j hi (by omega)
    have b4 : mm_inb (i + 1) p.length = true := sb_inb7 (i + 1) p lp (j + 1) hi1 (by omega)
    have g1 : mm_ig p i = mm_ig l i := sq_ig l p n E i (by rw [hi]; omega)
    have g2 : mm_ig p (i + 1) = mm_ig l (i + 1) := sq_ig l p n E (i + 1) (by rw [hi1]; omega)
    have nz : mm_nz 2 = true := by decide
    have o0 : ∀ y : Int32, y ||| 0 = y := fun y => Int32.or_zero
    have q := fun x => ih N1 N2 (j + 1) (i + 1) x (by omega) (by omega) (by omega) hi1
    rw [fX7_bits_4, fX9_bendsOf_4]
    dsimp only
    rw [if_neg c1, if_neg c2, nz]
    unfold fX7_bits_22 fX9_bendsOf_33 fX7_bits_46 fX9_bendsOf_49 fX7_bits_57 fX9_bendsOf_59 mm_nm
    rw [b1, b2, b3, b4, g1, g2, nz]
    by_cases hr : mm_rem i 2 = 0
    · by_cases hc : mm_ig l (i + 1) ≤ mm_ig l i
      · simp only [mm_ck, hr, hc, if_true, o0]
        exact q _
      · simp only [mm_ck, hr, hc, if_true, if_false, o0]
        exact q _
    · by_cases hc : mm_ig l (i + 1) ≤ mm_ig l i
      · simp only [mm_ck, hr, hc, if_true, if_false, o0]
        exact q _
      · simp only [mm_ck, hr, hc, if_true, if_false, o0]
        exact q _
