/-! bits of a mask -/
def sb_nb (j f : Nat) : Bool := decide (j / 2 ^ f % 2 = 1)
def sb_ct (j : Nat) : Nat := (List.range 7).countP (sb_nb j)
set_option maxRecDepth 100000 in
theorem sb_f1 : (List.range 128).all (fun j => (List.range 7).all (fun d => decide (decide ((Int32.ofNat j >>> (Int32.ofNat d &&& 31)) &&& 1 = 1) = sb_nb j d))) = true := by decide +kernel
set_option maxRecDepth 100000 in
theorem sb_f2 : (List.range 128).all (fun j => (List.range 7).all (fun d => sb_nb j d || decide ((Int32.ofNat j ||| ((1 : Int32) <<< (Int32.ofNat d &&& 31))) = Int32.ofNat (j + 2 ^ d)))) = true := by decide +kernel
set_option maxRecDepth 100000 in
theorem sb_f3 : (List.range 128).all (fun j => (List.range 7).all (fun d => sb_nb j d || (decide (j + 2 ^ d < 128) && (decide (sb_ct (j + 2 ^ d) = sb_ct j + 1) && (List.range 7).all (fun e => decide (sb_nb (j + 2 ^ d) e = (decide (e = d) || sb_nb j e))))))) = true := by decide +kernel
set_option maxRecDepth 100000 in
theorem sb_f4 : (List.range 8).all (fun n => (List.range 128).all (fun j => !(decide (sb_ct j = n) && (List.range 7).all (fun e => decide (e < n) || !(sb_nb j e))) || (List.range n).all (fun e => sb_nb j e))) = true := by decide +kernel
theorem sb_g1 (j d : Nat) (hj : j < 128) (hd : d < 7) : decide ((Int32.ofNat j >>> (Int32.ofNat d &&& 31)) &&& 1 = 1) = sb_nb j d :=
  of_decide_eq_true (List.all_eq_true.mp (List.all_eq_true.mp sb_f1 j (List.mem_range.mpr hj)) d (List.mem_range.mpr hd))
theorem sb_g2 (j d : Nat) (hj : j < 128) (hd : d < 7) (hb : sb_nb j d = false) : (Int32.ofNat j ||| ((1 : Int32) <<< (Int32.ofNat d &&& 31))) = Int32.ofNat (j + 2 ^ d) := by
  have h := List.all_eq_true.mp (List.all_eq_true.mp sb_f2 j (List.mem_range.mpr hj)) d (List.mem_range.mpr hd)
  rw [hb, Bool.false_or] at h
  exact of_decide_eq_true h
theorem sb_g3 (j d : Nat) (hj : j < 128) (hd : d < 7) (hb : sb_nb j d = false) : j + 2 ^ d < 128 ∧ sb_ct (j + 2 ^ d) = sb_ct j + 1 ∧ ∀ e, e < 7 → sb_nb (j + 2 ^ d) e = (decide (e = d) || sb_nb j e) := by
  have h := List.all_eq_true.mp (List.all_eq_true.mp sb_f3 j (List.mem_range.mpr hj)) d (List.mem_range.mpr hd)
  rw [hb, Bool.false_or] at h
  simp only [Bool.and_eq_true, decide_eq_true_eq] at h
  exact ⟨h.1, h.2.1, fun e he => of_decide_eq_true (List.all_eq_true.mp h.2.2 e (List.mem_range.mpr he))⟩
theorem sb_g4 (n j : Nat) (hn : n ≤ 7) (hj : j < 128) (hc : sb_ct j = n) (hz : ∀ e, n ≤ e → e < 7 → sb_nb j e = false) (e : Nat) (he : e < n) : sb_nb j e = true := by
  have h := List.all_eq_true.mp (List.all_eq_true.mp sb_f4 n (List.mem_range.mpr (by omega))) j (List.mem_range.mpr hj)
  have h2 : (List.range 7).all (fun e => decide (e < n) || !(sb_nb j e)) = true := by
    rw [List.all_eq_true]
    intro f hf
    have hf := List.mem_range.mp hf
    by_cases c : f < n
    · rw [decide_eq_true c]; rfl
    · rw [hz f (by omega) hf, decide_eq_false c]; rfl
  rw [hc, decide_eq_true rfl, h2] at h
  exact List.all_eq_true.mp h e (List.mem_range.mpr he)
