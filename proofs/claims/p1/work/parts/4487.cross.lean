/-! crosses, bends -/
theorem sb_n8f (x : Int32) (h : x.toInt < 2 ∨ 7 < x.toInt) : fX8_isStrip 700 x = some false := by
  unfold fX8_isStrip
  by_cases k : x.toInt < 2
  · rw [if_pos (rg_p (b := 2) (by decide) k)]
  · rw [if_neg (rg_n (b := 2) (by decide) (by omega)), if_pos (rg_lp (b := 7) (by decide) (by omega))]
theorem sb_n9f (x : Int32) (h : x.toInt < 2 ∨ 7 < x.toInt) : fX9_isStrip 700 x = some false := by
  unfold fX9_isStrip
  rw [rg_wf 700 x (a := 2) (b := 7) (by decide) (by decide) h]
  rfl
theorem sb_six (x : Int32) (h0 : 2 ≤ x.toInt) (h1 : x.toInt ≤ 7) : x = 2 ∨ x = 3 ∨ x = 4 ∨ x = 5 ∨ x = 6 ∨ x = 7 := by
  have k : x.toInt = 2 ∨ x.toInt = 3 ∨ x.toInt = 4 ∨ x.toInt = 5 ∨ x.toInt = 6 ∨ x.toInt = 7 := by omega
  rcases k with k | k | k | k | k | k
  · exact .inl (rg_eq (c := 2) (k.trans (by decide)))
  · exact .inr (.inl (rg_eq (c := 3) (k.trans (by decide))))
  · exact .inr (.inr (.inl (rg_eq (c := 4) (k.trans (by decide)))))
  · exact .inr (.inr (.inr (.inl (rg_eq (c := 5) (k.trans (by decide))))))
  · exact .inr (.inr (.inr (.inr (.inl (rg_eq (c := 6) (k.trans (by decide)))))))
  · exact .inr (.inr (.inr (.inr (.inr (rg_eq (c := 7) (k.trans (by decide)))))))
set_option maxHeartbeats 8000000 in
set_option maxRecDepth 100000 in
theorem sb_o2 (y : Int32) : (∃ a, fX7_lay 700 2 y (mm_zs 7) = some (false, a) ∧ ∃ o p, fX9_isOrder 700 2 y (mm_zs 7) (mm_zs 7) = some (false, o, p)) ∨ (∃ a o p, fX7_lay 700 2 y (mm_zs 7) = some (true, a) ∧ fX9_isOrder 700 2 y (mm_zs 7) (mm_zs 7) = some (true, o, p) ∧ ((fX7_firstCross 700 2 a = some (-1) ∧ fX9_firstCross 700 2 p = some (-2)) ∨ (∃ q : Int32, 0 ≤ q ∧ fX7_firstCross 700 2 a = some q ∧ fX9_firstCross 700 2 p = some q)) ∧ ∃ v, fX7_bits 700 2 a = some v ∧ fX9_bendsOf 700 2 p = some v) := by
  have e8 : fX7_lay 700 2 y (mm_zs 7) = fX7_lay_15 700 700 2 y 1 (List.replicate 7 (-1)) := by
    unfold fX7_lay
    rw [sb_fill]
    rfl
  have e9 : fX9_isOrder 700 2 y (mm_zs 7) (mm_zs 7) = fX9_isOrder_10 700 700 2 (Int32.ofNat 0) y 1 (mm_zs 7) (mm_zs 7) := rfl
  rw [e8, e9]
  rcases sb_lay 2 (by decide) (by decide) 2 (by decide) 2 700 700 y 1 (List.replicate 7 (-1)) (mm_zs 7) (mm_zs 7) 0 (by decide) (by decide) (by decide) (by decide) (sb_init 2 (by decide)) rfl with h | h
  · exact .inl h
  · obtain ⟨a, o, p, m, h8, h9, R⟩ := h
    refine .inr ⟨a, o, p, h8, h9, ?_⟩
    obtain ⟨D, E⟩ := sb_done 2 (by decide) a p m R
    obtain ⟨a0, a1, a2, a3, a4, a5, a6, ea⟩ := sb_l7 a R.1
    obtain ⟨p0, p1, p2, p3, p4, p5, p6, ep⟩ := sb_l7 p R.2.1
    have hb : ∃ v, fX7_bits 700 2 a = some v ∧ fX9_bendsOf 700 2 p = some v := sb_bits 2 (by decide) (by decide) 2 (by decide) a p R.1 R.2.1 (fun f hf => (D f hf).2.2) 1 700 700 0 0 0 (by decide) (by decide) (by decide) (by decide)
    rw [ea, ep] at hb
    rw [ea, ep]
    refine ⟨?_, hb⟩
    rw [ea, ep] at D
    rw [ea] at E
    have d0 : 0 ≤ a0.toInt ∧ a0.toInt < 7 ∧ p0 = a0 := D 0 (by decide)
    have d1 : 0 ≤ a1.toInt ∧ a1.toInt < 7 ∧ p1 = a1 := D 1 (by decide)
    rw [d0.2.2, d1.2.2]
    exact sb_fc2 a0 a1 a2 a3 a4 a5 a6 p2 p3 p4 p5 p6 d0.1 d0.2.1 d1.1 d1.2.1 (E 0 1 (by decide) (by decide) (by decide))
set_option maxHeartbeats 8000000 in
set_option maxRecDepth 100000 in
theorem sb_o3 (y : Int32) : (∃ a, fX7_lay 700 3 y (mm_zs 7) = some (false, a) ∧ ∃ o p, fX9_isOrder 700 3 y (mm_zs 7) (mm_zs 7) = some (false, o, p)) ∨ (∃ a o p, fX7_lay 700 3 y (mm_zs 7) = some (true, a) ∧ fX9_isOrder 700 3 y (mm_zs 7) (mm_zs 7) = some (true, o, p) ∧ ((fX7_firstCross 700 3 a = some (-1) ∧ fX9_firstCross 700 3 p = some (-2)) ∨ (∃ q : Int32, 0 ≤ q ∧ fX7_firstCross 700 3 a = some q ∧ fX9_firstCross 700 3 p = some q)) ∧ ∃ v, fX7_bits 700 3 a = some v ∧ fX9_bendsOf 700 3 p = some v) := by
  have e8 : fX7_lay 700 3 y (mm_zs 7) = fX7_lay_15 700 700 3 y 2 (List.replicate 7 (-1)) := by
    unfold fX7_lay
    rw [sb_fill]
    rfl
  have e9 : fX9_isOrder 700 3 y (mm_zs 7) (mm_zs 7) = fX9_isOrder_10 700 700 3 (Int32.ofNat 0) y 2 (mm_zs 7) (mm_zs 7) := rfl
  rw [e8, e9]
  rcases sb_lay 3 (by decide) (by decide) 3 (by decide) 3 700 700 y 2 (List.replicate 7 (-1)) (mm_zs 7) (mm_zs 7) 0 (by decide) (by decide) (by decide) (by decide) (sb_init 3 (by decide)) rfl with h | h
  · exact .inl h
  · obtain ⟨a, o, p, m, h8, h9, R⟩ := h
    refine .inr ⟨a, o, p, h8, h9, ?_⟩
    obtain ⟨D, E⟩ := sb_done 3 (by decide) a p m R
    obtain ⟨a0, a1, a2, a3, a4, a5, a6, ea⟩ := sb_l7 a R.1
    obtain ⟨p0, p1, p2, p3, p4, p5, p6, ep⟩ := sb_l7 p R.2.1
    have hb : ∃ v, fX7_bits 700 3 a = some v ∧ fX9_bendsOf 700 3 p = some v := sb_bits 3 (by decide) (by decide) 3 (by decide) a p R.1 R.2.1 (fun f hf => (D f hf).2.2) 2 700 700 0 0 0 (by decide) (by decide) (by decide) (by decide)
    rw [ea, ep] at hb
    rw [ea, ep]
    refine ⟨?_, hb⟩
    rw [ea, ep] at D
    rw [ea] at E
    have d0 : 0 ≤ a0.toInt ∧ a0.toInt < 7 ∧ p0 = a0 := D 0 (by decide)
    have d1 : 0 ≤ a1.toInt ∧ a1.toInt < 7 ∧ p1 = a1 := D 1 (by decide)
    have d2 : 0 ≤ a2.toInt ∧ a2.toInt < 7 ∧ p2 = a2 := D 2 (by decide)
    rw [d0.2.2, d1.2.2, d2.2.2]
    exact sb_fc3 a0 a1 a2 a3 a4 a5 a6 p3 p4 p5 p6 d0.1 d0.2.1 d1.1 d1.2.1 d2.1 d2.2.1 (E 0 1 (by decide) (by decide) (by decide)) (E 0 2 (by decide) (by decide) (by decide)) (E 1 2 (by decide) (by decide) (by decide))
set_option maxHeartbeats 8000000 in
set_option maxRecDepth 100000 in
theorem sb_o4 (y : Int32) : (∃ a, fX7_lay 700 4 y (mm_zs 7) = some (false, a) ∧ ∃ o p, fX9_isOrder 700 4 y (mm_zs 7) (mm_zs 7) = some (false, o, p)) ∨ (∃ a o p, fX7_lay 700 4 y (mm_zs 7) = some (true, a) ∧ fX9_isOrder 700 4 y (mm_zs 7) (mm_zs 7) = some (true, o, p) ∧ ((fX7_firstCross 700 4 a = some (-1) ∧ fX9_firstCross 700 4 p = some (-2)) ∨ (∃ q : Int32, 0 ≤ q ∧ fX7_firstCross 700 4 a = some q ∧ fX9_firstCross 700 4 p = some q)) ∧ ∃ v, fX7_bits 700 4 a = some v ∧ fX9_bendsOf 700 4 p = some v) := by
  have e8 : fX7_lay 700 4 y (mm_zs 7) = fX7_lay_15 700 700 4 y 3 (List.replicate 7 (-1)) := by
    unfold fX7_lay
    rw [sb_fill]
    rfl
  have e9 : fX9_isOrder 700 4 y (mm_zs 7) (mm_zs 7) = fX9_isOrder_10 700 700 4 (Int32.ofNat 0) y 3 (mm_zs 7) (mm_zs 7) := rfl
  rw [e8, e9]
  rcases sb_lay 4 (by decide) (by decide) 4 (by decide) 4 700 700 y 3 (List.replicate 7 (-1)) (mm_zs 7) (mm_zs 7) 0 (by decide) (by decide) (by decide) (by decide) (sb_init 4 (by decide)) rfl with h | h
  · exact .inl h
  · obtain ⟨a, o, p, m, h8, h9, R⟩ := h
    refine .inr ⟨a, o, p, h8, h9, ?_⟩
    obtain ⟨D, E⟩ := sb_done 4 (by decide) a p m R
    obtain ⟨a0, a1, a2, a3, a4, a5, a6, ea⟩ := sb_l7 a R.1
    obtain ⟨p0, p1, p2, p3, p4, p5, p6, ep⟩ := sb_l7 p R.2.1
    have hb : ∃ v, fX7_bits 700 4 a = some v ∧ fX9_bendsOf 700 4 p = some v := sb_bits 4 (by decide) (by decide) 4 (by decide) a p R.1 R.2.1 (fun f hf => (D f hf).2.2) 3 700 700 0 0 0 (by decide) (by decide) (by decide) (by decide)
    rw [ea, ep] at hb
    rw [ea, ep]
    refine ⟨?_, hb⟩
    rw [ea, ep] at D
    rw [ea] at E
    have d0 : 0 ≤ a0.toInt ∧ a0.toInt < 7 ∧ p0 = a0 := D 0 (by decide)
    have d1 : 0 ≤ a1.toInt ∧ a1.toInt < 7 ∧ p1 = a1 := D 1 (by decide)
    have d2 : 0 ≤ a2.toInt ∧ a2.toInt < 7 ∧ p2 = a2 := D 2 (by decide)
    have d3 : 0 ≤ a3.toInt ∧ a3.toInt < 7 ∧ p3 = a3 := D 3 (by decide)
    rw [d0.2.2, d1.2.2, d2.2.2, d3.2.2]
    exact sb_fc4 a0 a1 a2 a3 a4 a5 a6 p4 p5 p6 d0.1 d0.2.1 d1.1 d1.2.1 d2.1 d2.2.1 d3.1 d3.2.1 (E 0 1 (by decide) (by decide) (by decide)) (E 0 2 (by decide) (by decide) (by decide)) (E 0 3 (by decide) (by decide) (by decide)) (E 1 2 (by decide) (by decide) (by decide)) (E 1 3 (by decide) (by decide) (by decide)) (E 2 3 (by decide) (by decide) (by decide))
set_option maxHeartbeats 8000000 in
set_option maxRecDepth 100000 in
theorem sb_o5 (y : Int32) : (∃ a, fX7_lay 700 5 y (mm_zs 7) = some (false, a) ∧ ∃ o p, fX9_isOrder 700 5 y (mm_zs 7) (mm_zs 7) = some (false, o, p)) ∨ (∃ a o p, fX7_lay 700 5 y (mm_zs 7) = some (true, a) ∧ fX9_isOrder 700 5 y (mm_zs 7) (mm_zs 7) = some (true, o, p) ∧ ((fX7_firstCross 700 5 a = some (-1) ∧ fX9_firstCross 700 5 p = some (-2)) ∨ (∃ q : Int32, 0 ≤ q ∧ fX7_firstCross 700 5 a = some q ∧ fX9_firstCross 700 5 p = some q)) ∧ ∃ v, fX7_bits 700 5 a = some v ∧ fX9_bendsOf 700 5 p = some v) := by
  have e8 : fX7_lay 700 5 y (mm_zs 7) = fX7_lay_15 700 700 5 y 4 (List.replicate 7 (-1)) := by
    unfold fX7_lay
    rw [sb_fill]
    rfl
  have e9 : fX9_isOrder 700 5 y (mm_zs 7) (mm_zs 7) = fX9_isOrder_10 700 700 5 (Int32.ofNat 0) y 4 (mm_zs 7) (mm_zs 7) := rfl
  rw [e8, e9]
  rcases sb_lay 5 (by decide) (by decide) 5 (by decide) 5 700 700 y 4 (List.replicate 7 (-1)) (mm_zs 7) (mm_zs 7) 0 (by decide) (by decide) (by decide) (by decide) (sb_init 5 (by decide)) rfl with h | h
  · exact .inl h
  · obtain ⟨a, o, p, m, h8, h9, R⟩ := h
    refine .inr ⟨a, o, p, h8, h9, ?_⟩
    obtain ⟨D, E⟩ := sb_done 5 (by decide) a p m R
    obtain ⟨a0, a1, a2, a3, a4, a5, a6, ea⟩ := sb_l7 a R.1
    obtain ⟨p0, p1, p2, p3, p4, p5, p6, ep⟩ := sb_l7 p R.2.1
    have hb : ∃ v, fX7_bits 700 5 a = some v ∧ fX9_bendsOf 700 5 p = some v := sb_bits 5 (by decide) (by decide) 5 (by decide) a p R.1 R.2.1 (fun f hf => (D f hf).2.2) 4 700 700 0 0 0 (by decide) (by decide) (by decide) (by decide)
    rw [ea, ep] at hb
    rw [ea, ep]
    refine ⟨?_, hb⟩
    rw [ea, ep] at D
    rw [ea] at E
    have d0 : 0 ≤ a0.toInt ∧ a0.toInt < 7 ∧ p0 = a0 := D 0 (by decide)
    have d1 : 0 ≤ a1.toInt ∧ a1.toInt < 7 ∧ p1 = a1 := D 1 (by decide)
    have d2 : 0 ≤ a2.toInt ∧ a2.toInt < 7 ∧ p2 = a2 := D 2 (by decide)
    have d3 : 0 ≤ a3.toInt ∧ a3.toInt < 7 ∧ p3 = a3 := D 3 (by decide)
    have d4 : 0 ≤ a4.toInt ∧ a4.toInt < 7 ∧ p4 = a4 := D 4 (by decide)
    rw [d0.2.2, d1.2.2, d2.2.2, d3.2.2, d4.2.2]
    exact sb_fc5 a0 a1 a2 a3 a4 a5 a6 p5 p6 d0.1 d0.2.1 d1.1 d1.2.1 d2.1 d2.2.1 d3.1 d3.2.1 d4.1 d4.2.1 (E 0 1 (by decide) (by decide) (by decide)) (E 0 2 (by decide) (by decide) (by decide)) (E 0 3 (by decide) (by decide) (by decide)) (E 0 4 (by decide) (by decide) (by decide)) (E 1 2 (by decide) (by decide) (by decide)) (E 1 3 (by decide) (by decide) (by decide)) (E 1 4 (by decide) (by decide) (by decide)) (E 2 3 (by decide) (by decide) (by decide)) (E 2 4 (by decide) (by decide) (by decide)) (E 3 4 (by decide) (by decide) (by decide))
set_option maxHeartbeats 8000000 in
set_option maxRecDepth 100000 in
theorem sb_o6 (y : Int32) : (∃ a, fX7_lay 700 6 y (mm_zs 7) = some (false, a) ∧ ∃ o p, fX9_isOrder 700 6 y (mm_zs 7) (mm_zs 7) = some (false, o, p)) ∨ (∃ a o p, fX7_lay 700 6 y (mm_zs 7) = some (true, a) ∧ fX9_isOrder 700 6 y (mm_zs 7) (mm_zs 7) = some (true, o, p) ∧ ((fX7_firstCross 700 6 a = some (-1) ∧ fX9_firstCross 700 6 p = some (-2)) ∨ (∃ q : Int32, 0 ≤ q ∧ fX7_firstCross 700 6 a = some q ∧ fX9_firstCross 700 6 p = some q)) ∧ ∃ v, fX7_bits 700 6 a = some v ∧ fX9_bendsOf 700 6 p = some v) := by
  have e8 : fX7_lay 700 6 y (mm_zs 7) = fX7_lay_15 700 700 6 y 5 (List.replicate 7 (-1)) := by
    unfold fX7_lay
    rw [sb_fill]
    rfl
  have e9 : fX9_isOrder 700 6 y (mm_zs 7) (mm_zs 7) = fX9_isOrder_10 700 700 6 (Int32.ofNat 0) y 5 (mm_zs 7) (mm_zs 7) := rfl
  rw [e8, e9]
  rcases sb_lay 6 (by decide) (by decide) 6 (by decide) 6 700 700 y 5 (List.replicate 7 (-1)) (mm_zs 7) (mm_zs 7) 0 (by decide) (by decide) (by decide) (by decide) (sb_init 6 (by decide)) rfl with h | h
  · exact .inl h
  · obtain ⟨a, o, p, m, h8, h9, R⟩ := h
    refine .inr ⟨a, o, p, h8, h9, ?_⟩
    obtain ⟨D, E⟩ := sb_done 6 (by decide) a p m R
    obtain ⟨a0, a1, a2, a3, a4, a5, a6, ea⟩ := sb_l7 a R.1
    obtain ⟨p0, p1, p2, p3, p4, p5, p6, ep⟩ := sb_l7 p R.2.1
    have hb : ∃ v, fX7_bits 700 6 a = some v ∧ fX9_bendsOf 700 6 p = some v := sb_bits 6 (by decide) (by decide) 6 (by decide) a p R.1 R.2.1 (fun f hf => (D f hf).2.2) 5 700 700 0 0 0 (by decide) (by decide) (by decide) (by decide)
    rw [ea, ep] at hb
    rw [ea, ep]
    refine ⟨?_, hb⟩
    rw [ea, ep] at D
    rw [ea] at E
    have d0 : 0 ≤ a0.toInt ∧ a0.toInt < 7 ∧ p0 = a0 := D 0 (by decide)
    have d1 : 0 ≤ a1.toInt ∧ a1.toInt < 7 ∧ p1 = a1 := D 1 (by decide)
    have d2 : 0 ≤ a2.toInt ∧ a2.toInt < 7 ∧ p2 = a2 := D 2 (by decide)
    have d3 : 0 ≤ a3.toInt ∧ a3.toInt < 7 ∧ p3 = a3 := D 3 (by decide)
    have d4 : 0 ≤ a4.toInt ∧ a4.toInt < 7 ∧ p4 = a4 := D 4 (by decide)
    have d5 : 0 ≤ a5.toInt ∧ a5.toInt < 7 ∧ p5 = a5 := D 5 (by decide)
    rw [d0.2.2, d1.2.2, d2.2.2, d3.2.2, d4.2.2, d5.2.2]
    exact sb_fc6 a0 a1 a2 a3 a4 a5 a6 p6 d0.1 d0.2.1 d1.1 d1.2.1 d2.1 d2.2.1 d3.1 d3.2.1 d4.1 d4.2.1 d5.1 d5.2.1 (E 0 1 (by decide) (by decide) (by decide)) (E 0 2 (by decide) (by decide) (by decide)) (E 0 3 (by decide) (by decide) (by decide)) (E 0 4 (by decide) (by decide) (by decide)) (E 0 5 (by decide) (by decide) (by decide)) (E 1 2 (by decide) (by decide) (by decide)) (E 1 3 (by decide) (by decide) (by decide)) (E 1 4 (by decide) (by decide) (by decide)) (E 1 5 (by decide) (by decide) (by decide)) (E 2 3 (by decide) (by decide) (by decide)) (E 2 4 (by decide) (by decide) (by decide)) (E 2 5 (by decide) (by decide) (by decide)) (E 3 4 (by decide) (by decide) (by decide)) (E 3 5 (by decide) (by decide) (by decide)) (E 4 5 (by decide) (by decide) (by decide))
set_option maxHeartbeats 8000000 in
set_option maxRecDepth 100000 in
theorem sb_o7 (y : Int32) : (∃ a, fX7_lay 700 7 y (mm_zs 7) = some (false, a) ∧ ∃ o p, fX9_isOrder 700 7 y (mm_zs 7) (mm_zs 7) = some (false, o, p)) ∨ (∃ a o p, fX7_lay 700 7 y (mm_zs 7) = some (true, a) ∧ fX9_isOrder 700 7 y (mm_zs 7) (mm_zs 7) = some (true, o, p) ∧ ((fX7_firstCross 700 7 a = some (-1) ∧ fX9_firstCross 700 7 p = some (-2)) ∨ (∃ q : Int32, 0 ≤ q ∧ fX7_firstCross 700 7 a = some q ∧ fX9_firstCross 700 7 p = some q)) ∧ ∃ v, fX7_bits 700 7 a = some v ∧ fX9_bendsOf 700 7 p = some v) := by
  have e8 : fX7_lay 700 7 y (mm_zs 7) = fX7_lay_15 700 700 7 y 6 (List.replicate 7 (-1)) := by
    unfold fX7_lay
    rw [sb_fill]
    rfl
  have e9 : fX9_isOrder 700 7 y (mm_zs 7) (mm_zs 7) = fX9_isOrder_10 700 700 7 (Int32.ofNat 0) y 6 (mm_zs 7) (mm_zs 7) := rfl
  rw [e8, e9]
  rcases sb_lay 7 (by decide) (by decide) 7 (by decide) 7 700 700 y 6 (List.replicate 7 (-1)) (mm_zs 7) (mm_zs 7) 0 (by decide) (by decide) (by decide) (by decide) (sb_init 7 (by decide)) rfl with h | h
  · exact .inl h
  · obtain ⟨a, o, p, m, h8, h9, R⟩ := h
    refine .inr ⟨a, o, p, h8, h9, ?_⟩
    obtain ⟨D, E⟩ := sb_done 7 (by decide) a p m R
    obtain ⟨a0, a1, a2, a3, a4, a5, a6, ea⟩ := sb_l7 a R.1
    obtain ⟨p0, p1, p2, p3, p4, p5, p6, ep⟩ := sb_l7 p R.2.1
    have hb : ∃ v, fX7_bits 700 7 a = some v ∧ fX9_bendsOf 700 7 p = some v := sb_bits 7 (by decide) (by decide) 7 (by decide) a p R.1 R.2.1 (fun f hf => (D f hf).2.2) 6 700 700 0 0 0 (by decide) (by decide) (by decide) (by decide)
    rw [ea, ep] at hb
    rw [ea, ep]
    refine ⟨?_, hb⟩
    rw [ea, ep] at D
    rw [ea] at E
    have d0 : 0 ≤ a0.toInt ∧ a0.toInt < 7 ∧ p0 = a0 := D 0 (by decide)
    have d1 : 0 ≤ a1.toInt ∧ a1.toInt < 7 ∧ p1 = a1 := D 1 (by decide)
    have d2 : 0 ≤ a2.toInt ∧ a2.toInt < 7 ∧ p2 = a2 := D 2 (by decide)
    have d3 : 0 ≤ a3.toInt ∧ a3.toInt < 7 ∧ p3 = a3 := D 3 (by decide)
    have d4 : 0 ≤ a4.toInt ∧ a4.toInt < 7 ∧ p4 = a4 := D 4 (by decide)
    have d5 : 0 ≤ a5.toInt ∧ a5.toInt < 7 ∧ p5 = a5 := D 5 (by decide)
    have d6 : 0 ≤ a6.toInt ∧ a6.toInt < 7 ∧ p6 = a6 := D 6 (by decide)
    rw [d0.2.2, d1.2.2, d2.2.2, d3.2.2, d4.2.2, d5.2.2, d6.2.2]
    exact sb_fc7 a0 a1 a2 a3 a4 a5 a6 d0.1 d0.2.1 d1.1 d1.2.1 d2.1 d2.2.1 d3.1 d3.2.1 d4.1 d4.2.1 d5.1 d5.2.1 d6.1 d6.2.1 (E 0 1 (by decide) (by decide) (by decide)) (E 0 2 (by decide) (by decide) (by decide)) (E 0 3 (by decide) (by decide) (by decide)) (E 0 4 (by decide) (by decide) (by decide)) (E 0 5 (by decide) (by decide) (by decide)) (E 0 6 (by decide) (by decide) (by decide)) (E 1 2 (by decide) (by decide) (by decide)) (E 1 3 (by decide) (by decide) (by decide)) (E 1 4 (by decide) (by decide) (by decide)) (E 1 5 (by decide) (by decide) (by decide)) (E 1 6 (by decide) (by decide) (by decide)) (E 2 3 (by decide) (by decide) (by decide)) (E 2 4 (by decide) (by decide) (by decide)) (E 2 5 (by decide) (by decide) (by decide)) (E 2 6 (by decide) (by decide) (by decide)) (E 3 4 (by decide) (by decide) (by decide)) (E 3 5 (by decide) (by decide) (by decide)) (E 3 6 (by decide) (by decide) (by decide)) (E 4 5 (by decide) (by decide) (by decide)) (E 4 6 (by decide) (by decide) (by decide)) (E 5 6 (by decide) (by decide) (by decide))
set_option maxHeartbeats 8000000 in
set_option maxRecDepth 100000 in
theorem kk_20 (y1 : Int32) (y2 : Int32) : mm_same (fX8_crosses 700 y1 y2 (mm_zs 7)) (fX9_crosses 700 y1 y2 (mm_zs 7) (mm_zs 7)) = true := by
  by_cases h : 2 ≤ y1.toInt ∧ y1.toInt ≤ 7
  · rcases sb_six y1 h.1 h.2 with e | e | e | e | e | e
    · subst e
      unfold fX8_crosses fX9_crosses
      rcases sb_o2 y2 with q | q
      · obtain ⟨a, h8, o, p, h9⟩ := q
        rw [h8, h9]; rfl
      · obtain ⟨a, o, p, h8, h9, c, b⟩ := q
        rw [h8, h9]
        show mm_same (mm_bd1 (fX7_firstCross 700 2 a) (fun r : Int32 => if 0 ≤ r then some (r, a) else some (-2, a))) (mm_bd1 (fX9_firstCross 700 2 p) (fun r : Int32 => some (r, o, p))) = true
        rcases c with c | c
        · rw [c.1, c.2]
          rfl
        · obtain ⟨r, hr, c8, c9⟩ := c
          rw [c8, c9]
          show mm_same (if 0 ≤ r then some (r, a) else some (-2, a)) (some (r, o, p)) = true
          rw [if_pos hr]
          exact decide_eq_true rfl
    · subst e
      unfold fX8_crosses fX9_crosses
      rcases sb_o3 y2 with q | q
      · obtain ⟨a, h8, o, p, h9⟩ := q
        rw [h8, h9]; rfl
      · obtain ⟨a, o, p, h8, h9, c, b⟩ := q
        rw [h8, h9]
        show mm_same (mm_bd1 (fX7_firstCross 700 3 a) (fun r : Int32 => if 0 ≤ r then some (r, a) else some (-2, a))) (mm_bd1 (fX9_firstCross 700 3 p) (fun r : Int32 => some (r, o, p))) = true
        rcases c with c | c
        · rw [c.1, c.2]
          rfl
        · obtain ⟨r, hr, c8, c9⟩ := c
          rw [c8, c9]
          show mm_same (if 0 ≤ r then some (r, a) else some (-2, a)) (some (r, o, p)) = true
          rw [if_pos hr]
          exact decide_eq_true rfl
    · subst e
      unfold fX8_crosses fX9_crosses
      rcases sb_o4 y2 with q | q
      · obtain ⟨a, h8, o, p, h9⟩ := q
        rw [h8, h9]; rfl
      · obtain ⟨a, o, p, h8, h9, c, b⟩ := q
        rw [h8, h9]
        show mm_same (mm_bd1 (fX7_firstCross 700 4 a) (fun r : Int32 => if 0 ≤ r then some (r, a) else some (-2, a))) (mm_bd1 (fX9_firstCross 700 4 p) (fun r : Int32 => some (r, o, p))) = true
        rcases c with c | c
        · rw [c.1, c.2]
          rfl
        · obtain ⟨r, hr, c8, c9⟩ := c
          rw [c8, c9]
          show mm_same (if 0 ≤ r then some (r, a) else some (-2, a)) (some (r, o, p)) = true
          rw [if_pos hr]
          exact decide_eq_true rfl
    · subst e
      unfold fX8_crosses fX9_crosses
      rcases sb_o5 y2 with q | q
      · obtain ⟨a, h8, o, p, h9⟩ := q
        rw [h8, h9]; rfl
      · obtain ⟨a, o, p, h8, h9, c, b⟩ := q
        rw [h8, h9]
        show mm_same (mm_bd1 (fX7_firstCross 700 5 a) (fun r : Int32 => if 0 ≤ r then some (r, a) else some (-2, a))) (mm_bd1 (fX9_firstCross 700 5 p) (fun r : Int32 => some (r, o, p))) = true
        rcases c with c | c
        · rw [c.1, c.2]
          rfl
        · obtain ⟨r, hr, c8, c9⟩ := c
          rw [c8, c9]
          show mm_same (if 0 ≤ r then some (r, a) else some (-2, a)) (some (r, o, p)) = true
          rw [if_pos hr]
          exact decide_eq_true rfl
    · subst e
      unfold fX8_crosses fX9_crosses
      rcases sb_o6 y2 with q | q
      · obtain ⟨a, h8, o, p, h9⟩ := q
        rw [h8, h9]; rfl
      · obtain ⟨a, o, p, h8, h9, c, b⟩ := q
        rw [h8, h9]
        show mm_same (mm_bd1 (fX7_firstCross 700 6 a) (fun r : Int32 => if 0 ≤ r then some (r, a) else some (-2, a))) (mm_bd1 (fX9_firstCross 700 6 p) (fun r : Int32 => some (r, o, p))) = true
        rcases c with c | c
        · rw [c.1, c.2]
          rfl
        · obtain ⟨r, hr, c8, c9⟩ := c
          rw [c8, c9]
          show mm_same (if 0 ≤ r then some (r, a) else some (-2, a)) (some (r, o, p)) = true
          rw [if_pos hr]
          exact decide_eq_true rfl
    · subst e
      unfold fX8_crosses fX9_crosses
      rcases sb_o7 y2 with q | q
      · obtain ⟨a, h8, o, p, h9⟩ := q
        rw [h8, h9]; rfl
      · obtain ⟨a, o, p, h8, h9, c, b⟩ := q
        rw [h8, h9]
        show mm_same (mm_bd1 (fX7_firstCross 700 7 a) (fun r : Int32 => if 0 ≤ r then some (r, a) else some (-2, a))) (mm_bd1 (fX9_firstCross 700 7 p) (fun r : Int32 => some (r, o, p))) = true
        rcases c with c | c
        · rw [c.1, c.2]
          rfl
        · obtain ⟨r, hr, c8, c9⟩ := c
          rw [c8, c9]
          show mm_same (if 0 ≤ r then some (r, a) else some (-2, a)) (some (r, o, p)) = true
          rw [if_pos hr]
          exact decide_eq_true rfl
  · unfold fX8_crosses fX9_crosses
    rw [sb_n8f y1 (by omega), sb_n9f y1 (by omega)]
    rfl
set_option maxHeartbeats 8000000 in
set_option maxRecDepth 100000 in
theorem pp_20 (y1 : Int32) (y2 : Int32) : ∃ (r : Int32) (p_strip_at : List Int32) (q_order1 : List Int32) (q_placeIn : List Int32), fX8_crosses 700 y1 y2 (mm_zs 7) = some (r, p_strip_at) ∧ fX9_crosses 700 y1 y2 (mm_zs 7) (mm_zs 7) = some (r, q_order1, q_placeIn) := by
  obtain ⟨r, p0, ⟨q0, q1⟩, h8, h9⟩ := mm_sames (kk_20 y1 y2)
  exact ⟨r, p0, q0, q1, h8, h9⟩
set_option maxHeartbeats 8000000 in
set_option maxRecDepth 100000 in
theorem kk_22 (y1 : Int32) (y2 : Int32) : mm_same (fX8_bends 700 y1 y2 (mm_zs 7)) (fX9_bends 700 y1 y2 (mm_zs 7) (mm_zs 7)) = true := by
  by_cases h : 2 ≤ y1.toInt ∧ y1.toInt ≤ 7
  · rcases sb_six y1 h.1 h.2 with e | e | e | e | e | e
    · subst e
      unfold fX8_bends fX9_bends
      rcases sb_o2 y2 with q | q
      · obtain ⟨a, h8, o, p, h9⟩ := q
        rw [h8, h9]; rfl
      · obtain ⟨a, o, p, h8, h9, c, b⟩ := q
        rw [h8, h9]
        show mm_same (mm_bd1 (fX7_firstCross 700 2 a) (fun r : Int32 => if r < 0 then mm_bd1 (fX7_bits 700 2 a) (fun v : Int32 => some (v, a)) else some (-5, a))) (mm_bd1 (fX9_firstCross 700 2 p) (fun r : Int32 => if r < 0 then mm_bd1 (fX9_bendsOf 700 2 p) (fun v : Int32 => some (v, o, p)) else some (-5, o, p))) = true
        rcases c with c | c
        · rw [c.1, c.2]
          show mm_same (mm_bd1 (fX7_bits 700 2 a) (fun v : Int32 => some (v, a))) (mm_bd1 (fX9_bendsOf 700 2 p) (fun v : Int32 => some (v, o, p))) = true
          obtain ⟨v, v8, v9⟩ := b
          rw [v8, v9]
          exact decide_eq_true rfl
        · obtain ⟨r, hr, c8, c9⟩ := c
          rw [c8, c9]
          show mm_same (if r < 0 then mm_bd1 (fX7_bits 700 2 a) (fun v : Int32 => some (v, a)) else some (-5, a)) (if r < 0 then mm_bd1 (fX9_bendsOf 700 2 p) (fun v : Int32 => some (v, o, p)) else some (-5, o, p)) = true
          have hn : ¬ r < 0 := Int32.not_lt.mpr hr
          rw [if_neg hn, if_neg hn]
          rfl
    · subst e
      unfold fX8_bends fX9_bends
      rcases sb_o3 y2 with q | q
      · obtain ⟨a, h8, o, p, h9⟩ := q
        rw [h8, h9]; rfl
      · obtain ⟨a, o, p, h8, h9, c, b⟩ := q
        rw [h8, h9]
        show mm_same (mm_bd1 (fX7_firstCross 700 3 a) (fun r : Int32 => if r < 0 then mm_bd1 (fX7_bits 700 3 a) (fun v : Int32 => some (v, a)) else some (-5, a))) (mm_bd1 (fX9_firstCross 700 3 p) (fun r : Int32 => if r < 0 then mm_bd1 (fX9_bendsOf 700 3 p) (fun v : Int32 => some (v, o, p)) else some (-5, o, p))) = true
        rcases c with c | c
        · rw [c.1, c.2]
          show mm_same (mm_bd1 (fX7_bits 700 3 a) (fun v : Int32 => some (v, a))) (mm_bd1 (fX9_bendsOf 700 3 p) (fun v : Int32 => some (v, o, p))) = true
          obtain ⟨v, v8, v9⟩ := b
          rw [v8, v9]
          exact decide_eq_true rfl
        · obtain ⟨r, hr, c8, c9⟩ := c
          rw [c8, c9]
          show mm_same (if r < 0 then mm_bd1 (fX7_bits 700 3 a) (fun v : Int32 => some (v, a)) else some (-5, a)) (if r < 0 then mm_bd1 (fX9_bendsOf 700 3 p) (fun v : Int32 => some (v, o, p)) else some (-5, o, p)) = true
          have hn : ¬ r < 0 := Int32.not_lt.mpr hr
          rw [if_neg hn, if_neg hn]
          rfl
    · subst e
      unfold fX8_bends fX9_bends
      rcases sb_o4 y2 with q | q
      · obtain ⟨a, h8, o, p, h9⟩ := q
        rw [h8, h9]; rfl
      · obtain ⟨a, o, p, h8, h9, c, b⟩ := q
        rw [h8, h9]
        show mm_same (mm_bd1 (fX7_firstCross 700 4 a) (fun r : Int32 => if r < 0 then mm_bd1 (fX7_bits 700 4 a) (fun v : Int32 => some (v, a)) else some (-5, a))) (mm_bd1 (fX9_firstCross 700 4 p) (fun r : Int32 => if r < 0 then mm_bd1 (fX9_bendsOf 700 4 p) (fun v : Int32 => some (v, o, p)) else some (-5, o, p))) = true
        rcases c with c | c
        · rw [c.1, c.2]
          show mm_same (mm_bd1 (fX7_bits 700 4 a) (fun v : Int32 => some (v, a))) (mm_bd1 (fX9_bendsOf 700 4 p) (fun v : Int32 => some (v, o, p))) = true
          obtain ⟨v, v8, v9⟩ := b
          rw [v8, v9]
          exact decide_eq_true rfl
        · obtain ⟨r, hr, c8, c9⟩ := c
          rw [c8, c9]
          show mm_same (if r < 0 then mm_bd1 (fX7_bits 700 4 a) (fun v : Int32 => some (v, a)) else some (-5, a)) (if r < 0 then mm_bd1 (fX9_bendsOf 700 4 p) (fun v : Int32 => some (v, o, p)) else some (-5, o, p)) = true
          have hn : ¬ r < 0 := Int32.not_lt.mpr hr
          rw [if_neg hn, if_neg hn]
          rfl
    · subst e
      unfold fX8_bends fX9_bends
      rcases sb_o5 y2 with q | q
      · obtain ⟨a, h8, o, p, h9⟩ := q
        rw [h8, h9]; rfl
      · obtain ⟨a, o, p, h8, h9, c, b⟩ := q
        rw [h8, h9]
        show mm_same (mm_bd1 (fX7_firstCross 700 5 a) (fun r : Int32 => if r < 0 then mm_bd1 (fX7_bits 700 5 a) (fun v : Int32 => some (v, a)) else some (-5, a))) (mm_bd1 (fX9_firstCross 700 5 p) (fun r : Int32 => if r < 0 then mm_bd1 (fX9_bendsOf 700 5 p) (fun v : Int32 => some (v, o, p)) else some (-5, o, p))) = true
        rcases c with c | c
        · rw [c.1, c.2]
          show mm_same (mm_bd1 (fX7_bits 700 5 a) (fun v : Int32 => some (v, a))) (mm_bd1 (fX9_bendsOf 700 5 p) (fun v : Int32 => some (v, o, p))) = true
          obtain ⟨v, v8, v9⟩ := b
          rw [v8, v9]
          exact decide_eq_true rfl
        · obtain ⟨r, hr, c8, c9⟩ := c
          rw [c8, c9]
          show mm_same (if r < 0 then mm_bd1 (fX7_bits 700 5 a) (fun v : Int32 => some (v, a)) else some (-5, a)) (if r < 0 then mm_bd1 (fX9_bendsOf 700 5 p) (fun v : Int32 => some (v, o, p)) else some (-5, o, p)) = true
          have hn : ¬ r < 0 := Int32.not_lt.mpr hr
          rw [if_neg hn, if_neg hn]
          rfl
    · subst e
      unfold fX8_bends fX9_bends
      rcases sb_o6 y2 with q | q
      · obtain ⟨a, h8, o, p, h9⟩ := q
        rw [h8, h9]; rfl
      · obtain ⟨a, o, p, h8, h9, c, b⟩ := q
        rw [h8, h9]
        show mm_same (mm_bd1 (fX7_firstCross 700 6 a) (fun r : Int32 => if r < 0 then mm_bd1 (fX7_bits 700 6 a) (fun v : Int32 => some (v, a)) else some (-5, a))) (mm_bd1 (fX9_firstCross 700 6 p) (fun r : Int32 => if r < 0 then mm_bd1 (fX9_bendsOf 700 6 p) (fun v : Int32 => some (v, o, p)) else some (-5, o, p))) = true
        rcases c with c | c
        · rw [c.1, c.2]
          show mm_same (mm_bd1 (fX7_bits 700 6 a) (fun v : Int32 => some (v, a))) (mm_bd1 (fX9_bendsOf 700 6 p) (fun v : Int32 => some (v, o, p))) = true
          obtain ⟨v, v8, v9⟩ := b
          rw [v8, v9]
          exact decide_eq_true rfl
        · obtain ⟨r, hr, c8, c9⟩ := c
          rw [c8, c9]
          show mm_same (if r < 0 then mm_bd1 (fX7_bits 700 6 a) (fun v : Int32 => some (v, a)) else some (-5, a)) (if r < 0 then mm_bd1 (fX9_bendsOf 700 6 p) (fun v : Int32 => some (v, o, p)) else some (-5, o, p)) = true
          have hn : ¬ r < 0 := Int32.not_lt.mpr hr
          rw [if_neg hn, if_neg hn]
          rfl
    · subst e
      unfold fX8_bends fX9_bends
      rcases sb_o7 y2 with q | q
      · obtain ⟨a, h8, o, p, h9⟩ := q
        rw [h8, h9]; rfl
      · obtain ⟨a, o, p, h8, h9, c, b⟩ := q
        rw [h8, h9]
        show mm_same (mm_bd1 (fX7_firstCross 700 7 a) (fun r : Int32 => if r < 0 then mm_bd1 (fX7_bits 700 7 a) (fun v : Int32 => some (v, a)) else some (-5, a))) (mm_bd1 (fX9_firstCross 700 7 p) (fun r : Int32 => if r < 0 then mm_bd1 (fX9_bendsOf 700 7 p) (fun v : Int32 => some (v, o, p)) else some (-5, o, p))) = true
        rcases c with c | c
        · rw [c.1, c.2]
          show mm_same (mm_bd1 (fX7_bits 700 7 a) (fun v : Int32 => some (v, a))) (mm_bd1 (fX9_bendsOf 700 7 p) (fun v : Int32 => some (v, o, p))) = true
          obtain ⟨v, v8, v9⟩ := b
          rw [v8, v9]
          exact decide_eq_true rfl
        · obtain ⟨r, hr, c8, c9⟩ := c
          rw [c8, c9]
          show mm_same (if r < 0 then mm_bd1 (fX7_bits 700 7 a) (fun v : Int32 => some (v, a)) else some (-5, a)) (if r < 0 then mm_bd1 (fX9_bendsOf 700 7 p) (fun v : Int32 => some (v, o, p)) else some (-5, o, p)) = true
          have hn : ¬ r < 0 := Int32.not_lt.mpr hr
          rw [if_neg hn, if_neg hn]
          rfl
  · unfold fX8_bends fX9_bends
    rw [sb_n8f y1 (by omega), sb_n9f y1 (by omega)]
    rfl
set_option maxHeartbeats 8000000 in
set_option maxRecDepth 100000 in
theorem pp_22 (y1 : Int32) (y2 : Int32) : ∃ (r : Int32) (p_strip_at : List Int32) (q_order1 : List Int32) (q_placeIn : List Int32), fX8_bends 700 y1 y2 (mm_zs 7) = some (r, p_strip_at) ∧ fX9_bends 700 y1 y2 (mm_zs 7) (mm_zs 7) = some (r, q_order1, q_placeIn) := by
  obtain ⟨r, p0, ⟨q0, q1⟩, h8, h9⟩ := mm_sames (kk_22 y1 y2)
  exact ⟨r, p0, q0, q1, h8, h9⟩
