/-! acts of both -/
set_option maxRecDepth 20000 in
theorem ac_0_0 (x b : Int32) (tr : List Int32) (hl : tr.length = 24) : ∃ r c t, fX1_call 700 (fX1_run 700 42) (0 : Int32) (0 : Int32) (0 : Int32) x (0 : Int32) (0 : Int32) b tr = some (r, c, t) ∧ fX9_foldsAs 700 4 (0 : Int32) x (0 : Int32) b tr = some (r, c, t) ∧ t.length = 24 := by
  obtain ⟨⟨r, c, t⟩, e, h⟩ := ac8_0_0 x b tr hl
  obtain ⟨⟨r', c', t'⟩, e', h'⟩ := ac9_0_0 x b tr hl
  have h1 : r = (x + b) ∧ c = ((0 : Int32) + (1 : Int32)) ∧ t = (mm_is tr (0 : Int32) (mm_ig mm_OWN (((4 : Int32) * (0 : Int32)) + (0 : Int32)))) := h
  have h2 : r' = (x + b) ∧ c' = ((0 : Int32) + (1 : Int32)) ∧ t' = (mm_is tr (0 : Int32) (1 : Int32)) := h'
  refine ⟨r, c, t, e, ?_, ?_⟩
  · rw [e', h1.1, h1.2.1, h1.2.2, h2.1, h2.2.1, h2.2.2]
    rfl
  · rw [h1.2.2]
    simp only [is_len]
    exact hl
set_option maxRecDepth 20000 in
theorem ac_0_1 (x b : Int32) (tr : List Int32) (hl : tr.length = 24) : ∃ r c t, fX1_call 700 (fX1_run 700 42) (0 : Int32) (0 : Int32) (1 : Int32) x (0 : Int32) (0 : Int32) b tr = some (r, c, t) ∧ fX9_laysAs 700 5 (0 : Int32) x (0 : Int32) (0 : Int32) b tr = some (r, c, t) ∧ t.length = 24 := by
  obtain ⟨⟨r, c, t⟩, e, h⟩ := ac8_0_1 x b tr hl
  obtain ⟨⟨r', c', t'⟩, e', h'⟩ := ac9_0_1 x b tr hl
  have h1 : r = ((x + b) * (2 : Int32)) ∧ c = (((0 : Int32) + (1 : Int32)) + (1 : Int32)) ∧ t = (mm_is (mm_is tr (0 : Int32) (mm_ig mm_OWN (((4 : Int32) * (0 : Int32)) + (1 : Int32)))) ((0 : Int32) + (1 : Int32)) (mm_ig mm_OWN (((4 : Int32) * (0 : Int32)) + (0 : Int32)))) := h
  have h2 : r' = ((x + b) * (2 : Int32)) ∧ c' = (((0 : Int32) + (1 : Int32)) + (1 : Int32)) ∧ t' = (mm_is (mm_is tr (0 : Int32) (10 : Int32)) ((0 : Int32) + (1 : Int32)) (1 : Int32)) := h'
  refine ⟨r, c, t, e, ?_, ?_⟩
  · rw [e', h1.1, h1.2.1, h1.2.2, h2.1, h2.2.1, h2.2.2]
    rfl
  · rw [h1.2.2]
    simp only [is_len]
    exact hl
set_option maxRecDepth 20000 in
theorem ac_0_2 (x b : Int32) (tr : List Int32) (hl : tr.length = 24) : ∃ r c t, fX1_call 700 (fX1_run 700 42) (0 : Int32) (0 : Int32) (2 : Int32) x (0 : Int32) (0 : Int32) b tr = some (r, c, t) ∧ fX9_wearsAs 700 4 (0 : Int32) x (0 : Int32) (0 : Int32) b tr = some (r, c, t) ∧ t.length = 24 := by
  obtain ⟨⟨r, c, t⟩, e, h⟩ := ac8_0_2 x b tr hl
  obtain ⟨⟨r', c', t'⟩, e', h'⟩ := ac9_0_2 x b tr hl
  have h1 : r = (x ^^^ b) ∧ c = ((0 : Int32) + (1 : Int32)) ∧ t = (mm_is tr (0 : Int32) (mm_ig mm_OWN (((4 : Int32) * (0 : Int32)) + (2 : Int32)))) := h
  have h2 : r' = (x ^^^ b) ∧ c' = ((0 : Int32) + (1 : Int32)) ∧ t' = (mm_is tr (0 : Int32) (11 : Int32)) := h'
  refine ⟨r, c, t, e, ?_, ?_⟩
  · rw [e', h1.1, h1.2.1, h1.2.2, h2.1, h2.2.1, h2.2.2]
    rfl
  · rw [h1.2.2]
    simp only [is_len]
    exact hl
set_option maxRecDepth 20000 in
theorem ac_0_3 (x b : Int32) (tr : List Int32) (hl : tr.length = 24) : ∃ r c t, fX1_call 700 (fX1_run 700 42) (0 : Int32) (0 : Int32) (3 : Int32) x (0 : Int32) (0 : Int32) b tr = some (r, c, t) ∧ fX9_tellsAs 700 4 (0 : Int32) x (0 : Int32) (0 : Int32) b tr = some (r, c, t) ∧ t.length = 24 := by
  obtain ⟨⟨r, c, t⟩, e, h⟩ := ac8_0_3 x b tr hl
  obtain ⟨⟨r', c', t'⟩, e', h'⟩ := ac9_0_3 x b tr hl
  have h1 : r = (((x + b) * (2 : Int32)) - ((1 : Int32) ^^^ b)) ∧ c = (((((0 : Int32) + (1 : Int32)) + (1 : Int32)) + (1 : Int32)) + (1 : Int32)) ∧ t = (mm_is (mm_is (mm_is (mm_is tr (0 : Int32) (mm_ig mm_OWN (((4 : Int32) * (0 : Int32)) + (3 : Int32)))) ((0 : Int32) + (1 : Int32)) (mm_ig mm_OWN (((4 : Int32) * (0 : Int32)) + (1 : Int32)))) (((0 : Int32) + (1 : Int32)) + (1 : Int32)) (mm_ig mm_OWN (((4 : Int32) * (0 : Int32)) + (0 : Int32)))) ((((0 : Int32) + (1 : Int32)) + (1 : Int32)) + (1 : Int32)) (mm_ig mm_OWN (((4 : Int32) * (0 : Int32)) + (2 : Int32)))) := h
  have h2 : r' = (((x + b) * (2 : Int32)) - ((1 : Int32) ^^^ b)) ∧ c' = (((((0 : Int32) + (1 : Int32)) + (1 : Int32)) + (1 : Int32)) + (1 : Int32)) ∧ t' = (mm_is (mm_is (mm_is (mm_is tr (0 : Int32) (2 : Int32)) ((0 : Int32) + (1 : Int32)) (10 : Int32)) (((0 : Int32) + (1 : Int32)) + (1 : Int32)) (1 : Int32)) ((((0 : Int32) + (1 : Int32)) + (1 : Int32)) + (1 : Int32)) (11 : Int32)) := h'
  refine ⟨r, c, t, e, ?_, ?_⟩
  · rw [e', h1.1, h1.2.1, h1.2.2, h2.1, h2.2.1, h2.2.2]
    rfl
  · rw [h1.2.2]
    simp only [is_len]
    exact hl
set_option maxRecDepth 20000 in
theorem ac_1_0 (x b : Int32) (tr : List Int32) (hl : tr.length = 24) : ∃ r c t, fX1_call 700 (fX1_run 700 42) (1 : Int32) (1 : Int32) (0 : Int32) x (0 : Int32) (0 : Int32) b tr = some (r, c, t) ∧ fX9_foldsAs 700 4 (1 : Int32) x (0 : Int32) b tr = some (r, c, t) ∧ t.length = 24 := by
  obtain ⟨⟨r, c, t⟩, e, h⟩ := ac8_1_0 x b tr hl
  obtain ⟨⟨r', c', t'⟩, e', h'⟩ := ac9_1_0 x b tr hl
  have h1 : r = ((x + b) + (3 : Int32)) ∧ c = (((0 : Int32) + (1 : Int32)) + (1 : Int32)) ∧ t = (mm_is (mm_is tr (0 : Int32) (mm_ig mm_OWN (((4 : Int32) * (1 : Int32)) + (0 : Int32)))) ((0 : Int32) + (1 : Int32)) (mm_ig mm_OWN (((4 : Int32) * (mm_ig mm_ABOVE (1 : Int32))) + (0 : Int32)))) := h
  have h2 : r' = ((x + b) + (3 : Int32)) ∧ c' = (((0 : Int32) + (1 : Int32)) + (1 : Int32)) ∧ t' = (mm_is (mm_is tr (0 : Int32) (20 : Int32)) ((0 : Int32) + (1 : Int32)) (1 : Int32)) := h'
  refine ⟨r, c, t, e, ?_, ?_⟩
  · rw [e', h1.1, h1.2.1, h1.2.2, h2.1, h2.2.1, h2.2.2]
    rfl
  · rw [h1.2.2]
    simp only [is_len]
    exact hl
set_option maxRecDepth 20000 in
theorem ac_1_1 (x b : Int32) (tr : List Int32) (hl : tr.length = 24) : ∃ r c t, fX1_call 700 (fX1_run 700 42) (1 : Int32) (1 : Int32) (1 : Int32) x (0 : Int32) (0 : Int32) b tr = some (r, c, t) ∧ fX9_laysAs 700 5 (1 : Int32) x (0 : Int32) (1 : Int32) b tr = some (r, c, t) ∧ t.length = 24 := by
  obtain ⟨⟨r, c, t⟩, e, h⟩ := ac8_1_1 x b tr hl
  obtain ⟨⟨r', c', t'⟩, e', h'⟩ := ac9_1_1 x b tr hl
  have h1 : r = (((x + b) + (3 : Int32)) * (2 : Int32)) ∧ c = ((((0 : Int32) + (1 : Int32)) + (1 : Int32)) + (1 : Int32)) ∧ t = (mm_is (mm_is (mm_is tr (0 : Int32) (mm_ig mm_OWN (((4 : Int32) * (mm_ig mm_ABOVE (1 : Int32))) + (1 : Int32)))) ((0 : Int32) + (1 : Int32)) (mm_ig mm_OWN (((4 : Int32) * (1 : Int32)) + (0 : Int32)))) (((0 : Int32) + (1 : Int32)) + (1 : Int32)) (mm_ig mm_OWN (((4 : Int32) * (mm_ig mm_ABOVE (1 : Int32))) + (0 : Int32)))) := h
  have h2 : r' = (((x + b) + (3 : Int32)) * (2 : Int32)) ∧ c' = ((((0 : Int32) + (1 : Int32)) + (1 : Int32)) + (1 : Int32)) ∧ t' = (mm_is (mm_is (mm_is tr (0 : Int32) (10 : Int32)) ((0 : Int32) + (1 : Int32)) (20 : Int32)) (((0 : Int32) + (1 : Int32)) + (1 : Int32)) (1 : Int32)) := h'
  refine ⟨r, c, t, e, ?_, ?_⟩
  · rw [e', h1.1, h1.2.1, h1.2.2, h2.1, h2.2.1, h2.2.2]
    rfl
  · rw [h1.2.2]
    simp only [is_len]
    exact hl
set_option maxRecDepth 20000 in
theorem ac_1_2 (x b : Int32) (tr : List Int32) (hl : tr.length = 24) : ∃ r c t, fX1_call 700 (fX1_run 700 42) (1 : Int32) (1 : Int32) (2 : Int32) x (0 : Int32) (0 : Int32) b tr = some (r, c, t) ∧ fX9_wearsAs 700 4 (1 : Int32) x (0 : Int32) (1 : Int32) b tr = some (r, c, t) ∧ t.length = 24 := by
  obtain ⟨⟨r, c, t⟩, e, h⟩ := ac8_1_2 x b tr hl
  obtain ⟨⟨r', c', t'⟩, e', h'⟩ := ac9_1_2 x b tr hl
  have h1 : r = (x ^^^ b) ∧ c = ((0 : Int32) + (1 : Int32)) ∧ t = (mm_is tr (0 : Int32) (mm_ig mm_OWN (((4 : Int32) * (mm_ig mm_ABOVE (1 : Int32))) + (2 : Int32)))) := h
  have h2 : r' = (x ^^^ b) ∧ c' = ((0 : Int32) + (1 : Int32)) ∧ t' = (mm_is tr (0 : Int32) (11 : Int32)) := h'
  refine ⟨r, c, t, e, ?_, ?_⟩
  · rw [e', h1.1, h1.2.1, h1.2.2, h2.1, h2.2.1, h2.2.2]
    rfl
  · rw [h1.2.2]
    simp only [is_len]
    exact hl
set_option maxRecDepth 20000 in
theorem ac_1_3 (x b : Int32) (tr : List Int32) (hl : tr.length = 24) : ∃ r c t, fX1_call 700 (fX1_run 700 42) (1 : Int32) (1 : Int32) (3 : Int32) x (0 : Int32) (0 : Int32) b tr = some (r, c, t) ∧ fX9_tellsAs 700 4 (1 : Int32) x (0 : Int32) (1 : Int32) b tr = some (r, c, t) ∧ t.length = 24 := by
  obtain ⟨⟨r, c, t⟩, e, h⟩ := ac8_1_3 x b tr hl
  obtain ⟨⟨r', c', t'⟩, e', h'⟩ := ac9_1_3 x b tr hl
  have h1 : r = ((((x + b) + (3 : Int32)) * (2 : Int32)) - ((1 : Int32) ^^^ b)) ∧ c = ((((((0 : Int32) + (1 : Int32)) + (1 : Int32)) + (1 : Int32)) + (1 : Int32)) + (1 : Int32)) ∧ t = (mm_is (mm_is (mm_is (mm_is (mm_is tr (0 : Int32) (mm_ig mm_OWN (((4 : Int32) * (mm_ig mm_ABOVE (1 : Int32))) + (3 : Int32)))) ((0 : Int32) + (1 : Int32)) (mm_ig mm_OWN (((4 : Int32) * (mm_ig mm_ABOVE (1 : Int32))) + (1 : Int32)))) (((0 : Int32) + (1 : Int32)) + (1 : Int32)) (mm_ig mm_OWN (((4 : Int32) * (1 : Int32)) + (0 : Int32)))) ((((0 : Int32) + (1 : Int32)) + (1 : Int32)) + (1 : Int32)) (mm_ig mm_OWN (((4 : Int32) * (mm_ig mm_ABOVE (1 : Int32))) + (0 : Int32)))) (((((0 : Int32) + (1 : Int32)) + (1 : Int32)) + (1 : Int32)) + (1 : Int32)) (mm_ig mm_OWN (((4 : Int32) * (mm_ig mm_ABOVE (1 : Int32))) + (2 : Int32)))) := h
  have h2 : r' = ((((x + b) + (3 : Int32)) * (2 : Int32)) - ((1 : Int32) ^^^ b)) ∧ c' = ((((((0 : Int32) + (1 : Int32)) + (1 : Int32)) + (1 : Int32)) + (1 : Int32)) + (1 : Int32)) ∧ t' = (mm_is (mm_is (mm_is (mm_is (mm_is tr (0 : Int32) (2 : Int32)) ((0 : Int32) + (1 : Int32)) (10 : Int32)) (((0 : Int32) + (1 : Int32)) + (1 : Int32)) (20 : Int32)) ((((0 : Int32) + (1 : Int32)) + (1 : Int32)) + (1 : Int32)) (1 : Int32)) (((((0 : Int32) + (1 : Int32)) + (1 : Int32)) + (1 : Int32)) + (1 : Int32)) (11 : Int32)) := h'
  refine ⟨r, c, t, e, ?_, ?_⟩
  · rw [e', h1.1, h1.2.1, h1.2.2, h2.1, h2.2.1, h2.2.2]
    rfl
  · rw [h1.2.2]
    simp only [is_len]
    exact hl
set_option maxRecDepth 20000 in
theorem ac_2_0 (x b : Int32) (tr : List Int32) (hl : tr.length = 24) : ∃ r c t, fX1_call 700 (fX1_run 700 42) (2 : Int32) (2 : Int32) (0 : Int32) x (0 : Int32) (0 : Int32) b tr = some (r, c, t) ∧ fX9_foldsAs 700 4 (2 : Int32) x (0 : Int32) b tr = some (r, c, t) ∧ t.length = 24 := by
  obtain ⟨⟨r, c, t⟩, e, h⟩ := ac8_2_0 x b tr hl
  obtain ⟨⟨r', c', t'⟩, e', h'⟩ := ac9_2_0 x b tr hl
  have h1 : r = (x + b) ∧ c = ((0 : Int32) + (1 : Int32)) ∧ t = (mm_is tr (0 : Int32) (mm_ig mm_OWN (((4 : Int32) * (mm_ig mm_ABOVE (2 : Int32))) + (0 : Int32)))) := h
  have h2 : r' = (x + b) ∧ c' = ((0 : Int32) + (1 : Int32)) ∧ t' = (mm_is tr (0 : Int32) (1 : Int32)) := h'
  refine ⟨r, c, t, e, ?_, ?_⟩
  · rw [e', h1.1, h1.2.1, h1.2.2, h2.1, h2.2.1, h2.2.2]
    rfl
  · rw [h1.2.2]
    simp only [is_len]
    exact hl
set_option maxRecDepth 20000 in
theorem ac_2_1 (x b : Int32) (tr : List Int32) (hl : tr.length = 24) : ∃ r c t, fX1_call 700 (fX1_run 700 42) (2 : Int32) (2 : Int32) (1 : Int32) x (0 : Int32) (0 : Int32) b tr = some (r, c, t) ∧ fX9_laysAs 700 5 (2 : Int32) x (0 : Int32) (2 : Int32) b tr = some (r, c, t) ∧ t.length = 24 := by
  obtain ⟨⟨r, c, t⟩, e, h⟩ := ac8_2_1 x b tr hl
  obtain ⟨⟨r', c', t'⟩, e', h'⟩ := ac9_2_1 x b tr hl
  have h1 : r = (-((x + b) * (2 : Int32))) ∧ c = ((((0 : Int32) + (1 : Int32)) + (1 : Int32)) + (1 : Int32)) ∧ t = (mm_is (mm_is (mm_is tr (0 : Int32) (mm_ig mm_OWN (((4 : Int32) * (2 : Int32)) + (1 : Int32)))) ((0 : Int32) + (1 : Int32)) (mm_ig mm_OWN (((4 : Int32) * (mm_ig mm_ABOVE (2 : Int32))) + (1 : Int32)))) (((0 : Int32) + (1 : Int32)) + (1 : Int32)) (mm_ig mm_OWN (((4 : Int32) * (mm_ig mm_ABOVE (2 : Int32))) + (0 : Int32)))) := h
  have h2 : r' = (-((x + b) * (2 : Int32))) ∧ c' = ((((0 : Int32) + (1 : Int32)) + (1 : Int32)) + (1 : Int32)) ∧ t' = (mm_is (mm_is (mm_is tr (0 : Int32) (30 : Int32)) ((0 : Int32) + (1 : Int32)) (10 : Int32)) (((0 : Int32) + (1 : Int32)) + (1 : Int32)) (1 : Int32)) := h'
  refine ⟨r, c, t, e, ?_, ?_⟩
  · rw [e', h1.1, h1.2.1, h1.2.2, h2.1, h2.2.1, h2.2.2]
    rfl
  · rw [h1.2.2]
    simp only [is_len]
    exact hl
set_option maxRecDepth 20000 in
theorem ac_2_2 (x b : Int32) (tr : List Int32) (hl : tr.length = 24) : ∃ r c t, fX1_call 700 (fX1_run 700 42) (2 : Int32) (2 : Int32) (2 : Int32) x (0 : Int32) (0 : Int32) b tr = some (r, c, t) ∧ fX9_wearsAs 700 4 (2 : Int32) x (0 : Int32) (2 : Int32) b tr = some (r, c, t) ∧ t.length = 24 := by
  obtain ⟨⟨r, c, t⟩, e, h⟩ := ac8_2_2 x b tr hl
  obtain ⟨⟨r', c', t'⟩, e', h'⟩ := ac9_2_2 x b tr hl
  have h1 : r = (x ^^^ b) ∧ c = ((0 : Int32) + (1 : Int32)) ∧ t = (mm_is tr (0 : Int32) (mm_ig mm_OWN (((4 : Int32) * (mm_ig mm_ABOVE (2 : Int32))) + (2 : Int32)))) := h
  have h2 : r' = (x ^^^ b) ∧ c' = ((0 : Int32) + (1 : Int32)) ∧ t' = (mm_is tr (0 : Int32) (11 : Int32)) := h'
  refine ⟨r, c, t, e, ?_, ?_⟩
  · rw [e', h1.1, h1.2.1, h1.2.2, h2.1, h2.2.1, h2.2.2]
    rfl
  · rw [h1.2.2]
    simp only [is_len]
    exact hl
set_option maxRecDepth 20000 in
theorem ac_2_3 (x b : Int32) (tr : List Int32) (hl : tr.length = 24) : ∃ r c t, fX1_call 700 (fX1_run 700 42) (2 : Int32) (2 : Int32) (3 : Int32) x (0 : Int32) (0 : Int32) b tr = some (r, c, t) ∧ fX9_tellsAs 700 4 (2 : Int32) x (0 : Int32) (2 : Int32) b tr = some (r, c, t) ∧ t.length = 24 := by
  obtain ⟨⟨r, c, t⟩, e, h⟩ := ac8_2_3 x b tr hl
  obtain ⟨⟨r', c', t'⟩, e', h'⟩ := ac9_2_3 x b tr hl
  have h1 : r = ((-((x + b) * (2 : Int32))) - ((1 : Int32) ^^^ b)) ∧ c = ((((((0 : Int32) + (1 : Int32)) + (1 : Int32)) + (1 : Int32)) + (1 : Int32)) + (1 : Int32)) ∧ t = (mm_is (mm_is (mm_is (mm_is (mm_is tr (0 : Int32) (mm_ig mm_OWN (((4 : Int32) * (mm_ig mm_ABOVE (2 : Int32))) + (3 : Int32)))) ((0 : Int32) + (1 : Int32)) (mm_ig mm_OWN (((4 : Int32) * (2 : Int32)) + (1 : Int32)))) (((0 : Int32) + (1 : Int32)) + (1 : Int32)) (mm_ig mm_OWN (((4 : Int32) * (mm_ig mm_ABOVE (2 : Int32))) + (1 : Int32)))) ((((0 : Int32) + (1 : Int32)) + (1 : Int32)) + (1 : Int32)) (mm_ig mm_OWN (((4 : Int32) * (mm_ig mm_ABOVE (2 : Int32))) + (0 : Int32)))) (((((0 : Int32) + (1 : Int32)) + (1 : Int32)) + (1 : Int32)) + (1 : Int32)) (mm_ig mm_OWN (((4 : Int32) * (mm_ig mm_ABOVE (2 : Int32))) + (2 : Int32)))) := h
  have h2 : r' = ((-((x + b) * (2 : Int32))) - ((1 : Int32) ^^^ b)) ∧ c' = ((((((0 : Int32) + (1 : Int32)) + (1 : Int32)) + (1 : Int32)) + (1 : Int32)) + (1 : Int32)) ∧ t' = (mm_is (mm_is (mm_is (mm_is (mm_is tr (0 : Int32) (2 : Int32)) ((0 : Int32) + (1 : Int32)) (30 : Int32)) (((0 : Int32) + (1 : Int32)) + (1 : Int32)) (10 : Int32)) ((((0 : Int32) + (1 : Int32)) + (1 : Int32)) + (1 : Int32)) (1 : Int32)) (((((0 : Int32) + (1 : Int32)) + (1 : Int32)) + (1 : Int32)) + (1 : Int32)) (11 : Int32)) := h'
  refine ⟨r, c, t, e, ?_, ?_⟩
  · rw [e', h1.1, h1.2.1, h1.2.2, h2.1, h2.2.1, h2.2.2]
    rfl
  · rw [h1.2.2]
    simp only [is_len]
    exact hl
set_option maxRecDepth 20000 in
theorem ac_3_0 (x b : Int32) (tr : List Int32) (hl : tr.length = 24) : ∃ r c t, fX1_call 700 (fX1_run 700 42) (3 : Int32) (3 : Int32) (0 : Int32) x (0 : Int32) (0 : Int32) b tr = some (r, c, t) ∧ fX9_foldsAs 700 4 (3 : Int32) x (0 : Int32) b tr = some (r, c, t) ∧ t.length = 24 := by
  obtain ⟨⟨r, c, t⟩, e, h⟩ := ac8_3_0 x b tr hl
  obtain ⟨⟨r', c', t'⟩, e', h'⟩ := ac9_3_0 x b tr hl
  have h1 : r = (x + b) ∧ c = ((0 : Int32) + (1 : Int32)) ∧ t = (mm_is tr (0 : Int32) (mm_ig mm_OWN (((4 : Int32) * (mm_ig mm_ABOVE (mm_ig mm_ABOVE (3 : Int32)))) + (0 : Int32)))) := h
  have h2 : r' = (x + b) ∧ c' = ((0 : Int32) + (1 : Int32)) ∧ t' = (mm_is tr (0 : Int32) (1 : Int32)) := h'
  refine ⟨r, c, t, e, ?_, ?_⟩
  · rw [e', h1.1, h1.2.1, h1.2.2, h2.1, h2.2.1, h2.2.2]
    rfl
  · rw [h1.2.2]
    simp only [is_len]
    exact hl
set_option maxRecDepth 20000 in
theorem ac_3_1 (x b : Int32) (tr : List Int32) (hl : tr.length = 24) : ∃ r c t, fX1_call 700 (fX1_run 700 42) (3 : Int32) (3 : Int32) (1 : Int32) x (0 : Int32) (0 : Int32) b tr = some (r, c, t) ∧ fX9_laysAs 700 5 (3 : Int32) x (0 : Int32) (3 : Int32) b tr = some (r, c, t) ∧ t.length = 24 := by
  obtain ⟨⟨r, c, t⟩, e, h⟩ := ac8_3_1 x b tr hl
  obtain ⟨⟨r', c', t'⟩, e', h'⟩ := ac9_3_1 x b tr hl
  have h1 : r = (-(((x + (1 : Int32)) + b) * (2 : Int32))) ∧ c = (((((0 : Int32) + (1 : Int32)) + (1 : Int32)) + (1 : Int32)) + (1 : Int32)) ∧ t = (mm_is (mm_is (mm_is (mm_is tr (0 : Int32) (mm_ig mm_OWN (((4 : Int32) * (3 : Int32)) + (1 : Int32)))) ((0 : Int32) + (1 : Int32)) (mm_ig mm_OWN (((4 : Int32) * (mm_ig mm_ABOVE (3 : Int32))) + (1 : Int32)))) (((0 : Int32) + (1 : Int32)) + (1 : Int32)) (mm_ig mm_OWN (((4 : Int32) * (mm_ig mm_ABOVE (mm_ig mm_ABOVE (3 : Int32)))) + (1 : Int32)))) ((((0 : Int32) + (1 : Int32)) + (1 : Int32)) + (1 : Int32)) (mm_ig mm_OWN (((4 : Int32) * (mm_ig mm_ABOVE (mm_ig mm_ABOVE (3 : Int32)))) + (0 : Int32)))) := h
  have h2 : r' = (-(((x + (1 : Int32)) + b) * (2 : Int32))) ∧ c' = (((((0 : Int32) + (1 : Int32)) + (1 : Int32)) + (1 : Int32)) + (1 : Int32)) ∧ t' = (mm_is (mm_is (mm_is (mm_is tr (0 : Int32) (41 : Int32)) ((0 : Int32) + (1 : Int32)) (30 : Int32)) (((0 : Int32) + (1 : Int32)) + (1 : Int32)) (10 : Int32)) ((((0 : Int32) + (1 : Int32)) + (1 : Int32)) + (1 : Int32)) (1 : Int32)) := h'
  refine ⟨r, c, t, e, ?_, ?_⟩
  · rw [e', h1.1, h1.2.1, h1.2.2, h2.1, h2.2.1, h2.2.2]
    rfl
  · rw [h1.2.2]
    simp only [is_len]
    exact hl
set_option maxRecDepth 20000 in
theorem ac_3_2 (x b : Int32) (tr : List Int32) (hl : tr.length = 24) : ∃ r c t, fX1_call 700 (fX1_run 700 42) (3 : Int32) (3 : Int32) (2 : Int32) x (0 : Int32) (0 : Int32) b tr = some (r, c, t) ∧ fX9_wearsAs 700 4 (3 : Int32) x (0 : Int32) (3 : Int32) b tr = some (r, c, t) ∧ t.length = 24 := by
  obtain ⟨⟨r, c, t⟩, e, h⟩ := ac8_3_2 x b tr hl
  obtain ⟨⟨r', c', t'⟩, e', h'⟩ := ac9_3_2 x b tr hl
  have h1 : r = ((x ^^^ b) * (3 : Int32)) ∧ c = (((0 : Int32) + (1 : Int32)) + (1 : Int32)) ∧ t = (mm_is (mm_is tr (0 : Int32) (mm_ig mm_OWN (((4 : Int32) * (3 : Int32)) + (2 : Int32)))) ((0 : Int32) + (1 : Int32)) (mm_ig mm_OWN (((4 : Int32) * (mm_ig mm_ABOVE (mm_ig mm_ABOVE (3 : Int32)))) + (2 : Int32)))) := h
  have h2 : r' = ((x ^^^ b) * (3 : Int32)) ∧ c' = (((0 : Int32) + (1 : Int32)) + (1 : Int32)) ∧ t' = (mm_is (mm_is tr (0 : Int32) (40 : Int32)) ((0 : Int32) + (1 : Int32)) (11 : Int32)) := h'
  refine ⟨r, c, t, e, ?_, ?_⟩
  · rw [e', h1.1, h1.2.1, h1.2.2, h2.1, h2.2.1, h2.2.2]
    rfl
  · rw [h1.2.2]
    simp only [is_len]
    exact hl
set_option maxRecDepth 20000 in
theorem ac_3_3 (x b : Int32) (tr : List Int32) (hl : tr.length = 24) : ∃ r c t, fX1_call 700 (fX1_run 700 42) (3 : Int32) (3 : Int32) (3 : Int32) x (0 : Int32) (0 : Int32) b tr = some (r, c, t) ∧ fX9_tellsAs 700 4 (3 : Int32) x (0 : Int32) (3 : Int32) b tr = some (r, c, t) ∧ t.length = 24 := by
  obtain ⟨⟨r, c, t⟩, e, h⟩ := ac8_3_3 x b tr hl
  obtain ⟨⟨r', c', t'⟩, e', h'⟩ := ac9_3_3 x b tr hl
  have h1 : r = ((-(((x + (1 : Int32)) + b) * (2 : Int32))) - (((1 : Int32) ^^^ b) * (3 : Int32))) ∧ c = ((((((((0 : Int32) + (1 : Int32)) + (1 : Int32)) + (1 : Int32)) + (1 : Int32)) + (1 : Int32)) + (1 : Int32)) + (1 : Int32)) ∧ t = (mm_is (mm_is (mm_is (mm_is (mm_is (mm_is (mm_is tr (0 : Int32) (mm_ig mm_OWN (((4 : Int32) * (mm_ig mm_ABOVE (mm_ig mm_ABOVE (3 : Int32)))) + (3 : Int32)))) ((0 : Int32) + (1 : Int32)) (mm_ig mm_OWN (((4 : Int32) * (3 : Int32)) + (1 : Int32)))) (((0 : Int32) + (1 : Int32)) + (1 : Int32)) (mm_ig mm_OWN (((4 : Int32) * (mm_ig mm_ABOVE (3 : Int32))) + (1 : Int32)))) ((((0 : Int32) + (1 : Int32)) + (1 : Int32)) + (1 : Int32)) (mm_ig mm_OWN (((4 : Int32) * (mm_ig mm_ABOVE (mm_ig mm_ABOVE (3 : Int32)))) + (1 : Int32)))) (((((0 : Int32) + (1 : Int32)) + (1 : Int32)) + (1 : Int32)) + (1 : Int32)) (mm_ig mm_OWN (((4 : Int32) * (mm_ig mm_ABOVE (mm_ig mm_ABOVE (3 : Int32)))) + (0 : Int32)))) ((((((0 : Int32) + (1 : Int32)) + (1 : Int32)) + (1 : Int32)) + (1 : Int32)) + (1 : Int32)) (mm_ig mm_OWN (((4 : Int32) * (3 : Int32)) + (2 : Int32)))) (((((((0 : Int32) + (1 : Int32)) + (1 : Int32)) + (1 : Int32)) + (1 : Int32)) + (1 : Int32)) + (1 : Int32)) (mm_ig mm_OWN (((4 : Int32) * (mm_ig mm_ABOVE (mm_ig mm_ABOVE (3 : Int32)))) + (2 : Int32)))) := h
  have h2 : r' = ((-(((x + (1 : Int32)) + b) * (2 : Int32))) - (((1 : Int32) ^^^ b) * (3 : Int32))) ∧ c' = ((((((((0 : Int32) + (1 : Int32)) + (1 : Int32)) + (1 : Int32)) + (1 : Int32)) + (1 : Int32)) + (1 : Int32)) + (1 : Int32)) ∧ t' = (mm_is (mm_is (mm_is (mm_is (mm_is (mm_is (mm_is tr (0 : Int32) (2 : Int32)) ((0 : Int32) + (1 : Int32)) (41 : Int32)) (((0 : Int32) + (1 : Int32)) + (1 : Int32)) (30 : Int32)) ((((0 : Int32) + (1 : Int32)) + (1 : Int32)) + (1 : Int32)) (10 : Int32)) (((((0 : Int32) + (1 : Int32)) + (1 : Int32)) + (1 : Int32)) + (1 : Int32)) (1 : Int32)) ((((((0 : Int32) + (1 : Int32)) + (1 : Int32)) + (1 : Int32)) + (1 : Int32)) + (1 : Int32)) (40 : Int32)) (((((((0 : Int32) + (1 : Int32)) + (1 : Int32)) + (1 : Int32)) + (1 : Int32)) + (1 : Int32)) + (1 : Int32)) (11 : Int32)) := h'
  refine ⟨r, c, t, e, ?_, ?_⟩
  · rw [e', h1.1, h1.2.1, h1.2.2, h2.1, h2.2.1, h2.2.2]
    rfl
  · rw [h1.2.2]
    simp only [is_len]
    exact hl
set_option maxRecDepth 20000 in
theorem ac_4_0 (x b : Int32) (tr : List Int32) (hl : tr.length = 24) : ∃ r c t, fX1_call 700 (fX1_run 700 42) (4 : Int32) (4 : Int32) (0 : Int32) x (0 : Int32) (0 : Int32) b tr = some (r, c, t) ∧ fX9_foldsAs 700 4 (4 : Int32) x (0 : Int32) b tr = some (r, c, t) ∧ t.length = 24 := by
  obtain ⟨⟨r, c, t⟩, e, h⟩ := ac8_4_0 x b tr hl
  obtain ⟨⟨r', c', t'⟩, e', h'⟩ := ac9_4_0 x b tr hl
  have h1 : r = (x + b) ∧ c = ((0 : Int32) + (1 : Int32)) ∧ t = (mm_is tr (0 : Int32) (mm_ig mm_OWN (((4 : Int32) * (mm_ig mm_ABOVE (4 : Int32))) + (0 : Int32)))) := h
  have h2 : r' = (x + b) ∧ c' = ((0 : Int32) + (1 : Int32)) ∧ t' = (mm_is tr (0 : Int32) (1 : Int32)) := h'
  refine ⟨r, c, t, e, ?_, ?_⟩
  · rw [e', h1.1, h1.2.1, h1.2.2, h2.1, h2.2.1, h2.2.2]
    rfl
  · rw [h1.2.2]
    simp only [is_len]
    exact hl
set_option maxRecDepth 20000 in
theorem ac_4_1 (x b : Int32) (tr : List Int32) (hl : tr.length = 24) : ∃ r c t, fX1_call 700 (fX1_run 700 42) (4 : Int32) (4 : Int32) (1 : Int32) x (0 : Int32) (0 : Int32) b tr = some (r, c, t) ∧ fX9_laysAs 700 5 (4 : Int32) x (0 : Int32) (4 : Int32) b tr = some (r, c, t) ∧ t.length = 24 := by
  obtain ⟨⟨r, c, t⟩, e, h⟩ := ac8_4_1 x b tr hl
  obtain ⟨⟨r', c', t'⟩, e', h'⟩ := ac9_4_1 x b tr hl
  have h1 : r = ((x + b) * (2 : Int32)) ∧ c = (((0 : Int32) + (1 : Int32)) + (1 : Int32)) ∧ t = (mm_is (mm_is tr (0 : Int32) (mm_ig mm_OWN (((4 : Int32) * (mm_ig mm_ABOVE (4 : Int32))) + (1 : Int32)))) ((0 : Int32) + (1 : Int32)) (mm_ig mm_OWN (((4 : Int32) * (mm_ig mm_ABOVE (4 : Int32))) + (0 : Int32)))) := h
  have h2 : r' = ((x + b) * (2 : Int32)) ∧ c' = (((0 : Int32) + (1 : Int32)) + (1 : Int32)) ∧ t' = (mm_is (mm_is tr (0 : Int32) (10 : Int32)) ((0 : Int32) + (1 : Int32)) (1 : Int32)) := h'
  refine ⟨r, c, t, e, ?_, ?_⟩
  · rw [e', h1.1, h1.2.1, h1.2.2, h2.1, h2.2.1, h2.2.2]
    rfl
  · rw [h1.2.2]
    simp only [is_len]
    exact hl
set_option maxRecDepth 20000 in
theorem ac_4_2 (x b : Int32) (tr : List Int32) (hl : tr.length = 24) : ∃ r c t, fX1_call 700 (fX1_run 700 42) (4 : Int32) (4 : Int32) (2 : Int32) x (0 : Int32) (0 : Int32) b tr = some (r, c, t) ∧ fX9_wearsAs 700 4 (4 : Int32) x (0 : Int32) (4 : Int32) b tr = some (r, c, t) ∧ t.length = 24 := by
  obtain ⟨⟨r, c, t⟩, e, h⟩ := ac8_4_2 x b tr hl
  obtain ⟨⟨r', c', t'⟩, e', h'⟩ := ac9_4_2 x b tr hl
  have h1 : r = ((x ^^^ b) - ((2 : Int32) + b)) ∧ c = ((((0 : Int32) + (1 : Int32)) + (1 : Int32)) + (1 : Int32)) ∧ t = (mm_is (mm_is (mm_is tr (0 : Int32) (mm_ig mm_OWN (((4 : Int32) * (4 : Int32)) + (2 : Int32)))) ((0 : Int32) + (1 : Int32)) (mm_ig mm_OWN (((4 : Int32) * (mm_ig mm_ABOVE (4 : Int32))) + (2 : Int32)))) (((0 : Int32) + (1 : Int32)) + (1 : Int32)) (mm_ig mm_OWN (((4 : Int32) * (mm_ig mm_ABOVE (4 : Int32))) + (0 : Int32)))) := h
  have h2 : r' = ((x ^^^ b) - ((2 : Int32) + b)) ∧ c' = ((((0 : Int32) + (1 : Int32)) + (1 : Int32)) + (1 : Int32)) ∧ t' = (mm_is (mm_is (mm_is tr (0 : Int32) (50 : Int32)) ((0 : Int32) + (1 : Int32)) (11 : Int32)) (((0 : Int32) + (1 : Int32)) + (1 : Int32)) (1 : Int32)) := h'
  refine ⟨r, c, t, e, ?_, ?_⟩
  · rw [e', h1.1, h1.2.1, h1.2.2, h2.1, h2.2.1, h2.2.2]
    rfl
  · rw [h1.2.2]
    simp only [is_len]
    exact hl
set_option maxRecDepth 20000 in
theorem ac_4_3 (x b : Int32) (tr : List Int32) (hl : tr.length = 24) : ∃ r c t, fX1_call 700 (fX1_run 700 42) (4 : Int32) (4 : Int32) (3 : Int32) x (0 : Int32) (0 : Int32) b tr = some (r, c, t) ∧ fX9_tellsAs 700 4 (4 : Int32) x (0 : Int32) (4 : Int32) b tr = some (r, c, t) ∧ t.length = 24 := by
  obtain ⟨⟨r, c, t⟩, e, h⟩ := ac8_4_3 x b tr hl
  obtain ⟨⟨r', c', t'⟩, e', h'⟩ := ac9_4_3 x b tr hl
  have h1 : r = (((x + b) * (2 : Int32)) - (((1 : Int32) ^^^ b) - ((2 : Int32) + b))) ∧ c = (((((((0 : Int32) + (1 : Int32)) + (1 : Int32)) + (1 : Int32)) + (1 : Int32)) + (1 : Int32)) + (1 : Int32)) ∧ t = (mm_is (mm_is (mm_is (mm_is (mm_is (mm_is tr (0 : Int32) (mm_ig mm_OWN (((4 : Int32) * (mm_ig mm_ABOVE (4 : Int32))) + (3 : Int32)))) ((0 : Int32) + (1 : Int32)) (mm_ig mm_OWN (((4 : Int32) * (mm_ig mm_ABOVE (4 : Int32))) + (1 : Int32)))) (((0 : Int32) + (1 : Int32)) + (1 : Int32)) (mm_ig mm_OWN (((4 : Int32) * (mm_ig mm_ABOVE (4 : Int32))) + (0 : Int32)))) ((((0 : Int32) + (1 : Int32)) + (1 : Int32)) + (1 : Int32)) (mm_ig mm_OWN (((4 : Int32) * (4 : Int32)) + (2 : Int32)))) (((((0 : Int32) + (1 : Int32)) + (1 : Int32)) + (1 : Int32)) + (1 : Int32)) (mm_ig mm_OWN (((4 : Int32) * (mm_ig mm_ABOVE (4 : Int32))) + (2 : Int32)))) ((((((0 : Int32) + (1 : Int32)) + (1 : Int32)) + (1 : Int32)) + (1 : Int32)) + (1 : Int32)) (mm_ig mm_OWN (((4 : Int32) * (mm_ig mm_ABOVE (4 : Int32))) + (0 : Int32)))) := h
  have h2 : r' = (((x + b) * (2 : Int32)) - (((1 : Int32) ^^^ b) - ((2 : Int32) + b))) ∧ c' = (((((((0 : Int32) + (1 : Int32)) + (1 : Int32)) + (1 : Int32)) + (1 : Int32)) + (1 : Int32)) + (1 : Int32)) ∧ t' = (mm_is (mm_is (mm_is (mm_is (mm_is (mm_is tr (0 : Int32) (2 : Int32)) ((0 : Int32) + (1 : Int32)) (10 : Int32)) (((0 : Int32) + (1 : Int32)) + (1 : Int32)) (1 : Int32)) ((((0 : Int32) + (1 : Int32)) + (1 : Int32)) + (1 : Int32)) (50 : Int32)) (((((0 : Int32) + (1 : Int32)) + (1 : Int32)) + (1 : Int32)) + (1 : Int32)) (11 : Int32)) ((((((0 : Int32) + (1 : Int32)) + (1 : Int32)) + (1 : Int32)) + (1 : Int32)) + (1 : Int32)) (1 : Int32)) := h'
  refine ⟨r, c, t, e, ?_, ?_⟩
  · rw [e', h1.1, h1.2.1, h1.2.2, h2.1, h2.2.1, h2.2.2]
    rfl
  · rw [h1.2.2]
    simp only [is_len]
    exact hl
set_option maxRecDepth 20000 in
theorem ac_5_0 (x b : Int32) (tr : List Int32) (hl : tr.length = 24) : ∃ r c t, fX1_call 700 (fX1_run 700 42) (5 : Int32) (5 : Int32) (0 : Int32) x (0 : Int32) (0 : Int32) b tr = some (r, c, t) ∧ fX9_foldsAs 700 4 (5 : Int32) x (0 : Int32) b tr = some (r, c, t) ∧ t.length = 24 := by
  obtain ⟨⟨r, c, t⟩, e, h⟩ := ac8_5_0 x b tr hl
  obtain ⟨⟨r', c', t'⟩, e', h'⟩ := ac9_5_0 x b tr hl
  have h1 : r = (x + b) ∧ c = ((0 : Int32) + (1 : Int32)) ∧ t = (mm_is tr (0 : Int32) (mm_ig mm_OWN (((4 : Int32) * (mm_ig mm_ABOVE (mm_ig mm_ABOVE (mm_ig mm_ABOVE (5 : Int32))))) + (0 : Int32)))) := h
  have h2 : r' = (x + b) ∧ c' = ((0 : Int32) + (1 : Int32)) ∧ t' = (mm_is tr (0 : Int32) (1 : Int32)) := h'
  refine ⟨r, c, t, e, ?_, ?_⟩
  · rw [e', h1.1, h1.2.1, h1.2.2, h2.1, h2.2.1, h2.2.2]
    rfl
  · rw [h1.2.2]
    simp only [is_len]
    exact hl
set_option maxRecDepth 20000 in
theorem ac_5_1 (x b : Int32) (tr : List Int32) (hl : tr.length = 24) : ∃ r c t, fX1_call 700 (fX1_run 700 42) (5 : Int32) (5 : Int32) (1 : Int32) x (0 : Int32) (0 : Int32) b tr = some (r, c, t) ∧ fX9_laysAs 700 5 (5 : Int32) x (0 : Int32) (5 : Int32) b tr = some (r, c, t) ∧ t.length = 24 := by
  obtain ⟨⟨r, c, t⟩, e, h⟩ := ac8_5_1 x b tr hl
  obtain ⟨⟨r', c', t'⟩, e', h'⟩ := ac9_5_1 x b tr hl
  have h1 : r = (-(((x + (1 : Int32)) + b) * (2 : Int32))) ∧ c = (((((0 : Int32) + (1 : Int32)) + (1 : Int32)) + (1 : Int32)) + (1 : Int32)) ∧ t = (mm_is (mm_is (mm_is (mm_is tr (0 : Int32) (mm_ig mm_OWN (((4 : Int32) * (mm_ig mm_ABOVE (5 : Int32))) + (1 : Int32)))) ((0 : Int32) + (1 : Int32)) (mm_ig mm_OWN (((4 : Int32) * (mm_ig mm_ABOVE (mm_ig mm_ABOVE (5 : Int32)))) + (1 : Int32)))) (((0 : Int32) + (1 : Int32)) + (1 : Int32)) (mm_ig mm_OWN (((4 : Int32) * (mm_ig mm_ABOVE (mm_ig mm_ABOVE (mm_ig mm_ABOVE (5 : Int32))))) + (1 : Int32)))) ((((0 : Int32) + (1 : Int32)) + (1 : Int32)) + (1 : Int32)) (mm_ig mm_OWN (((4 : Int32) * (mm_ig mm_ABOVE (mm_ig mm_ABOVE (mm_ig mm_ABOVE (5 : Int32))))) + (0 : Int32)))) := h
  have h2 : r' = (-(((x + (1 : Int32)) + b) * (2 : Int32))) ∧ c' = (((((0 : Int32) + (1 : Int32)) + (1 : Int32)) + (1 : Int32)) + (1 : Int32)) ∧ t' = (mm_is (mm_is (mm_is (mm_is tr (0 : Int32) (41 : Int32)) ((0 : Int32) + (1 : Int32)) (30 : Int32)) (((0 : Int32) + (1 : Int32)) + (1 : Int32)) (10 : Int32)) ((((0 : Int32) + (1 : Int32)) + (1 : Int32)) + (1 : Int32)) (1 : Int32)) := h'
  refine ⟨r, c, t, e, ?_, ?_⟩
  · rw [e', h1.1, h1.2.1, h1.2.2, h2.1, h2.2.1, h2.2.2]
    rfl
  · rw [h1.2.2]
    simp only [is_len]
    exact hl
set_option maxRecDepth 20000 in
theorem ac_5_2 (x b : Int32) (tr : List Int32) (hl : tr.length = 24) : ∃ r c t, fX1_call 700 (fX1_run 700 42) (5 : Int32) (5 : Int32) (2 : Int32) x (0 : Int32) (0 : Int32) b tr = some (r, c, t) ∧ fX9_wearsAs 700 4 (5 : Int32) x (0 : Int32) (5 : Int32) b tr = some (r, c, t) ∧ t.length = 24 := by
  obtain ⟨⟨r, c, t⟩, e, h⟩ := ac8_5_2 x b tr hl
  obtain ⟨⟨r', c', t'⟩, e', h'⟩ := ac9_5_2 x b tr hl
  have h1 : r = ((x ^^^ b) * (3 : Int32)) ∧ c = (((0 : Int32) + (1 : Int32)) + (1 : Int32)) ∧ t = (mm_is (mm_is tr (0 : Int32) (mm_ig mm_OWN (((4 : Int32) * (mm_ig mm_ABOVE (5 : Int32))) + (2 : Int32)))) ((0 : Int32) + (1 : Int32)) (mm_ig mm_OWN (((4 : Int32) * (mm_ig mm_ABOVE (mm_ig mm_ABOVE (mm_ig mm_ABOVE (5 : Int32))))) + (2 : Int32)))) := h
  have h2 : r' = ((x ^^^ b) * (3 : Int32)) ∧ c' = (((0 : Int32) + (1 : Int32)) + (1 : Int32)) ∧ t' = (mm_is (mm_is tr (0 : Int32) (40 : Int32)) ((0 : Int32) + (1 : Int32)) (11 : Int32)) := h'
  refine ⟨r, c, t, e, ?_, ?_⟩
  · rw [e', h1.1, h1.2.1, h1.2.2, h2.1, h2.2.1, h2.2.2]
    rfl
  · rw [h1.2.2]
    simp only [is_len]
    exact hl
set_option maxRecDepth 20000 in
theorem ac_5_3 (x b : Int32) (tr : List Int32) (hl : tr.length = 24) : ∃ r c t, fX1_call 700 (fX1_run 700 42) (5 : Int32) (5 : Int32) (3 : Int32) x (0 : Int32) (0 : Int32) b tr = some (r, c, t) ∧ fX9_tellsAs 700 4 (5 : Int32) x (0 : Int32) (5 : Int32) b tr = some (r, c, t) ∧ t.length = 24 := by
  obtain ⟨⟨r, c, t⟩, e, h⟩ := ac8_5_3 x b tr hl
  obtain ⟨⟨r', c', t'⟩, e', h'⟩ := ac9_5_3 x b tr hl
  have h1 : r = (((-(((x + (1 : Int32)) + b) * (2 : Int32))) - (((1 : Int32) ^^^ b) * (3 : Int32))) ^^^ (5 : Int32)) ∧ c = (((((((((0 : Int32) + (1 : Int32)) + (1 : Int32)) + (1 : Int32)) + (1 : Int32)) + (1 : Int32)) + (1 : Int32)) + (1 : Int32)) + (1 : Int32)) ∧ t = (mm_is (mm_is (mm_is (mm_is (mm_is (mm_is (mm_is (mm_is tr (0 : Int32) (mm_ig mm_OWN (((4 : Int32) * (5 : Int32)) + (3 : Int32)))) ((0 : Int32) + (1 : Int32)) (mm_ig mm_OWN (((4 : Int32) * (mm_ig mm_ABOVE (mm_ig mm_ABOVE (mm_ig mm_ABOVE (5 : Int32))))) + (3 : Int32)))) (((0 : Int32) + (1 : Int32)) + (1 : Int32)) (mm_ig mm_OWN (((4 : Int32) * (mm_ig mm_ABOVE (5 : Int32))) + (1 : Int32)))) ((((0 : Int32) + (1 : Int32)) + (1 : Int32)) + (1 : Int32)) (mm_ig mm_OWN (((4 : Int32) * (mm_ig mm_ABOVE (mm_ig mm_ABOVE (5 : Int32)))) + (1 : Int32)))) (((((0 : Int32) + (1 : Int32)) + (1 : Int32)) + (1 : Int32)) + (1 : Int32)) (mm_ig mm_OWN (((4 : Int32) * (mm_ig mm_ABOVE (mm_ig mm_ABOVE (mm_ig mm_ABOVE (5 : Int32))))) + (1 : Int32)))) ((((((0 : Int32) + (1 : Int32)) + (1 : Int32)) + (1 : Int32)) + (1 : Int32)) + (1 : Int32)) (mm_ig mm_OWN (((4 : Int32) * (mm_ig mm_ABOVE (mm_ig mm_ABOVE (mm_ig mm_ABOVE (5 : Int32))))) + (0 : Int32)))) (((((((0 : Int32) + (1 : Int32)) + (1 : Int32)) + (1 : Int32)) + (1 : Int32)) + (1 : Int32)) + (1 : Int32)) (mm_ig mm_OWN (((4 : Int32) * (mm_ig mm_ABOVE (5 : Int32))) + (2 : Int32)))) ((((((((0 : Int32) + (1 : Int32)) + (1 : Int32)) + (1 : Int32)) + (1 : Int32)) + (1 : Int32)) + (1 : Int32)) + (1 : Int32)) (mm_ig mm_OWN (((4 : Int32) * (mm_ig mm_ABOVE (mm_ig mm_ABOVE (mm_ig mm_ABOVE (5 : Int32))))) + (2 : Int32)))) := h
  have h2 : r' = (((-(((x + (1 : Int32)) + b) * (2 : Int32))) - (((1 : Int32) ^^^ b) * (3 : Int32))) ^^^ (5 : Int32)) ∧ c' = (((((((((0 : Int32) + (1 : Int32)) + (1 : Int32)) + (1 : Int32)) + (1 : Int32)) + (1 : Int32)) + (1 : Int32)) + (1 : Int32)) + (1 : Int32)) ∧ t' = (mm_is (mm_is (mm_is (mm_is (mm_is (mm_is (mm_is (mm_is tr (0 : Int32) (60 : Int32)) ((0 : Int32) + (1 : Int32)) (2 : Int32)) (((0 : Int32) + (1 : Int32)) + (1 : Int32)) (41 : Int32)) ((((0 : Int32) + (1 : Int32)) + (1 : Int32)) + (1 : Int32)) (30 : Int32)) (((((0 : Int32) + (1 : Int32)) + (1 : Int32)) + (1 : Int32)) + (1 : Int32)) (10 : Int32)) ((((((0 : Int32) + (1 : Int32)) + (1 : Int32)) + (1 : Int32)) + (1 : Int32)) + (1 : Int32)) (1 : Int32)) (((((((0 : Int32) + (1 : Int32)) + (1 : Int32)) + (1 : Int32)) + (1 : Int32)) + (1 : Int32)) + (1 : Int32)) (40 : Int32)) ((((((((0 : Int32) + (1 : Int32)) + (1 : Int32)) + (1 : Int32)) + (1 : Int32)) + (1 : Int32)) + (1 : Int32)) + (1 : Int32)) (11 : Int32)) := h'
  refine ⟨r, c, t, e, ?_, ?_⟩
  · rw [e', h1.1, h1.2.1, h1.2.2, h2.1, h2.2.1, h2.2.2]
    rfl
  · rw [h1.2.2]
    simp only [is_len]
    exact hl
set_option maxRecDepth 20000 in
theorem ac_6_0 (x b : Int32) (tr : List Int32) (hl : tr.length = 24) : ∃ r c t, fX1_call 700 (fX1_run 700 42) (6 : Int32) (6 : Int32) (0 : Int32) x (0 : Int32) (0 : Int32) b tr = some (r, c, t) ∧ fX9_foldsAs 700 4 (6 : Int32) x (0 : Int32) b tr = some (r, c, t) ∧ t.length = 24 := by
  obtain ⟨⟨r, c, t⟩, e, h⟩ := ac8_6_0 x b tr hl
  obtain ⟨⟨r', c', t'⟩, e', h'⟩ := ac9_6_0 x b tr hl
  have h1 : r = (((x + b) + (3 : Int32)) * (2 : Int32)) ∧ c = ((((0 : Int32) + (1 : Int32)) + (1 : Int32)) + (1 : Int32)) ∧ t = (mm_is (mm_is (mm_is tr (0 : Int32) (mm_ig mm_OWN (((4 : Int32) * (6 : Int32)) + (0 : Int32)))) ((0 : Int32) + (1 : Int32)) (mm_ig mm_OWN (((4 : Int32) * (mm_ig mm_ABOVE (6 : Int32))) + (0 : Int32)))) (((0 : Int32) + (1 : Int32)) + (1 : Int32)) (mm_ig mm_OWN (((4 : Int32) * (mm_ig mm_ABOVE (mm_ig mm_ABOVE (6 : Int32)))) + (0 : Int32)))) := h
  have h2 : r' = (((x + b) + (3 : Int32)) * (2 : Int32)) ∧ c' = ((((0 : Int32) + (1 : Int32)) + (1 : Int32)) + (1 : Int32)) ∧ t' = (mm_is (mm_is (mm_is tr (0 : Int32) (70 : Int32)) ((0 : Int32) + (1 : Int32)) (20 : Int32)) (((0 : Int32) + (1 : Int32)) + (1 : Int32)) (1 : Int32)) := h'
  refine ⟨r, c, t, e, ?_, ?_⟩
  · rw [e', h1.1, h1.2.1, h1.2.2, h2.1, h2.2.1, h2.2.2]
    rfl
  · rw [h1.2.2]
    simp only [is_len]
    exact hl
set_option maxRecDepth 20000 in
theorem ac_6_1 (x b : Int32) (tr : List Int32) (hl : tr.length = 24) : ∃ r c t, fX1_call 700 (fX1_run 700 42) (6 : Int32) (6 : Int32) (1 : Int32) x (0 : Int32) (0 : Int32) b tr = some (r, c, t) ∧ fX9_laysAs 700 5 (6 : Int32) x (0 : Int32) (6 : Int32) b tr = some (r, c, t) ∧ t.length = 24 := by
  obtain ⟨⟨r, c, t⟩, e, h⟩ := ac8_6_1 x b tr hl
  obtain ⟨⟨r', c', t'⟩, e', h'⟩ := ac9_6_1 x b tr hl
  have h1 : r = ((((x + b) + (3 : Int32)) * (2 : Int32)) * (2 : Int32)) ∧ c = (((((0 : Int32) + (1 : Int32)) + (1 : Int32)) + (1 : Int32)) + (1 : Int32)) ∧ t = (mm_is (mm_is (mm_is (mm_is tr (0 : Int32) (mm_ig mm_OWN (((4 : Int32) * (mm_ig mm_ABOVE (mm_ig mm_ABOVE (6 : Int32)))) + (1 : Int32)))) ((0 : Int32) + (1 : Int32)) (mm_ig mm_OWN (((4 : Int32) * (6 : Int32)) + (0 : Int32)))) (((0 : Int32) + (1 : Int32)) + (1 : Int32)) (mm_ig mm_OWN (((4 : Int32) * (mm_ig mm_ABOVE (6 : Int32))) + (0 : Int32)))) ((((0 : Int32) + (1 : Int32)) + (1 : Int32)) + (1 : Int32)) (mm_ig mm_OWN (((4 : Int32) * (mm_ig mm_ABOVE (mm_ig mm_ABOVE (6 : Int32)))) + (0 : Int32)))) := h
  have h2 : r' = ((((x + b) + (3 : Int32)) * (2 : Int32)) * (2 : Int32)) ∧ c' = (((((0 : Int32) + (1 : Int32)) + (1 : Int32)) + (1 : Int32)) + (1 : Int32)) ∧ t' = (mm_is (mm_is (mm_is (mm_is tr (0 : Int32) (10 : Int32)) ((0 : Int32) + (1 : Int32)) (70 : Int32)) (((0 : Int32) + (1 : Int32)) + (1 : Int32)) (20 : Int32)) ((((0 : Int32) + (1 : Int32)) + (1 : Int32)) + (1 : Int32)) (1 : Int32)) := h'
  refine ⟨r, c, t, e, ?_, ?_⟩
  · rw [e', h1.1, h1.2.1, h1.2.2, h2.1, h2.2.1, h2.2.2]
    rfl
  · rw [h1.2.2]
    simp only [is_len]
    exact hl
set_option maxRecDepth 20000 in
theorem ac_6_2 (x b : Int32) (tr : List Int32) (hl : tr.length = 24) : ∃ r c t, fX1_call 700 (fX1_run 700 42) (6 : Int32) (6 : Int32) (2 : Int32) x (0 : Int32) (0 : Int32) b tr = some (r, c, t) ∧ fX9_wearsAs 700 4 (6 : Int32) x (0 : Int32) (6 : Int32) b tr = some (r, c, t) ∧ t.length = 24 := by
  obtain ⟨⟨r, c, t⟩, e, h⟩ := ac8_6_2 x b tr hl
  obtain ⟨⟨r', c', t'⟩, e', h'⟩ := ac9_6_2 x b tr hl
  have h1 : r = (x ^^^ b) ∧ c = ((0 : Int32) + (1 : Int32)) ∧ t = (mm_is tr (0 : Int32) (mm_ig mm_OWN (((4 : Int32) * (mm_ig mm_ABOVE (mm_ig mm_ABOVE (6 : Int32)))) + (2 : Int32)))) := h
  have h2 : r' = (x ^^^ b) ∧ c' = ((0 : Int32) + (1 : Int32)) ∧ t' = (mm_is tr (0 : Int32) (11 : Int32)) := h'
  refine ⟨r, c, t, e, ?_, ?_⟩
  · rw [e', h1.1, h1.2.1, h1.2.2, h2.1, h2.2.1, h2.2.2]
    rfl
  · rw [h1.2.2]
    simp only [is_len]
    exact hl
set_option maxRecDepth 20000 in
theorem ac_6_3 (x b : Int32) (tr : List Int32) (hl : tr.length = 24) : ∃ r c t, fX1_call 700 (fX1_run 700 42) (6 : Int32) (6 : Int32) (3 : Int32) x (0 : Int32) (0 : Int32) b tr = some (r, c, t) ∧ fX9_tellsAs 700 4 (6 : Int32) x (0 : Int32) (6 : Int32) b tr = some (r, c, t) ∧ t.length = 24 := by
  obtain ⟨⟨r, c, t⟩, e, h⟩ := ac8_6_3 x b tr hl
  obtain ⟨⟨r', c', t'⟩, e', h'⟩ := ac9_6_3 x b tr hl
  have h1 : r = (((((x + b) + (3 : Int32)) * (2 : Int32)) * (2 : Int32)) - ((1 : Int32) ^^^ b)) ∧ c = (((((((0 : Int32) + (1 : Int32)) + (1 : Int32)) + (1 : Int32)) + (1 : Int32)) + (1 : Int32)) + (1 : Int32)) ∧ t = (mm_is (mm_is (mm_is (mm_is (mm_is (mm_is tr (0 : Int32) (mm_ig mm_OWN (((4 : Int32) * (mm_ig mm_ABOVE (mm_ig mm_ABOVE (6 : Int32)))) + (3 : Int32)))) ((0 : Int32) + (1 : Int32)) (mm_ig mm_OWN (((4 : Int32) * (mm_ig mm_ABOVE (mm_ig mm_ABOVE (6 : Int32)))) + (1 : Int32)))) (((0 : Int32) + (1 : Int32)) + (1 : Int32)) (mm_ig mm_OWN (((4 : Int32) * (6 : Int32)) + (0 : Int32)))) ((((0 : Int32) + (1 : Int32)) + (1 : Int32)) + (1 : Int32)) (mm_ig mm_OWN (((4 : Int32) * (mm_ig mm_ABOVE (6 : Int32))) + (0 : Int32)))) (((((0 : Int32) + (1 : Int32)) + (1 : Int32)) + (1 : Int32)) + (1 : Int32)) (mm_ig mm_OWN (((4 : Int32) * (mm_ig mm_ABOVE (mm_ig mm_ABOVE (6 : Int32)))) + (0 : Int32)))) ((((((0 : Int32) + (1 : Int32)) + (1 : Int32)) + (1 : Int32)) + (1 : Int32)) + (1 : Int32)) (mm_ig mm_OWN (((4 : Int32) * (mm_ig mm_ABOVE (mm_ig mm_ABOVE (6 : Int32)))) + (2 : Int32)))) := h
  have h2 : r' = (((((x + b) + (3 : Int32)) * (2 : Int32)) * (2 : Int32)) - ((1 : Int32) ^^^ b)) ∧ c' = (((((((0 : Int32) + (1 : Int32)) + (1 : Int32)) + (1 : Int32)) + (1 : Int32)) + (1 : Int32)) + (1 : Int32)) ∧ t' = (mm_is (mm_is (mm_is (mm_is (mm_is (mm_is tr (0 : Int32) (2 : Int32)) ((0 : Int32) + (1 : Int32)) (10 : Int32)) (((0 : Int32) + (1 : Int32)) + (1 : Int32)) (70 : Int32)) ((((0 : Int32) + (1 : Int32)) + (1 : Int32)) + (1 : Int32)) (20 : Int32)) (((((0 : Int32) + (1 : Int32)) + (1 : Int32)) + (1 : Int32)) + (1 : Int32)) (1 : Int32)) ((((((0 : Int32) + (1 : Int32)) + (1 : Int32)) + (1 : Int32)) + (1 : Int32)) + (1 : Int32)) (11 : Int32)) := h'
  refine ⟨r, c, t, e, ?_, ?_⟩
  · rw [e', h1.1, h1.2.1, h1.2.2, h2.1, h2.2.1, h2.2.2]
    rfl
  · rw [h1.2.2]
    simp only [is_len]
    exact hl
set_option maxRecDepth 20000 in
theorem ac_7_0 (x b : Int32) (tr : List Int32) (hl : tr.length = 24) : ∃ r c t, fX1_call 700 (fX1_run 700 42) (7 : Int32) (7 : Int32) (0 : Int32) x (0 : Int32) (0 : Int32) b tr = some (r, c, t) ∧ fX9_foldsAs 700 4 (7 : Int32) x (0 : Int32) b tr = some (r, c, t) ∧ t.length = 24 := by
  obtain ⟨⟨r, c, t⟩, e, h⟩ := ac8_7_0 x b tr hl
  obtain ⟨⟨r', c', t'⟩, e', h'⟩ := ac9_7_0 x b tr hl
  have h1 : r = (x + b) ∧ c = ((0 : Int32) + (1 : Int32)) ∧ t = (mm_is tr (0 : Int32) (mm_ig mm_OWN (((4 : Int32) * (mm_ig mm_ABOVE (mm_ig mm_ABOVE (7 : Int32)))) + (0 : Int32)))) := h
  have h2 : r' = (x + b) ∧ c' = ((0 : Int32) + (1 : Int32)) ∧ t' = (mm_is tr (0 : Int32) (1 : Int32)) := h'
  refine ⟨r, c, t, e, ?_, ?_⟩
  · rw [e', h1.1, h1.2.1, h1.2.2, h2.1, h2.2.1, h2.2.2]
    rfl
  · rw [h1.2.2]
    simp only [is_len]
    exact hl
set_option maxRecDepth 20000 in
theorem ac_7_1 (x b : Int32) (tr : List Int32) (hl : tr.length = 24) : ∃ r c t, fX1_call 700 (fX1_run 700 42) (7 : Int32) (7 : Int32) (1 : Int32) x (0 : Int32) (0 : Int32) b tr = some (r, c, t) ∧ fX9_laysAs 700 5 (7 : Int32) x (0 : Int32) (7 : Int32) b tr = some (r, c, t) ∧ t.length = 24 := by
  obtain ⟨⟨r, c, t⟩, e, h⟩ := ac8_7_1 x b tr hl
  obtain ⟨⟨r', c', t'⟩, e', h'⟩ := ac9_7_1 x b tr hl
  have h1 : r = (((x + b) * (2 : Int32)) + (((2 : Int32) ^^^ b) - ((2 : Int32) + b))) ∧ c = (((((((0 : Int32) + (1 : Int32)) + (1 : Int32)) + (1 : Int32)) + (1 : Int32)) + (1 : Int32)) + (1 : Int32)) ∧ t = (mm_is (mm_is (mm_is (mm_is (mm_is (mm_is tr (0 : Int32) (mm_ig mm_OWN (((4 : Int32) * (7 : Int32)) + (1 : Int32)))) ((0 : Int32) + (1 : Int32)) (mm_ig mm_OWN (((4 : Int32) * (mm_ig mm_ABOVE (mm_ig mm_ABOVE (7 : Int32)))) + (1 : Int32)))) (((0 : Int32) + (1 : Int32)) + (1 : Int32)) (mm_ig mm_OWN (((4 : Int32) * (mm_ig mm_ABOVE (mm_ig mm_ABOVE (7 : Int32)))) + (0 : Int32)))) ((((0 : Int32) + (1 : Int32)) + (1 : Int32)) + (1 : Int32)) (mm_ig mm_OWN (((4 : Int32) * (mm_ig mm_ABOVE (7 : Int32))) + (2 : Int32)))) (((((0 : Int32) + (1 : Int32)) + (1 : Int32)) + (1 : Int32)) + (1 : Int32)) (mm_ig mm_OWN (((4 : Int32) * (mm_ig mm_ABOVE (mm_ig mm_ABOVE (7 : Int32)))) + (2 : Int32)))) ((((((0 : Int32) + (1 : Int32)) + (1 : Int32)) + (1 : Int32)) + (1 : Int32)) + (1 : Int32)) (mm_ig mm_OWN (((4 : Int32) * (mm_ig mm_ABOVE (mm_ig mm_ABOVE (7 : Int32)))) + (0 : Int32)))) := h
  have h2 : r' = (((x + b) * (2 : Int32)) + (((2 : Int32) ^^^ b) - ((2 : Int32) + b))) ∧ c' = (((((((0 : Int32) + (1 : Int32)) + (1 : Int32)) + (1 : Int32)) + (1 : Int32)) + (1 : Int32)) + (1 : Int32)) ∧ t' = (mm_is (mm_is (mm_is (mm_is (mm_is (mm_is tr (0 : Int32) (80 : Int32)) ((0 : Int32) + (1 : Int32)) (10 : Int32)) (((0 : Int32) + (1 : Int32)) + (1 : Int32)) (1 : Int32)) ((((0 : Int32) + (1 : Int32)) + (1 : Int32)) + (1 : Int32)) (50 : Int32)) (((((0 : Int32) + (1 : Int32)) + (1 : Int32)) + (1 : Int32)) + (1 : Int32)) (11 : Int32)) ((((((0 : Int32) + (1 : Int32)) + (1 : Int32)) + (1 : Int32)) + (1 : Int32)) + (1 : Int32)) (1 : Int32)) := h'
  refine ⟨r, c, t, e, ?_, ?_⟩
  · rw [e', h1.1, h1.2.1, h1.2.2, h2.1, h2.2.1, h2.2.2]
    rfl
  · rw [h1.2.2]
    simp only [is_len]
    exact hl
set_option maxRecDepth 20000 in
theorem ac_7_2 (x b : Int32) (tr : List Int32) (hl : tr.length = 24) : ∃ r c t, fX1_call 700 (fX1_run 700 42) (7 : Int32) (7 : Int32) (2 : Int32) x (0 : Int32) (0 : Int32) b tr = some (r, c, t) ∧ fX9_wearsAs 700 4 (7 : Int32) x (0 : Int32) (7 : Int32) b tr = some (r, c, t) ∧ t.length = 24 := by
  obtain ⟨⟨r, c, t⟩, e, h⟩ := ac8_7_2 x b tr hl
  obtain ⟨⟨r', c', t'⟩, e', h'⟩ := ac9_7_2 x b tr hl
  have h1 : r = ((x ^^^ b) - ((2 : Int32) + b)) ∧ c = ((((0 : Int32) + (1 : Int32)) + (1 : Int32)) + (1 : Int32)) ∧ t = (mm_is (mm_is (mm_is tr (0 : Int32) (mm_ig mm_OWN (((4 : Int32) * (mm_ig mm_ABOVE (7 : Int32))) + (2 : Int32)))) ((0 : Int32) + (1 : Int32)) (mm_ig mm_OWN (((4 : Int32) * (mm_ig mm_ABOVE (mm_ig mm_ABOVE (7 : Int32)))) + (2 : Int32)))) (((0 : Int32) + (1 : Int32)) + (1 : Int32)) (mm_ig mm_OWN (((4 : Int32) * (mm_ig mm_ABOVE (mm_ig mm_ABOVE (7 : Int32)))) + (0 : Int32)))) := h
  have h2 : r' = ((x ^^^ b) - ((2 : Int32) + b)) ∧ c' = ((((0 : Int32) + (1 : Int32)) + (1 : Int32)) + (1 : Int32)) ∧ t' = (mm_is (mm_is (mm_is tr (0 : Int32) (50 : Int32)) ((0 : Int32) + (1 : Int32)) (11 : Int32)) (((0 : Int32) + (1 : Int32)) + (1 : Int32)) (1 : Int32)) := h'
  refine ⟨r, c, t, e, ?_, ?_⟩
  · rw [e', h1.1, h1.2.1, h1.2.2, h2.1, h2.2.1, h2.2.2]
    rfl
  · rw [h1.2.2]
    simp only [is_len]
    exact hl
set_option maxRecDepth 20000 in
theorem ac_7_3 (x b : Int32) (tr : List Int32) (hl : tr.length = 24) : ∃ r c t, fX1_call 700 (fX1_run 700 42) (7 : Int32) (7 : Int32) (3 : Int32) x (0 : Int32) (0 : Int32) b tr = some (r, c, t) ∧ fX9_tellsAs 700 4 (7 : Int32) x (0 : Int32) (7 : Int32) b tr = some (r, c, t) ∧ t.length = 24 := by
  obtain ⟨⟨r, c, t⟩, e, h⟩ := ac8_7_3 x b tr hl
  obtain ⟨⟨r', c', t'⟩, e', h'⟩ := ac9_7_3 x b tr hl
  have h1 : r = (((((x + b) * (2 : Int32)) + (((2 : Int32) ^^^ b) - ((2 : Int32) + b))) - (((1 : Int32) ^^^ b) - ((2 : Int32) + b))) - (1 : Int32)) ∧ c = ((((((((((((0 : Int32) + (1 : Int32)) + (1 : Int32)) + (1 : Int32)) + (1 : Int32)) + (1 : Int32)) + (1 : Int32)) + (1 : Int32)) + (1 : Int32)) + (1 : Int32)) + (1 : Int32)) + (1 : Int32)) ∧ t = (mm_is (mm_is (mm_is (mm_is (mm_is (mm_is (mm_is (mm_is (mm_is (mm_is (mm_is tr (0 : Int32) (mm_ig mm_OWN (((4 : Int32) * (7 : Int32)) + (3 : Int32)))) ((0 : Int32) + (1 : Int32)) (mm_ig mm_OWN (((4 : Int32) * (mm_ig mm_ABOVE (mm_ig mm_ABOVE (7 : Int32)))) + (3 : Int32)))) (((0 : Int32) + (1 : Int32)) + (1 : Int32)) (mm_ig mm_OWN (((4 : Int32) * (7 : Int32)) + (1 : Int32)))) ((((0 : Int32) + (1 : Int32)) + (1 : Int32)) + (1 : Int32)) (mm_ig mm_OWN (((4 : Int32) * (mm_ig mm_ABOVE (mm_ig mm_ABOVE (7 : Int32)))) + (1 : Int32)))) (((((0 : Int32) + (1 : Int32)) + (1 : Int32)) + (1 : Int32)) + (1 : Int32)) (mm_ig mm_OWN (((4 : Int32) * (mm_ig mm_ABOVE (mm_ig mm_ABOVE (7 : Int32)))) + (0 : Int32)))) ((((((0 : Int32) + (1 : Int32)) + (1 : Int32)) + (1 : Int32)) + (1 : Int32)) + (1 : Int32)) (mm_ig mm_OWN (((4 : Int32) * (mm_ig mm_ABOVE (7 : Int32))) + (2 : Int32)))) (((((((0 : Int32) + (1 : Int32)) + (1 : Int32)) + (1 : Int32)) + (1 : Int32)) + (1 : Int32)) + (1 : Int32)) (mm_ig mm_OWN (((4 : Int32) * (mm_ig mm_ABOVE (mm_ig mm_ABOVE (7 : Int32)))) + (2 : Int32)))) ((((((((0 : Int32) + (1 : Int32)) + (1 : Int32)) + (1 : Int32)) + (1 : Int32)) + (1 : Int32)) + (1 : Int32)) + (1 : Int32)) (mm_ig mm_OWN (((4 : Int32) * (mm_ig mm_ABOVE (mm_ig mm_ABOVE (7 : Int32)))) + (0 : Int32)))) (((((((((0 : Int32) + (1 : Int32)) + (1 : Int32)) + (1 : Int32)) + (1 : Int32)) + (1 : Int32)) + (1 : Int32)) + (1 : Int32)) + (1 : Int32)) (mm_ig mm_OWN (((4 : Int32) * (mm_ig mm_ABOVE (7 : Int32))) + (2 : Int32)))) ((((((((((0 : Int32) + (1 : Int32)) + (1 : Int32)) + (1 : Int32)) + (1 : Int32)) + (1 : Int32)) + (1 : Int32)) + (1 : Int32)) + (1 : Int32)) + (1 : Int32)) (mm_ig mm_OWN (((4 : Int32) * (mm_ig mm_ABOVE (mm_ig mm_ABOVE (7 : Int32)))) + (2 : Int32)))) (((((((((((0 : Int32) + (1 : Int32)) + (1 : Int32)) + (1 : Int32)) + (1 : Int32)) + (1 : Int32)) + (1 : Int32)) + (1 : Int32)) + (1 : Int32)) + (1 : Int32)) + (1 : Int32)) (mm_ig mm_OWN (((4 : Int32) * (mm_ig mm_ABOVE (mm_ig mm_ABOVE (7 : Int32)))) + (0 : Int32)))) := h
  have h2 : r' = (((((x + b) * (2 : Int32)) + (((2 : Int32) ^^^ b) - ((2 : Int32) + b))) - (((1 : Int32) ^^^ b) - ((2 : Int32) + b))) - (1 : Int32)) ∧ c' = ((((((((((((0 : Int32) + (1 : Int32)) + (1 : Int32)) + (1 : Int32)) + (1 : Int32)) + (1 : Int32)) + (1 : Int32)) + (1 : Int32)) + (1 : Int32)) + (1 : Int32)) + (1 : Int32)) + (1 : Int32)) ∧ t' = (mm_is (mm_is (mm_is (mm_is (mm_is (mm_is (mm_is (mm_is (mm_is (mm_is (mm_is tr (0 : Int32) (81 : Int32)) ((0 : Int32) + (1 : Int32)) (2 : Int32)) (((0 : Int32) + (1 : Int32)) + (1 : Int32)) (80 : Int32)) ((((0 : Int32) + (1 : Int32)) + (1 : Int32)) + (1 : Int32)) (10 : Int32)) (((((0 : Int32) + (1 : Int32)) + (1 : Int32)) + (1 : Int32)) + (1 : Int32)) (1 : Int32)) ((((((0 : Int32) + (1 : Int32)) + (1 : Int32)) + (1 : Int32)) + (1 : Int32)) + (1 : Int32)) (50 : Int32)) (((((((0 : Int32) + (1 : Int32)) + (1 : Int32)) + (1 : Int32)) + (1 : Int32)) + (1 : Int32)) + (1 : Int32)) (11 : Int32)) ((((((((0 : Int32) + (1 : Int32)) + (1 : Int32)) + (1 : Int32)) + (1 : Int32)) + (1 : Int32)) + (1 : Int32)) + (1 : Int32)) (1 : Int32)) (((((((((0 : Int32) + (1 : Int32)) + (1 : Int32)) + (1 : Int32)) + (1 : Int32)) + (1 : Int32)) + (1 : Int32)) + (1 : Int32)) + (1 : Int32)) (50 : Int32)) ((((((((((0 : Int32) + (1 : Int32)) + (1 : Int32)) + (1 : Int32)) + (1 : Int32)) + (1 : Int32)) + (1 : Int32)) + (1 : Int32)) + (1 : Int32)) + (1 : Int32)) (11 : Int32)) (((((((((((0 : Int32) + (1 : Int32)) + (1 : Int32)) + (1 : Int32)) + (1 : Int32)) + (1 : Int32)) + (1 : Int32)) + (1 : Int32)) + (1 : Int32)) + (1 : Int32)) + (1 : Int32)) (1 : Int32)) := h'
  refine ⟨r, c, t, e, ?_, ?_⟩
  · rw [e', h1.1, h1.2.1, h1.2.2, h2.1, h2.2.1, h2.2.2]
    rfl
  · rw [h1.2.2]
    simp only [is_len]
    exact hl
