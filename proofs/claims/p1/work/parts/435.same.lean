/-! Two pure texts that answer alike: a check that the kernel can compute -/
def mm_same {α β γ : Type} [DecidableEq α] (x : Option (α × β)) (y : Option (α × γ)) : Bool := match x, y with
  | some a, some b => decide (a.1 = b.1)
  | _, _ => false
theorem mm_sames {α β γ : Type} [DecidableEq α] {x : Option (α × β)} {y : Option (α × γ)} (h : mm_same x y = true) : ∃ (r : α) (o1 : β) (o2 : γ), x = some (r, o1) ∧ y = some (r, o2) := by
  cases x with
  | none => cases h
  | some a =>
    cases y with
    | none => cases h
    | some b =>
      have e : a.1 = b.1 := of_decide_eq_true h
      refine ⟨a.1, a.2, b.2, rfl, ?_⟩
      rw [e]
def mm_sameL {α γ : Type} [DecidableEq α] (x : Option α) (y : Option (α × γ)) : Bool := match x, y with
  | some a, some b => decide (a = b.1)
  | _, _ => false
theorem mm_sameLs {α γ : Type} [DecidableEq α] {x : Option α} {y : Option (α × γ)} (h : mm_sameL x y = true) : ∃ (r : α) (o2 : γ), x = some r ∧ y = some (r, o2) := by
  cases x with
  | none => cases h
  | some a =>
    cases y with
    | none => cases h
    | some b =>
      have e : a = b.1 := of_decide_eq_true h
      refine ⟨a, b.2, rfl, ?_⟩
      rw [e]
def mm_sameR {α β : Type} [DecidableEq α] (x : Option (α × β)) (y : Option α) : Bool := match x, y with
  | some a, some b => decide (a.1 = b)
  | _, _ => false
theorem mm_sameRs {α β : Type} [DecidableEq α] {x : Option (α × β)} {y : Option α} (h : mm_sameR x y = true) : ∃ (r : α) (o1 : β), x = some (r, o1) ∧ y = some r := by
  cases x with
  | none => cases h
  | some a =>
    cases y with
    | none => cases h
    | some b =>
      have e : a.1 = b := of_decide_eq_true h
      refine ⟨a.1, a.2, rfl, ?_⟩
      rw [e]
def mm_sameN {α : Type} [DecidableEq α] (x y : Option α) : Bool := match x, y with
  | some a, some b => decide (a = b)
  | _, _ => false
theorem mm_sameNs {α : Type} [DecidableEq α] {x y : Option α} (h : mm_sameN x y = true) : ∃ r : α, x = some r ∧ y = some r := by
  cases x with
  | none => cases h
  | some a =>
    cases y with
    | none => cases h
    | some b =>
      have e : a = b := of_decide_eq_true h
      exact ⟨a, rfl, by rw [e]⟩
