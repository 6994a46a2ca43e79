/-! Results handed on; the worlds of the classes -/
def mm_bd1 {α0 β : Type} (x : Option (α0)) (k : α0 → Option β) : Option β := match x with
  | some a0 => k a0
  | none => none
theorem mm_bd1s {α0 β : Type} {x : Option (α0)} {k : α0 → Option β} {r : β} (h : mm_bd1 x k = some r) : ∃ a0, x = some a0 ∧ k a0 = some r := by
  cases x with
  | none => cases h
  | some q =>
    exact ⟨q, rfl, h⟩
def mm_bd2 {α0 α1 β : Type} (x : Option (α0 × α1)) (k : α0 → α1 → Option β) : Option β := match x with
  | some (a0, a1) => k a0 a1
  | none => none
theorem mm_bd2s {α0 α1 β : Type} {x : Option (α0 × α1)} {k : α0 → α1 → Option β} {r : β} (h : mm_bd2 x k = some r) : ∃ a0 a1, x = some (a0, a1) ∧ k a0 a1 = some r := by
  cases x with
  | none => cases h
  | some q =>
    obtain ⟨a0, a1⟩ := q
    exact ⟨a0, a1, rfl, h⟩
def mm_bd3 {α0 α1 α2 β : Type} (x : Option (α0 × α1 × α2)) (k : α0 → α1 → α2 → Option β) : Option β := match x with
  | some (a0, a1, a2) => k a0 a1 a2
  | none => none
theorem mm_bd3s {α0 α1 α2 β : Type} {x : Option (α0 × α1 × α2)} {k : α0 → α1 → α2 → Option β} {r : β} (h : mm_bd3 x k = some r) : ∃ a0 a1 a2, x = some (a0, a1, a2) ∧ k a0 a1 a2 = some r := by
  cases x with
  | none => cases h
  | some q =>
    obtain ⟨a0, a1, a2⟩ := q
    exact ⟨a0, a1, a2, rfl, h⟩
def mm_bd4 {α0 α1 α2 α3 β : Type} (x : Option (α0 × α1 × α2 × α3)) (k : α0 → α1 → α2 → α3 → Option β) : Option β := match x with
  | some (a0, a1, a2, a3) => k a0 a1 a2 a3
  | none => none
theorem mm_bd4s {α0 α1 α2 α3 β : Type} {x : Option (α0 × α1 × α2 × α3)} {k : α0 → α1 → α2 → α3 → Option β} {r : β} (h : mm_bd4 x k = some r) : ∃ a0 a1 a2 a3, x = some (a0, a1, a2, a3) ∧ k a0 a1 a2 a3 = some r := by
  cases x with
  | none => cases h
  | some q =>
    obtain ⟨a0, a1, a2, a3⟩ := q
    exact ⟨a0, a1, a2, a3, rfl, h⟩
def mm_bd5 {α0 α1 α2 α3 α4 β : Type} (x : Option (α0 × α1 × α2 × α3 × α4)) (k : α0 → α1 → α2 → α3 → α4 → Option β) : Option β := match x with
  | some (a0, a1, a2, a3, a4) => k a0 a1 a2 a3 a4
  | none => none
theorem mm_bd5s {α0 α1 α2 α3 α4 β : Type} {x : Option (α0 × α1 × α2 × α3 × α4)} {k : α0 → α1 → α2 → α3 → α4 → Option β} {r : β} (h : mm_bd5 x k = some r) : ∃ a0 a1 a2 a3 a4, x = some (a0, a1, a2, a3, a4) ∧ k a0 a1 a2 a3 a4 = some r := by
  cases x with
  | none => cases h
  | some q =>
    obtain ⟨a0, a1, a2, a3, a4⟩ := q
    exact ⟨a0, a1, a2, a3, a4, rfl, h⟩
def mm_bd6 {α0 α1 α2 α3 α4 α5 β : Type} (x : Option (α0 × α1 × α2 × α3 × α4 × α5)) (k : α0 → α1 → α2 → α3 → α4 → α5 → Option β) : Option β := match x with
  | some (a0, a1, a2, a3, a4, a5) => k a0 a1 a2 a3 a4 a5
  | none => none
theorem mm_bd6s {α0 α1 α2 α3 α4 α5 β : Type} {x : Option (α0 × α1 × α2 × α3 × α4 × α5)} {k : α0 → α1 → α2 → α3 → α4 → α5 → Option β} {r : β} (h : mm_bd6 x k = some r) : ∃ a0 a1 a2 a3 a4 a5, x = some (a0, a1, a2, a3, a4, a5) ∧ k a0 a1 a2 a3 a4 a5 = some r := by
  cases x with
  | none => cases h
  | some q =>
    obtain ⟨a0, a1, a2, a3, a4, a5⟩ := q
    exact ⟨a0, a1, a2, a3, a4, a5, rfl, h⟩
def mm_bd7 {α0 α1 α2 α3 α4 α5 α6 β : Type} (x : Option (α0 × α1 × α2 × α3 × α4 × α5 × α6)) (k : α0 → α1 → α2 → α3 → α4 → α5 → α6 → Option β) : Option β := match x with
  | some (a0, a1, a2, a3, a4, a5, a6) => k a0 a1 a2 a3 a4 a5 a6
  | none => none
theorem mm_bd7s {α0 α1 α2 α3 α4 α5 α6 β : Type} {x : Option (α0 × α1 × α2 × α3 × α4 × α5 × α6)} {k : α0 → α1 → α2 → α3 → α4 → α5 → α6 → Option β} {r : β} (h : mm_bd7 x k = some r) : ∃ a0 a1 a2 a3 a4 a5 a6, x = some (a0, a1, a2, a3, a4, a5, a6) ∧ k a0 a1 a2 a3 a4 a5 a6 = some r := by
  cases x with
  | none => cases h
  | some q =>
    obtain ⟨a0, a1, a2, a3, a4, a5, a6⟩ := q
    exact ⟨a0, a1, a2, a3, a4, a5, a6, rfl, h⟩
def mm_bd8 {α0 α1 α2 α3 α4 α5 α6 α7 β : Type} (x : Option (α0 × α1 × α2 × α3 × α4 × α5 × α6 × α7)) (k : α0 → α1 → α2 → α3 → α4 → α5 → α6 → α7 → Option β) : Option β := match x with
  | some (a0, a1, a2, a3, a4, a5, a6, a7) => k a0 a1 a2 a3 a4 a5 a6 a7
  | none => none
theorem mm_bd8s {α0 α1 α2 α3 α4 α5 α6 α7 β : Type} {x : Option (α0 × α1 × α2 × α3 × α4 × α5 × α6 × α7)} {k : α0 → α1 → α2 → α3 → α4 → α5 → α6 → α7 → Option β} {r : β} (h : mm_bd8 x k = some r) : ∃ a0 a1 a2 a3 a4 a5 a6 a7, x = some (a0, a1, a2, a3, a4, a5, a6, a7) ∧ k a0 a1 a2 a3 a4 a5 a6 a7 = some r := by
  cases x with
  | none => cases h
  | some q =>
    obtain ⟨a0, a1, a2, a3, a4, a5, a6, a7⟩ := q
    exact ⟨a0, a1, a2, a3, a4, a5, a6, a7, rfl, h⟩
def mm_bd9 {α0 α1 α2 α3 α4 α5 α6 α7 α8 β : Type} (x : Option (α0 × α1 × α2 × α3 × α4 × α5 × α6 × α7 × α8)) (k : α0 → α1 → α2 → α3 → α4 → α5 → α6 → α7 → α8 → Option β) : Option β := match x with
  | some (a0, a1, a2, a3, a4, a5, a6, a7, a8) => k a0 a1 a2 a3 a4 a5 a6 a7 a8
  | none => none
theorem mm_bd9s {α0 α1 α2 α3 α4 α5 α6 α7 α8 β : Type} {x : Option (α0 × α1 × α2 × α3 × α4 × α5 × α6 × α7 × α8)} {k : α0 → α1 → α2 → α3 → α4 → α5 → α6 → α7 → α8 → Option β} {r : β} (h : mm_bd9 x k = some r) : ∃ a0 a1 a2 a3 a4 a5 a6 a7 a8, x = some (a0, a1, a2, a3, a4, a5, a6, a7, a8) ∧ k a0 a1 a2 a3 a4 a5 a6 a7 a8 = some r := by
  cases x with
  | none => cases h
  | some q =>
    obtain ⟨a0, a1, a2, a3, a4, a5, a6, a7, a8⟩ := q
    exact ⟨a0, a1, a2, a3, a4, a5, a6, a7, a8, rfl, h⟩
def mm_bd12 {α0 α1 α2 α3 α4 α5 α6 α7 α8 α9 α10 α11 β : Type} (x : Option (α0 × α1 × α2 × α3 × α4 × α5 × α6 × α7 × α8 × α9 × α10 × α11)) (k : α0 → α1 → α2 → α3 → α4 → α5 → α6 → α7 → α8 → α9 → α10 → α11 → Option β) : Option β := match x with
  | some (a0, a1, a2, a3, a4, a5, a6, a7, a8, a9, a10, a11) => k a0 a1 a2 a3 a4 a5 a6 a7 a8 a9 a10 a11
  | none => none
theorem mm_bd12s {α0 α1 α2 α3 α4 α5 α6 α7 α8 α9 α10 α11 β : Type} {x : Option (α0 × α1 × α2 × α3 × α4 × α5 × α6 × α7 × α8 × α9 × α10 × α11)} {k : α0 → α1 → α2 → α3 → α4 → α5 → α6 → α7 → α8 → α9 → α10 → α11 → Option β} {r : β} (h : mm_bd12 x k = some r) : ∃ a0 a1 a2 a3 a4 a5 a6 a7 a8 a9 a10 a11, x = some (a0, a1, a2, a3, a4, a5, a6, a7, a8, a9, a10, a11) ∧ k a0 a1 a2 a3 a4 a5 a6 a7 a8 a9 a10 a11 = some r := by
  cases x with
  | none => cases h
  | some q =>
    obtain ⟨a0, a1, a2, a3, a4, a5, a6, a7, a8, a9, a10, a11⟩ := q
    exact ⟨a0, a1, a2, a3, a4, a5, a6, a7, a8, a9, a10, a11, rfl, h⟩
def mm_bd13 {α0 α1 α2 α3 α4 α5 α6 α7 α8 α9 α10 α11 α12 β : Type} (x : Option (α0 × α1 × α2 × α3 × α4 × α5 × α6 × α7 × α8 × α9 × α10 × α11 × α12)) (k : α0 → α1 → α2 → α3 → α4 → α5 → α6 → α7 → α8 → α9 → α10 → α11 → α12 → Option β) : Option β := match x with
  | some (a0, a1, a2, a3, a4, a5, a6, a7, a8, a9, a10, a11, a12) => k a0 a1 a2 a3 a4 a5 a6 a7 a8 a9 a10 a11 a12
  | none => none
theorem mm_bd13s {α0 α1 α2 α3 α4 α5 α6 α7 α8 α9 α10 α11 α12 β : Type} {x : Option (α0 × α1 × α2 × α3 × α4 × α5 × α6 × α7 × α8 × α9 × α10 × α11 × α12)} {k : α0 → α1 → α2 → α3 → α4 → α5 → α6 → α7 → α8 → α9 → α10 → α11 → α12 → Option β} {r : β} (h : mm_bd13 x k = some r) : ∃ a0 a1 a2 a3 a4 a5 a6 a7 a8 a9 a10 a11 a12, x = some (a0, a1, a2, a3, a4, a5, a6, a7, a8, a9, a10, a11, a12) ∧ k a0 a1 a2 a3 a4 a5 a6 a7 a8 a9 a10 a11 a12 = some r := by
  cases x with
  | none => cases h
  | some q =>
    obtain ⟨a0, a1, a2, a3, a4, a5, a6, a7, a8, a9, a10, a11, a12⟩ := q
    exact ⟨a0, a1, a2, a3, a4, a5, a6, a7, a8, a9, a10, a11, a12, rfl, h⟩
def mm_bd15 {α0 α1 α2 α3 α4 α5 α6 α7 α8 α9 α10 α11 α12 α13 α14 β : Type} (x : Option (α0 × α1 × α2 × α3 × α4 × α5 × α6 × α7 × α8 × α9 × α10 × α11 × α12 × α13 × α14)) (k : α0 → α1 → α2 → α3 → α4 → α5 → α6 → α7 → α8 → α9 → α10 → α11 → α12 → α13 → α14 → Option β) : Option β := match x with
  | some (a0, a1, a2, a3, a4, a5, a6, a7, a8, a9, a10, a11, a12, a13, a14) => k a0 a1 a2 a3 a4 a5 a6 a7 a8 a9 a10 a11 a12 a13 a14
  | none => none
theorem mm_bd15s {α0 α1 α2 α3 α4 α5 α6 α7 α8 α9 α10 α11 α12 α13 α14 β : Type} {x : Option (α0 × α1 × α2 × α3 × α4 × α5 × α6 × α7 × α8 × α9 × α10 × α11 × α12 × α13 × α14)} {k : α0 → α1 → α2 → α3 → α4 → α5 → α6 → α7 → α8 → α9 → α10 → α11 → α12 → α13 → α14 → Option β} {r : β} (h : mm_bd15 x k = some r) : ∃ a0 a1 a2 a3 a4 a5 a6 a7 a8 a9 a10 a11 a12 a13 a14, x = some (a0, a1, a2, a3, a4, a5, a6, a7, a8, a9, a10, a11, a12, a13, a14) ∧ k a0 a1 a2 a3 a4 a5 a6 a7 a8 a9 a10 a11 a12 a13 a14 = some r := by
  cases x with
  | none => cases h
  | some q =>
    obtain ⟨a0, a1, a2, a3, a4, a5, a6, a7, a8, a9, a10, a11, a12, a13, a14⟩ := q
    exact ⟨a0, a1, a2, a3, a4, a5, a6, a7, a8, a9, a10, a11, a12, a13, a14, rfl, h⟩
def mm_bd16 {α0 α1 α2 α3 α4 α5 α6 α7 α8 α9 α10 α11 α12 α13 α14 α15 β : Type} (x : Option (α0 × α1 × α2 × α3 × α4 × α5 × α6 × α7 × α8 × α9 × α10 × α11 × α12 × α13 × α14 × α15)) (k : α0 → α1 → α2 → α3 → α4 → α5 → α6 → α7 → α8 → α9 → α10 → α11 → α12 → α13 → α14 → α15 → Option β) : Option β := match x with
  | some (a0, a1, a2, a3, a4, a5, a6, a7, a8, a9, a10, a11, a12, a13, a14, a15) => k a0 a1 a2 a3 a4 a5 a6 a7 a8 a9 a10 a11 a12 a13 a14 a15
  | none => none
theorem mm_bd16s {α0 α1 α2 α3 α4 α5 α6 α7 α8 α9 α10 α11 α12 α13 α14 α15 β : Type} {x : Option (α0 × α1 × α2 × α3 × α4 × α5 × α6 × α7 × α8 × α9 × α10 × α11 × α12 × α13 × α14 × α15)} {k : α0 → α1 → α2 → α3 → α4 → α5 → α6 → α7 → α8 → α9 → α10 → α11 → α12 → α13 → α14 → α15 → Option β} {r : β} (h : mm_bd16 x k = some r) : ∃ a0 a1 a2 a3 a4 a5 a6 a7 a8 a9 a10 a11 a12 a13 a14 a15, x = some (a0, a1, a2, a3, a4, a5, a6, a7, a8, a9, a10, a11, a12, a13, a14, a15) ∧ k a0 a1 a2 a3 a4 a5 a6 a7 a8 a9 a10 a11 a12 a13 a14 a15 = some r := by
  cases x with
  | none => cases h
  | some q =>
    obtain ⟨a0, a1, a2, a3, a4, a5, a6, a7, a8, a9, a10, a11, a12, a13, a14, a15⟩ := q
    exact ⟨a0, a1, a2, a3, a4, a5, a6, a7, a8, a9, a10, a11, a12, a13, a14, a15, rfl, h⟩
def mm_bd18 {α0 α1 α2 α3 α4 α5 α6 α7 α8 α9 α10 α11 α12 α13 α14 α15 α16 α17 β : Type} (x : Option (α0 × α1 × α2 × α3 × α4 × α5 × α6 × α7 × α8 × α9 × α10 × α11 × α12 × α13 × α14 × α15 × α16 × α17)) (k : α0 → α1 → α2 → α3 → α4 → α5 → α6 → α7 → α8 → α9 → α10 → α11 → α12 → α13 → α14 → α15 → α16 → α17 → Option β) : Option β := match x with
  | some (a0, a1, a2, a3, a4, a5, a6, a7, a8, a9, a10, a11, a12, a13, a14, a15, a16, a17) => k a0 a1 a2 a3 a4 a5 a6 a7 a8 a9 a10 a11 a12 a13 a14 a15 a16 a17
  | none => none
theorem mm_bd18s {α0 α1 α2 α3 α4 α5 α6 α7 α8 α9 α10 α11 α12 α13 α14 α15 α16 α17 β : Type} {x : Option (α0 × α1 × α2 × α3 × α4 × α5 × α6 × α7 × α8 × α9 × α10 × α11 × α12 × α13 × α14 × α15 × α16 × α17)} {k : α0 → α1 → α2 → α3 → α4 → α5 → α6 → α7 → α8 → α9 → α10 → α11 → α12 → α13 → α14 → α15 → α16 → α17 → Option β} {r : β} (h : mm_bd18 x k = some r) : ∃ a0 a1 a2 a3 a4 a5 a6 a7 a8 a9 a10 a11 a12 a13 a14 a15 a16 a17, x = some (a0, a1, a2, a3, a4, a5, a6, a7, a8, a9, a10, a11, a12, a13, a14, a15, a16, a17) ∧ k a0 a1 a2 a3 a4 a5 a6 a7 a8 a9 a10 a11 a12 a13 a14 a15 a16 a17 = some r := by
  cases x with
  | none => cases h
  | some q =>
    obtain ⟨a0, a1, a2, a3, a4, a5, a6, a7, a8, a9, a10, a11, a12, a13, a14, a15, a16, a17⟩ := q
    exact ⟨a0, a1, a2, a3, a4, a5, a6, a7, a8, a9, a10, a11, a12, a13, a14, a15, a16, a17, rfl, h⟩
def mm_bd20 {α0 α1 α2 α3 α4 α5 α6 α7 α8 α9 α10 α11 α12 α13 α14 α15 α16 α17 α18 α19 β : Type} (x : Option (α0 × α1 × α2 × α3 × α4 × α5 × α6 × α7 × α8 × α9 × α10 × α11 × α12 × α13 × α14 × α15 × α16 × α17 × α18 × α19)) (k : α0 → α1 → α2 → α3 → α4 → α5 → α6 → α7 → α8 → α9 → α10 → α11 → α12 → α13 → α14 → α15 → α16 → α17 → α18 → α19 → Option β) : Option β := match x with
  | some (a0, a1, a2, a3, a4, a5, a6, a7, a8, a9, a10, a11, a12, a13, a14, a15, a16, a17, a18, a19) => k a0 a1 a2 a3 a4 a5 a6 a7 a8 a9 a10 a11 a12 a13 a14 a15 a16 a17 a18 a19
  | none => none
theorem mm_bd20s {α0 α1 α2 α3 α4 α5 α6 α7 α8 α9 α10 α11 α12 α13 α14 α15 α16 α17 α18 α19 β : Type} {x : Option (α0 × α1 × α2 × α3 × α4 × α5 × α6 × α7 × α8 × α9 × α10 × α11 × α12 × α13 × α14 × α15 × α16 × α17 × α18 × α19)} {k : α0 → α1 → α2 → α3 → α4 → α5 → α6 → α7 → α8 → α9 → α10 → α11 → α12 → α13 → α14 → α15 → α16 → α17 → α18 → α19 → Option β} {r : β} (h : mm_bd20 x k = some r) : ∃ a0 a1 a2 a3 a4 a5 a6 a7 a8 a9 a10 a11 a12 a13 a14 a15 a16 a17 a18 a19, x = some (a0, a1, a2, a3, a4, a5, a6, a7, a8, a9, a10, a11, a12, a13, a14, a15, a16, a17, a18, a19) ∧ k a0 a1 a2 a3 a4 a5 a6 a7 a8 a9 a10 a11 a12 a13 a14 a15 a16 a17 a18 a19 = some r := by
  cases x with
  | none => cases h
  | some q =>
    obtain ⟨a0, a1, a2, a3, a4, a5, a6, a7, a8, a9, a10, a11, a12, a13, a14, a15, a16, a17, a18, a19⟩ := q
    exact ⟨a0, a1, a2, a3, a4, a5, a6, a7, a8, a9, a10, a11, a12, a13, a14, a15, a16, a17, a18, a19, rfl, h⟩
def mm_bd21 {α0 α1 α2 α3 α4 α5 α6 α7 α8 α9 α10 α11 α12 α13 α14 α15 α16 α17 α18 α19 α20 β : Type} (x : Option (α0 × α1 × α2 × α3 × α4 × α5 × α6 × α7 × α8 × α9 × α10 × α11 × α12 × α13 × α14 × α15 × α16 × α17 × α18 × α19 × α20)) (k : α0 → α1 → α2 → α3 → α4 → α5 → α6 → α7 → α8 → α9 → α10 → α11 → α12 → α13 → α14 → α15 → α16 → α17 → α18 → α19 → α20 → Option β) : Option β := match x with
  | some (a0, a1, a2, a3, a4, a5, a6, a7, a8, a9, a10, a11, a12, a13, a14, a15, a16, a17, a18, a19, a20) => k a0 a1 a2 a3 a4 a5 a6 a7 a8 a9 a10 a11 a12 a13 a14 a15 a16 a17 a18 a19 a20
  | none => none
theorem mm_bd21s {α0 α1 α2 α3 α4 α5 α6 α7 α8 α9 α10 α11 α12 α13 α14 α15 α16 α17 α18 α19 α20 β : Type} {x : Option (α0 × α1 × α2 × α3 × α4 × α5 × α6 × α7 × α8 × α9 × α10 × α11 × α12 × α13 × α14 × α15 × α16 × α17 × α18 × α19 × α20)} {k : α0 → α1 → α2 → α3 → α4 → α5 → α6 → α7 → α8 → α9 → α10 → α11 → α12 → α13 → α14 → α15 → α16 → α17 → α18 → α19 → α20 → Option β} {r : β} (h : mm_bd21 x k = some r) : ∃ a0 a1 a2 a3 a4 a5 a6 a7 a8 a9 a10 a11 a12 a13 a14 a15 a16 a17 a18 a19 a20, x = some (a0, a1, a2, a3, a4, a5, a6, a7, a8, a9, a10, a11, a12, a13, a14, a15, a16, a17, a18, a19, a20) ∧ k a0 a1 a2 a3 a4 a5 a6 a7 a8 a9 a10 a11 a12 a13 a14 a15 a16 a17 a18 a19 a20 = some r := by
  cases x with
  | none => cases h
  | some q =>
    obtain ⟨a0, a1, a2, a3, a4, a5, a6, a7, a8, a9, a10, a11, a12, a13, a14, a15, a16, a17, a18, a19, a20⟩ := q
    exact ⟨a0, a1, a2, a3, a4, a5, a6, a7, a8, a9, a10, a11, a12, a13, a14, a15, a16, a17, a18, a19, a20, rfl, h⟩
def mm_bd23 {α0 α1 α2 α3 α4 α5 α6 α7 α8 α9 α10 α11 α12 α13 α14 α15 α16 α17 α18 α19 α20 α21 α22 β : Type} (x : Option (α0 × α1 × α2 × α3 × α4 × α5 × α6 × α7 × α8 × α9 × α10 × α11 × α12 × α13 × α14 × α15 × α16 × α17 × α18 × α19 × α20 × α21 × α22)) (k : α0 → α1 → α2 → α3 → α4 → α5 → α6 → α7 → α8 → α9 → α10 → α11 → α12 → α13 → α14 → α15 → α16 → α17 → α18 → α19 → α20 → α21 → α22 → Option β) : Option β := match x with
  | some (a0, a1, a2, a3, a4, a5, a6, a7, a8, a9, a10, a11, a12, a13, a14, a15, a16, a17, a18, a19, a20, a21, a22) => k a0 a1 a2 a3 a4 a5 a6 a7 a8 a9 a10 a11 a12 a13 a14 a15 a16 a17 a18 a19 a20 a21 a22
  | none => none
theorem mm_bd23s {α0 α1 α2 α3 α4 α5 α6 α7 α8 α9 α10 α11 α12 α13 α14 α15 α16 α17 α18 α19 α20 α21 α22 β : Type} {x : Option (α0 × α1 × α2 × α3 × α4 × α5 × α6 × α7 × α8 × α9 × α10 × α11 × α12 × α13 × α14 × α15 × α16 × α17 × α18 × α19 × α20 × α21 × α22)} {k : α0 → α1 → α2 → α3 → α4 → α5 → α6 → α7 → α8 → α9 → α10 → α11 → α12 → α13 → α14 → α15 → α16 → α17 → α18 → α19 → α20 → α21 → α22 → Option β} {r : β} (h : mm_bd23 x k = some r) : ∃ a0 a1 a2 a3 a4 a5 a6 a7 a8 a9 a10 a11 a12 a13 a14 a15 a16 a17 a18 a19 a20 a21 a22, x = some (a0, a1, a2, a3, a4, a5, a6, a7, a8, a9, a10, a11, a12, a13, a14, a15, a16, a17, a18, a19, a20, a21, a22) ∧ k a0 a1 a2 a3 a4 a5 a6 a7 a8 a9 a10 a11 a12 a13 a14 a15 a16 a17 a18 a19 a20 a21 a22 = some r := by
  cases x with
  | none => cases h
  | some q =>
    obtain ⟨a0, a1, a2, a3, a4, a5, a6, a7, a8, a9, a10, a11, a12, a13, a14, a15, a16, a17, a18, a19, a20, a21, a22⟩ := q
    exact ⟨a0, a1, a2, a3, a4, a5, a6, a7, a8, a9, a10, a11, a12, a13, a14, a15, a16, a17, a18, a19, a20, a21, a22, rfl, h⟩
def mm_bd25 {α0 α1 α2 α3 α4 α5 α6 α7 α8 α9 α10 α11 α12 α13 α14 α15 α16 α17 α18 α19 α20 α21 α22 α23 α24 β : Type} (x : Option (α0 × α1 × α2 × α3 × α4 × α5 × α6 × α7 × α8 × α9 × α10 × α11 × α12 × α13 × α14 × α15 × α16 × α17 × α18 × α19 × α20 × α21 × α22 × α23 × α24)) (k : α0 → α1 → α2 → α3 → α4 → α5 → α6 → α7 → α8 → α9 → α10 → α11 → α12 → α13 → α14 → α15 → α16 → α17 → α18 → α19 → α20 → α21 → α22 → α23 → α24 → Option β) : Option β := match x with
  | some (a0, a1, a2, a3, a4, a5, a6, a7, a8, a9, a10, a11, a12, a13, a14, a15, a16, a17, a18, a19, a20, a21, a22, a23, a24) => k a0 a1 a2 a3 a4 a5 a6 a7 a8 a9 a10 a11 a12 a13 a14 a15 a16 a17 a18 a19 a20 a21 a22 a23 a24
  | none => none
theorem mm_bd25s {α0 α1 α2 α3 α4 α5 α6 α7 α8 α9 α10 α11 α12 α13 α14 α15 α16 α17 α18 α19 α20 α21 α22 α23 α24 β : Type} {x : Option (α0 × α1 × α2 × α3 × α4 × α5 × α6 × α7 × α8 × α9 × α10 × α11 × α12 × α13 × α14 × α15 × α16 × α17 × α18 × α19 × α20 × α21 × α22 × α23 × α24)} {k : α0 → α1 → α2 → α3 → α4 → α5 → α6 → α7 → α8 → α9 → α10 → α11 → α12 → α13 → α14 → α15 → α16 → α17 → α18 → α19 → α20 → α21 → α22 → α23 → α24 → Option β} {r : β} (h : mm_bd25 x k = some r) : ∃ a0 a1 a2 a3 a4 a5 a6 a7 a8 a9 a10 a11 a12 a13 a14 a15 a16 a17 a18 a19 a20 a21 a22 a23 a24, x = some (a0, a1, a2, a3, a4, a5, a6, a7, a8, a9, a10, a11, a12, a13, a14, a15, a16, a17, a18, a19, a20, a21, a22, a23, a24) ∧ k a0 a1 a2 a3 a4 a5 a6 a7 a8 a9 a10 a11 a12 a13 a14 a15 a16 a17 a18 a19 a20 a21 a22 a23 a24 = some r := by
  cases x with
  | none => cases h
  | some q =>
    obtain ⟨a0, a1, a2, a3, a4, a5, a6, a7, a8, a9, a10, a11, a12, a13, a14, a15, a16, a17, a18, a19, a20, a21, a22, a23, a24⟩ := q
    exact ⟨a0, a1, a2, a3, a4, a5, a6, a7, a8, a9, a10, a11, a12, a13, a14, a15, a16, a17, a18, a19, a20, a21, a22, a23, a24, rfl, h⟩
def mm_bd27 {α0 α1 α2 α3 α4 α5 α6 α7 α8 α9 α10 α11 α12 α13 α14 α15 α16 α17 α18 α19 α20 α21 α22 α23 α24 α25 α26 β : Type} (x : Option (α0 × α1 × α2 × α3 × α4 × α5 × α6 × α7 × α8 × α9 × α10 × α11 × α12 × α13 × α14 × α15 × α16 × α17 × α18 × α19 × α20 × α21 × α22 × α23 × α24 × α25 × α26)) (k : α0 → α1 → α2 → α3 → α4 → α5 → α6 → α7 → α8 → α9 → α10 → α11 → α12 → α13 → α14 → α15 → α16 → α17 → α18 → α19 → α20 → α21 → α22 → α23 → α24 → α25 → α26 → Option β) : Option β := match x with
  | some (a0, a1, a2, a3, a4, a5, a6, a7, a8, a9, a10, a11, a12, a13, a14, a15, a16, a17, a18, a19, a20, a21, a22, a23, a24, a25, a26) => k a0 a1 a2 a3 a4 a5 a6 a7 a8 a9 a10 a11 a12 a13 a14 a15 a16 a17 a18 a19 a20 a21 a22 a23 a24 a25 a26
  | none => none
theorem mm_bd27s {α0 α1 α2 α3 α4 α5 α6 α7 α8 α9 α10 α11 α12 α13 α14 α15 α16 α17 α18 α19 α20 α21 α22 α23 α24 α25 α26 β : Type} {x : Option (α0 × α1 × α2 × α3 × α4 × α5 × α6 × α7 × α8 × α9 × α10 × α11 × α12 × α13 × α14 × α15 × α16 × α17 × α18 × α19 × α20 × α21 × α22 × α23 × α24 × α25 × α26)} {k : α0 → α1 → α2 → α3 → α4 → α5 → α6 → α7 → α8 → α9 → α10 → α11 → α12 → α13 → α14 → α15 → α16 → α17 → α18 → α19 → α20 → α21 → α22 → α23 → α24 → α25 → α26 → Option β} {r : β} (h : mm_bd27 x k = some r) : ∃ a0 a1 a2 a3 a4 a5 a6 a7 a8 a9 a10 a11 a12 a13 a14 a15 a16 a17 a18 a19 a20 a21 a22 a23 a24 a25 a26, x = some (a0, a1, a2, a3, a4, a5, a6, a7, a8, a9, a10, a11, a12, a13, a14, a15, a16, a17, a18, a19, a20, a21, a22, a23, a24, a25, a26) ∧ k a0 a1 a2 a3 a4 a5 a6 a7 a8 a9 a10 a11 a12 a13 a14 a15 a16 a17 a18 a19 a20 a21 a22 a23 a24 a25 a26 = some r := by
  cases x with
  | none => cases h
  | some q =>
    obtain ⟨a0, a1, a2, a3, a4, a5, a6, a7, a8, a9, a10, a11, a12, a13, a14, a15, a16, a17, a18, a19, a20, a21, a22, a23, a24, a25, a26⟩ := q
    exact ⟨a0, a1, a2, a3, a4, a5, a6, a7, a8, a9, a10, a11, a12, a13, a14, a15, a16, a17, a18, a19, a20, a21, a22, a23, a24, a25, a26, rfl, h⟩
def mm_bd28 {α0 α1 α2 α3 α4 α5 α6 α7 α8 α9 α10 α11 α12 α13 α14 α15 α16 α17 α18 α19 α20 α21 α22 α23 α24 α25 α26 α27 β : Type} (x : Option (α0 × α1 × α2 × α3 × α4 × α5 × α6 × α7 × α8 × α9 × α10 × α11 × α12 × α13 × α14 × α15 × α16 × α17 × α18 × α19 × α20 × α21 × α22 × α23 × α24 × α25 × α26 × α27)) (k : α0 → α1 → α2 → α3 → α4 → α5 → α6 → α7 → α8 → α9 → α10 → α11 → α12 → α13 → α14 → α15 → α16 → α17 → α18 → α19 → α20 → α21 → α22 → α23 → α24 → α25 → α26 → α27 → Option β) : Option β := match x with
  | some (a0, a1, a2, a3, a4, a5, a6, a7, a8, a9, a10, a11, a12, a13, a14, a15, a16, a17, a18, a19, a20, a21, a22, a23, a24, a25, a26, a27) => k a0 a1 a2 a3 a4 a5 a6 a7 a8 a9 a10 a11 a12 a13 a14 a15 a16 a17 a18 a19 a20 a21 a22 a23 a24 a25 a26 a27
  | none => none
theorem mm_bd28s {α0 α1 α2 α3 α4 α5 α6 α7 α8 α9 α10 α11 α12 α13 α14 α15 α16 α17 α18 α19 α20 α21 α22 α23 α24 α25 α26 α27 β : Type} {x : Option (α0 × α1 × α2 × α3 × α4 × α5 × α6 × α7 × α8 × α9 × α10 × α11 × α12 × α13 × α14 × α15 × α16 × α17 × α18 × α19 × α20 × α21 × α22 × α23 × α24 × α25 × α26 × α27)} {k : α0 → α1 → α2 → α3 → α4 → α5 → α6 → α7 → α8 → α9 → α10 → α11 → α12 → α13 → α14 → α15 → α16 → α17 → α18 → α19 → α20 → α21 → α22 → α23 → α24 → α25 → α26 → α27 → Option β} {r : β} (h : mm_bd28 x k = some r) : ∃ a0 a1 a2 a3 a4 a5 a6 a7 a8 a9 a10 a11 a12 a13 a14 a15 a16 a17 a18 a19 a20 a21 a22 a23 a24 a25 a26 a27, x = some (a0, a1, a2, a3, a4, a5, a6, a7, a8, a9, a10, a11, a12, a13, a14, a15, a16, a17, a18, a19, a20, a21, a22, a23, a24, a25, a26, a27) ∧ k a0 a1 a2 a3 a4 a5 a6 a7 a8 a9 a10 a11 a12 a13 a14 a15 a16 a17 a18 a19 a20 a21 a22 a23 a24 a25 a26 a27 = some r := by
  cases x with
  | none => cases h
  | some q =>
    obtain ⟨a0, a1, a2, a3, a4, a5, a6, a7, a8, a9, a10, a11, a12, a13, a14, a15, a16, a17, a18, a19, a20, a21, a22, a23, a24, a25, a26, a27⟩ := q
    exact ⟨a0, a1, a2, a3, a4, a5, a6, a7, a8, a9, a10, a11, a12, a13, a14, a15, a16, a17, a18, a19, a20, a21, a22, a23, a24, a25, a26, a27, rfl, h⟩
def mm_bd34 {α0 α1 α2 α3 α4 α5 α6 α7 α8 α9 α10 α11 α12 α13 α14 α15 α16 α17 α18 α19 α20 α21 α22 α23 α24 α25 α26 α27 α28 α29 α30 α31 α32 α33 β : Type} (x : Option (α0 × α1 × α2 × α3 × α4 × α5 × α6 × α7 × α8 × α9 × α10 × α11 × α12 × α13 × α14 × α15 × α16 × α17 × α18 × α19 × α20 × α21 × α22 × α23 × α24 × α25 × α26 × α27 × α28 × α29 × α30 × α31 × α32 × α33)) (k : α0 → α1 → α2 → α3 → α4 → α5 → α6 → α7 → α8 → α9 → α10 → α11 → α12 → α13 → α14 → α15 → α16 → α17 → α18 → α19 → α20 → α21 → α22 → α23 → α24 → α25 → α26 → α27 → α28 → α29 → α30 → α31 → α32 → α33 → Option β) : Option β := match x with
  | some (a0, a1, a2, a3, a4, a5, a6, a7, a8, a9, a10, a11, a12, a13, a14, a15, a16, a17, a18, a19, a20, a21, a22, a23, a24, a25, a26, a27, a28, a29, a30, a31, a32, a33) => k a0 a1 a2 a3 a4 a5 a6 a7 a8 a9 a10 a11 a12 a13 a14 a15 a16 a17 a18 a19 a20 a21 a22 a23 a24 a25 a26 a27 a28 a29 a30 a31 a32 a33
  | none => none
theorem mm_bd34s {α0 α1 α2 α3 α4 α5 α6 α7 α8 α9 α10 α11 α12 α13 α14 α15 α16 α17 α18 α19 α20 α21 α22 α23 α24 α25 α26 α27 α28 α29 α30 α31 α32 α33 β : Type} {x : Option (α0 × α1 × α2 × α3 × α4 × α5 × α6 × α7 × α8 × α9 × α10 × α11 × α12 × α13 × α14 × α15 × α16 × α17 × α18 × α19 × α20 × α21 × α22 × α23 × α24 × α25 × α26 × α27 × α28 × α29 × α30 × α31 × α32 × α33)} {k : α0 → α1 → α2 → α3 → α4 → α5 → α6 → α7 → α8 → α9 → α10 → α11 → α12 → α13 → α14 → α15 → α16 → α17 → α18 → α19 → α20 → α21 → α22 → α23 → α24 → α25 → α26 → α27 → α28 → α29 → α30 → α31 → α32 → α33 → Option β} {r : β} (h : mm_bd34 x k = some r) : ∃ a0 a1 a2 a3 a4 a5 a6 a7 a8 a9 a10 a11 a12 a13 a14 a15 a16 a17 a18 a19 a20 a21 a22 a23 a24 a25 a26 a27 a28 a29 a30 a31 a32 a33, x = some (a0, a1, a2, a3, a4, a5, a6, a7, a8, a9, a10, a11, a12, a13, a14, a15, a16, a17, a18, a19, a20, a21, a22, a23, a24, a25, a26, a27, a28, a29, a30, a31, a32, a33) ∧ k a0 a1 a2 a3 a4 a5 a6 a7 a8 a9 a10 a11 a12 a13 a14 a15 a16 a17 a18 a19 a20 a21 a22 a23 a24 a25 a26 a27 a28 a29 a30 a31 a32 a33 = some r := by
  cases x with
  | none => cases h
  | some q =>
    obtain ⟨a0, a1, a2, a3, a4, a5, a6, a7, a8, a9, a10, a11, a12, a13, a14, a15, a16, a17, a18, a19, a20, a21, a22, a23, a24, a25, a26, a27, a28, a29, a30, a31, a32, a33⟩ := q
    exact ⟨a0, a1, a2, a3, a4, a5, a6, a7, a8, a9, a10, a11, a12, a13, a14, a15, a16, a17, a18, a19, a20, a21, a22, a23, a24, a25, a26, a27, a28, a29, a30, a31, a32, a33, rfl, h⟩
def mm_bd38 {α0 α1 α2 α3 α4 α5 α6 α7 α8 α9 α10 α11 α12 α13 α14 α15 α16 α17 α18 α19 α20 α21 α22 α23 α24 α25 α26 α27 α28 α29 α30 α31 α32 α33 α34 α35 α36 α37 β : Type} (x : Option (α0 × α1 × α2 × α3 × α4 × α5 × α6 × α7 × α8 × α9 × α10 × α11 × α12 × α13 × α14 × α15 × α16 × α17 × α18 × α19 × α20 × α21 × α22 × α23 × α24 × α25 × α26 × α27 × α28 × α29 × α30 × α31 × α32 × α33 × α34 × α35 × α36 × α37)) (k : α0 → α1 → α2 → α3 → α4 → α5 → α6 → α7 → α8 → α9 → α10 → α11 → α12 → α13 → α14 → α15 → α16 → α17 → α18 → α19 → α20 → α21 → α22 → α23 → α24 → α25 → α26 → α27 → α28 → α29 → α30 → α31 → α32 → α33 → α34 → α35 → α36 → α37 → Option β) : Option β := match x with
  | some (a0, a1, a2, a3, a4, a5, a6, a7, a8, a9, a10, a11, a12, a13, a14, a15, a16, a17, a18, a19, a20, a21, a22, a23, a24, a25, a26, a27, a28, a29, a30, a31, a32, a33, a34, a35, a36, a37) => k a0 a1 a2 a3 a4 a5 a6 a7 a8 a9 a10 a11 a12 a13 a14 a15 a16 a17 a18 a19 a20 a21 a22 a23 a24 a25 a26 a27 a28 a29 a30 a31 a32 a33 a34 a35 a36 a37
  | none => none
theorem mm_bd38s {α0 α1 α2 α3 α4 α5 α6 α7 α8 α9 α10 α11 α12 α13 α14 α15 α16 α17 α18 α19 α20 α21 α22 α23 α24 α25 α26 α27 α28 α29 α30 α31 α32 α33 α34 α35 α36 α37 β : Type} {x : Option (α0 × α1 × α2 × α3 × α4 × α5 × α6 × α7 × α8 × α9 × α10 × α11 × α12 × α13 × α14 × α15 × α16 × α17 × α18 × α19 × α20 × α21 × α22 × α23 × α24 × α25 × α26 × α27 × α28 × α29 × α30 × α31 × α32 × α33 × α34 × α35 × α36 × α37)} {k : α0 → α1 → α2 → α3 → α4 → α5 → α6 → α7 → α8 → α9 → α10 → α11 → α12 → α13 → α14 → α15 → α16 → α17 → α18 → α19 → α20 → α21 → α22 → α23 → α24 → α25 → α26 → α27 → α28 → α29 → α30 → α31 → α32 → α33 → α34 → α35 → α36 → α37 → Option β} {r : β} (h : mm_bd38 x k = some r) : ∃ a0 a1 a2 a3 a4 a5 a6 a7 a8 a9 a10 a11 a12 a13 a14 a15 a16 a17 a18 a19 a20 a21 a22 a23 a24 a25 a26 a27 a28 a29 a30 a31 a32 a33 a34 a35 a36 a37, x = some (a0, a1, a2, a3, a4, a5, a6, a7, a8, a9, a10, a11, a12, a13, a14, a15, a16, a17, a18, a19, a20, a21, a22, a23, a24, a25, a26, a27, a28, a29, a30, a31, a32, a33, a34, a35, a36, a37) ∧ k a0 a1 a2 a3 a4 a5 a6 a7 a8 a9 a10 a11 a12 a13 a14 a15 a16 a17 a18 a19 a20 a21 a22 a23 a24 a25 a26 a27 a28 a29 a30 a31 a32 a33 a34 a35 a36 a37 = some r := by
  cases x with
  | none => cases h
  | some q =>
    obtain ⟨a0, a1, a2, a3, a4, a5, a6, a7, a8, a9, a10, a11, a12, a13, a14, a15, a16, a17, a18, a19, a20, a21, a22, a23, a24, a25, a26, a27, a28, a29, a30, a31, a32, a33, a34, a35, a36, a37⟩ := q
    exact ⟨a0, a1, a2, a3, a4, a5, a6, a7, a8, a9, a10, a11, a12, a13, a14, a15, a16, a17, a18, a19, a20, a21, a22, a23, a24, a25, a26, a27, a28, a29, a30, a31, a32, a33, a34, a35, a36, a37, rfl, h⟩
theorem mm_inj1 {α : Type} {a b : α} (h : some a = some b) : a = b := Option.some.inj h
theorem mm_sub2 {α0 α1 : Type} {a0 b0 : α0} {a1 b1 : α1} (h : some (a0, a1) = some (b0, b1)) {P : α0 → α1 → Prop} (k : P a0 a1) : P b0 b1 := by cases h; exact k
theorem mm_sub3 {α0 α1 α2 : Type} {a0 b0 : α0} {a1 b1 : α1} {a2 b2 : α2} (h : some (a0, a1, a2) = some (b0, b1, b2)) {P : α0 → α1 → α2 → Prop} (k : P a0 a1 a2) : P b0 b1 b2 := by cases h; exact k
theorem mm_sub4 {α0 α1 α2 α3 : Type} {a0 b0 : α0} {a1 b1 : α1} {a2 b2 : α2} {a3 b3 : α3} (h : some (a0, a1, a2, a3) = some (b0, b1, b2, b3)) {P : α0 → α1 → α2 → α3 → Prop} (k : P a0 a1 a2 a3) : P b0 b1 b2 b3 := by cases h; exact k
theorem mm_sub5 {α0 α1 α2 α3 α4 : Type} {a0 b0 : α0} {a1 b1 : α1} {a2 b2 : α2} {a3 b3 : α3} {a4 b4 : α4} (h : some (a0, a1, a2, a3, a4) = some (b0, b1, b2, b3, b4)) {P : α0 → α1 → α2 → α3 → α4 → Prop} (k : P a0 a1 a2 a3 a4) : P b0 b1 b2 b3 b4 := by cases h; exact k
theorem mm_sub6 {α0 α1 α2 α3 α4 α5 : Type} {a0 b0 : α0} {a1 b1 : α1} {a2 b2 : α2} {a3 b3 : α3} {a4 b4 : α4} {a5 b5 : α5} (h : some (a0, a1, a2, a3, a4, a5) = some (b0, b1, b2, b3, b4, b5)) {P : α0 → α1 → α2 → α3 → α4 → α5 → Prop} (k : P a0 a1 a2 a3 a4 a5) : P b0 b1 b2 b3 b4 b5 := by cases h; exact k
theorem mm_sub7 {α0 α1 α2 α3 α4 α5 α6 : Type} {a0 b0 : α0} {a1 b1 : α1} {a2 b2 : α2} {a3 b3 : α3} {a4 b4 : α4} {a5 b5 : α5} {a6 b6 : α6} (h : some (a0, a1, a2, a3, a4, a5, a6) = some (b0, b1, b2, b3, b4, b5, b6)) {P : α0 → α1 → α2 → α3 → α4 → α5 → α6 → Prop} (k : P a0 a1 a2 a3 a4 a5 a6) : P b0 b1 b2 b3 b4 b5 b6 := by cases h; exact k
theorem mm_sub8 {α0 α1 α2 α3 α4 α5 α6 α7 : Type} {a0 b0 : α0} {a1 b1 : α1} {a2 b2 : α2} {a3 b3 : α3} {a4 b4 : α4} {a5 b5 : α5} {a6 b6 : α6} {a7 b7 : α7} (h : some (a0, a1, a2, a3, a4, a5, a6, a7) = some (b0, b1, b2, b3, b4, b5, b6, b7)) {P : α0 → α1 → α2 → α3 → α4 → α5 → α6 → α7 → Prop} (k : P a0 a1 a2 a3 a4 a5 a6 a7) : P b0 b1 b2 b3 b4 b5 b6 b7 := by cases h; exact k
theorem mm_sub9 {α0 α1 α2 α3 α4 α5 α6 α7 α8 : Type} {a0 b0 : α0} {a1 b1 : α1} {a2 b2 : α2} {a3 b3 : α3} {a4 b4 : α4} {a5 b5 : α5} {a6 b6 : α6} {a7 b7 : α7} {a8 b8 : α8} (h : some (a0, a1, a2, a3, a4, a5, a6, a7, a8) = some (b0, b1, b2, b3, b4, b5, b6, b7, b8)) {P : α0 → α1 → α2 → α3 → α4 → α5 → α6 → α7 → α8 → Prop} (k : P a0 a1 a2 a3 a4 a5 a6 a7 a8) : P b0 b1 b2 b3 b4 b5 b6 b7 b8 := by cases h; exact k
theorem mm_sub12 {α0 α1 α2 α3 α4 α5 α6 α7 α8 α9 α10 α11 : Type} {a0 b0 : α0} {a1 b1 : α1} {a2 b2 : α2} {a3 b3 : α3} {a4 b4 : α4} {a5 b5 : α5} {a6 b6 : α6} {a7 b7 : α7} {a8 b8 : α8} {a9 b9 : α9} {a10 b10 : α10} {a11 b11 : α11} (h : some (a0, a1, a2, a3, a4, a5, a6, a7, a8, a9, a10, a11) = some (b0, b1, b2, b3, b4, b5, b6, b7, b8, b9, b10, b11)) {P : α0 → α1 → α2 → α3 → α4 → α5 → α6 → α7 → α8 → α9 → α10 → α11 → Prop} (k : P a0 a1 a2 a3 a4 a5 a6 a7 a8 a9 a10 a11) : P b0 b1 b2 b3 b4 b5 b6 b7 b8 b9 b10 b11 := by cases h; exact k
theorem mm_sub13 {α0 α1 α2 α3 α4 α5 α6 α7 α8 α9 α10 α11 α12 : Type} {a0 b0 : α0} {a1 b1 : α1} {a2 b2 : α2} {a3 b3 : α3} {a4 b4 : α4} {a5 b5 : α5} {a6 b6 : α6} {a7 b7 : α7} {a8 b8 : α8} {a9 b9 : α9} {a10 b10 : α10} {a11 b11 : α11} {a12 b12 : α12} (h : some (a0, a1, a2, a3, a4, a5, a6, a7, a8, a9, a10, a11, a12) = some (b0, b1, b2, b3, b4, b5, b6, b7, b8, b9, b10, b11, b12)) {P : α0 → α1 → α2 → α3 → α4 → α5 → α6 → α7 → α8 → α9 → α10 → α11 → α12 → Prop} (k : P a0 a1 a2 a3 a4 a5 a6 a7 a8 a9 a10 a11 a12) : P b0 b1 b2 b3 b4 b5 b6 b7 b8 b9 b10 b11 b12 := by cases h; exact k
theorem mm_sub14 {α0 α1 α2 α3 α4 α5 α6 α7 α8 α9 α10 α11 α12 α13 : Type} {a0 b0 : α0} {a1 b1 : α1} {a2 b2 : α2} {a3 b3 : α3} {a4 b4 : α4} {a5 b5 : α5} {a6 b6 : α6} {a7 b7 : α7} {a8 b8 : α8} {a9 b9 : α9} {a10 b10 : α10} {a11 b11 : α11} {a12 b12 : α12} {a13 b13 : α13} (h : some (a0, a1, a2, a3, a4, a5, a6, a7, a8, a9, a10, a11, a12, a13) = some (b0, b1, b2, b3, b4, b5, b6, b7, b8, b9, b10, b11, b12, b13)) {P : α0 → α1 → α2 → α3 → α4 → α5 → α6 → α7 → α8 → α9 → α10 → α11 → α12 → α13 → Prop} (k : P a0 a1 a2 a3 a4 a5 a6 a7 a8 a9 a10 a11 a12 a13) : P b0 b1 b2 b3 b4 b5 b6 b7 b8 b9 b10 b11 b12 b13 := by cases h; exact k
theorem mm_sub15 {α0 α1 α2 α3 α4 α5 α6 α7 α8 α9 α10 α11 α12 α13 α14 : Type} {a0 b0 : α0} {a1 b1 : α1} {a2 b2 : α2} {a3 b3 : α3} {a4 b4 : α4} {a5 b5 : α5} {a6 b6 : α6} {a7 b7 : α7} {a8 b8 : α8} {a9 b9 : α9} {a10 b10 : α10} {a11 b11 : α11} {a12 b12 : α12} {a13 b13 : α13} {a14 b14 : α14} (h : some (a0, a1, a2, a3, a4, a5, a6, a7, a8, a9, a10, a11, a12, a13, a14) = some (b0, b1, b2, b3, b4, b5, b6, b7, b8, b9, b10, b11, b12, b13, b14)) {P : α0 → α1 → α2 → α3 → α4 → α5 → α6 → α7 → α8 → α9 → α10 → α11 → α12 → α13 → α14 → Prop} (k : P a0 a1 a2 a3 a4 a5 a6 a7 a8 a9 a10 a11 a12 a13 a14) : P b0 b1 b2 b3 b4 b5 b6 b7 b8 b9 b10 b11 b12 b13 b14 := by cases h; exact k
theorem mm_sub16 {α0 α1 α2 α3 α4 α5 α6 α7 α8 α9 α10 α11 α12 α13 α14 α15 : Type} {a0 b0 : α0} {a1 b1 : α1} {a2 b2 : α2} {a3 b3 : α3} {a4 b4 : α4} {a5 b5 : α5} {a6 b6 : α6} {a7 b7 : α7} {a8 b8 : α8} {a9 b9 : α9} {a10 b10 : α10} {a11 b11 : α11} {a12 b12 : α12} {a13 b13 : α13} {a14 b14 : α14} {a15 b15 : α15} (h : some (a0, a1, a2, a3, a4, a5, a6, a7, a8, a9, a10, a11, a12, a13, a14, a15) = some (b0, b1, b2, b3, b4, b5, b6, b7, b8, b9, b10, b11, b12, b13, b14, b15)) {P : α0 → α1 → α2 → α3 → α4 → α5 → α6 → α7 → α8 → α9 → α10 → α11 → α12 → α13 → α14 → α15 → Prop} (k : P a0 a1 a2 a3 a4 a5 a6 a7 a8 a9 a10 a11 a12 a13 a14 a15) : P b0 b1 b2 b3 b4 b5 b6 b7 b8 b9 b10 b11 b12 b13 b14 b15 := by cases h; exact k
theorem mm_sub18 {α0 α1 α2 α3 α4 α5 α6 α7 α8 α9 α10 α11 α12 α13 α14 α15 α16 α17 : Type} {a0 b0 : α0} {a1 b1 : α1} {a2 b2 : α2} {a3 b3 : α3} {a4 b4 : α4} {a5 b5 : α5} {a6 b6 : α6} {a7 b7 : α7} {a8 b8 : α8} {a9 b9 : α9} {a10 b10 : α10} {a11 b11 : α11} {a12 b12 : α12} {a13 b13 : α13} {a14 b14 : α14} {a15 b15 : α15} {a16 b16 : α16} {a17 b17 : α17} (h : some (a0, a1, a2, a3, a4, a5, a6, a7, a8, a9, a10, a11, a12, a13, a14, a15, a16, a17) = some (b0, b1, b2, b3, b4, b5, b6, b7, b8, b9, b10, b11, b12, b13, b14, b15, b16, b17)) {P : α0 → α1 → α2 → α3 → α4 → α5 → α6 → α7 → α8 → α9 → α10 → α11 → α12 → α13 → α14 → α15 → α16 → α17 → Prop} (k : P a0 a1 a2 a3 a4 a5 a6 a7 a8 a9 a10 a11 a12 a13 a14 a15 a16 a17) : P b0 b1 b2 b3 b4 b5 b6 b7 b8 b9 b10 b11 b12 b13 b14 b15 b16 b17 := by cases h; exact k
theorem mm_sub20 {α0 α1 α2 α3 α4 α5 α6 α7 α8 α9 α10 α11 α12 α13 α14 α15 α16 α17 α18 α19 : Type} {a0 b0 : α0} {a1 b1 : α1} {a2 b2 : α2} {a3 b3 : α3} {a4 b4 : α4} {a5 b5 : α5} {a6 b6 : α6} {a7 b7 : α7} {a8 b8 : α8} {a9 b9 : α9} {a10 b10 : α10} {a11 b11 : α11} {a12 b12 : α12} {a13 b13 : α13} {a14 b14 : α14} {a15 b15 : α15} {a16 b16 : α16} {a17 b17 : α17} {a18 b18 : α18} {a19 b19 : α19} (h : some (a0, a1, a2, a3, a4, a5, a6, a7, a8, a9, a10, a11, a12, a13, a14, a15, a16, a17, a18, a19) = some (b0, b1, b2, b3, b4, b5, b6, b7, b8, b9, b10, b11, b12, b13, b14, b15, b16, b17, b18, b19)) {P : α0 → α1 → α2 → α3 → α4 → α5 → α6 → α7 → α8 → α9 → α10 → α11 → α12 → α13 → α14 → α15 → α16 → α17 → α18 → α19 → Prop} (k : P a0 a1 a2 a3 a4 a5 a6 a7 a8 a9 a10 a11 a12 a13 a14 a15 a16 a17 a18 a19) : P b0 b1 b2 b3 b4 b5 b6 b7 b8 b9 b10 b11 b12 b13 b14 b15 b16 b17 b18 b19 := by cases h; exact k
theorem mm_sub21 {α0 α1 α2 α3 α4 α5 α6 α7 α8 α9 α10 α11 α12 α13 α14 α15 α16 α17 α18 α19 α20 : Type} {a0 b0 : α0} {a1 b1 : α1} {a2 b2 : α2} {a3 b3 : α3} {a4 b4 : α4} {a5 b5 : α5} {a6 b6 : α6} {a7 b7 : α7} {a8 b8 : α8} {a9 b9 : α9} {a10 b10 : α10} {a11 b11 : α11} {a12 b12 : α12} {a13 b13 : α13} {a14 b14 : α14} {a15 b15 : α15} {a16 b16 : α16} {a17 b17 : α17} {a18 b18 : α18} {a19 b19 : α19} {a20 b20 : α20} (h : some (a0, a1, a2, a3, a4, a5, a6, a7, a8, a9, a10, a11, a12, a13, a14, a15, a16, a17, a18, a19, a20) = some (b0, b1, b2, b3, b4, b5, b6, b7, b8, b9, b10, b11, b12, b13, b14, b15, b16, b17, b18, b19, b20)) {P : α0 → α1 → α2 → α3 → α4 → α5 → α6 → α7 → α8 → α9 → α10 → α11 → α12 → α13 → α14 → α15 → α16 → α17 → α18 → α19 → α20 → Prop} (k : P a0 a1 a2 a3 a4 a5 a6 a7 a8 a9 a10 a11 a12 a13 a14 a15 a16 a17 a18 a19 a20) : P b0 b1 b2 b3 b4 b5 b6 b7 b8 b9 b10 b11 b12 b13 b14 b15 b16 b17 b18 b19 b20 := by cases h; exact k
theorem mm_sub23 {α0 α1 α2 α3 α4 α5 α6 α7 α8 α9 α10 α11 α12 α13 α14 α15 α16 α17 α18 α19 α20 α21 α22 : Type} {a0 b0 : α0} {a1 b1 : α1} {a2 b2 : α2} {a3 b3 : α3} {a4 b4 : α4} {a5 b5 : α5} {a6 b6 : α6} {a7 b7 : α7} {a8 b8 : α8} {a9 b9 : α9} {a10 b10 : α10} {a11 b11 : α11} {a12 b12 : α12} {a13 b13 : α13} {a14 b14 : α14} {a15 b15 : α15} {a16 b16 : α16} {a17 b17 : α17} {a18 b18 : α18} {a19 b19 : α19} {a20 b20 : α20} {a21 b21 : α21} {a22 b22 : α22} (h : some (a0, a1, a2, a3, a4, a5, a6, a7, a8, a9, a10, a11, a12, a13, a14, a15, a16, a17, a18, a19, a20, a21, a22) = some (b0, b1, b2, b3, b4, b5, b6, b7, b8, b9, b10, b11, b12, b13, b14, b15, b16, b17, b18, b19, b20, b21, b22)) {P : α0 → α1 → α2 → α3 → α4 → α5 → α6 → α7 → α8 → α9 → α10 → α11 → α12 → α13 → α14 → α15 → α16 → α17 → α18 → α19 → α20 → α21 → α22 → Prop} (k : P a0 a1 a2 a3 a4 a5 a6 a7 a8 a9 a10 a11 a12 a13 a14 a15 a16 a17 a18 a19 a20 a21 a22) : P b0 b1 b2 b3 b4 b5 b6 b7 b8 b9 b10 b11 b12 b13 b14 b15 b16 b17 b18 b19 b20 b21 b22 := by cases h; exact k
theorem mm_sub24 {α0 α1 α2 α3 α4 α5 α6 α7 α8 α9 α10 α11 α12 α13 α14 α15 α16 α17 α18 α19 α20 α21 α22 α23 : Type} {a0 b0 : α0} {a1 b1 : α1} {a2 b2 : α2} {a3 b3 : α3} {a4 b4 : α4} {a5 b5 : α5} {a6 b6 : α6} {a7 b7 : α7} {a8 b8 : α8} {a9 b9 : α9} {a10 b10 : α10} {a11 b11 : α11} {a12 b12 : α12} {a13 b13 : α13} {a14 b14 : α14} {a15 b15 : α15} {a16 b16 : α16} {a17 b17 : α17} {a18 b18 : α18} {a19 b19 : α19} {a20 b20 : α20} {a21 b21 : α21} {a22 b22 : α22} {a23 b23 : α23} (h : some (a0, a1, a2, a3, a4, a5, a6, a7, a8, a9, a10, a11, a12, a13, a14, a15, a16, a17, a18, a19, a20, a21, a22, a23) = some (b0, b1, b2, b3, b4, b5, b6, b7, b8, b9, b10, b11, b12, b13, b14, b15, b16, b17, b18, b19, b20, b21, b22, b23)) {P : α0 → α1 → α2 → α3 → α4 → α5 → α6 → α7 → α8 → α9 → α10 → α11 → α12 → α13 → α14 → α15 → α16 → α17 → α18 → α19 → α20 → α21 → α22 → α23 → Prop} (k : P a0 a1 a2 a3 a4 a5 a6 a7 a8 a9 a10 a11 a12 a13 a14 a15 a16 a17 a18 a19 a20 a21 a22 a23) : P b0 b1 b2 b3 b4 b5 b6 b7 b8 b9 b10 b11 b12 b13 b14 b15 b16 b17 b18 b19 b20 b21 b22 b23 := by cases h; exact k
theorem mm_sub25 {α0 α1 α2 α3 α4 α5 α6 α7 α8 α9 α10 α11 α12 α13 α14 α15 α16 α17 α18 α19 α20 α21 α22 α23 α24 : Type} {a0 b0 : α0} {a1 b1 : α1} {a2 b2 : α2} {a3 b3 : α3} {a4 b4 : α4} {a5 b5 : α5} {a6 b6 : α6} {a7 b7 : α7} {a8 b8 : α8} {a9 b9 : α9} {a10 b10 : α10} {a11 b11 : α11} {a12 b12 : α12} {a13 b13 : α13} {a14 b14 : α14} {a15 b15 : α15} {a16 b16 : α16} {a17 b17 : α17} {a18 b18 : α18} {a19 b19 : α19} {a20 b20 : α20} {a21 b21 : α21} {a22 b22 : α22} {a23 b23 : α23} {a24 b24 : α24} (h : some (a0, a1, a2, a3, a4, a5, a6, a7, a8, a9, a10, a11, a12, a13, a14, a15, a16, a17, a18, a19, a20, a21, a22, a23, a24) = some (b0, b1, b2, b3, b4, b5, b6, b7, b8, b9, b10, b11, b12, b13, b14, b15, b16, b17, b18, b19, b20, b21, b22, b23, b24)) {P : α0 → α1 → α2 → α3 → α4 → α5 → α6 → α7 → α8 → α9 → α10 → α11 → α12 → α13 → α14 → α15 → α16 → α17 → α18 → α19 → α20 → α21 → α22 → α23 → α24 → Prop} (k : P a0 a1 a2 a3 a4 a5 a6 a7 a8 a9 a10 a11 a12 a13 a14 a15 a16 a17 a18 a19 a20 a21 a22 a23 a24) : P b0 b1 b2 b3 b4 b5 b6 b7 b8 b9 b10 b11 b12 b13 b14 b15 b16 b17 b18 b19 b20 b21 b22 b23 b24 := by cases h; exact k
theorem mm_sub27 {α0 α1 α2 α3 α4 α5 α6 α7 α8 α9 α10 α11 α12 α13 α14 α15 α16 α17 α18 α19 α20 α21 α22 α23 α24 α25 α26 : Type} {a0 b0 : α0} {a1 b1 : α1} {a2 b2 : α2} {a3 b3 : α3} {a4 b4 : α4} {a5 b5 : α5} {a6 b6 : α6} {a7 b7 : α7} {a8 b8 : α8} {a9 b9 : α9} {a10 b10 : α10} {a11 b11 : α11} {a12 b12 : α12} {a13 b13 : α13} {a14 b14 : α14} {a15 b15 : α15} {a16 b16 : α16} {a17 b17 : α17} {a18 b18 : α18} {a19 b19 : α19} {a20 b20 : α20} {a21 b21 : α21} {a22 b22 : α22} {a23 b23 : α23} {a24 b24 : α24} {a25 b25 : α25} {a26 b26 : α26} (h : some (a0, a1, a2, a3, a4, a5, a6, a7, a8, a9, a10, a11, a12, a13, a14, a15, a16, a17, a18, a19, a20, a21, a22, a23, a24, a25, a26) = some (b0, b1, b2, b3, b4, b5, b6, b7, b8, b9, b10, b11, b12, b13, b14, b15, b16, b17, b18, b19, b20, b21, b22, b23, b24, b25, b26)) {P : α0 → α1 → α2 → α3 → α4 → α5 → α6 → α7 → α8 → α9 → α10 → α11 → α12 → α13 → α14 → α15 → α16 → α17 → α18 → α19 → α20 → α21 → α22 → α23 → α24 → α25 → α26 → Prop} (k : P a0 a1 a2 a3 a4 a5 a6 a7 a8 a9 a10 a11 a12 a13 a14 a15 a16 a17 a18 a19 a20 a21 a22 a23 a24 a25 a26) : P b0 b1 b2 b3 b4 b5 b6 b7 b8 b9 b10 b11 b12 b13 b14 b15 b16 b17 b18 b19 b20 b21 b22 b23 b24 b25 b26 := by cases h; exact k
theorem mm_sub28 {α0 α1 α2 α3 α4 α5 α6 α7 α8 α9 α10 α11 α12 α13 α14 α15 α16 α17 α18 α19 α20 α21 α22 α23 α24 α25 α26 α27 : Type} {a0 b0 : α0} {a1 b1 : α1} {a2 b2 : α2} {a3 b3 : α3} {a4 b4 : α4} {a5 b5 : α5} {a6 b6 : α6} {a7 b7 : α7} {a8 b8 : α8} {a9 b9 : α9} {a10 b10 : α10} {a11 b11 : α11} {a12 b12 : α12} {a13 b13 : α13} {a14 b14 : α14} {a15 b15 : α15} {a16 b16 : α16} {a17 b17 : α17} {a18 b18 : α18} {a19 b19 : α19} {a20 b20 : α20} {a21 b21 : α21} {a22 b22 : α22} {a23 b23 : α23} {a24 b24 : α24} {a25 b25 : α25} {a26 b26 : α26} {a27 b27 : α27} (h : some (a0, a1, a2, a3, a4, a5, a6, a7, a8, a9, a10, a11, a12, a13, a14, a15, a16, a17, a18, a19, a20, a21, a22, a23, a24, a25, a26, a27) = some (b0, b1, b2, b3, b4, b5, b6, b7, b8, b9, b10, b11, b12, b13, b14, b15, b16, b17, b18, b19, b20, b21, b22, b23, b24, b25, b26, b27)) {P : α0 → α1 → α2 → α3 → α4 → α5 → α6 → α7 → α8 → α9 → α10 → α11 → α12 → α13 → α14 → α15 → α16 → α17 → α18 → α19 → α20 → α21 → α22 → α23 → α24 → α25 → α26 → α27 → Prop} (k : P a0 a1 a2 a3 a4 a5 a6 a7 a8 a9 a10 a11 a12 a13 a14 a15 a16 a17 a18 a19 a20 a21 a22 a23 a24 a25 a26 a27) : P b0 b1 b2 b3 b4 b5 b6 b7 b8 b9 b10 b11 b12 b13 b14 b15 b16 b17 b18 b19 b20 b21 b22 b23 b24 b25 b26 b27 := by cases h; exact k
theorem mm_sub29 {α0 α1 α2 α3 α4 α5 α6 α7 α8 α9 α10 α11 α12 α13 α14 α15 α16 α17 α18 α19 α20 α21 α22 α23 α24 α25 α26 α27 α28 : Type} {a0 b0 : α0} {a1 b1 : α1} {a2 b2 : α2} {a3 b3 : α3} {a4 b4 : α4} {a5 b5 : α5} {a6 b6 : α6} {a7 b7 : α7} {a8 b8 : α8} {a9 b9 : α9} {a10 b10 : α10} {a11 b11 : α11} {a12 b12 : α12} {a13 b13 : α13} {a14 b14 : α14} {a15 b15 : α15} {a16 b16 : α16} {a17 b17 : α17} {a18 b18 : α18} {a19 b19 : α19} {a20 b20 : α20} {a21 b21 : α21} {a22 b22 : α22} {a23 b23 : α23} {a24 b24 : α24} {a25 b25 : α25} {a26 b26 : α26} {a27 b27 : α27} {a28 b28 : α28} (h : some (a0, a1, a2, a3, a4, a5, a6, a7, a8, a9, a10, a11, a12, a13, a14, a15, a16, a17, a18, a19, a20, a21, a22, a23, a24, a25, a26, a27, a28) = some (b0, b1, b2, b3, b4, b5, b6, b7, b8, b9, b10, b11, b12, b13, b14, b15, b16, b17, b18, b19, b20, b21, b22, b23, b24, b25, b26, b27, b28)) {P : α0 → α1 → α2 → α3 → α4 → α5 → α6 → α7 → α8 → α9 → α10 → α11 → α12 → α13 → α14 → α15 → α16 → α17 → α18 → α19 → α20 → α21 → α22 → α23 → α24 → α25 → α26 → α27 → α28 → Prop} (k : P a0 a1 a2 a3 a4 a5 a6 a7 a8 a9 a10 a11 a12 a13 a14 a15 a16 a17 a18 a19 a20 a21 a22 a23 a24 a25 a26 a27 a28) : P b0 b1 b2 b3 b4 b5 b6 b7 b8 b9 b10 b11 b12 b13 b14 b15 b16 b17 b18 b19 b20 b21 b22 b23 b24 b25 b26 b27 b28 := by cases h; exact k
theorem mm_sub34 {α0 α1 α2 α3 α4 α5 α6 α7 α8 α9 α10 α11 α12 α13 α14 α15 α16 α17 α18 α19 α20 α21 α22 α23 α24 α25 α26 α27 α28 α29 α30 α31 α32 α33 : Type} {a0 b0 : α0} {a1 b1 : α1} {a2 b2 : α2} {a3 b3 : α3} {a4 b4 : α4} {a5 b5 : α5} {a6 b6 : α6} {a7 b7 : α7} {a8 b8 : α8} {a9 b9 : α9} {a10 b10 : α10} {a11 b11 : α11} {a12 b12 : α12} {a13 b13 : α13} {a14 b14 : α14} {a15 b15 : α15} {a16 b16 : α16} {a17 b17 : α17} {a18 b18 : α18} {a19 b19 : α19} {a20 b20 : α20} {a21 b21 : α21} {a22 b22 : α22} {a23 b23 : α23} {a24 b24 : α24} {a25 b25 : α25} {a26 b26 : α26} {a27 b27 : α27} {a28 b28 : α28} {a29 b29 : α29} {a30 b30 : α30} {a31 b31 : α31} {a32 b32 : α32} {a33 b33 : α33} (h : some (a0, a1, a2, a3, a4, a5, a6, a7, a8, a9, a10, a11, a12, a13, a14, a15, a16, a17, a18, a19, a20, a21, a22, a23, a24, a25, a26, a27, a28, a29, a30, a31, a32, a33) = some (b0, b1, b2, b3, b4, b5, b6, b7, b8, b9, b10, b11, b12, b13, b14, b15, b16, b17, b18, b19, b20, b21, b22, b23, b24, b25, b26, b27, b28, b29, b30, b31, b32, b33)) {P : α0 → α1 → α2 → α3 → α4 → α5 → α6 → α7 → α8 → α9 → α10 → α11 → α12 → α13 → α14 → α15 → α16 → α17 → α18 → α19 → α20 → α21 → α22 → α23 → α24 → α25 → α26 → α27 → α28 → α29 → α30 → α31 → α32 → α33 → Prop} (k : P a0 a1 a2 a3 a4 a5 a6 a7 a8 a9 a10 a11 a12 a13 a14 a15 a16 a17 a18 a19 a20 a21 a22 a23 a24 a25 a26 a27 a28 a29 a30 a31 a32 a33) : P b0 b1 b2 b3 b4 b5 b6 b7 b8 b9 b10 b11 b12 b13 b14 b15 b16 b17 b18 b19 b20 b21 b22 b23 b24 b25 b26 b27 b28 b29 b30 b31 b32 b33 := by cases h; exact k
theorem mm_sub38 {α0 α1 α2 α3 α4 α5 α6 α7 α8 α9 α10 α11 α12 α13 α14 α15 α16 α17 α18 α19 α20 α21 α22 α23 α24 α25 α26 α27 α28 α29 α30 α31 α32 α33 α34 α35 α36 α37 : Type} {a0 b0 : α0} {a1 b1 : α1} {a2 b2 : α2} {a3 b3 : α3} {a4 b4 : α4} {a5 b5 : α5} {a6 b6 : α6} {a7 b7 : α7} {a8 b8 : α8} {a9 b9 : α9} {a10 b10 : α10} {a11 b11 : α11} {a12 b12 : α12} {a13 b13 : α13} {a14 b14 : α14} {a15 b15 : α15} {a16 b16 : α16} {a17 b17 : α17} {a18 b18 : α18} {a19 b19 : α19} {a20 b20 : α20} {a21 b21 : α21} {a22 b22 : α22} {a23 b23 : α23} {a24 b24 : α24} {a25 b25 : α25} {a26 b26 : α26} {a27 b27 : α27} {a28 b28 : α28} {a29 b29 : α29} {a30 b30 : α30} {a31 b31 : α31} {a32 b32 : α32} {a33 b33 : α33} {a34 b34 : α34} {a35 b35 : α35} {a36 b36 : α36} {a37 b37 : α37} (h : some (a0, a1, a2, a3, a4, a5, a6, a7, a8, a9, a10, a11, a12, a13, a14, a15, a16, a17, a18, a19, a20, a21, a22, a23, a24, a25, a26, a27, a28, a29, a30, a31, a32, a33, a34, a35, a36, a37) = some (b0, b1, b2, b3, b4, b5, b6, b7, b8, b9, b10, b11, b12, b13, b14, b15, b16, b17, b18, b19, b20, b21, b22, b23, b24, b25, b26, b27, b28, b29, b30, b31, b32, b33, b34, b35, b36, b37)) {P : α0 → α1 → α2 → α3 → α4 → α5 → α6 → α7 → α8 → α9 → α10 → α11 → α12 → α13 → α14 → α15 → α16 → α17 → α18 → α19 → α20 → α21 → α22 → α23 → α24 → α25 → α26 → α27 → α28 → α29 → α30 → α31 → α32 → α33 → α34 → α35 → α36 → α37 → Prop} (k : P a0 a1 a2 a3 a4 a5 a6 a7 a8 a9 a10 a11 a12 a13 a14 a15 a16 a17 a18 a19 a20 a21 a22 a23 a24 a25 a26 a27 a28 a29 a30 a31 a32 a33 a34 a35 a36 a37) : P b0 b1 b2 b3 b4 b5 b6 b7 b8 b9 b10 b11 b12 b13 b14 b15 b16 b17 b18 b19 b20 b21 b22 b23 b24 b25 b26 b27 b28 b29 b30 b31 b32 b33 b34 b35 b36 b37 := by cases h; exact k
theorem iw_X0 : ∀ w ∈ u_ws RX0 TX0 5, w ∈ mm_tbl := by decide +kernel
theorem iw_X1 : ∀ w ∈ u_ws RX1 TX1 5, w ∈ mm_tbl := by decide +kernel
theorem iw_X2 : ∀ w ∈ u_ws RX2 TX2 10, w ∈ mm_tbl := by decide +kernel
theorem iw_X3 : ∀ w ∈ u_ws RX3 TX3 4, w ∈ mm_tbl := by decide +kernel
theorem iw_X4 : ∀ w ∈ u_ws RX4 TX4 8, w ∈ mm_tbl := by decide +kernel
theorem iw_X5 : ∀ w ∈ u_ws RX5 TX5 15, w ∈ mm_tbl := by decide +kernel
theorem iw_X6 : ∀ w ∈ u_ws RX6 TX6 5, w ∈ mm_tbl := by decide +kernel
theorem iw_X7 : ∀ w ∈ u_ws RX7 TX7 3, w ∈ mm_tbl := by decide +kernel
theorem iw_X8 : ∀ w ∈ u_ws RX8 TX8 10, w ∈ mm_tbl := by decide +kernel
theorem iw_X9 : ∀ w ∈ u_ws RX9 TX9 69, w ∈ mm_tbl := by decide +kernel
def wd_X0 (cI cL cS cH : ClassId) (a : Nat → Nat) (v_value : Int32) (v_done : Int32) (v_size : Int32) (v_before : List Int32) (v_after : List Int32) : va_W := [(a 0, .inr (0, [.int v_value, .int v_done, .int v_size, .ref (a 1), .ref (a 2)])),
  (a 1, mm_li cI v_before),
  (a 2, mm_li cI v_after)]
def wd_X1 (cI cL cS cH : ClassId) (a : Nat → Nat) (v_size : Int32) (v_ran : Int32) (v_number : Int32) (v_kinds : List Int32) (v_trace : List Int32) : va_W := [(a 0, .inr (1, [.int v_size, .int v_ran, .ref (a 1), .ref (a 2), .int v_number])),
  (a 1, mm_li cI v_kinds),
  (a 2, mm_li cI v_trace)]
def wd_X2 (cI cL cS cH : ClassId) (a : Nat → Nat) (v_size : Int32) (v_stepCount : Int32) (v_draftCount : Int32) (v_place : Int32) (v_fault : Int32) (v_stacked : Int32) (v_tape : List Int32) (v_steps : List Int32) (v_draft : List Int32) (v_stack : List Int32) : va_W := [(a 0, .inr (2, [.int v_size, .ref (a 1), .ref (a 2), .int v_stepCount, .ref (a 3), .int v_draftCount, .int v_place, .int v_fault, .ref (a 4), .int v_stacked])),
  (a 1, mm_li cI v_tape),
  (a 2, mm_li cI v_steps),
  (a 3, mm_li cI v_draft),
  (a 4, mm_li cI v_stack)]
def wd_X3 (cI cL cS cH : ClassId) (a : Nat → Nat) (v_size : Int32) (v_trial_rows : Int32) (v_trial_cols : Int32) (v_trial_high : Int32) (v_trial_wide : Int32) (v_trial_folds : Int32) (v_trial_wrong : Int32) (v_trial_more : Int32) (v_trial_rowOf : List Int32) (v_trial_colOf : List Int32) (v_trial_below : List Int32) (v_trial_face : List Int32) (v_trial_worn : List Int32) (v_trial_last : List Int32) (v_trial_bend : List Int32) (v_trial_tall : List Int32) (v_lines : List Int32) (v_ways : List Int32) : va_W := [(a 0, .inr (3, [.int v_size, .ref (a 1), .ref (a 10), .ref (a 11)])),
  (a 1, .inr (5, [.int v_trial_rows, .int v_trial_cols, .int v_trial_high, .int v_trial_wide, .int v_trial_folds, .int v_trial_wrong, .int v_trial_more, .ref (a 2), .ref (a 3), .ref (a 4), .ref (a 5), .ref (a 6), .ref (a 7), .ref (a 8), .ref (a 9)])),
  (a 2, mm_li cI v_trial_rowOf),
  (a 3, mm_li cI v_trial_colOf),
  (a 4, mm_li cI v_trial_below),
  (a 5, mm_li cI v_trial_face),
  (a 6, mm_li cI v_trial_worn),
  (a 7, mm_li cI v_trial_last),
  (a 8, mm_li cI v_trial_bend),
  (a 9, mm_li cI v_trial_tall),
  (a 10, mm_li cI v_lines),
  (a 11, mm_li cI v_ways)]
def wd_X4 (cI cL cS cH : ClassId) (a : Nat → Nat) (v_found : Bool) (v_wrong : Int32) (v_more : Int32) (v_folds : Int32) (v_wanted : Int32) (v_levels0_rows : Int32) (v_levels0_cols : Int32) (v_levels0_high : Int32) (v_levels0_wide : Int32) (v_levels0_folds : Int32) (v_levels0_wrong : Int32) (v_levels0_more : Int32) (v_levels0_rowOf : List Int32) (v_levels0_colOf : List Int32) (v_levels0_below : List Int32) (v_levels0_face : List Int32) (v_levels0_worn : List Int32) (v_levels0_last : List Int32) (v_levels0_bend : List Int32) (v_levels0_tall : List Int32) (v_levels1_rows : Int32) (v_levels1_cols : Int32) (v_levels1_high : Int32) (v_levels1_wide : Int32) (v_levels1_folds : Int32) (v_levels1_wrong : Int32) (v_levels1_more : Int32) (v_levels1_rowOf : List Int32) (v_levels1_colOf : List Int32) (v_levels1_below : List Int32) (v_levels1_face : List Int32) (v_levels1_worn : List Int32) (v_levels1_last : List Int32) (v_levels1_bend : List Int32) (v_levels1_tall : List Int32) (v_levels2_rows : Int32) (v_levels2_cols : Int32) (v_levels2_high : Int32) (v_levels2_wide : Int32) (v_levels2_folds : Int32) (v_levels2_wrong : Int32) (v_levels2_more : Int32) (v_levels2_rowOf : List Int32) (v_levels2_colOf : List Int32) (v_levels2_below : List Int32) (v_levels2_face : List Int32) (v_levels2_worn : List Int32) (v_levels2_last : List Int32) (v_levels2_bend : List Int32) (v_levels2_tall : List Int32) (v_levels3_rows : Int32) (v_levels3_cols : Int32) (v_levels3_high : Int32) (v_levels3_wide : Int32) (v_levels3_folds : Int32) (v_levels3_wrong : Int32) (v_levels3_more : Int32) (v_levels3_rowOf : List Int32) (v_levels3_colOf : List Int32) (v_levels3_below : List Int32) (v_levels3_face : List Int32) (v_levels3_worn : List Int32) (v_levels3_last : List Int32) (v_levels3_bend : List Int32) (v_levels3_tall : List Int32) (v_path : List Int32) (v_best : List Int32) : va_W := [(a 0, .inr (4, [.int (mm_b v_found), .int v_wrong, .int v_more, .int v_folds, .ref (a 1), .ref (a 38), .ref (a 39), .int v_wanted])),
  (a 1, mm_lr cS [a 2, a 11, a 20, a 29]),
  (a 2, .inr (5, [.int v_levels0_rows, .int v_levels0_cols, .int v_levels0_high, .int v_levels0_wide, .int v_levels0_folds, .int v_levels0_wrong, .int v_levels0_more, .ref (a 3), .ref (a 4), .ref (a 5), .ref (a 6), .ref (a 7), .ref (a 8), .ref (a 9), .ref (a 10)])),
  (a 3, mm_li cI v_levels0_rowOf),
  (a 4, mm_li cI v_levels0_colOf),
  (a 5, mm_li cI v_levels0_below),
  (a 6, mm_li cI v_levels0_face),
  (a 7, mm_li cI v_levels0_worn),
  (a 8, mm_li cI v_levels0_last),
  (a 9, mm_li cI v_levels0_bend),
  (a 10, mm_li cI v_levels0_tall),
  (a 11, .inr (5, [.int v_levels1_rows, .int v_levels1_cols, .int v_levels1_high, .int v_levels1_wide, .int v_levels1_folds, .int v_levels1_wrong, .int v_levels1_more, .ref (a 12), .ref (a 13), .ref (a 14), .ref (a 15), .ref (a 16), .ref (a 17), .ref (a 18), .ref (a 19)])),
  (a 12, mm_li cI v_levels1_rowOf),
  (a 13, mm_li cI v_levels1_colOf),
  (a 14, mm_li cI v_levels1_below),
  (a 15, mm_li cI v_levels1_face),
  (a 16, mm_li cI v_levels1_worn),
  (a 17, mm_li cI v_levels1_last),
  (a 18, mm_li cI v_levels1_bend),
  (a 19, mm_li cI v_levels1_tall),
  (a 20, .inr (5, [.int v_levels2_rows, .int v_levels2_cols, .int v_levels2_high, .int v_levels2_wide, .int v_levels2_folds, .int v_levels2_wrong, .int v_levels2_more, .ref (a 21), .ref (a 22), .ref (a 23), .ref (a 24), .ref (a 25), .ref (a 26), .ref (a 27), .ref (a 28)])),
  (a 21, mm_li cI v_levels2_rowOf),
  (a 22, mm_li cI v_levels2_colOf),
  (a 23, mm_li cI v_levels2_below),
  (a 24, mm_li cI v_levels2_face),
  (a 25, mm_li cI v_levels2_worn),
  (a 26, mm_li cI v_levels2_last),
  (a 27, mm_li cI v_levels2_bend),
  (a 28, mm_li cI v_levels2_tall),
  (a 29, .inr (5, [.int v_levels3_rows, .int v_levels3_cols, .int v_levels3_high, .int v_levels3_wide, .int v_levels3_folds, .int v_levels3_wrong, .int v_levels3_more, .ref (a 30), .ref (a 31), .ref (a 32), .ref (a 33), .ref (a 34), .ref (a 35), .ref (a 36), .ref (a 37)])),
  (a 30, mm_li cI v_levels3_rowOf),
  (a 31, mm_li cI v_levels3_colOf),
  (a 32, mm_li cI v_levels3_below),
  (a 33, mm_li cI v_levels3_face),
  (a 34, mm_li cI v_levels3_worn),
  (a 35, mm_li cI v_levels3_last),
  (a 36, mm_li cI v_levels3_bend),
  (a 37, mm_li cI v_levels3_tall),
  (a 38, mm_li cI v_path),
  (a 39, mm_li cI v_best)]
def wd_X5 (cI cL cS cH : ClassId) (a : Nat → Nat) (v_rows : Int32) (v_cols : Int32) (v_high : Int32) (v_wide : Int32) (v_folds : Int32) (v_wrong : Int32) (v_more : Int32) (v_rowOf : List Int32) (v_colOf : List Int32) (v_below : List Int32) (v_face : List Int32) (v_worn : List Int32) (v_last : List Int32) (v_bend : List Int32) (v_tall : List Int32) : va_W := [(a 0, .inr (5, [.int v_rows, .int v_cols, .int v_high, .int v_wide, .int v_folds, .int v_wrong, .int v_more, .ref (a 1), .ref (a 2), .ref (a 3), .ref (a 4), .ref (a 5), .ref (a 6), .ref (a 7), .ref (a 8)])),
  (a 1, mm_li cI v_rowOf),
  (a 2, mm_li cI v_colOf),
  (a 3, mm_li cI v_below),
  (a 4, mm_li cI v_face),
  (a 5, mm_li cI v_worn),
  (a 6, mm_li cI v_last),
  (a 7, mm_li cI v_bend),
  (a 8, mm_li cI v_tall)]
def wd_X6 (cI cL cS cH : ClassId) (a : Nat → Nat) (v_holds : Int32) (v_body : Int32) (v_sort : Int32) (v_size : Int32) (v_items : List Int64) : va_W := [(a 0, .inr (6, [.int v_holds, .int v_body, .int v_sort, .int v_size, .ref (a 1)])),
  (a 1, mm_ll cL v_items)]
def wd_X7 (cI cL cS cH : ClassId) (a : Nat → Nat) (v_list : List Int32) (v_found : List Int32) (v_at : List Int32) : va_W := [(a 0, .inr (7, [.ref (a 1), .ref (a 2), .ref (a 3)])),
  (a 1, mm_li cI v_list),
  (a 2, mm_li cI v_found),
  (a 3, mm_li cI v_at)]
def wd_X8 (cI cL cS cH : ClassId) (a : Nat → Nat) (v_hasImage : Bool) (v_now_rows : Int32) (v_now_cols : Int32) (v_now_high : Int32) (v_now_wide : Int32) (v_now_folds : Int32) (v_now_wrong : Int32) (v_now_more : Int32) (v_now_rowOf : List Int32) (v_now_colOf : List Int32) (v_now_below : List Int32) (v_now_face : List Int32) (v_now_worn : List Int32) (v_now_last : List Int32) (v_now_bend : List Int32) (v_now_tall : List Int32) (v_kept_rows : Int32) (v_kept_cols : Int32) (v_kept_high : Int32) (v_kept_wide : Int32) (v_kept_folds : Int32) (v_kept_wrong : Int32) (v_kept_more : Int32) (v_kept_rowOf : List Int32) (v_kept_colOf : List Int32) (v_kept_below : List Int32) (v_kept_face : List Int32) (v_kept_worn : List Int32) (v_kept_last : List Int32) (v_kept_bend : List Int32) (v_kept_tall : List Int32) (v_wearing_size : Int32) (v_wearing_stepCount : Int32) (v_wearing_draftCount : Int32) (v_wearing_place : Int32) (v_wearing_fault : Int32) (v_wearing_stacked : Int32) (v_wearing_tape : List Int32) (v_wearing_steps : List Int32) (v_wearing_draft : List Int32) (v_wearing_stack : List Int32) (v_planned_size : Int32) (v_planned_trial_rows : Int32) (v_planned_trial_cols : Int32) (v_planned_trial_high : Int32) (v_planned_trial_wide : Int32) (v_planned_trial_folds : Int32) (v_planned_trial_wrong : Int32) (v_planned_trial_more : Int32) (v_planned_trial_rowOf : List Int32) (v_planned_trial_colOf : List Int32) (v_planned_trial_below : List Int32) (v_planned_trial_face : List Int32) (v_planned_trial_worn : List Int32) (v_planned_trial_last : List Int32) (v_planned_trial_bend : List Int32) (v_planned_trial_tall : List Int32) (v_planned_lines : List Int32) (v_planned_ways : List Int32) (v_search_found : Bool) (v_search_wrong : Int32) (v_search_more : Int32) (v_search_folds : Int32) (v_search_wanted : Int32) (v_search_levels0_rows : Int32) (v_search_levels0_cols : Int32) (v_search_levels0_high : Int32) (v_search_levels0_wide : Int32) (v_search_levels0_folds : Int32) (v_search_levels0_wrong : Int32) (v_search_levels0_more : Int32) (v_search_levels0_rowOf : List Int32) (v_search_levels0_colOf : List Int32) (v_search_levels0_below : List Int32) (v_search_levels0_face : List Int32) (v_search_levels0_worn : List Int32) (v_search_levels0_last : List Int32) (v_search_levels0_bend : List Int32) (v_search_levels0_tall : List Int32) (v_search_levels1_rows : Int32) (v_search_levels1_cols : Int32) (v_search_levels1_high : Int32) (v_search_levels1_wide : Int32) (v_search_levels1_folds : Int32) (v_search_levels1_wrong : Int32) (v_search_levels1_more : Int32) (v_search_levels1_rowOf : List Int32) (v_search_levels1_colOf : List Int32) (v_search_levels1_below : List Int32) (v_search_levels1_face : List Int32) (v_search_levels1_worn : List Int32) (v_search_levels1_last : List Int32) (v_search_levels1_bend : List Int32) (v_search_levels1_tall : List Int32) (v_search_levels2_rows : Int32) (v_search_levels2_cols : Int32) (v_search_levels2_high : Int32) (v_search_levels2_wide : Int32) (v_search_levels2_folds : Int32) (v_search_levels2_wrong : Int32) (v_search_levels2_more : Int32) (v_search_levels2_rowOf : List Int32) (v_search_levels2_colOf : List Int32) (v_search_levels2_below : List Int32) (v_search_levels2_face : List Int32) (v_search_levels2_worn : List Int32) (v_search_levels2_last : List Int32) (v_search_levels2_bend : List Int32) (v_search_levels2_tall : List Int32) (v_search_levels3_rows : Int32) (v_search_levels3_cols : Int32) (v_search_levels3_high : Int32) (v_search_levels3_wide : Int32) (v_search_levels3_folds : Int32) (v_search_levels3_wrong : Int32) (v_search_levels3_more : Int32) (v_search_levels3_rowOf : List Int32) (v_search_levels3_colOf : List Int32) (v_search_levels3_below : List Int32) (v_search_levels3_face : List Int32) (v_search_levels3_worn : List Int32) (v_search_levels3_last : List Int32) (v_search_levels3_bend : List Int32) (v_search_levels3_tall : List Int32) (v_search_path : List Int32) (v_search_best : List Int32) (v_strip_list : List Int32) (v_strip_found : List Int32) (v_strip_at : List Int32) (v_changes_value : Int32) (v_changes_done : Int32) (v_changes_size : Int32) (v_changes_before : List Int32) (v_changes_after : List Int32) (v_foldings_size : Int32) (v_foldings_ran : Int32) (v_foldings_number : Int32) (v_foldings_kinds : List Int32) (v_foldings_trace : List Int32) (v_shelves0_holds : Int32) (v_shelves0_body : Int32) (v_shelves0_sort : Int32) (v_shelves0_size : Int32) (v_shelves0_items : List Int64) (v_shelves1_holds : Int32) (v_shelves1_body : Int32) (v_shelves1_sort : Int32) (v_shelves1_size : Int32) (v_shelves1_items : List Int64) (v_shelves2_holds : Int32) (v_shelves2_body : Int32) (v_shelves2_sort : Int32) (v_shelves2_size : Int32) (v_shelves2_items : List Int64) (v_shelves3_holds : Int32) (v_shelves3_body : Int32) (v_shelves3_sort : Int32) (v_shelves3_size : Int32) (v_shelves3_items : List Int64) (v_shelves4_holds : Int32) (v_shelves4_body : Int32) (v_shelves4_sort : Int32) (v_shelves4_size : Int32) (v_shelves4_items : List Int64) (v_shelves5_holds : Int32) (v_shelves5_body : Int32) (v_shelves5_sort : Int32) (v_shelves5_size : Int32) (v_shelves5_items : List Int64) : va_W := [(a 0, .inr (8, [.ref (a 1), .ref (a 10), .ref (a 19), .ref (a 24), .ref (a 36), .ref (a 76), .ref (a 80), .ref (a 83), .ref (a 86), .int (mm_b v_hasImage)])),
  (a 1, .inr (5, [.int v_now_rows, .int v_now_cols, .int v_now_high, .int v_now_wide, .int v_now_folds, .int v_now_wrong, .int v_now_more, .ref (a 2), .ref (a 3), .ref (a 4), .ref (a 5), .ref (a 6), .ref (a 7), .ref (a 8), .ref (a 9)])),
  (a 2, mm_li cI v_now_rowOf),
  (a 3, mm_li cI v_now_colOf),
  (a 4, mm_li cI v_now_below),
  (a 5, mm_li cI v_now_face),
  (a 6, mm_li cI v_now_worn),
  (a 7, mm_li cI v_now_last),
  (a 8, mm_li cI v_now_bend),
  (a 9, mm_li cI v_now_tall),
  (a 10, .inr (5, [.int v_kept_rows, .int v_kept_cols, .int v_kept_high, .int v_kept_wide, .int v_kept_folds, .int v_kept_wrong, .int v_kept_more, .ref (a 11), .ref (a 12), .ref (a 13), .ref (a 14), .ref (a 15), .ref (a 16), .ref (a 17), .ref (a 18)])),
  (a 11, mm_li cI v_kept_rowOf),
  (a 12, mm_li cI v_kept_colOf),
  (a 13, mm_li cI v_kept_below),
  (a 14, mm_li cI v_kept_face),
  (a 15, mm_li cI v_kept_worn),
  (a 16, mm_li cI v_kept_last),
  (a 17, mm_li cI v_kept_bend),
  (a 18, mm_li cI v_kept_tall),
  (a 19, .inr (2, [.int v_wearing_size, .ref (a 20), .ref (a 21), .int v_wearing_stepCount, .ref (a 22), .int v_wearing_draftCount, .int v_wearing_place, .int v_wearing_fault, .ref (a 23), .int v_wearing_stacked])),
  (a 20, mm_li cI v_wearing_tape),
  (a 21, mm_li cI v_wearing_steps),
  (a 22, mm_li cI v_wearing_draft),
  (a 23, mm_li cI v_wearing_stack),
  (a 24, .inr (3, [.int v_planned_size, .ref (a 25), .ref (a 34), .ref (a 35)])),
  (a 25, .inr (5, [.int v_planned_trial_rows, .int v_planned_trial_cols, .int v_planned_trial_high, .int v_planned_trial_wide, .int v_planned_trial_folds, .int v_planned_trial_wrong, .int v_planned_trial_more, .ref (a 26), .ref (a 27), .ref (a 28), .ref (a 29), .ref (a 30), .ref (a 31), .ref (a 32), .ref (a 33)])),
  (a 26, mm_li cI v_planned_trial_rowOf),
  (a 27, mm_li cI v_planned_trial_colOf),
  (a 28, mm_li cI v_planned_trial_below),
  (a 29, mm_li cI v_planned_trial_face),
  (a 30, mm_li cI v_planned_trial_worn),
  (a 31, mm_li cI v_planned_trial_last),
  (a 32, mm_li cI v_planned_trial_bend),
  (a 33, mm_li cI v_planned_trial_tall),
  (a 34, mm_li cI v_planned_lines),
  (a 35, mm_li cI v_planned_ways),
  (a 36, .inr (4, [.int (mm_b v_search_found), .int v_search_wrong, .int v_search_more, .int v_search_folds, .ref (a 37), .ref (a 74), .ref (a 75), .int v_search_wanted])),
  (a 37, mm_lr cS [a 38, a 47, a 56, a 65]),
  (a 38, .inr (5, [.int v_search_levels0_rows, .int v_search_levels0_cols, .int v_search_levels0_high, .int v_search_levels0_wide, .int v_search_levels0_folds, .int v_search_levels0_wrong, .int v_search_levels0_more, .ref (a 39), .ref (a 40), .ref (a 41), .ref (a 42), .ref (a 43), .ref (a 44), .ref (a 45), .ref (a 46)])),
  (a 39, mm_li cI v_search_levels0_rowOf),
  (a 40, mm_li cI v_search_levels0_colOf),
  (a 41, mm_li cI v_search_levels0_below),
  (a 42, mm_li cI v_search_levels0_face),
  (a 43, mm_li cI v_search_levels0_worn),
  (a 44, mm_li cI v_search_levels0_last),
  (a 45, mm_li cI v_search_levels0_bend),
  (a 46, mm_li cI v_search_levels0_tall),
  (a 47, .inr (5, [.int v_search_levels1_rows, .int v_search_levels1_cols, .int v_search_levels1_high, .int v_search_levels1_wide, .int v_search_levels1_folds, .int v_search_levels1_wrong, .int v_search_levels1_more, .ref (a 48), .ref (a 49), .ref (a 50), .ref (a 51), .ref (a 52), .ref (a 53), .ref (a 54), .ref (a 55)])),
  (a 48, mm_li cI v_search_levels1_rowOf),
  (a 49, mm_li cI v_search_levels1_colOf),
  (a 50, mm_li cI v_search_levels1_below),
  (a 51, mm_li cI v_search_levels1_face),
  (a 52, mm_li cI v_search_levels1_worn),
  (a 53, mm_li cI v_search_levels1_last),
  (a 54, mm_li cI v_search_levels1_bend),
  (a 55, mm_li cI v_search_levels1_tall),
  (a 56, .inr (5, [.int v_search_levels2_rows, .int v_search_levels2_cols, .int v_search_levels2_high, .int v_search_levels2_wide, .int v_search_levels2_folds, .int v_search_levels2_wrong, .int v_search_levels2_more, .ref (a 57), .ref (a 58), .ref (a 59), .ref (a 60), .ref (a 61), .ref (a 62), .ref (a 63), .ref (a 64)])),
  (a 57, mm_li cI v_search_levels2_rowOf),
  (a 58, mm_li cI v_search_levels2_colOf),
  (a 59, mm_li cI v_search_levels2_below),
  (a 60, mm_li cI v_search_levels2_face),
  (a 61, mm_li cI v_search_levels2_worn),
  (a 62, mm_li cI v_search_levels2_last),
  (a 63, mm_li cI v_search_levels2_bend),
  (a 64, mm_li cI v_search_levels2_tall),
  (a 65, .inr (5, [.int v_search_levels3_rows, .int v_search_levels3_cols, .int v_search_levels3_high, .int v_search_levels3_wide, .int v_search_levels3_folds, .int v_search_levels3_wrong, .int v_search_levels3_more, .ref (a 66), .ref (a 67), .ref (a 68), .ref (a 69), .ref (a 70), .ref (a 71), .ref (a 72), .ref (a 73)])),
  (a 66, mm_li cI v_search_levels3_rowOf),
  (a 67, mm_li cI v_search_levels3_colOf),
  (a 68, mm_li cI v_search_levels3_below),
  (a 69, mm_li cI v_search_levels3_face),
  (a 70, mm_li cI v_search_levels3_worn),
  (a 71, mm_li cI v_search_levels3_last),
  (a 72, mm_li cI v_search_levels3_bend),
  (a 73, mm_li cI v_search_levels3_tall),
  (a 74, mm_li cI v_search_path),
  (a 75, mm_li cI v_search_best),
  (a 76, .inr (7, [.ref (a 77), .ref (a 78), .ref (a 79)])),
  (a 77, mm_li cI v_strip_list),
  (a 78, mm_li cI v_strip_found),
  (a 79, mm_li cI v_strip_at),
  (a 80, .inr (0, [.int v_changes_value, .int v_changes_done, .int v_changes_size, .ref (a 81), .ref (a 82)])),
  (a 81, mm_li cI v_changes_before),
  (a 82, mm_li cI v_changes_after),
  (a 83, .inr (1, [.int v_foldings_size, .int v_foldings_ran, .ref (a 84), .ref (a 85), .int v_foldings_number])),
  (a 84, mm_li cI v_foldings_kinds),
  (a 85, mm_li cI v_foldings_trace),
  (a 86, mm_lr cH [a 87, a 89, a 91, a 93, a 95, a 97]),
  (a 87, .inr (6, [.int v_shelves0_holds, .int v_shelves0_body, .int v_shelves0_sort, .int v_shelves0_size, .ref (a 88)])),
  (a 88, mm_ll cL v_shelves0_items),
  (a 89, .inr (6, [.int v_shelves1_holds, .int v_shelves1_body, .int v_shelves1_sort, .int v_shelves1_size, .ref (a 90)])),
  (a 90, mm_ll cL v_shelves1_items),
  (a 91, .inr (6, [.int v_shelves2_holds, .int v_shelves2_body, .int v_shelves2_sort, .int v_shelves2_size, .ref (a 92)])),
  (a 92, mm_ll cL v_shelves2_items),
  (a 93, .inr (6, [.int v_shelves3_holds, .int v_shelves3_body, .int v_shelves3_sort, .int v_shelves3_size, .ref (a 94)])),
  (a 94, mm_ll cL v_shelves3_items),
  (a 95, .inr (6, [.int v_shelves4_holds, .int v_shelves4_body, .int v_shelves4_sort, .int v_shelves4_size, .ref (a 96)])),
  (a 96, mm_ll cL v_shelves4_items),
  (a 97, .inr (6, [.int v_shelves5_holds, .int v_shelves5_body, .int v_shelves5_sort, .int v_shelves5_size, .ref (a 98)])),
  (a 98, mm_ll cL v_shelves5_items)]
def wd_X9 (cI cL cS cH : ClassId) (a : Nat → Nat) (v_keptMany : Int32) (v_done : Int32) (v_rowsOf : Int32) (v_columnsOf : Int32) (v_folded : Int32) (v_wronged : Int32) (v_tapeMany : Int32) (v_textMany : Int32) (v_base : Int32) (v_at : Int32) (v_ends : Int32) (v_fault : Int32) (v_opened : Int32) (v_bentMany : Int32) (v_bentWrong : Int32) (v_moreWorn : Int32) (v_planned : Int32) (v_allWrong : Int32) (v_allWorn : Int32) (v_z : Int32) (v_wishedField : Int32) (v_isFound : Bool) (v_bestWrong : Int32) (v_bestWorn : Int32) (v_bestMany : Int32) (v_soughtBy : Int32) (v_sought : Int32) (v_soughtAt : Int32) (v_foundMany : Int32) (v_foundOrder : Int32) (v_isKept : Bool) (v_imageRows : Int32) (v_imageColumns : Int32) (v_imageFolded : Int32) (v_imageWronged : Int32) (v_bodies : Int32) (v_ran : Int32) (v_ownKind : Int32) (v_ownNumber : Int32) (v_limit : List Int32) (v_changeWas : List Int32) (v_changeIs : List Int32) (v_shapeRows : List Int32) (v_shapeColumns : List Int32) (v_row : List Int32) (v_column : List Int32) (v_below : List Int32) (v_face : List Int32) (v_worn : List Int32) (v_lastBend : List Int32) (v_tape : List Int32) (v_text : List Int32) (v_names : List Int32) (v_bends : List Int32) (v_high : List Int32) (v_to : List Int32) (v_pileSize : List Int32) (v_planLine : List Int32) (v_planWay : List Int32) (v_way1 : List Int32) (v_bestWay : List Int32) (v_order1 : List Int32) (v_placeIn : List Int32) (v_bodyKind : List Int32) (v_trace : List Int32) (v_shelf : List Int32) (v_many : List Int32) (v_items : List Int64) (v_carried : List Int64) : va_W := [(a 0, .inr (9, [.ref (a 1), .ref (a 2), .ref (a 3), .int v_keptMany, .int v_done, .int v_rowsOf, .int v_columnsOf, .ref (a 4), .ref (a 5), .ref (a 6), .ref (a 7), .ref (a 8), .ref (a 9), .ref (a 10), .ref (a 11), .int v_folded, .int v_wronged, .ref (a 12), .int v_tapeMany, .ref (a 13), .int v_textMany, .int v_base, .int v_at, .int v_ends, .int v_fault, .int v_opened, .ref (a 14), .ref (a 15), .int v_bentMany, .int v_bentWrong, .int v_moreWorn, .ref (a 16), .ref (a 17), .ref (a 18), .ref (a 19), .ref (a 20), .int v_planned, .int v_allWrong, .int v_allWorn, .int v_z, .int v_wishedField, .ref (a 21), .ref (a 22), .int (mm_b v_isFound), .int v_bestWrong, .int v_bestWorn, .int v_bestMany, .ref (a 23), .ref (a 24), .int v_soughtBy, .int v_sought, .int v_soughtAt, .int v_foundMany, .int v_foundOrder, .int (mm_b v_isKept), .int v_imageRows, .int v_imageColumns, .int v_imageFolded, .int v_imageWronged, .int v_bodies, .ref (a 25), .ref (a 26), .int v_ran, .int v_ownKind, .int v_ownNumber, .ref (a 27), .ref (a 28), .ref (a 29), .ref (a 30)])),
  (a 1, mm_li cI v_limit),
  (a 2, mm_li cI v_changeWas),
  (a 3, mm_li cI v_changeIs),
  (a 4, mm_li cI v_shapeRows),
  (a 5, mm_li cI v_shapeColumns),
  (a 6, mm_li cI v_row),
  (a 7, mm_li cI v_column),
  (a 8, mm_li cI v_below),
  (a 9, mm_li cI v_face),
  (a 10, mm_li cI v_worn),
  (a 11, mm_li cI v_lastBend),
  (a 12, mm_li cI v_tape),
  (a 13, mm_li cI v_text),
  (a 14, mm_li cI v_names),
  (a 15, mm_li cI v_bends),
  (a 16, mm_li cI v_high),
  (a 17, mm_li cI v_to),
  (a 18, mm_li cI v_pileSize),
  (a 19, mm_li cI v_planLine),
  (a 20, mm_li cI v_planWay),
  (a 21, mm_li cI v_way1),
  (a 22, mm_li cI v_bestWay),
  (a 23, mm_li cI v_order1),
  (a 24, mm_li cI v_placeIn),
  (a 25, mm_li cI v_bodyKind),
  (a 26, mm_li cI v_trace),
  (a 27, mm_li cI v_shelf),
  (a 28, mm_li cI v_many),
  (a 29, mm_ll cL v_items),
  (a 30, mm_ll cL v_carried)]
