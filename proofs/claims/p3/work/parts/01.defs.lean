/-! texts -/
def mm_START : List Int32 := [0, 0, 0, 2, 8, 24, 74, 218, 680]

def mm_ABOVE : List Int32 := [-1, 0, 0, 2, 0, 3, 1, 4]

def mm_OWN : List Int32 := [1, 10, 11, 2, 20, 0, 0, 0, 0, 30, 0, 0, 0, 41, 40, 0, 0, 0, 50, 0, 0, 0, 0, 60, 70, 0, 0, 0, 0, 80, 0, 81]

def mm_ck {α : Type} (c : Bool) (x : Option α) : Option α := if c = true then x else none

def mm_nm {α β : Type} (x : α) (k : α → β) : β := k x

def mm_b (b : Bool) : Int32 := if b = true then 1 else 0

abbrev mm_rem (x y : Int32) : Int32 := x - x / y * y

def mm_inb (i : Int32) (n : Nat) : Bool := decide (0 ≤ i) && decide (i.toNatClampNeg < n)

def mm_nz (i : Int32) : Bool := decide (¬ i = 0)

def mm_ig (l : List Int32) (i : Int32) : Int32 := l.getD i.toNatClampNeg 0

def mm_is (l : List Int32) (i x : Int32) : List Int32 := l.set i.toNatClampNeg x

def mm_lg (l : List Int64) (i : Int32) : Int64 := l.getD i.toNatClampNeg 0

def mm_ls (l : List Int64) (i : Int32) (x : Int64) : List Int64 := l.set i.toNatClampNeg x

def mm_cok (sp dp n : Int32) (a b : Nat) : Bool := decide (0 ≤ sp) && (decide (0 ≤ dp) && (decide (0 ≤ n) && (decide (sp.toNatClampNeg + n.toNatClampNeg ≤ a) && decide (dp.toNatClampNeg + n.toNatClampNeg ≤ b))))

def mm_cp {α : Type} (xs ys : List α) (sp dp n : Int32) : List α := ys.take dp.toNatClampNeg ++ ((xs.drop sp.toNatClampNeg).take n.toNatClampNeg ++ ys.drop (dp.toNatClampNeg + n.toNatClampNeg))

def mm_bd1 {α0 β : Type} (x : Option (α0)) (k : α0 → Option β) : Option β := match x with
  | some a0 => k a0
  | none => none

def mm_bd2 {α0 α1 β : Type} (x : Option (α0 × α1)) (k : α0 → α1 → Option β) : Option β := match x with
  | some (a0, a1) => k a0 a1
  | none => none

def mm_bd3 {α0 α1 α2 β : Type} (x : Option (α0 × α1 × α2)) (k : α0 → α1 → α2 → Option β) : Option β := match x with
  | some (a0, a1, a2) => k a0 a1 a2
  | none => none

def mm_bd4 {α0 α1 α2 α3 β : Type} (x : Option (α0 × α1 × α2 × α3)) (k : α0 → α1 → α2 → α3 → Option β) : Option β := match x with
  | some (a0, a1, a2, a3) => k a0 a1 a2 a3
  | none => none

def mm_bd5 {α0 α1 α2 α3 α4 β : Type} (x : Option (α0 × α1 × α2 × α3 × α4)) (k : α0 → α1 → α2 → α3 → α4 → Option β) : Option β := match x with
  | some (a0, a1, a2, a3, a4) => k a0 a1 a2 a3 a4
  | none => none

def mm_bd6 {α0 α1 α2 α3 α4 α5 β : Type} (x : Option (α0 × α1 × α2 × α3 × α4 × α5)) (k : α0 → α1 → α2 → α3 → α4 → α5 → Option β) : Option β := match x with
  | some (a0, a1, a2, a3, a4, a5) => k a0 a1 a2 a3 a4 a5
  | none => none

def mm_bd7 {α0 α1 α2 α3 α4 α5 α6 β : Type} (x : Option (α0 × α1 × α2 × α3 × α4 × α5 × α6)) (k : α0 → α1 → α2 → α3 → α4 → α5 → α6 → Option β) : Option β := match x with
  | some (a0, a1, a2, a3, a4, a5, a6) => k a0 a1 a2 a3 a4 a5 a6
  | none => none

def mm_bd8 {α0 α1 α2 α3 α4 α5 α6 α7 β : Type} (x : Option (α0 × α1 × α2 × α3 × α4 × α5 × α6 × α7)) (k : α0 → α1 → α2 → α3 → α4 → α5 → α6 → α7 → Option β) : Option β := match x with
  | some (a0, a1, a2, a3, a4, a5, a6, a7) => k a0 a1 a2 a3 a4 a5 a6 a7
  | none => none

def mm_bd9 {α0 α1 α2 α3 α4 α5 α6 α7 α8 β : Type} (x : Option (α0 × α1 × α2 × α3 × α4 × α5 × α6 × α7 × α8)) (k : α0 → α1 → α2 → α3 → α4 → α5 → α6 → α7 → α8 → Option β) : Option β := match x with
  | some (a0, a1, a2, a3, a4, a5, a6, a7, a8) => k a0 a1 a2 a3 a4 a5 a6 a7 a8
  | none => none

def mm_bd12 {α0 α1 α2 α3 α4 α5 α6 α7 α8 α9 α10 α11 β : Type} (x : Option (α0 × α1 × α2 × α3 × α4 × α5 × α6 × α7 × α8 × α9 × α10 × α11)) (k : α0 → α1 → α2 → α3 → α4 → α5 → α6 → α7 → α8 → α9 → α10 → α11 → Option β) : Option β := match x with
  | some (a0, a1, a2, a3, a4, a5, a6, a7, a8, a9, a10, a11) => k a0 a1 a2 a3 a4 a5 a6 a7 a8 a9 a10 a11
  | none => none

def mm_bd13 {α0 α1 α2 α3 α4 α5 α6 α7 α8 α9 α10 α11 α12 β : Type} (x : Option (α0 × α1 × α2 × α3 × α4 × α5 × α6 × α7 × α8 × α9 × α10 × α11 × α12)) (k : α0 → α1 → α2 → α3 → α4 → α5 → α6 → α7 → α8 → α9 → α10 → α11 → α12 → Option β) : Option β := match x with
  | some (a0, a1, a2, a3, a4, a5, a6, a7, a8, a9, a10, a11, a12) => k a0 a1 a2 a3 a4 a5 a6 a7 a8 a9 a10 a11 a12
  | none => none

def mm_bd15 {α0 α1 α2 α3 α4 α5 α6 α7 α8 α9 α10 α11 α12 α13 α14 β : Type} (x : Option (α0 × α1 × α2 × α3 × α4 × α5 × α6 × α7 × α8 × α9 × α10 × α11 × α12 × α13 × α14)) (k : α0 → α1 → α2 → α3 → α4 → α5 → α6 → α7 → α8 → α9 → α10 → α11 → α12 → α13 → α14 → Option β) : Option β := match x with
  | some (a0, a1, a2, a3, a4, a5, a6, a7, a8, a9, a10, a11, a12, a13, a14) => k a0 a1 a2 a3 a4 a5 a6 a7 a8 a9 a10 a11 a12 a13 a14
  | none => none

def mm_bd16 {α0 α1 α2 α3 α4 α5 α6 α7 α8 α9 α10 α11 α12 α13 α14 α15 β : Type} (x : Option (α0 × α1 × α2 × α3 × α4 × α5 × α6 × α7 × α8 × α9 × α10 × α11 × α12 × α13 × α14 × α15)) (k : α0 → α1 → α2 → α3 → α4 → α5 → α6 → α7 → α8 → α9 → α10 → α11 → α12 → α13 → α14 → α15 → Option β) : Option β := match x with
  | some (a0, a1, a2, a3, a4, a5, a6, a7, a8, a9, a10, a11, a12, a13, a14, a15) => k a0 a1 a2 a3 a4 a5 a6 a7 a8 a9 a10 a11 a12 a13 a14 a15
  | none => none

def mm_bd18 {α0 α1 α2 α3 α4 α5 α6 α7 α8 α9 α10 α11 α12 α13 α14 α15 α16 α17 β : Type} (x : Option (α0 × α1 × α2 × α3 × α4 × α5 × α6 × α7 × α8 × α9 × α10 × α11 × α12 × α13 × α14 × α15 × α16 × α17)) (k : α0 → α1 → α2 → α3 → α4 → α5 → α6 → α7 → α8 → α9 → α10 → α11 → α12 → α13 → α14 → α15 → α16 → α17 → Option β) : Option β := match x with
  | some (a0, a1, a2, a3, a4, a5, a6, a7, a8, a9, a10, a11, a12, a13, a14, a15, a16, a17) => k a0 a1 a2 a3 a4 a5 a6 a7 a8 a9 a10 a11 a12 a13 a14 a15 a16 a17
  | none => none

def mm_bd20 {α0 α1 α2 α3 α4 α5 α6 α7 α8 α9 α10 α11 α12 α13 α14 α15 α16 α17 α18 α19 β : Type} (x : Option (α0 × α1 × α2 × α3 × α4 × α5 × α6 × α7 × α8 × α9 × α10 × α11 × α12 × α13 × α14 × α15 × α16 × α17 × α18 × α19)) (k : α0 → α1 → α2 → α3 → α4 → α5 → α6 → α7 → α8 → α9 → α10 → α11 → α12 → α13 → α14 → α15 → α16 → α17 → α18 → α19 → Option β) : Option β := match x with
  | some (a0, a1, a2, a3, a4, a5, a6, a7, a8, a9, a10, a11, a12, a13, a14, a15, a16, a17, a18, a19) => k a0 a1 a2 a3 a4 a5 a6 a7 a8 a9 a10 a11 a12 a13 a14 a15 a16 a17 a18 a19
  | none => none

def mm_bd21 {α0 α1 α2 α3 α4 α5 α6 α7 α8 α9 α10 α11 α12 α13 α14 α15 α16 α17 α18 α19 α20 β : Type} (x : Option (α0 × α1 × α2 × α3 × α4 × α5 × α6 × α7 × α8 × α9 × α10 × α11 × α12 × α13 × α14 × α15 × α16 × α17 × α18 × α19 × α20)) (k : α0 → α1 → α2 → α3 → α4 → α5 → α6 → α7 → α8 → α9 → α10 → α11 → α12 → α13 → α14 → α15 → α16 → α17 → α18 → α19 → α20 → Option β) : Option β := match x with
  | some (a0, a1, a2, a3, a4, a5, a6, a7, a8, a9, a10, a11, a12, a13, a14, a15, a16, a17, a18, a19, a20) => k a0 a1 a2 a3 a4 a5 a6 a7 a8 a9 a10 a11 a12 a13 a14 a15 a16 a17 a18 a19 a20
  | none => none

def mm_bd23 {α0 α1 α2 α3 α4 α5 α6 α7 α8 α9 α10 α11 α12 α13 α14 α15 α16 α17 α18 α19 α20 α21 α22 β : Type} (x : Option (α0 × α1 × α2 × α3 × α4 × α5 × α6 × α7 × α8 × α9 × α10 × α11 × α12 × α13 × α14 × α15 × α16 × α17 × α18 × α19 × α20 × α21 × α22)) (k : α0 → α1 → α2 → α3 → α4 → α5 → α6 → α7 → α8 → α9 → α10 → α11 → α12 → α13 → α14 → α15 → α16 → α17 → α18 → α19 → α20 → α21 → α22 → Option β) : Option β := match x with
  | some (a0, a1, a2, a3, a4, a5, a6, a7, a8, a9, a10, a11, a12, a13, a14, a15, a16, a17, a18, a19, a20, a21, a22) => k a0 a1 a2 a3 a4 a5 a6 a7 a8 a9 a10 a11 a12 a13 a14 a15 a16 a17 a18 a19 a20 a21 a22
  | none => none

def mm_bd25 {α0 α1 α2 α3 α4 α5 α6 α7 α8 α9 α10 α11 α12 α13 α14 α15 α16 α17 α18 α19 α20 α21 α22 α23 α24 β : Type} (x : Option (α0 × α1 × α2 × α3 × α4 × α5 × α6 × α7 × α8 × α9 × α10 × α11 × α12 × α13 × α14 × α15 × α16 × α17 × α18 × α19 × α20 × α21 × α22 × α23 × α24)) (k : α0 → α1 → α2 → α3 → α4 → α5 → α6 → α7 → α8 → α9 → α10 → α11 → α12 → α13 → α14 → α15 → α16 → α17 → α18 → α19 → α20 → α21 → α22 → α23 → α24 → Option β) : Option β := match x with
  | some (a0, a1, a2, a3, a4, a5, a6, a7, a8, a9, a10, a11, a12, a13, a14, a15, a16, a17, a18, a19, a20, a21, a22, a23, a24) => k a0 a1 a2 a3 a4 a5 a6 a7 a8 a9 a10 a11 a12 a13 a14 a15 a16 a17 a18 a19 a20 a21 a22 a23 a24
  | none => none

def mm_bd27 {α0 α1 α2 α3 α4 α5 α6 α7 α8 α9 α10 α11 α12 α13 α14 α15 α16 α17 α18 α19 α20 α21 α22 α23 α24 α25 α26 β : Type} (x : Option (α0 × α1 × α2 × α3 × α4 × α5 × α6 × α7 × α8 × α9 × α10 × α11 × α12 × α13 × α14 × α15 × α16 × α17 × α18 × α19 × α20 × α21 × α22 × α23 × α24 × α25 × α26)) (k : α0 → α1 → α2 → α3 → α4 → α5 → α6 → α7 → α8 → α9 → α10 → α11 → α12 → α13 → α14 → α15 → α16 → α17 → α18 → α19 → α20 → α21 → α22 → α23 → α24 → α25 → α26 → Option β) : Option β := match x with
  | some (a0, a1, a2, a3, a4, a5, a6, a7, a8, a9, a10, a11, a12, a13, a14, a15, a16, a17, a18, a19, a20, a21, a22, a23, a24, a25, a26) => k a0 a1 a2 a3 a4 a5 a6 a7 a8 a9 a10 a11 a12 a13 a14 a15 a16 a17 a18 a19 a20 a21 a22 a23 a24 a25 a26
  | none => none

def mm_bd28 {α0 α1 α2 α3 α4 α5 α6 α7 α8 α9 α10 α11 α12 α13 α14 α15 α16 α17 α18 α19 α20 α21 α22 α23 α24 α25 α26 α27 β : Type} (x : Option (α0 × α1 × α2 × α3 × α4 × α5 × α6 × α7 × α8 × α9 × α10 × α11 × α12 × α13 × α14 × α15 × α16 × α17 × α18 × α19 × α20 × α21 × α22 × α23 × α24 × α25 × α26 × α27)) (k : α0 → α1 → α2 → α3 → α4 → α5 → α6 → α7 → α8 → α9 → α10 → α11 → α12 → α13 → α14 → α15 → α16 → α17 → α18 → α19 → α20 → α21 → α22 → α23 → α24 → α25 → α26 → α27 → Option β) : Option β := match x with
  | some (a0, a1, a2, a3, a4, a5, a6, a7, a8, a9, a10, a11, a12, a13, a14, a15, a16, a17, a18, a19, a20, a21, a22, a23, a24, a25, a26, a27) => k a0 a1 a2 a3 a4 a5 a6 a7 a8 a9 a10 a11 a12 a13 a14 a15 a16 a17 a18 a19 a20 a21 a22 a23 a24 a25 a26 a27
  | none => none

def mm_bd34 {α0 α1 α2 α3 α4 α5 α6 α7 α8 α9 α10 α11 α12 α13 α14 α15 α16 α17 α18 α19 α20 α21 α22 α23 α24 α25 α26 α27 α28 α29 α30 α31 α32 α33 β : Type} (x : Option (α0 × α1 × α2 × α3 × α4 × α5 × α6 × α7 × α8 × α9 × α10 × α11 × α12 × α13 × α14 × α15 × α16 × α17 × α18 × α19 × α20 × α21 × α22 × α23 × α24 × α25 × α26 × α27 × α28 × α29 × α30 × α31 × α32 × α33)) (k : α0 → α1 → α2 → α3 → α4 → α5 → α6 → α7 → α8 → α9 → α10 → α11 → α12 → α13 → α14 → α15 → α16 → α17 → α18 → α19 → α20 → α21 → α22 → α23 → α24 → α25 → α26 → α27 → α28 → α29 → α30 → α31 → α32 → α33 → Option β) : Option β := match x with
  | some (a0, a1, a2, a3, a4, a5, a6, a7, a8, a9, a10, a11, a12, a13, a14, a15, a16, a17, a18, a19, a20, a21, a22, a23, a24, a25, a26, a27, a28, a29, a30, a31, a32, a33) => k a0 a1 a2 a3 a4 a5 a6 a7 a8 a9 a10 a11 a12 a13 a14 a15 a16 a17 a18 a19 a20 a21 a22 a23 a24 a25 a26 a27 a28 a29 a30 a31 a32 a33
  | none => none

def mm_bd38 {α0 α1 α2 α3 α4 α5 α6 α7 α8 α9 α10 α11 α12 α13 α14 α15 α16 α17 α18 α19 α20 α21 α22 α23 α24 α25 α26 α27 α28 α29 α30 α31 α32 α33 α34 α35 α36 α37 β : Type} (x : Option (α0 × α1 × α2 × α3 × α4 × α5 × α6 × α7 × α8 × α9 × α10 × α11 × α12 × α13 × α14 × α15 × α16 × α17 × α18 × α19 × α20 × α21 × α22 × α23 × α24 × α25 × α26 × α27 × α28 × α29 × α30 × α31 × α32 × α33 × α34 × α35 × α36 × α37)) (k : α0 → α1 → α2 → α3 → α4 → α5 → α6 → α7 → α8 → α9 → α10 → α11 → α12 → α13 → α14 → α15 → α16 → α17 → α18 → α19 → α20 → α21 → α22 → α23 → α24 → α25 → α26 → α27 → α28 → α29 → α30 → α31 → α32 → α33 → α34 → α35 → α36 → α37 → Option β) : Option β := match x with
  | some (a0, a1, a2, a3, a4, a5, a6, a7, a8, a9, a10, a11, a12, a13, a14, a15, a16, a17, a18, a19, a20, a21, a22, a23, a24, a25, a26, a27, a28, a29, a30, a31, a32, a33, a34, a35, a36, a37) => k a0 a1 a2 a3 a4 a5 a6 a7 a8 a9 a10 a11 a12 a13 a14 a15 a16 a17 a18 a19 a20 a21 a22 a23 a24 a25 a26 a27 a28 a29 a30 a31 a32 a33 a34 a35 a36 a37
  | none => none

def fX9_within (N : Nat) (x0 : Int64) (x2 : Int64) (x4 : Int64) : Option (Bool) :=
    if (lg_cmp x0 x2) < 0 then
    (some (false))
    else (if 0 < (lg_cmp x0 x4) then
    (some (false))
    else (some (true)))

def fX9_limit_89 (N : Nat)  (x1 : Int32) (x2 : Int32) (v_keptMany : Int32) (v_done : Int32) (v_limit : List Int32) (v_changeWas : List Int32) (v_changeIs : List Int32) : Option (Int32 × Int32 × Int32 × List Int32 × List Int32 × List Int32) :=
    mm_ck (mm_inb v_done v_changeWas.length) (mm_nm (mm_is v_changeWas v_done x2) (fun (l_20 : List Int32) =>
    mm_ck (mm_inb v_done v_changeIs.length) (mm_nm (mm_is v_changeIs v_done x1) (fun (l_22 : List Int32) =>
    mm_nm ((v_done + (1 : Int32))) (fun (y_23 : Int32) =>
    mm_ck (mm_inb (0 : Int32) v_limit.length) (mm_nm (mm_is v_limit (0 : Int32) x1) (fun (l_25 : List Int32) =>
    some (x2, y_23, y_23, l_25, l_20, l_22))))))))

def fX9_limit_39 (N : Nat)  : Nat → Int32 → Int32 → Int32 → Int32 → Int32 → List Int32 → List Int32 → List Int32 → Option (Int32 × Int32 × Int32 × List Int32 × List Int32 × List Int32)
  | 0 => fun _ _ _ _ _ _ _ _ => none
  | n + 1 => fun x1 x2 x3 v_keptMany v_done v_limit v_changeWas v_changeIs =>
    if (40 : Int32) ≤ x3 then
    (mm_nm ((v_done - (1 : Int32))) (fun (y_9 : Int32) =>
    fX9_limit_89 N x1 x2 v_keptMany y_9 v_limit v_changeWas v_changeIs))
    else (mm_ck (mm_inb x3 v_changeWas.length) (mm_nm ((mm_ig v_changeWas x3)) (fun (y_11 : Int32) =>
    mm_ck (mm_inb (x3 - (1 : Int32)) v_changeWas.length) (mm_nm (mm_is v_changeWas (x3 - (1 : Int32)) y_11) (fun (l_13 : List Int32) =>
    mm_ck (mm_inb x3 v_changeIs.length) (mm_nm ((mm_ig v_changeIs x3)) (fun (y_15 : Int32) =>
    mm_ck (mm_inb (x3 - (1 : Int32)) v_changeIs.length) (mm_nm (mm_is v_changeIs (x3 - (1 : Int32)) y_15) (fun (l_17 : List Int32) =>
    mm_nm (x3 + (1 : Int32)) (fun (y_18 : Int32) =>
    fX9_limit_39 N n x1 x2 y_18 v_keptMany v_done v_limit l_13 l_17))))))))))

def fX9_limit (N : Nat) (x1 : Int32) (v_keptMany : Int32) (v_done : Int32) (v_limit : List Int32) (v_changeWas : List Int32) (v_changeIs : List Int32) : Option (Int32 × Int32 × Int32 × List Int32 × List Int32 × List Int32) :=
    mm_bd1 (fX9_within N ((x1).toInt64) (1 : Int64) (99 : Int64)) (fun (r_1 : Bool) =>
    if r_1 = false then
    (some ((-1 : Int32), v_keptMany, v_done, v_limit, v_changeWas, v_changeIs))
    else (mm_ck (mm_inb (0 : Int32) v_limit.length) (mm_nm ((mm_ig v_limit (0 : Int32))) (fun (y_5 : Int32) =>
    if y_5 = x1 then
    (some (y_5, v_keptMany, v_done, v_limit, v_changeWas, v_changeIs))
    else (if v_done = (40 : Int32) then
    (fX9_limit_39 N N x1 y_5 (1 : Int32) v_keptMany v_done v_limit v_changeWas v_changeIs)
    else (fX9_limit_89 N x1 y_5 v_keptMany v_done v_limit v_changeWas v_changeIs))))))

def fX9_undo (N : Nat) (v_done : Int32) (v_limit : List Int32) (v_changeWas : List Int32) : Option (Int32 × Int32 × List Int32) :=
    if v_done = 0 then
    (some ((-5 : Int32), v_done, v_limit))
    else (mm_nm ((v_done - (1 : Int32))) (fun (y_2 : Int32) =>
    mm_ck (mm_inb y_2 v_changeWas.length) (mm_nm ((mm_ig v_changeWas y_2)) (fun (y_4 : Int32) =>
    mm_ck (mm_inb (0 : Int32) v_limit.length) (mm_nm (mm_is v_limit (0 : Int32) y_4) (fun (l_6 : List Int32) =>
    some (y_2, y_2, l_6)))))))

def fX9_redo (N : Nat) (v_keptMany : Int32) (v_done : Int32) (v_limit : List Int32) (v_changeIs : List Int32) : Option (Int32 × Int32 × List Int32) :=
    if v_done = v_keptMany then
    (some ((-5 : Int32), v_done, v_limit))
    else (mm_ck (mm_inb v_done v_changeIs.length) (mm_nm ((mm_ig v_changeIs v_done)) (fun (y_3 : Int32) =>
    mm_ck (mm_inb (0 : Int32) v_limit.length) (mm_nm (mm_is v_limit (0 : Int32) y_3) (fun (l_5 : List Int32) =>
    mm_nm ((v_done + (1 : Int32))) (fun (y_6 : Int32) =>
    some ((v_keptMany - y_6), y_6, l_5)))))))

def fX9_fields (N : Nat) (v_rowsOf : Int32) (v_columnsOf : Int32) : Option (Int32) :=
    some ((v_rowsOf * v_columnsOf))

def fX9_liesFlat_22 (N : Nat)  : Nat → Int32 → Int32 → Int32 → Int32 → List Int32 → List Int32 → List Int32 → List Int32 → List Int32 → List Int32 → Option (List Int32 × List Int32 × List Int32 × List Int32 × List Int32 × List Int32)
  | 0 => fun _ _ _ _ _ _ _ _ _ _ => none
  | n + 1 => fun x1 x2 v_rowsOf v_columnsOf v_shapeRows v_shapeColumns v_row v_column v_below v_face =>
    mm_bd1 (fX9_fields N v_rowsOf v_columnsOf) (fun (r_5 : Int32) =>
    if r_5 ≤ x2 then
    (some (v_shapeRows, v_shapeColumns, v_row, v_column, v_below, v_face))
    else (mm_ck (mm_nz v_columnsOf) (mm_nm ((x2 / v_columnsOf)) (fun (y_9 : Int32) =>
    mm_ck (mm_inb (((32 : Int32) * x1) + x2) v_row.length) (mm_nm (mm_is v_row (((32 : Int32) * x1) + x2) y_9) (fun (l_11 : List Int32) =>
    mm_ck (mm_nz v_columnsOf) (mm_nm ((mm_rem x2 v_columnsOf)) (fun (y_13 : Int32) =>
    mm_ck (mm_inb (((32 : Int32) * x1) + x2) v_column.length) (mm_nm (mm_is v_column (((32 : Int32) * x1) + x2) y_13) (fun (l_15 : List Int32) =>
    mm_ck (mm_inb (((32 : Int32) * x1) + x2) v_below.length) (mm_nm (mm_is v_below (((32 : Int32) * x1) + x2) (0 : Int32)) (fun (l_17 : List Int32) =>
    mm_ck (mm_inb (((32 : Int32) * x1) + x2) v_face.length) (mm_nm (mm_is v_face (((32 : Int32) * x1) + x2) (0 : Int32)) (fun (l_19 : List Int32) =>
    mm_nm (x2 + (1 : Int32)) (fun (y_20 : Int32) =>
    fX9_liesFlat_22 N n x1 y_20 v_rowsOf v_columnsOf v_shapeRows v_shapeColumns l_11 l_15 l_17 l_19)))))))))))))))

def fX9_liesFlat (N : Nat) (x1 : Int32) (v_rowsOf : Int32) (v_columnsOf : Int32) (v_shapeRows : List Int32) (v_shapeColumns : List Int32) (v_row : List Int32) (v_column : List Int32) (v_below : List Int32) (v_face : List Int32) : Option (List Int32 × List Int32 × List Int32 × List Int32 × List Int32 × List Int32) :=
    mm_ck (mm_inb x1 v_shapeRows.length) (mm_nm (mm_is v_shapeRows x1 v_rowsOf) (fun (l_2 : List Int32) =>
    mm_ck (mm_inb x1 v_shapeColumns.length) (mm_nm (mm_is v_shapeColumns x1 v_columnsOf) (fun (l_4 : List Int32) =>
    fX9_liesFlat_22 N N x1 (0 : Int32) v_rowsOf v_columnsOf l_2 l_4 v_row v_column v_below v_face))))

def fX9_isNew_17 (N : Nat)  : Nat → Int32 → Int32 → Int32 → Int32 → Int32 → List Int32 → List Int32 → List Int32 → List Int32 → List Int32 → List Int32 → List Int32 → List Int32 → Option (Int32 × Int32 × Int32 × Int32 × List Int32 × List Int32 × List Int32 × List Int32 × List Int32 × List Int32 × List Int32 × List Int32)
  | 0 => fun _ _ _ _ _ _ _ _ _ _ _ _ _ => none
  | n + 1 => fun x3 v_rowsOf v_columnsOf v_folded v_wronged v_shapeRows v_shapeColumns v_row v_column v_below v_face v_worn v_lastBend =>
    if (64 : Int32) ≤ x3 then
    (some (v_rowsOf, v_columnsOf, (0 : Int32), (0 : Int32), v_shapeRows, v_shapeColumns, v_row, v_column, v_below, v_face, v_worn, v_lastBend))
    else (mm_ck (mm_inb x3 v_worn.length) (mm_nm (mm_is v_worn x3 (0 : Int32)) (fun (l_10 : List Int32) =>
    mm_ck (mm_inb x3 v_lastBend.length) (mm_nm (mm_is v_lastBend x3 (0 : Int32)) (fun (l_12 : List Int32) =>
    mm_nm (x3 + (1 : Int32)) (fun (y_13 : Int32) =>
    fX9_isNew_17 N n y_13 v_rowsOf v_columnsOf v_folded v_wronged v_shapeRows v_shapeColumns v_row v_column v_below v_face l_10 l_12))))))

def fX9_isNew (N : Nat) (x1 : Int32) (x2 : Int32) (v_rowsOf : Int32) (v_columnsOf : Int32) (v_folded : Int32) (v_wronged : Int32) (v_shapeRows : List Int32) (v_shapeColumns : List Int32) (v_row : List Int32) (v_column : List Int32) (v_below : List Int32) (v_face : List Int32) (v_worn : List Int32) (v_lastBend : List Int32) : Option (Int32 × Int32 × Int32 × Int32 × List Int32 × List Int32 × List Int32 × List Int32 × List Int32 × List Int32 × List Int32 × List Int32) :=
    mm_bd6 (fX9_liesFlat N (0 : Int32) x1 x2 v_shapeRows v_shapeColumns v_row v_column v_below v_face) (fun (w_1 : List Int32) (w_2 : List Int32) (w_3 : List Int32) (w_4 : List Int32) (w_5 : List Int32) (w_6 : List Int32) =>
    fX9_isNew_17 N N (0 : Int32) x1 x2 v_folded v_wronged w_1 w_2 w_3 w_4 w_5 w_6 v_worn v_lastBend)

def fX9_sheet (N : Nat) (x1 : Int32) (v_rowsOf : Int32) (v_columnsOf : Int32) (v_folded : Int32) (v_wronged : Int32) (v_shapeRows : List Int32) (v_shapeColumns : List Int32) (v_row : List Int32) (v_column : List Int32) (v_below : List Int32) (v_face : List Int32) (v_worn : List Int32) (v_lastBend : List Int32) : Option (Int32 × Int32 × Int32 × Int32 × Int32 × List Int32 × List Int32 × List Int32 × List Int32 × List Int32 × List Int32 × List Int32 × List Int32) :=
    if x1 < 0 then
    (some ((-1 : Int32), v_rowsOf, v_columnsOf, v_folded, v_wronged, v_shapeRows, v_shapeColumns, v_row, v_column, v_below, v_face, v_worn, v_lastBend))
    else (mm_ck (mm_nz (10 : Int32)) (mm_bd1 (fX9_within N ((x1 / (10 : Int32)).toInt64) (1 : Int64) (4 : Int64)) (fun (r_3 : Bool) =>
    if r_3 = false then
    (some ((-1 : Int32), v_rowsOf, v_columnsOf, v_folded, v_wronged, v_shapeRows, v_shapeColumns, v_row, v_column, v_below, v_face, v_worn, v_lastBend))
    else (mm_ck (mm_nz (10 : Int32)) (mm_bd1 (fX9_within N ((mm_rem x1 (10 : Int32)).toInt64) (1 : Int64) (8 : Int64)) (fun (r_7 : Bool) =>
    if r_7 = false then
    (some ((-1 : Int32), v_rowsOf, v_columnsOf, v_folded, v_wronged, v_shapeRows, v_shapeColumns, v_row, v_column, v_below, v_face, v_worn, v_lastBend))
    else (mm_nm ((((10 : Int32) * v_rowsOf) + v_columnsOf)) (fun (y_10 : Int32) =>
    mm_ck (mm_nz (10 : Int32)) (mm_ck (mm_nz (10 : Int32)) (mm_bd12 (fX9_isNew N (x1 / (10 : Int32)) (mm_rem x1 (10 : Int32)) v_rowsOf v_columnsOf v_folded v_wronged v_shapeRows v_shapeColumns v_row v_column v_below v_face v_worn v_lastBend) (fun (w_13 : Int32) (w_14 : Int32) (w_15 : Int32) (w_16 : Int32) (w_17 : List Int32) (w_18 : List Int32) (w_19 : List Int32) (w_20 : List Int32) (w_21 : List Int32) (w_22 : List Int32) (w_23 : List Int32) (w_24 : List Int32) =>
    some (y_10, w_13, w_14, w_15, w_16, w_17, w_18, w_19, w_20, w_21, w_22, w_23, w_24))))))))))))

def fX9_isCrease (N : Nat) (x1 : Int32) (v_rowsOf : Int32) (v_columnsOf : Int32) : Option (Bool) :=
    mm_ck (mm_nz (2 : Int32)) (mm_nm ((x1 / (2 : Int32))) (fun (y_2 : Int32) =>
    mm_bd1 (fX9_fields N v_rowsOf v_columnsOf) (fun (r_3 : Int32) =>
    mm_bd1 (fX9_within N ((y_2).toInt64) (0 : Int64) ((r_3 - (1 : Int32)).toInt64)) (fun (r_5 : Bool) =>
    if r_5 = false then
    (some (false))
    else (mm_ck (mm_nz (2 : Int32)) (if (mm_rem x1 (2 : Int32)) = 0 then
    (mm_ck (mm_nz v_columnsOf) (if (v_columnsOf - (1 : Int32)) ≤ (mm_rem y_2 v_columnsOf) then
    (some (false))
    else (some (true))))
    else (mm_ck (mm_nz v_columnsOf) (if (v_rowsOf - (1 : Int32)) ≤ (y_2 / v_columnsOf) then
    (some (false))
    else (some (true))))))))))

def fX9_otherOf (N : Nat) (x1 : Int32) (v_columnsOf : Int32) : Option (Int32) :=
    mm_ck (mm_nz (2 : Int32)) (if (mm_rem x1 (2 : Int32)) = 0 then
    (mm_ck (mm_nz (2 : Int32)) (some (((x1 / (2 : Int32)) + (1 : Int32)))))
    else (mm_ck (mm_nz (2 : Int32)) (some (((x1 / (2 : Int32)) + v_columnsOf)))))

def fX9_feed (N : Nat) (x1 : Int32) (v_tapeMany : Int32) (v_tape : List Int32) : Option (Int32 × Int32 × List Int32) :=
    mm_bd1 (fX9_within N ((x1).toInt64) (0 : Int64) (255 : Int64)) (fun (r_1 : Bool) =>
    if r_1 = false then
    (some ((-1 : Int32), v_tapeMany, v_tape))
    else (if v_tapeMany = (120 : Int32) then
    (some ((-3 : Int32), v_tapeMany, v_tape))
    else (mm_ck (mm_inb v_tapeMany v_tape.length) (mm_nm (mm_is v_tape v_tapeMany x1) (fun (l_6 : List Int32) =>
    mm_nm ((v_tapeMany + (1 : Int32))) (fun (y_7 : Int32) =>
    some (y_7, y_7, l_6)))))))

def fX9_byteAt (N : Nat) (v_base : Int32) (v_at : Int32) (v_ends : Int32) (v_tape : List Int32) (v_text : List Int32) : Option (Int32) :=
    if v_ends ≤ v_at then
    (some ((0 : Int32)))
    else (if 0 ≤ v_base then
    (mm_ck (mm_inb (v_base + v_at) v_text.length) (some ((mm_ig v_text (v_base + v_at)))))
    else (mm_ck (mm_inb v_at v_tape.length) (some ((mm_ig v_tape v_at)))))

def fX9_wrong_19 (N : Nat)  (s0 : Int32) (v_at : Int32) (v_fault : Int32) : Option (Int32 × Int32) :=
    some ((0 : Int32), s0)

def fX9_wrong (N : Nat) (v_at : Int32) (v_fault : Int32) : Option (Int32 × Int32) :=
    if 0 ≤ v_fault then
    (fX9_wrong_19 N v_fault v_at v_fault)
    else (fX9_wrong_19 N v_at v_at v_fault)

def fX9_takes (N : Nat) (x1 : Int32) (v_base : Int32) (v_at : Int32) (v_ends : Int32) (v_fault : Int32) (v_tape : List Int32) (v_text : List Int32) : Option (Bool × Int32) :=
    if 0 ≤ v_fault then
    (some (false, v_at))
    else (mm_bd1 (fX9_byteAt N v_base v_at v_ends v_tape v_text) (fun (r_2 : Int32) =>
    if r_2 = x1 then
    (mm_nm ((v_at + (1 : Int32))) (fun (y_5 : Int32) =>
    some (true, y_5)))
    else (some (false, v_at))))

def fX9_nameOf (N : Nat) (x0 : Int32) : Option (Int32) :=
    if x0 = (98 : Int32) then
    (some ((5 : Int32)))
    else (if x0 = (102 : Int32) then
    (some ((4 : Int32)))
    else (if x0 = (107 : Int32) then
    (some ((3 : Int32)))
    else (if x0 = (110 : Int32) then
    (some ((0 : Int32)))
    else (if x0 = (114 : Int32) then
    (some ((2 : Int32)))
    else (if x0 = (119 : Int32) then
    (some ((1 : Int32)))
    else (some ((-1 : Int32))))))))

def fX9_product_85 (N : Nat) (go : Int32 → Int32 → Int32 → Int32 → Int32 → List Int32 → List Int32 → List Int32 → Option (Int32 × Int32 × Int32 × Int32)) (k_10 : Int32 → Int32 → Int32 → Int32 → Int32 → Int32 → Int32 → List Int32 → List Int32 → List Int32 → Option (Int32 × Int32 × Int32 × Int32)) (s0 : Int32) (v_base : Int32) (v_at : Int32) (v_ends : Int32) (v_fault : Int32) (v_opened : Int32) (v_tape : List Int32) (v_text : List Int32) (v_names : List Int32) : Option (Int32 × Int32 × Int32 × Int32) :=
    mm_bd1 (fX9_byteAt N v_base v_at v_ends v_tape v_text) (fun (r_23 : Int32) =>
    k_10 s0 r_23 v_base v_at v_ends v_fault v_opened v_tape v_text v_names)

def fX9_product_35 (N : Nat) (go : Int32 → Int32 → Int32 → Int32 → Int32 → List Int32 → List Int32 → List Int32 → Option (Int32 × Int32 × Int32 × Int32)) (k_10 : Int32 → Int32 → Int32 → Int32 → Int32 → Int32 → Int32 → List Int32 → List Int32 → List Int32 → Option (Int32 × Int32 × Int32 × Int32)) (x1 : Int32) (x2 : Int32) (v_base : Int32) (v_at : Int32) (v_ends : Int32) (v_fault : Int32) (v_opened : Int32) (v_tape : List Int32) (v_text : List Int32) (v_names : List Int32) : Option (Int32 × Int32 × Int32 × Int32) :=
    mm_nm ((v_at + (1 : Int32))) (fun (y_12 : Int32) =>
    mm_bd4 (go v_base y_12 v_ends v_fault v_opened v_tape v_text v_names) (fun (r_13 : Int32) (w_14 : Int32) (w_15 : Int32) (w_16 : Int32) =>
    if x2 = (42 : Int32) then
    (fX9_product_85 N go k_10 (x1 * r_13) v_base w_14 v_ends w_15 w_16 v_tape v_text v_names)
    else (if r_13 = 0 then
    (fX9_product_85 N go k_10 (0 : Int32) v_base w_14 v_ends w_15 w_16 v_tape v_text v_names)
    else (if x2 = (47 : Int32) then
    (mm_ck (mm_nz r_13) (fX9_product_85 N go k_10 (x1 / r_13) v_base w_14 v_ends w_15 w_16 v_tape v_text v_names))
    else (mm_ck (mm_nz r_13) (fX9_product_85 N go k_10 (mm_rem x1 r_13) v_base w_14 v_ends w_15 w_16 v_tape v_text v_names))))))

def fX9_product_10 (N : Nat) (go : Int32 → Int32 → Int32 → Int32 → Int32 → List Int32 → List Int32 → List Int32 → Option (Int32 × Int32 × Int32 × Int32))  : Nat → Int32 → Int32 → Int32 → Int32 → Int32 → Int32 → Int32 → List Int32 → List Int32 → List Int32 → Option (Int32 × Int32 × Int32 × Int32)
  | 0 => fun _ _ _ _ _ _ _ _ _ _ => none
  | n + 1 => fun x1 x2 v_base v_at v_ends v_fault v_opened v_tape v_text v_names =>
    if 0 ≤ v_fault then
    (some (x1, v_at, v_fault, v_opened))
    else (if x2 = (42 : Int32) then
    (fX9_product_35 N go (fX9_product_10 N go n) x1 x2 v_base v_at v_ends v_fault v_opened v_tape v_text v_names)
    else (if x2 = (47 : Int32) then
    (fX9_product_35 N go (fX9_product_10 N go n) x1 x2 v_base v_at v_ends v_fault v_opened v_tape v_text v_names)
    else (if x2 = (37 : Int32) then
    (fX9_product_35 N go (fX9_product_10 N go n) x1 x2 v_base v_at v_ends v_fault v_opened v_tape v_text v_names)
    else (some (x1, v_at, v_fault, v_opened)))))

def fX9_product (N : Nat) (go : Int32 → Int32 → Int32 → Int32 → Int32 → List Int32 → List Int32 → List Int32 → Option (Int32 × Int32 × Int32 × Int32)) (v_base : Int32) (v_at : Int32) (v_ends : Int32) (v_fault : Int32) (v_opened : Int32) (v_tape : List Int32) (v_text : List Int32) (v_names : List Int32) : Option (Int32 × Int32 × Int32 × Int32) :=
    mm_bd4 (go v_base v_at v_ends v_fault v_opened v_tape v_text v_names) (fun (r_1 : Int32) (w_2 : Int32) (w_3 : Int32) (w_4 : Int32) =>
    mm_bd1 (fX9_byteAt N v_base w_2 v_ends v_tape v_text) (fun (r_6 : Int32) =>
    fX9_product_10 N go N r_1 r_6 v_base w_2 v_ends w_3 w_4 v_tape v_text v_names))

def fX9_sums_73 (N : Nat) (go : Int32 → Int32 → Int32 → Int32 → Int32 → List Int32 → List Int32 → List Int32 → Option (Int32 × Int32 × Int32 × Int32)) (k_5 : Int32 → Int32 → Int32 → Int32 → Int32 → Int32 → List Int32 → List Int32 → List Int32 → Option (Int32 × Int32 × Int32 × Int32)) (s0 : Int32) (v_base : Int32) (v_at : Int32) (v_ends : Int32) (v_fault : Int32) (v_opened : Int32) (v_tape : List Int32) (v_text : List Int32) (v_names : List Int32) : Option (Int32 × Int32 × Int32 × Int32) :=
    k_5 s0 v_base v_at v_ends v_fault v_opened v_tape v_text v_names

def fX9_sums_44 (N : Nat) (go : Int32 → Int32 → Int32 → Int32 → Int32 → List Int32 → List Int32 → List Int32 → Option (Int32 × Int32 × Int32 × Int32)) (k_5 : Int32 → Int32 → Int32 → Int32 → Int32 → Int32 → List Int32 → List Int32 → List Int32 → Option (Int32 × Int32 × Int32 × Int32)) (x1 : Int32) (s0 : Int32) (v_base : Int32) (v_at : Int32) (v_ends : Int32) (v_fault : Int32) (v_opened : Int32) (v_tape : List Int32) (v_text : List Int32) (v_names : List Int32) : Option (Int32 × Int32 × Int32 × Int32) :=
    mm_nm ((v_at + (1 : Int32))) (fun (y_16 : Int32) =>
    mm_bd4 (fX9_product N go v_base y_16 v_ends v_fault v_opened v_tape v_text v_names) (fun (r_17 : Int32) (w_18 : Int32) (w_19 : Int32) (w_20 : Int32) =>
    if s0 = 0 then
    (fX9_sums_73 N go k_5 (x1 - r_17) v_base w_18 v_ends w_19 w_20 v_tape v_text v_names)
    else (fX9_sums_73 N go k_5 (x1 + r_17) v_base w_18 v_ends w_19 w_20 v_tape v_text v_names)))

def fX9_sums_30 (N : Nat) (go : Int32 → Int32 → Int32 → Int32 → Int32 → List Int32 → List Int32 → List Int32 → Option (Int32 × Int32 × Int32 × Int32)) (k_5 : Int32 → Int32 → Int32 → Int32 → Int32 → Int32 → List Int32 → List Int32 → List Int32 → Option (Int32 × Int32 × Int32 × Int32)) (x1 : Int32) (v_base : Int32) (v_at : Int32) (v_ends : Int32) (v_fault : Int32) (v_opened : Int32) (v_tape : List Int32) (v_text : List Int32) (v_names : List Int32) : Option (Int32 × Int32 × Int32 × Int32) :=
    mm_bd1 (fX9_byteAt N v_base v_at v_ends v_tape v_text) (fun (r_13 : Int32) =>
    if r_13 = (43 : Int32) then
    (fX9_sums_44 N go k_5 x1 (1 : Int32) v_base v_at v_ends v_fault v_opened v_tape v_text v_names)
    else (fX9_sums_44 N go k_5 x1 (0 : Int32) v_base v_at v_ends v_fault v_opened v_tape v_text v_names))

def fX9_sums_5 (N : Nat) (go : Int32 → Int32 → Int32 → Int32 → Int32 → List Int32 → List Int32 → List Int32 → Option (Int32 × Int32 × Int32 × Int32))  : Nat → Int32 → Int32 → Int32 → Int32 → Int32 → Int32 → List Int32 → List Int32 → List Int32 → Option (Int32 × Int32 × Int32 × Int32)
  | 0 => fun _ _ _ _ _ _ _ _ _ => none
  | n + 1 => fun x1 v_base v_at v_ends v_fault v_opened v_tape v_text v_names =>
    if 0 ≤ v_fault then
    (some (x1, v_at, v_fault, v_opened))
    else (mm_bd1 (fX9_byteAt N v_base v_at v_ends v_tape v_text) (fun (r_7 : Int32) =>
    if r_7 = (43 : Int32) then
    (fX9_sums_30 N go (fX9_sums_5 N go n) x1 v_base v_at v_ends v_fault v_opened v_tape v_text v_names)
    else (mm_bd1 (fX9_byteAt N v_base v_at v_ends v_tape v_text) (fun (r_10 : Int32) =>
    if r_10 = (45 : Int32) then
    (fX9_sums_30 N go (fX9_sums_5 N go n) x1 v_base v_at v_ends v_fault v_opened v_tape v_text v_names)
    else (some (x1, v_at, v_fault, v_opened))))))

def fX9_sums (N : Nat) (go : Int32 → Int32 → Int32 → Int32 → Int32 → List Int32 → List Int32 → List Int32 → Option (Int32 × Int32 × Int32 × Int32)) (v_base : Int32) (v_at : Int32) (v_ends : Int32) (v_fault : Int32) (v_opened : Int32) (v_tape : List Int32) (v_text : List Int32) (v_names : List Int32) : Option (Int32 × Int32 × Int32 × Int32) :=
    mm_bd4 (fX9_product N go v_base v_at v_ends v_fault v_opened v_tape v_text v_names) (fun (r_1 : Int32) (w_2 : Int32) (w_3 : Int32) (w_4 : Int32) =>
    fX9_sums_5 N go N r_1 v_base w_2 v_ends w_3 w_4 v_tape v_text v_names)

def fX9_compared_37 (N : Nat) (go : Int32 → Int32 → Int32 → Int32 → Int32 → List Int32 → List Int32 → List Int32 → Option (Int32 × Int32 × Int32 × Int32))  (x1 : Int32) (x2 : Int32) (v_base : Int32) (v_at : Int32) (v_ends : Int32) (v_fault : Int32) (v_opened : Int32) (v_tape : List Int32) (v_text : List Int32) (v_names : List Int32) : Option (Int32 × Int32 × Int32 × Int32) :=
    mm_nm ((v_at + (1 : Int32))) (fun (y_12 : Int32) =>
    mm_bd4 (fX9_sums N go v_base y_12 v_ends v_fault v_opened v_tape v_text v_names) (fun (r_13 : Int32) (w_14 : Int32) (w_15 : Int32) (w_16 : Int32) =>
    if x2 = (60 : Int32) then
    (if r_13 ≤ x1 then
    (some ((0 : Int32), w_14, w_15, w_16))
    else (some ((1 : Int32), w_14, w_15, w_16)))
    else (if x2 = (61 : Int32) then
    (if x1 = r_13 then
    (some ((1 : Int32), w_14, w_15, w_16))
    else (some ((0 : Int32), w_14, w_15, w_16)))
    else (if x1 ≤ r_13 then
    (some ((0 : Int32), w_14, w_15, w_16))
    else (some ((1 : Int32), w_14, w_15, w_16))))))

def fX9_compared (N : Nat) (go : Int32 → Int32 → Int32 → Int32 → Int32 → List Int32 → List Int32 → List Int32 → Option (Int32 × Int32 × Int32 × Int32)) (v_base : Int32) (v_at : Int32) (v_ends : Int32) (v_fault : Int32) (v_opened : Int32) (v_tape : List Int32) (v_text : List Int32) (v_names : List Int32) : Option (Int32 × Int32 × Int32 × Int32) :=
    mm_bd4 (fX9_sums N go v_base v_at v_ends v_fault v_opened v_tape v_text v_names) (fun (r_1 : Int32) (w_2 : Int32) (w_3 : Int32) (w_4 : Int32) =>
    mm_bd1 (fX9_byteAt N v_base w_2 v_ends v_tape v_text) (fun (r_6 : Int32) =>
    if 0 ≤ w_3 then
    (some (r_1, w_2, w_3, w_4))
    else (if r_6 = (60 : Int32) then
    (fX9_compared_37 N go r_1 r_6 v_base w_2 v_ends w_3 w_4 v_tape v_text v_names)
    else (if r_6 = (61 : Int32) then
    (fX9_compared_37 N go r_1 r_6 v_base w_2 v_ends w_3 w_4 v_tape v_text v_names)
    else (if r_6 = (62 : Int32) then
    (fX9_compared_37 N go r_1 r_6 v_base w_2 v_ends w_3 w_4 v_tape v_text v_names)
    else (some (r_1, w_2, w_3, w_4)))))))

def fX9_both_32 (N : Nat) (go : Int32 → Int32 → Int32 → Int32 → Int32 → List Int32 → List Int32 → List Int32 → Option (Int32 × Int32 × Int32 × Int32)) (k_5 : Int32 → Int32 → Int32 → Int32 → Int32 → Int32 → List Int32 → List Int32 → List Int32 → Option (Int32 × Int32 × Int32 × Int32)) (s0 : Int32) (v_base : Int32) (v_at : Int32) (v_ends : Int32) (v_fault : Int32) (v_opened : Int32) (v_tape : List Int32) (v_text : List Int32) (v_names : List Int32) : Option (Int32 × Int32 × Int32 × Int32) :=
    k_5 s0 v_base v_at v_ends v_fault v_opened v_tape v_text v_names

def fX9_both_31 (N : Nat) (go : Int32 → Int32 → Int32 → Int32 → Int32 → List Int32 → List Int32 → List Int32 → Option (Int32 × Int32 × Int32 × Int32)) (k_5 : Int32 → Int32 → Int32 → Int32 → Int32 → Int32 → List Int32 → List Int32 → List Int32 → Option (Int32 × Int32 × Int32 × Int32)) (v_base : Int32) (v_at : Int32) (v_ends : Int32) (v_fault : Int32) (v_opened : Int32) (v_tape : List Int32) (v_text : List Int32) (v_names : List Int32) : Option (Int32 × Int32 × Int32 × Int32) :=
    fX9_both_32 N go k_5 (0 : Int32) v_base v_at v_ends v_fault v_opened v_tape v_text v_names

def fX9_both_5 (N : Nat) (go : Int32 → Int32 → Int32 → Int32 → Int32 → List Int32 → List Int32 → List Int32 → Option (Int32 × Int32 × Int32 × Int32))  : Nat → Int32 → Int32 → Int32 → Int32 → Int32 → Int32 → List Int32 → List Int32 → List Int32 → Option (Int32 × Int32 × Int32 × Int32)
  | 0 => fun _ _ _ _ _ _ _ _ _ => none
  | n + 1 => fun x1 v_base v_at v_ends v_fault v_opened v_tape v_text v_names =>
    mm_bd2 (fX9_takes N (38 : Int32) v_base v_at v_ends v_fault v_tape v_text) (fun (r_6 : Bool) (w_7 : Int32) =>
    if r_6 = false then
    (some (x1, w_7, v_fault, v_opened))
    else (mm_bd4 (fX9_compared N go v_base w_7 v_ends v_fault v_opened v_tape v_text v_names) (fun (r_10 : Int32) (w_11 : Int32) (w_12 : Int32) (w_13 : Int32) =>
    if x1 = 0 then
    (fX9_both_31 N go (fX9_both_5 N go n) v_base w_11 v_ends w_12 w_13 v_tape v_text v_names)
    else (if r_10 = 0 then
    (fX9_both_31 N go (fX9_both_5 N go n) v_base w_11 v_ends w_12 w_13 v_tape v_text v_names)
    else (fX9_both_32 N go (fX9_both_5 N go n) (1 : Int32) v_base w_11 v_ends w_12 w_13 v_tape v_text v_names)))))

def fX9_both (N : Nat) (go : Int32 → Int32 → Int32 → Int32 → Int32 → List Int32 → List Int32 → List Int32 → Option (Int32 × Int32 × Int32 × Int32)) (v_base : Int32) (v_at : Int32) (v_ends : Int32) (v_fault : Int32) (v_opened : Int32) (v_tape : List Int32) (v_text : List Int32) (v_names : List Int32) : Option (Int32 × Int32 × Int32 × Int32) :=
    mm_bd4 (fX9_compared N go v_base v_at v_ends v_fault v_opened v_tape v_text v_names) (fun (r_1 : Int32) (w_2 : Int32) (w_3 : Int32) (w_4 : Int32) =>
    fX9_both_5 N go N r_1 v_base w_2 v_ends w_3 w_4 v_tape v_text v_names)

def fX9_either_32 (N : Nat) (go : Int32 → Int32 → Int32 → Int32 → Int32 → List Int32 → List Int32 → List Int32 → Option (Int32 × Int32 × Int32 × Int32)) (k_5 : Int32 → Int32 → Int32 → Int32 → Int32 → Int32 → List Int32 → List Int32 → List Int32 → Option (Int32 × Int32 × Int32 × Int32)) (s0 : Int32) (v_base : Int32) (v_at : Int32) (v_ends : Int32) (v_fault : Int32) (v_opened : Int32) (v_tape : List Int32) (v_text : List Int32) (v_names : List Int32) : Option (Int32 × Int32 × Int32 × Int32) :=
    k_5 s0 v_base v_at v_ends v_fault v_opened v_tape v_text v_names

def fX9_either_27 (N : Nat) (go : Int32 → Int32 → Int32 → Int32 → Int32 → List Int32 → List Int32 → List Int32 → Option (Int32 × Int32 × Int32 × Int32)) (k_5 : Int32 → Int32 → Int32 → Int32 → Int32 → Int32 → List Int32 → List Int32 → List Int32 → Option (Int32 × Int32 × Int32 × Int32)) (v_base : Int32) (v_at : Int32) (v_ends : Int32) (v_fault : Int32) (v_opened : Int32) (v_tape : List Int32) (v_text : List Int32) (v_names : List Int32) : Option (Int32 × Int32 × Int32 × Int32) :=
    fX9_either_32 N go k_5 (1 : Int32) v_base v_at v_ends v_fault v_opened v_tape v_text v_names

def fX9_either_5 (N : Nat) (go : Int32 → Int32 → Int32 → Int32 → Int32 → List Int32 → List Int32 → List Int32 → Option (Int32 × Int32 × Int32 × Int32))  : Nat → Int32 → Int32 → Int32 → Int32 → Int32 → Int32 → List Int32 → List Int32 → List Int32 → Option (Int32 × Int32 × Int32 × Int32)
  | 0 => fun _ _ _ _ _ _ _ _ _ => none
  | n + 1 => fun x1 v_base v_at v_ends v_fault v_opened v_tape v_text v_names =>
    mm_bd2 (fX9_takes N (124 : Int32) v_base v_at v_ends v_fault v_tape v_text) (fun (r_6 : Bool) (w_7 : Int32) =>
    if r_6 = false then
    (some (x1, w_7, v_fault, v_opened))
    else (mm_bd4 (fX9_both N go v_base w_7 v_ends v_fault v_opened v_tape v_text v_names) (fun (r_10 : Int32) (w_11 : Int32) (w_12 : Int32) (w_13 : Int32) =>
    if x1 = 0 then
    (if r_10 = 0 then
    (fX9_either_32 N go (fX9_either_5 N go n) (0 : Int32) v_base w_11 v_ends w_12 w_13 v_tape v_text v_names)
    else (fX9_either_27 N go (fX9_either_5 N go n) v_base w_11 v_ends w_12 w_13 v_tape v_text v_names))
    else (fX9_either_27 N go (fX9_either_5 N go n) v_base w_11 v_ends w_12 w_13 v_tape v_text v_names))))

def fX9_either (N : Nat) (go : Int32 → Int32 → Int32 → Int32 → Int32 → List Int32 → List Int32 → List Int32 → Option (Int32 × Int32 × Int32 × Int32)) (v_base : Int32) (v_at : Int32) (v_ends : Int32) (v_fault : Int32) (v_opened : Int32) (v_tape : List Int32) (v_text : List Int32) (v_names : List Int32) : Option (Int32 × Int32 × Int32 × Int32) :=
    mm_bd4 (fX9_both N go v_base v_at v_ends v_fault v_opened v_tape v_text v_names) (fun (r_1 : Int32) (w_2 : Int32) (w_3 : Int32) (w_4 : Int32) =>
    fX9_either_5 N go N r_1 v_base w_2 v_ends w_3 w_4 v_tape v_text v_names)

def fX9_one_104 (N : Nat) (go : Int32 → Int32 → Int32 → Int32 → Int32 → List Int32 → List Int32 → List Int32 → Option (Int32 × Int32 × Int32 × Int32))  (x1 : Int32) (x2 : Int32) (v_base : Int32) (v_at : Int32) (v_ends : Int32) (v_fault : Int32) (v_opened : Int32) (v_tape : List Int32) (v_text : List Int32) (v_names : List Int32) : Option (Int32 × Int32 × Int32 × Int32) :=
    mm_nm ((v_opened - (1 : Int32))) (fun (y_53 : Int32) =>
    if x1 = (40 : Int32) then
    (some (x2, v_at, v_fault, y_53))
    else (if x1 = (45 : Int32) then
    (some ((-x2), v_at, v_fault, y_53))
    else (if x2 = 0 then
    (some ((1 : Int32), v_at, v_fault, y_53))
    else (some ((0 : Int32), v_at, v_fault, y_53)))))

def fX9_one_83 (N : Nat) (go : Int32 → Int32 → Int32 → Int32 → Int32 → List Int32 → List Int32 → List Int32 → Option (Int32 × Int32 × Int32 × Int32))  (x1 : Int32) (s0 : Int32) (v_base : Int32) (v_at : Int32) (v_ends : Int32) (v_fault : Int32) (v_opened : Int32) (v_tape : List Int32) (v_text : List Int32) (v_names : List Int32) : Option (Int32 × Int32 × Int32 × Int32) :=
    if x1 = (40 : Int32) then
    (mm_bd2 (fX9_takes N (41 : Int32) v_base v_at v_ends v_fault v_tape v_text) (fun (r_46 : Bool) (w_47 : Int32) =>
    if r_46 = false then
    (mm_bd2 (fX9_wrong N w_47 v_fault) (fun (r_50 : Int32) (w_51 : Int32) =>
    some (r_50, w_47, w_51, v_opened)))
    else (fX9_one_104 N go x1 s0 v_base w_47 v_ends v_fault v_opened v_tape v_text v_names)))
    else (fX9_one_104 N go x1 s0 v_base v_at v_ends v_fault v_opened v_tape v_text v_names)

def fX9_one_32 (N : Nat) (go : Int32 → Int32 → Int32 → Int32 → Int32 → List Int32 → List Int32 → List Int32 → Option (Int32 × Int32 × Int32 × Int32))  (x1 : Int32) (v_base : Int32) (v_at : Int32) (v_ends : Int32) (v_fault : Int32) (v_opened : Int32) (v_tape : List Int32) (v_text : List Int32) (v_names : List Int32) : Option (Int32 × Int32 × Int32 × Int32) :=
    if v_opened = (6 : Int32) then
    (mm_bd2 (fX9_wrong N v_at v_fault) (fun (r_42 : Int32) (w_43 : Int32) =>
    some (r_42, v_at, w_43, v_opened)))
    else (mm_nm ((v_opened + (1 : Int32))) (fun (y_29 : Int32) =>
    mm_nm ((v_at + (1 : Int32))) (fun (y_30 : Int32) =>
    if x1 = (40 : Int32) then
    (mm_bd4 (fX9_either N go v_base y_30 v_ends v_fault y_29 v_tape v_text v_names) (fun (r_37 : Int32) (w_38 : Int32) (w_39 : Int32) (w_40 : Int32) =>
    fX9_one_83 N go x1 r_37 v_base w_38 v_ends w_39 w_40 v_tape v_text v_names))
    else (mm_bd4 (go v_base y_30 v_ends v_fault y_29 v_tape v_text v_names) (fun (r_32 : Int32) (w_33 : Int32) (w_34 : Int32) (w_35 : Int32) =>
    fX9_one_83 N go x1 r_32 v_base w_33 v_ends w_34 w_35 v_tape v_text v_names)))))

def fX9_one_229 (N : Nat) (go : Int32 → Int32 → Int32 → Int32 → Int32 → List Int32 → List Int32 → List Int32 → Option (Int32 × Int32 × Int32 × Int32))  (x3 : Int32) (x4 : Int32) (v_base : Int32) (v_at : Int32) (v_ends : Int32) (v_fault : Int32) (v_opened : Int32) (v_tape : List Int32) (v_text : List Int32) (v_names : List Int32) : Option (Int32 × Int32 × Int32 × Int32) :=
    if x4 = 0 then
    (mm_bd2 (fX9_wrong N v_at v_fault) (fun (r_25 : Int32) (w_26 : Int32) =>
    some (r_25, v_at, w_26, v_opened)))
    else (some (x3, v_at, v_fault, v_opened))

def fX9_one_176 (N : Nat) (go : Int32 → Int32 → Int32 → Int32 → Int32 → List Int32 → List Int32 → List Int32 → Option (Int32 × Int32 × Int32 × Int32))  : Nat → Int32 → Int32 → Int32 → Int32 → Int32 → Int32 → Int32 → List Int32 → List Int32 → List Int32 → Option (Int32 × Int32 × Int32 × Int32)
  | 0 => fun _ _ _ _ _ _ _ _ _ _ => none
  | n + 1 => fun x3 x4 v_base v_at v_ends v_fault v_opened v_tape v_text v_names =>
    if (4 : Int32) ≤ x4 then
    (fX9_one_229 N go x3 x4 v_base v_at v_ends v_fault v_opened v_tape v_text v_names)
    else (mm_bd1 (fX9_byteAt N v_base v_at v_ends v_tape v_text) (fun (r_13 : Int32) =>
    if r_13 < (48 : Int32) then
    (fX9_one_229 N go x3 x4 v_base v_at v_ends v_fault v_opened v_tape v_text v_names)
    else (mm_bd1 (fX9_byteAt N v_base v_at v_ends v_tape v_text) (fun (r_16 : Int32) =>
    if (57 : Int32) < r_16 then
    (fX9_one_229 N go x3 x4 v_base v_at v_ends v_fault v_opened v_tape v_text v_names)
    else (mm_bd1 (fX9_byteAt N v_base v_at v_ends v_tape v_text) (fun (r_19 : Int32) =>
    mm_nm (((((10 : Int32) * x3) + r_19) - (48 : Int32))) (fun (y_21 : Int32) =>
    mm_nm (x4 + (1 : Int32)) (fun (y_22 : Int32) =>
    mm_nm ((v_at + (1 : Int32))) (fun (y_23 : Int32) =>
    fX9_one_176 N go n y_21 y_22 v_base y_23 v_ends v_fault v_opened v_tape v_text v_names)))))))))

def fX9_oneo (N : Nat) (go : Int32 → Int32 → Int32 → Int32 → Int32 → List Int32 → List Int32 → List Int32 → Option (Int32 × Int32 × Int32 × Int32)) (v_base : Int32) (v_at : Int32) (v_ends : Int32) (v_fault : Int32) (v_opened : Int32) (v_tape : List Int32) (v_text : List Int32) (v_names : List Int32) : Option (Int32 × Int32 × Int32 × Int32) :=
    if v_fault < 0 then
    (mm_bd1 (fX9_byteAt N v_base v_at v_ends v_tape v_text) (fun (r_2 : Int32) =>
    if r_2 = (33 : Int32) then
    (fX9_one_32 N go r_2 v_base v_at v_ends v_fault v_opened v_tape v_text v_names)
    else (if r_2 = (45 : Int32) then
    (fX9_one_32 N go r_2 v_base v_at v_ends v_fault v_opened v_tape v_text v_names)
    else (if r_2 = (40 : Int32) then
    (fX9_one_32 N go r_2 v_base v_at v_ends v_fault v_opened v_tape v_text v_names)
    else (mm_bd1 (fX9_nameOf N r_2) (fun (r_7 : Int32) =>
    if r_7 < 0 then
    (fX9_one_176 N go N (0 : Int32) (0 : Int32) v_base v_at v_ends v_fault v_opened v_tape v_text v_names)
    else (mm_nm ((v_at + (1 : Int32))) (fun (y_10 : Int32) =>
    mm_ck (mm_inb r_7 v_names.length) (some ((mm_ig v_names r_7), y_10, v_fault, v_opened))))))))))
    else (some ((0 : Int32), v_at, v_fault, v_opened))

def fX9_one (N : Nat) : Nat → Int32 → Int32 → Int32 → Int32 → Int32 → List Int32 → List Int32 → List Int32 → Option (Int32 × Int32 × Int32 × Int32)
  | 0 => fun _ _ _ _ _ _ _ _ => none
  | M + 1 => fX9_oneo N (fX9_one N M)

def fX9_workOut_96 (N : Nat) (k_33 : Int32 → Int32 → Int32 → Int32 → Int32 → Int32 → Int32 → Int32 → List Int32 → List Int32 → List Int32 → Option (Int32 × Int32 × Int32 × Int32 × Int32 × Int32)) (x3 : Int32) (x4 : Int32) (v_base : Int32) (v_at : Int32) (v_ends : Int32) (v_fault : Int32) (v_opened : Int32) (v_tape : List Int32) (v_text : List Int32) (v_names : List Int32) : Option (Int32 × Int32 × Int32 × Int32 × Int32 × Int32) :=
    mm_bd2 (fX9_takes N (59 : Int32) v_base v_at v_ends v_fault v_tape v_text) (fun (r_25 : Bool) (w_26 : Int32) =>
    k_33 x3 x4 (mm_b r_25) v_base w_26 v_ends v_fault v_opened v_tape v_text v_names)

def fX9_workOut_74 (N : Nat) (k_33 : Int32 → Int32 → Int32 → Int32 → Int32 → Int32 → Int32 → Int32 → List Int32 → List Int32 → List Int32 → Option (Int32 × Int32 × Int32 × Int32 × Int32 × Int32)) (x3 : Int32) (x4 : Int32) (x6 : Int32) (x7 : Int32) (v_base : Int32) (v_at : Int32) (v_ends : Int32) (v_fault : Int32) (v_opened : Int32) (v_tape : List Int32) (v_text : List Int32) (v_names : List Int32) : Option (Int32 × Int32 × Int32 × Int32 × Int32 × Int32) :=
    if 0 ≤ v_fault then
    (fX9_workOut_96 N k_33 x3 x4 v_base v_at v_ends v_fault v_opened v_tape v_text v_names)
    else (if x7 = 0 then
    (fX9_workOut_96 N k_33 x3 x4 v_base v_at v_ends v_fault v_opened v_tape v_text v_names)
    else (if x3 = 0 then
    (fX9_workOut_96 N k_33 (1 : Int32) x6 v_base v_at v_ends v_fault v_opened v_tape v_text v_names)
    else (fX9_workOut_96 N k_33 x3 x4 v_base v_at v_ends v_fault v_opened v_tape v_text v_names)))

def fX9_workOut_66 (N : Nat) (k_33 : Int32 → Int32 → Int32 → Int32 → Int32 → Int32 → Int32 → Int32 → List Int32 → List Int32 → List Int32 → Option (Int32 × Int32 × Int32 × Int32 × Int32 × Int32)) (x3 : Int32) (x4 : Int32) (s0 : Int32) (v_base : Int32) (v_at : Int32) (v_ends : Int32) (v_fault : Int32) (v_opened : Int32) (v_tape : List Int32) (v_text : List Int32) (v_names : List Int32) : Option (Int32 × Int32 × Int32 × Int32 × Int32 × Int32) :=
    mm_bd4 (fX9_either N (fX9_one N 8) v_base v_at v_ends v_fault v_opened v_tape v_text v_names) (fun (r_17 : Int32) (w_18 : Int32) (w_19 : Int32) (w_20 : Int32) =>
    fX9_workOut_74 N k_33 x3 x4 r_17 s0 v_base w_18 v_ends w_19 w_20 v_tape v_text v_names)

def fX9_workOut_33 (N : Nat)  : Nat → Int32 → Int32 → Int32 → Int32 → Int32 → Int32 → Int32 → Int32 → List Int32 → List Int32 → List Int32 → Option (Int32 × Int32 × Int32 × Int32 × Int32 × Int32)
  | 0 => fun _ _ _ _ _ _ _ _ _ _ _ => none
  | n + 1 => fun x3 x4 x5 v_base v_at v_ends v_fault v_opened v_tape v_text v_names =>
    if x5 = 0 then
    (if 0 ≤ v_fault then
    (some (x4, v_base, v_at, v_ends, v_fault, v_opened))
    else (if v_ends ≤ v_at then
    (some (x4, v_base, v_at, v_ends, v_fault, v_opened))
    else (mm_bd2 (fX9_wrong N v_at v_fault) (fun (r_4 : Int32) (w_5 : Int32) =>
    some (r_4, v_base, v_at, v_ends, w_5, v_opened)))))
    else (mm_bd4 (fX9_either N (fX9_one N 8) v_base v_at v_ends v_fault v_opened v_tape v_text v_names) (fun (r_7 : Int32) (w_8 : Int32) (w_9 : Int32) (w_10 : Int32) =>
    mm_bd2 (fX9_takes N (63 : Int32) v_base w_8 v_ends w_9 v_tape v_text) (fun (r_12 : Bool) (w_13 : Int32) =>
    if r_12 = false then
    (fX9_workOut_74 N (fX9_workOut_33 N n) x3 x4 r_7 (1 : Int32) v_base w_13 v_ends w_9 w_10 v_tape v_text v_names)
    else (if r_7 = 0 then
    (fX9_workOut_66 N (fX9_workOut_33 N n) x3 x4 (0 : Int32) v_base w_13 v_ends w_9 w_10 v_tape v_text v_names)
    else (fX9_workOut_66 N (fX9_workOut_33 N n) x3 x4 (1 : Int32) v_base w_13 v_ends w_9 w_10 v_tape v_text v_names)))))

def fX9_workOut (N : Nat) (x1 : Int32) (x2 : Int32) (v_base : Int32) (v_at : Int32) (v_ends : Int32) (v_fault : Int32) (v_opened : Int32) (v_tape : List Int32) (v_text : List Int32) (v_names : List Int32) : Option (Int32 × Int32 × Int32 × Int32 × Int32 × Int32) :=
    fX9_workOut_33 N N (0 : Int32) (0 : Int32) (1 : Int32) x1 (0 : Int32) x2 (-1 : Int32) (0 : Int32) v_tape v_text v_names

def fX9_law_37 (N : Nat)  : Nat → Int32 → Int32 → Int32 → Int32 → Int32 → Int32 → Int32 → Int32 → Int32 → List Int32 → List Int32 → List Int32 → Option (Int32 × Int32 × Int32 × Int32 × Int32 × Int32 × Int32 × Int32 × List Int32)
  | 0 => fun _ _ _ _ _ _ _ _ _ _ _ _ => none
  | n + 1 => fun x2 x3 v_tapeMany v_textMany v_base v_at v_ends v_fault v_opened v_tape v_text v_names =>
    if x2 ≤ x3 then
    (some ((1 : Int32), v_tapeMany, x2, v_base, v_at, v_ends, v_fault, v_opened, v_text))
    else (mm_ck (mm_inb x3 v_tape.length) (mm_nm ((mm_ig v_tape x3)) (fun (y_11 : Int32) =>
    mm_ck (mm_inb x3 v_text.length) (mm_nm (mm_is v_text x3 y_11) (fun (l_13 : List Int32) =>
    mm_nm (x3 + (1 : Int32)) (fun (y_14 : Int32) =>
    fX9_law_37 N n x2 y_14 v_tapeMany v_textMany v_base v_at v_ends v_fault v_opened v_tape l_13 v_names))))))

def fX9_law (N : Nat) (v_tapeMany : Int32) (v_textMany : Int32) (v_base : Int32) (v_at : Int32) (v_ends : Int32) (v_fault : Int32) (v_opened : Int32) (v_tape : List Int32) (v_text : List Int32) (v_names : List Int32) : Option (Int32 × Int32 × Int32 × Int32 × Int32 × Int32 × Int32 × Int32 × List Int32) :=
    mm_bd6 (fX9_workOut N (-1 : Int32) v_tapeMany v_base v_at v_ends v_fault v_opened v_tape v_text v_names) (fun (r_1 : Int32) (w_2 : Int32) (w_3 : Int32) (w_4 : Int32) (w_5 : Int32) (w_6 : Int32) =>
    if w_5 < 0 then
    (fX9_law_37 N N v_tapeMany (0 : Int32) (0 : Int32) v_textMany w_2 w_3 w_4 w_5 w_6 v_tape v_text v_names)
    else (some (((-100 : Int32) - w_5), (0 : Int32), v_textMany, w_2, w_3, w_4, w_5, w_6, v_text)))

def fX9_wears (N : Nat) (x1 : Int32) (x2 : Int32) (x3 : Int32) (x4 : Int32) (x5 : Int32) (v_textMany : Int32) (v_base : Int32) (v_at : Int32) (v_ends : Int32) (v_fault : Int32) (v_opened : Int32) (v_tape : List Int32) (v_text : List Int32) (v_names : List Int32) : Option (Int32 × Int32 × Int32 × Int32 × Int32 × Int32 × List Int32) :=
    if 0 ≤ v_textMany then
    (mm_ck (mm_inb (0 : Int32) v_names.length) (mm_nm (mm_is v_names (0 : Int32) x1) (fun (l_3 : List Int32) =>
    mm_ck (mm_inb (1 : Int32) l_3.length) (mm_nm (mm_is l_3 (1 : Int32) x2) (fun (l_5 : List Int32) =>
    mm_ck (mm_inb (2 : Int32) l_5.length) (mm_nm (mm_is l_5 (2 : Int32) x3) (fun (l_7 : List Int32) =>
    mm_ck (mm_nz (2 : Int32)) (mm_nm ((mm_rem x4 (2 : Int32))) (fun (y_9 : Int32) =>
    mm_ck (mm_inb (3 : Int32) l_7.length) (mm_nm (mm_is l_7 (3 : Int32) y_9) (fun (l_11 : List Int32) =>
    mm_ck (mm_nz (2 : Int32)) (mm_nm ((x4 / (2 : Int32))) (fun (y_13 : Int32) =>
    mm_ck (mm_inb (4 : Int32) l_11.length) (mm_nm (mm_is l_11 (4 : Int32) y_13) (fun (l_15 : List Int32) =>
    mm_ck (mm_inb (5 : Int32) l_15.length) (mm_nm (mm_is l_15 (5 : Int32) x5) (fun (l_17 : List Int32) =>
    mm_bd6 (fX9_workOut N (0 : Int32) v_textMany v_base v_at v_ends v_fault v_opened v_tape v_text l_17) (fun (r_18 : Int32) (w_19 : Int32) (w_20 : Int32) (w_21 : Int32) (w_22 : Int32) (w_23 : Int32) =>
    if 0 ≤ r_18 then
    (if r_18 ≤ (9 : Int32) then
    (some (r_18, w_19, w_20, w_21, w_22, w_23, l_17))
    else (some ((9 : Int32), w_19, w_20, w_21, w_22, w_23, l_17)))
    else (some ((0 : Int32), w_19, w_20, w_21, w_22, w_23, l_17))))))))))))))))))))
    else (some (((1 : Int32) + ((2 : Int32) * x3)), v_base, v_at, v_ends, v_fault, v_opened, v_names))

def fX9_isLine_23 (N : Nat)  (s0 : Int32) (s1 : Int64) (s2 : Int64) (v_shapeRows : List Int32) (v_shapeColumns : List Int32) : Option (Bool) :=
    mm_bd1 (fX9_within N s2 s1 ((s0 - (1 : Int32)).toInt64)) (fun (r_4 : Bool) =>
    some (r_4))

def fX9_isLine (N : Nat) (x1 : Int32) (x2 : Int32) (x3 : Int32) (v_shapeRows : List Int32) (v_shapeColumns : List Int32) : Option (Bool) :=
    if (4 : Int32) ≤ x3 then
    (mm_ck (mm_inb x1 v_shapeRows.length) (fX9_isLine_23 N (mm_ig v_shapeRows x1) (1 : Int64) ((x2).toInt64) v_shapeRows v_shapeColumns))
    else (mm_ck (mm_inb x1 v_shapeColumns.length) (fX9_isLine_23 N (mm_ig v_shapeColumns x1) (1 : Int64) ((x2).toInt64) v_shapeRows v_shapeColumns))

def fX9_placeOf (N : Nat) (x1 : Int32) (x2 : Int32) (x3 : Int32) (v_row : List Int32) (v_column : List Int32) : Option (Int32) :=
    if x3 = 0 then
    (mm_ck (mm_inb (((32 : Int32) * x1) + x2) v_row.length) (some ((mm_ig v_row (((32 : Int32) * x1) + x2)))))
    else (mm_ck (mm_inb (((32 : Int32) * x1) + x2) v_column.length) (some ((mm_ig v_column (((32 : Int32) * x1) + x2)))))

def fX9_bendOf_220 (N : Nat)  (x13 : Int32) (s0 : Int32) (v_columnsOf : Int32) (v_limit : List Int32) (v_row : List Int32) (v_column : List Int32) (v_face : List Int32) (v_worn : List Int32) : Option (Int32) :=
    if s0 = x13 then
    (some ((1 : Int32)))
    else (some ((2 : Int32)))

def fX9_bendOf_198 (N : Nat)  (x1 : Int32) (x12 : Int32) (s0 : Int32) (v_columnsOf : Int32) (v_limit : List Int32) (v_row : List Int32) (v_column : List Int32) (v_face : List Int32) (v_worn : List Int32) : Option (Int32) :=
    mm_ck (mm_inb (((32 : Int32) * x1) + x12) v_face.length) (if (mm_ig v_face (((32 : Int32) * x1) + x12)) = 0 then
    (fX9_bendOf_220 N s0 (1 : Int32) v_columnsOf v_limit v_row v_column v_face v_worn)
    else (fX9_bendOf_220 N s0 (0 : Int32) v_columnsOf v_limit v_row v_column v_face v_worn))

def fX9_bendOf_184 (N : Nat)  (x1 : Int32) (x4 : Int32) (s0 : Int32) (v_columnsOf : Int32) (v_limit : List Int32) (v_row : List Int32) (v_column : List Int32) (v_face : List Int32) (v_worn : List Int32) : Option (Int32) :=
    mm_ck (mm_nz (2 : Int32)) (if (mm_rem x4 (2 : Int32)) = 0 then
    (fX9_bendOf_198 N x1 s0 (1 : Int32) v_columnsOf v_limit v_row v_column v_face v_worn)
    else (fX9_bendOf_198 N x1 s0 (0 : Int32) v_columnsOf v_limit v_row v_column v_face v_worn))

def fX9_bendOf_172 (N : Nat)  (x1 : Int32) (x4 : Int32) (x5 : Int32) (x6 : Int32) (x11 : Int32) (s0 : Int32) (v_columnsOf : Int32) (v_limit : List Int32) (v_row : List Int32) (v_column : List Int32) (v_face : List Int32) (v_worn : List Int32) : Option (Int32) :=
    if s0 = x11 then
    (fX9_bendOf_184 N x1 x4 x5 v_columnsOf v_limit v_row v_column v_face v_worn)
    else (fX9_bendOf_184 N x1 x4 x6 v_columnsOf v_limit v_row v_column v_face v_worn)

def fX9_bendOf_159 (N : Nat)  (x1 : Int32) (x3 : Int32) (x4 : Int32) (x5 : Int32) (x6 : Int32) (x8 : Int32) (s0 : Int32) (v_columnsOf : Int32) (v_limit : List Int32) (v_row : List Int32) (v_column : List Int32) (v_face : List Int32) (v_worn : List Int32) : Option (Int32) :=
    if x3 ≤ x8 then
    (fX9_bendOf_172 N x1 x4 x5 x6 s0 (0 : Int32) v_columnsOf v_limit v_row v_column v_face v_worn)
    else (fX9_bendOf_172 N x1 x4 x5 x6 s0 (1 : Int32) v_columnsOf v_limit v_row v_column v_face v_worn)

def fX9_bendOf_118 (N : Nat)  (x1 : Int32) (x2 : Int32) (x3 : Int32) (x4 : Int32) (x5 : Int32) (x6 : Int32) (x8 : Int32) (s0 : Int32) (s1 : Int32) (s2 : Int32) (s4 : Int32) (v_columnsOf : Int32) (v_limit : List Int32) (v_row : List Int32) (v_column : List Int32) (v_face : List Int32) (v_worn : List Int32) : Option (Int32) :=
    mm_bd1 (fX9_placeOf N s2 s1 s0 v_row v_column) (fun (r_17 : Int32) =>
    if s4 = r_17 then
    (mm_ck (mm_inb (((64 : Int32) * x1) + x2) v_worn.length) (mm_ck (mm_inb (0 : Int32) v_limit.length) (if (mm_ig v_worn (((64 : Int32) * x1) + x2)) < (mm_ig v_limit (0 : Int32)) then
    (mm_ck (mm_nz (4 : Int32)) (if (2 : Int32) ≤ (mm_rem x4 (4 : Int32)) then
    (fX9_bendOf_159 N x1 x3 x4 x5 x6 x8 (0 : Int32) v_columnsOf v_limit v_row v_column v_face v_worn)
    else (fX9_bendOf_159 N x1 x3 x4 x5 x6 x8 (1 : Int32) v_columnsOf v_limit v_row v_column v_face v_worn)))
    else (some ((0 : Int32))))))
    else (some ((0 : Int32))))

def fX9_bendOf_101 (N : Nat)  (x1 : Int32) (x2 : Int32) (x3 : Int32) (x4 : Int32) (x5 : Int32) (x6 : Int32) (x7 : Int32) (x8 : Int32) (s0 : Int32) (s1 : Int32) (s2 : Int32) (v_columnsOf : Int32) (v_limit : List Int32) (v_row : List Int32) (v_column : List Int32) (v_face : List Int32) (v_worn : List Int32) : Option (Int32) :=
    mm_bd1 (fX9_placeOf N s2 s1 s0 v_row v_column) (fun (r_14 : Int32) =>
    if x7 = 0 then
    (fX9_bendOf_118 N x1 x2 x3 x4 x5 x6 x8 (1 : Int32) x6 x1 r_14 v_columnsOf v_limit v_row v_column v_face v_worn)
    else (fX9_bendOf_118 N x1 x2 x3 x4 x5 x6 x8 (0 : Int32) x6 x1 r_14 v_columnsOf v_limit v_row v_column v_face v_worn))

def fX9_bendOf_80 (N : Nat)  (x1 : Int32) (x2 : Int32) (x3 : Int32) (x4 : Int32) (x5 : Int32) (x6 : Int32) (x7 : Int32) (x8 : Int32) (s0 : Int32) (v_columnsOf : Int32) (v_limit : List Int32) (v_row : List Int32) (v_column : List Int32) (v_face : List Int32) (v_worn : List Int32) : Option (Int32) :=
    if s0 = 0 then
    (some ((0 : Int32)))
    else (if x7 = 0 then
    (fX9_bendOf_101 N x1 x2 x3 x4 x5 x6 x7 x8 (1 : Int32) x5 x1 v_columnsOf v_limit v_row v_column v_face v_worn)
    else (fX9_bendOf_101 N x1 x2 x3 x4 x5 x6 x7 x8 (0 : Int32) x5 x1 v_columnsOf v_limit v_row v_column v_face v_worn))

def fX9_bendOf_75 (N : Nat)  (x1 : Int32) (x2 : Int32) (x3 : Int32) (x4 : Int32) (x5 : Int32) (x6 : Int32) (x7 : Int32) (x8 : Int32) (v_columnsOf : Int32) (v_limit : List Int32) (v_row : List Int32) (v_column : List Int32) (v_face : List Int32) (v_worn : List Int32) : Option (Int32) :=
    fX9_bendOf_80 N x1 x2 x3 x4 x5 x6 x7 x8 (1 : Int32) v_columnsOf v_limit v_row v_column v_face v_worn

def fX9_bendOf_79 (N : Nat)  (x1 : Int32) (x2 : Int32) (x3 : Int32) (x4 : Int32) (x5 : Int32) (x6 : Int32) (x7 : Int32) (x8 : Int32) (v_columnsOf : Int32) (v_limit : List Int32) (v_row : List Int32) (v_column : List Int32) (v_face : List Int32) (v_worn : List Int32) : Option (Int32) :=
    fX9_bendOf_80 N x1 x2 x3 x4 x5 x6 x7 x8 (0 : Int32) v_columnsOf v_limit v_row v_column v_face v_worn

def fX9_bendOf_61 (N : Nat)  (x1 : Int32) (x2 : Int32) (x3 : Int32) (x4 : Int32) (x5 : Int32) (x6 : Int32) (x7 : Int32) (x8 : Int32) (x9 : Int32) (v_columnsOf : Int32) (v_limit : List Int32) (v_row : List Int32) (v_column : List Int32) (v_face : List Int32) (v_worn : List Int32) : Option (Int32) :=
    if x8 = x3 then
    (if x9 = (x3 - (1 : Int32)) then
    (fX9_bendOf_75 N x1 x2 x3 x4 x5 x6 x7 x8 v_columnsOf v_limit v_row v_column v_face v_worn)
    else (fX9_bendOf_79 N x1 x2 x3 x4 x5 x6 x7 x8 v_columnsOf v_limit v_row v_column v_face v_worn))
    else (fX9_bendOf_79 N x1 x2 x3 x4 x5 x6 x7 x8 v_columnsOf v_limit v_row v_column v_face v_worn)

def fX9_bendOf_23 (N : Nat)  (x1 : Int32) (x2 : Int32) (x3 : Int32) (x4 : Int32) (x5 : Int32) (x6 : Int32) (s0 : Int32) (v_columnsOf : Int32) (v_limit : List Int32) (v_row : List Int32) (v_column : List Int32) (v_face : List Int32) (v_worn : List Int32) : Option (Int32) :=
    mm_bd1 (fX9_placeOf N x1 x5 s0 v_row v_column) (fun (r_6 : Int32) =>
    mm_bd1 (fX9_placeOf N x1 x6 s0 v_row v_column) (fun (r_8 : Int32) =>
    if r_6 = (x3 - (1 : Int32)) then
    (if r_8 = x3 then
    (fX9_bendOf_75 N x1 x2 x3 x4 x5 x6 s0 r_6 v_columnsOf v_limit v_row v_column v_face v_worn)
    else (fX9_bendOf_61 N x1 x2 x3 x4 x5 x6 s0 r_6 r_8 v_columnsOf v_limit v_row v_column v_face v_worn))
    else (fX9_bendOf_61 N x1 x2 x3 x4 x5 x6 s0 r_6 r_8 v_columnsOf v_limit v_row v_column v_face v_worn)))

def fX9_bendOf (N : Nat) (x1 : Int32) (x2 : Int32) (x3 : Int32) (x4 : Int32) (v_columnsOf : Int32) (v_limit : List Int32) (v_row : List Int32) (v_column : List Int32) (v_face : List Int32) (v_worn : List Int32) : Option (Int32) :=
    mm_ck (mm_nz (2 : Int32)) (mm_nm ((x2 / (2 : Int32))) (fun (y_2 : Int32) =>
    mm_bd1 (fX9_otherOf N x2 v_columnsOf) (fun (r_3 : Int32) =>
    if (4 : Int32) ≤ x4 then
    (fX9_bendOf_23 N x1 x2 x3 x4 y_2 r_3 (0 : Int32) v_columnsOf v_limit v_row v_column v_face v_worn)
    else (fX9_bendOf_23 N x1 x2 x3 x4 y_2 r_3 (1 : Int32) v_columnsOf v_limit v_row v_column v_face v_worn))))

def fX9_bendsAll_74 (N : Nat) (k_18 : Int32 → Int32 → Int32 → Int32 → Int32 → Int32 → Int32 → Int32 → Int32 → Int32 → Int32 → Int32 → Int32 → Int32 → Int32 → List Int32 → List Int32 → List Int32 → List Int32 → List Int32 → List Int32 → List Int32 → List Int32 → List Int32 → List Int32 → Option (Int32 × Int32 × Int32 × Int32 × Int32 × Int32 × Int32 × Int32 × List Int32 × List Int32 × List Int32 × List Int32)) (x1 : Int32) (x2 : Int32) (x3 : Int32) (x4 : Int32) (s0 : Int32) (s1 : Int32) (v_rowsOf : Int32) (v_columnsOf : Int32) (v_textMany : Int32) (v_base : Int32) (v_at : Int32) (v_ends : Int32) (v_fault : Int32) (v_opened : Int32) (v_bentMany : Int32) (v_bentWrong : Int32) (v_moreWorn : Int32) (v_limit : List Int32) (v_row : List Int32) (v_column : List Int32) (v_face : List Int32) (v_worn : List Int32) (v_lastBend : List Int32) (v_tape : List Int32) (v_text : List Int32) (v_names : List Int32) (v_bends : List Int32) : Option (Int32 × Int32 × Int32 × Int32 × Int32 × Int32 × Int32 × Int32 × List Int32 × List Int32 × List Int32 × List Int32) :=
    mm_nm ((s1 + s0)) (fun (y_11 : Int32) =>
    mm_nm (x4 + (1 : Int32)) (fun (y_12 : Int32) =>
    k_18 x1 x2 x3 y_12 v_rowsOf v_columnsOf v_textMany v_base v_at v_ends v_fault v_opened y_11 v_bentWrong v_moreWorn v_limit v_row v_column v_face v_worn v_lastBend v_tape v_text v_names v_bends))

def fX9_bendsAll_53 (N : Nat) (k_18 : Int32 → Int32 → Int32 → Int32 → Int32 → Int32 → Int32 → Int32 → Int32 → Int32 → Int32 → Int32 → Int32 → Int32 → Int32 → List Int32 → List Int32 → List Int32 → List Int32 → List Int32 → List Int32 → List Int32 → List Int32 → List Int32 → List Int32 → Option (Int32 × Int32 × Int32 × Int32 × Int32 × Int32 × Int32 × Int32 × List Int32 × List Int32 × List Int32 × List Int32)) (x1 : Int32) (x2 : Int32) (x3 : Int32) (x4 : Int32) (s0 : Int32) (s1 : Int32) (v_rowsOf : Int32) (v_columnsOf : Int32) (v_textMany : Int32) (v_base : Int32) (v_at : Int32) (v_ends : Int32) (v_fault : Int32) (v_opened : Int32) (v_bentMany : Int32) (v_bentWrong : Int32) (v_moreWorn : Int32) (v_limit : List Int32) (v_row : List Int32) (v_column : List Int32) (v_face : List Int32) (v_worn : List Int32) (v_lastBend : List Int32) (v_tape : List Int32) (v_text : List Int32) (v_names : List Int32) (v_bends : List Int32) : Option (Int32 × Int32 × Int32 × Int32 × Int32 × Int32 × Int32 × Int32 × List Int32 × List Int32 × List Int32 × List Int32) :=
    mm_ck (mm_inb s1 v_bends.length) (mm_nm (mm_is v_bends s1 s0) (fun (l_8 : List Int32) =>
    mm_ck (mm_inb x4 l_8.length) (if (mm_ig l_8 x4) ≤ 0 then
    (fX9_bendsAll_74 N k_18 x1 x2 x3 x4 (0 : Int32) v_bentMany v_rowsOf v_columnsOf v_textMany v_base v_at v_ends v_fault v_opened v_bentMany v_bentWrong v_moreWorn v_limit v_row v_column v_face v_worn v_lastBend v_tape v_text v_names l_8)
    else (fX9_bendsAll_74 N k_18 x1 x2 x3 x4 (1 : Int32) v_bentMany v_rowsOf v_columnsOf v_textMany v_base v_at v_ends v_fault v_opened v_bentMany v_bentWrong v_moreWorn v_limit v_row v_column v_face v_worn v_lastBend v_tape v_text v_names l_8))))

def fX9_bendsAll_250 (N : Nat) (k_87 : Int32 → Int32 → Int32 → Int32 → Int32 → Int32 → Int32 → Int32 → Int32 → Int32 → Int32 → Int32 → Int32 → List Int32 → List Int32 → List Int32 → List Int32 → List Int32 → List Int32 → List Int32 → List Int32 → List Int32 → List Int32 → Option (Int32 × Int32 × Int32 × Int32 × Int32 × Int32 × Int32 × Int32 × List Int32 × List Int32 × List Int32 × List Int32)) (x1 : Int32) (x4 : Int32) (v_rowsOf : Int32) (v_columnsOf : Int32) (v_textMany : Int32) (v_base : Int32) (v_at : Int32) (v_ends : Int32) (v_fault : Int32) (v_opened : Int32) (v_bentMany : Int32) (v_bentWrong : Int32) (v_moreWorn : Int32) (v_limit : List Int32) (v_row : List Int32) (v_column : List Int32) (v_face : List Int32) (v_worn : List Int32) (v_lastBend : List Int32) (v_tape : List Int32) (v_text : List Int32) (v_names : List Int32) (v_bends : List Int32) : Option (Int32 × Int32 × Int32 × Int32 × Int32 × Int32 × Int32 × Int32 × List Int32 × List Int32 × List Int32 × List Int32) :=
    mm_nm (x4 + (1 : Int32)) (fun (y_22 : Int32) =>
    k_87 x1 y_22 v_rowsOf v_columnsOf v_textMany v_base v_at v_ends v_fault v_opened v_bentMany v_bentWrong v_moreWorn v_limit v_row v_column v_face v_worn v_lastBend v_tape v_text v_names v_bends)

def fX9_bendsAll_205 (N : Nat) (k_87 : Int32 → Int32 → Int32 → Int32 → Int32 → Int32 → Int32 → Int32 → Int32 → Int32 → Int32 → Int32 → Int32 → List Int32 → List Int32 → List Int32 → List Int32 → List Int32 → List Int32 → List Int32 → List Int32 → List Int32 → List Int32 → Option (Int32 × Int32 × Int32 × Int32 × Int32 × Int32 × Int32 × Int32 × List Int32 × List Int32 × List Int32 × List Int32)) (x1 : Int32) (x4 : Int32) (x5 : Int32) (x6 : Int32) (x7 : Int32) (s0 : Int32) (s1 : Int32) (v_rowsOf : Int32) (v_columnsOf : Int32) (v_textMany : Int32) (v_base : Int32) (v_at : Int32) (v_ends : Int32) (v_fault : Int32) (v_opened : Int32) (v_bentMany : Int32) (v_bentWrong : Int32) (v_moreWorn : Int32) (v_limit : List Int32) (v_row : List Int32) (v_column : List Int32) (v_face : List Int32) (v_worn : List Int32) (v_lastBend : List Int32) (v_tape : List Int32) (v_text : List Int32) (v_names : List Int32) (v_bends : List Int32) : Option (Int32 × Int32 × Int32 × Int32 × Int32 × Int32 × Int32 × Int32 × List Int32 × List Int32 × List Int32 × List Int32) :=
    mm_ck (mm_inb s1 v_worn.length) (mm_nm (mm_is v_worn s1 s0) (fun (l_37 : List Int32) =>
    mm_ck (mm_inb x4 v_bends.length) (mm_nm ((mm_ig v_bends x4)) (fun (y_39 : Int32) =>
    mm_ck (mm_inb x5 v_lastBend.length) (mm_nm (mm_is v_lastBend x5 y_39) (fun (l_41 : List Int32) =>
    mm_nm ((v_bentWrong + x6)) (fun (y_42 : Int32) =>
    mm_ck (mm_inb x5 l_37.length) (mm_nm ((v_moreWorn + ((mm_ig l_37 x5) - x7))) (fun (y_44 : Int32) =>
    fX9_bendsAll_250 N k_87 x1 x4 v_rowsOf v_columnsOf v_textMany v_base v_at v_ends v_fault v_opened v_bentMany y_42 y_44 v_limit v_row v_column v_face l_37 l_41 v_tape v_text v_names v_bends)))))))))

def fX9_bendsAll_148 (N : Nat) (k_87 : Int32 → Int32 → Int32 → Int32 → Int32 → Int32 → Int32 → Int32 → Int32 → Int32 → Int32 → Int32 → Int32 → List Int32 → List Int32 → List Int32 → List Int32 → List Int32 → List Int32 → List Int32 → List Int32 → List Int32 → List Int32 → Option (Int32 × Int32 × Int32 × Int32 × Int32 × Int32 × Int32 × Int32 × List Int32 × List Int32 × List Int32 × List Int32)) (x1 : Int32) (x4 : Int32) (x5 : Int32) (s0 : Int32) (v_rowsOf : Int32) (v_columnsOf : Int32) (v_textMany : Int32) (v_base : Int32) (v_at : Int32) (v_ends : Int32) (v_fault : Int32) (v_opened : Int32) (v_bentMany : Int32) (v_bentWrong : Int32) (v_moreWorn : Int32) (v_limit : List Int32) (v_row : List Int32) (v_column : List Int32) (v_face : List Int32) (v_worn : List Int32) (v_lastBend : List Int32) (v_tape : List Int32) (v_text : List Int32) (v_names : List Int32) (v_bends : List Int32) : Option (Int32 × Int32 × Int32 × Int32 × Int32 × Int32 × Int32 × Int32 × List Int32 × List Int32 × List Int32 × List Int32) :=
    mm_ck (mm_inb x5 v_worn.length) (mm_nm ((mm_ig v_worn x5)) (fun (y_24 : Int32) =>
    mm_ck (mm_inb x4 v_bends.length) (mm_bd7 (fX9_wears N v_bentMany y_24 s0 x4 (mm_ig v_bends x4) v_textMany v_base v_at v_ends v_fault v_opened v_tape v_text v_names) (fun (r_26 : Int32) (w_27 : Int32) (w_28 : Int32) (w_29 : Int32) (w_30 : Int32) (w_31 : Int32) (w_32 : List Int32) =>
    mm_nm ((y_24 + r_26)) (fun (y_34 : Int32) =>
    if y_34 ≤ (99 : Int32) then
    (fX9_bendsAll_205 N k_87 x1 x4 x5 s0 y_24 y_34 x5 v_rowsOf v_columnsOf v_textMany w_27 w_28 w_29 w_30 w_31 v_bentMany v_bentWrong v_moreWorn v_limit v_row v_column v_face v_worn v_lastBend v_tape v_text w_32 v_bends)
    else (fX9_bendsAll_205 N k_87 x1 x4 x5 s0 y_24 (99 : Int32) x5 v_rowsOf v_columnsOf v_textMany w_27 w_28 w_29 w_30 w_31 v_bentMany v_bentWrong v_moreWorn v_limit v_row v_column v_face v_worn v_lastBend v_tape v_text w_32 v_bends))))))

def fX9_bendsAll_147 (N : Nat) (k_87 : Int32 → Int32 → Int32 → Int32 → Int32 → Int32 → Int32 → Int32 → Int32 → Int32 → Int32 → Int32 → Int32 → List Int32 → List Int32 → List Int32 → List Int32 → List Int32 → List Int32 → List Int32 → List Int32 → List Int32 → List Int32 → Option (Int32 × Int32 × Int32 × Int32 × Int32 × Int32 × Int32 × Int32 × List Int32 × List Int32 × List Int32 × List Int32)) (x1 : Int32) (x4 : Int32) (x5 : Int32) (v_rowsOf : Int32) (v_columnsOf : Int32) (v_textMany : Int32) (v_base : Int32) (v_at : Int32) (v_ends : Int32) (v_fault : Int32) (v_opened : Int32) (v_bentMany : Int32) (v_bentWrong : Int32) (v_moreWorn : Int32) (v_limit : List Int32) (v_row : List Int32) (v_column : List Int32) (v_face : List Int32) (v_worn : List Int32) (v_lastBend : List Int32) (v_tape : List Int32) (v_text : List Int32) (v_names : List Int32) (v_bends : List Int32) : Option (Int32 × Int32 × Int32 × Int32 × Int32 × Int32 × Int32 × Int32 × List Int32 × List Int32 × List Int32 × List Int32) :=
    fX9_bendsAll_148 N k_87 x1 x4 x5 (0 : Int32) v_rowsOf v_columnsOf v_textMany v_base v_at v_ends v_fault v_opened v_bentMany v_bentWrong v_moreWorn v_limit v_row v_column v_face v_worn v_lastBend v_tape v_text v_names v_bends

def fX9_bendsAll_87 (N : Nat)  : Nat → Int32 → Int32 → Int32 → Int32 → Int32 → Int32 → Int32 → Int32 → Int32 → Int32 → Int32 → Int32 → Int32 → List Int32 → List Int32 → List Int32 → List Int32 → List Int32 → List Int32 → List Int32 → List Int32 → List Int32 → List Int32 → Option (Int32 × Int32 × Int32 × Int32 × Int32 × Int32 × Int32 × Int32 × List Int32 × List Int32 × List Int32 × List Int32)
  | 0 => fun _ _ _ _ _ _ _ _ _ _ _ _ _ _ _ _ _ _ _ _ _ _ _ => none
  | n + 1 => fun x1 x4 v_rowsOf v_columnsOf v_textMany v_base v_at v_ends v_fault v_opened v_bentMany v_bentWrong v_moreWorn v_limit v_row v_column v_face v_worn v_lastBend v_tape v_text v_names v_bends =>
    if (64 : Int32) ≤ x4 then
    (some (v_base, v_at, v_ends, v_fault, v_opened, v_bentMany, v_bentWrong, v_moreWorn, v_worn, v_lastBend, v_names, v_bends))
    else (mm_ck (mm_inb x4 v_bends.length) (if (mm_ig v_bends x4) = 0 then
    (fX9_bendsAll_250 N (fX9_bendsAll_87 N n) x1 x4 v_rowsOf v_columnsOf v_textMany v_base v_at v_ends v_fault v_opened v_bentMany v_bentWrong v_moreWorn v_limit v_row v_column v_face v_worn v_lastBend v_tape v_text v_names v_bends)
    else (mm_nm ((((64 : Int32) * x1) + x4)) (fun (y_16 : Int32) =>
    mm_ck (mm_inb y_16 v_lastBend.length) (if (mm_ig v_lastBend y_16) = 0 then
    (fX9_bendsAll_147 N (fX9_bendsAll_87 N n) x1 x4 y_16 v_rowsOf v_columnsOf v_textMany v_base v_at v_ends v_fault v_opened v_bentMany v_bentWrong v_moreWorn v_limit v_row v_column v_face v_worn v_lastBend v_tape v_text v_names v_bends)
    else (mm_ck (mm_inb y_16 v_lastBend.length) (mm_ck (mm_inb x4 v_bends.length) (if (mm_ig v_lastBend y_16) = (mm_ig v_bends x4) then
    (fX9_bendsAll_147 N (fX9_bendsAll_87 N n) x1 x4 y_16 v_rowsOf v_columnsOf v_textMany v_base v_at v_ends v_fault v_opened v_bentMany v_bentWrong v_moreWorn v_limit v_row v_column v_face v_worn v_lastBend v_tape v_text v_names v_bends)
    else (fX9_bendsAll_148 N (fX9_bendsAll_87 N n) x1 x4 y_16 (1 : Int32) v_rowsOf v_columnsOf v_textMany v_base v_at v_ends v_fault v_opened v_bentMany v_bentWrong v_moreWorn v_limit v_row v_column v_face v_worn v_lastBend v_tape v_text v_names v_bends)))))))))

def fX9_bendsAll_18 (N : Nat)  : Nat → Int32 → Int32 → Int32 → Int32 → Int32 → Int32 → Int32 → Int32 → Int32 → Int32 → Int32 → Int32 → Int32 → Int32 → Int32 → List Int32 → List Int32 → List Int32 → List Int32 → List Int32 → List Int32 → List Int32 → List Int32 → List Int32 → List Int32 → Option (Int32 × Int32 × Int32 × Int32 × Int32 × Int32 × Int32 × Int32 × List Int32 × List Int32 × List Int32 × List Int32)
  | 0 => fun _ _ _ _ _ _ _ _ _ _ _ _ _ _ _ _ _ _ _ _ _ _ _ _ _ => none
  | n + 1 => fun x1 x2 x3 x4 v_rowsOf v_columnsOf v_textMany v_base v_at v_ends v_fault v_opened v_bentMany v_bentWrong v_moreWorn v_limit v_row v_column v_face v_worn v_lastBend v_tape v_text v_names v_bends =>
    if (64 : Int32) ≤ x4 then
    (fX9_bendsAll_87 N N x1 (0 : Int32) v_rowsOf v_columnsOf v_textMany v_base v_at v_ends v_fault v_opened v_bentMany v_bentWrong v_moreWorn v_limit v_row v_column v_face v_worn v_lastBend v_tape v_text v_names v_bends)
    else (mm_bd1 (fX9_isCrease N x4 v_rowsOf v_columnsOf) (fun (r_2 : Bool) =>
    if r_2 = false then
    (fX9_bendsAll_53 N (fX9_bendsAll_18 N n) x1 x2 x3 x4 (0 : Int32) x4 v_rowsOf v_columnsOf v_textMany v_base v_at v_ends v_fault v_opened v_bentMany v_bentWrong v_moreWorn v_limit v_row v_column v_face v_worn v_lastBend v_tape v_text v_names v_bends)
    else (mm_bd1 (fX9_bendOf N x1 x4 x2 x3 v_columnsOf v_limit v_row v_column v_face v_worn) (fun (r_5 : Int32) =>
    fX9_bendsAll_53 N (fX9_bendsAll_18 N n) x1 x2 x3 x4 r_5 x4 v_rowsOf v_columnsOf v_textMany v_base v_at v_ends v_fault v_opened v_bentMany v_bentWrong v_moreWorn v_limit v_row v_column v_face v_worn v_lastBend v_tape v_text v_names v_bends))))

def fX9_bendsAll (N : Nat) (x1 : Int32) (x2 : Int32) (x3 : Int32) (v_rowsOf : Int32) (v_columnsOf : Int32) (v_textMany : Int32) (v_base : Int32) (v_at : Int32) (v_ends : Int32) (v_fault : Int32) (v_opened : Int32) (v_bentMany : Int32) (v_bentWrong : Int32) (v_moreWorn : Int32) (v_limit : List Int32) (v_row : List Int32) (v_column : List Int32) (v_face : List Int32) (v_worn : List Int32) (v_lastBend : List Int32) (v_tape : List Int32) (v_text : List Int32) (v_names : List Int32) (v_bends : List Int32) : Option (Int32 × Int32 × Int32 × Int32 × Int32 × Int32 × Int32 × Int32 × List Int32 × List Int32 × List Int32 × List Int32) :=
    fX9_bendsAll_18 N N x1 x2 x3 (0 : Int32) v_rowsOf v_columnsOf v_textMany v_base v_at v_ends v_fault v_opened (0 : Int32) (0 : Int32) (0 : Int32) v_limit v_row v_column v_face v_worn v_lastBend v_tape v_text v_names v_bends

def fX9_pileAt (N : Nat) (x0 : Int32) (x1 : Int32) : Option (Int32) :=
    some ((((8 : Int32) * x1) + x0))

def fX9_movesAll_154 (N : Nat) (k_118 : Int32 → Int32 → Int32 → Int32 → Int32 → Int32 → Int32 → Int32 → Int32 → Int32 → List Int32 → List Int32 → List Int32 → List Int32 → List Int32 → List Int32 → List Int32 → List Int32 → List Int32 → Option (List Int32 × List Int32 × List Int32 × List Int32 × List Int32 × List Int32 × List Int32 × List Int32 × List Int32)) (x1 : Int32) (x2 : Int32) (x4 : Int32) (x5 : Int32) (x6 : Int32) (x7 : Int32) (x8 : Int32) (x9 : Int32) (s0 : Int32) (s1 : Int32) (s2 : Int32) (s4 : Int32) (v_rowsOf : Int32) (v_columnsOf : Int32) (v_shapeRows : List Int32) (v_shapeColumns : List Int32) (v_row : List Int32) (v_column : List Int32) (v_below : List Int32) (v_face : List Int32) (v_high : List Int32) (v_to : List Int32) (v_pileSize : List Int32) : Option (List Int32 × List Int32 × List Int32 × List Int32 × List Int32 × List Int32 × List Int32 × List Int32 × List Int32) :=
    mm_bd1 (fX9_placeOf N s2 s1 s0 v_row v_column) (fun (r_21 : Int32) =>
    mm_bd1 (fX9_pileAt N s4 r_21) (fun (r_23 : Int32) =>
    mm_ck (mm_inb r_23 v_pileSize.length) (mm_nm (((mm_ig v_pileSize r_23) + (1 : Int32))) (fun (y_26 : Int32) =>
    mm_ck (mm_inb r_23 v_pileSize.length) (mm_nm (mm_is v_pileSize r_23 y_26) (fun (l_28 : List Int32) =>
    mm_nm (x9 + (1 : Int32)) (fun (y_29 : Int32) =>
    k_118 x1 x2 x4 x5 x6 x7 x8 y_29 v_rowsOf v_columnsOf v_shapeRows v_shapeColumns v_row v_column v_below v_face v_high v_to l_28)))))))

def fX9_movesAll_402 (N : Nat) (k_174 : Int32 → Int32 → Int32 → Int32 → Int32 → Int32 → Int32 → Int32 → Int32 → Int32 → List Int32 → List Int32 → List Int32 → List Int32 → List Int32 → List Int32 → List Int32 → List Int32 → List Int32 → Option (List Int32 × List Int32 × List Int32 × List Int32 × List Int32 × List Int32 × List Int32 × List Int32 × List Int32)) (x1 : Int32) (x2 : Int32) (x4 : Int32) (x5 : Int32) (x6 : Int32) (x7 : Int32) (x8 : Int32) (x9 : Int32) (v_rowsOf : Int32) (v_columnsOf : Int32) (v_shapeRows : List Int32) (v_shapeColumns : List Int32) (v_row : List Int32) (v_column : List Int32) (v_below : List Int32) (v_face : List Int32) (v_high : List Int32) (v_to : List Int32) (v_pileSize : List Int32) : Option (List Int32 × List Int32 × List Int32 × List Int32 × List Int32 × List Int32 × List Int32 × List Int32 × List Int32) :=
    mm_nm (x9 + (1 : Int32)) (fun (y_66 : Int32) =>
    k_174 x1 x2 x4 x5 x6 x7 x8 y_66 v_rowsOf v_columnsOf v_shapeRows v_shapeColumns v_row v_column v_below v_face v_high v_to v_pileSize)

def fX9_movesAll_326 (N : Nat) (k_174 : Int32 → Int32 → Int32 → Int32 → Int32 → Int32 → Int32 → Int32 → Int32 → Int32 → List Int32 → List Int32 → List Int32 → List Int32 → List Int32 → List Int32 → List Int32 → List Int32 → List Int32 → Option (List Int32 × List Int32 × List Int32 × List Int32 × List Int32 × List Int32 × List Int32 × List Int32 × List Int32)) (x1 : Int32) (x2 : Int32) (x4 : Int32) (x5 : Int32) (x6 : Int32) (x7 : Int32) (x8 : Int32) (x9 : Int32) (x10 : Int32) (x13 : Int32) (s0 : Int32) (s1 : Int32) (v_rowsOf : Int32) (v_columnsOf : Int32) (v_shapeRows : List Int32) (v_shapeColumns : List Int32) (v_row : List Int32) (v_column : List Int32) (v_below : List Int32) (v_face : List Int32) (v_high : List Int32) (v_to : List Int32) (v_pileSize : List Int32) : Option (List Int32 × List Int32 × List Int32 × List Int32 × List Int32 × List Int32 × List Int32 × List Int32 × List Int32) :=
    mm_ck (mm_inb s1 v_high.length) (mm_nm (mm_is v_high s1 s0) (fun (l_58 : List Int32) =>
    mm_ck (mm_inb x10 v_face.length) (mm_nm (((1 : Int32) - (mm_ig v_face x10))) (fun (y_60 : Int32) =>
    mm_ck (mm_inb x10 v_face.length) (mm_nm (mm_is v_face x10 y_60) (fun (l_62 : List Int32) =>
    mm_nm ((x13 - x8)) (fun (y_63 : Int32) =>
    mm_ck (mm_inb x9 v_to.length) (mm_nm (mm_is v_to x9 y_63) (fun (l_65 : List Int32) =>
    fX9_movesAll_402 N k_174 x1 x2 x4 x5 x6 x7 x8 x9 v_rowsOf v_columnsOf v_shapeRows v_shapeColumns v_row v_column v_below l_62 l_58 l_65 v_pileSize)))))))))

def fX9_movesAll_389 (N : Nat) (k_174 : Int32 → Int32 → Int32 → Int32 → Int32 → Int32 → Int32 → Int32 → Int32 → Int32 → List Int32 → List Int32 → List Int32 → List Int32 → List Int32 → List Int32 → List Int32 → List Int32 → List Int32 → Option (List Int32 × List Int32 × List Int32 × List Int32 × List Int32 × List Int32 × List Int32 × List Int32 × List Int32)) (x1 : Int32) (x2 : Int32) (x4 : Int32) (x5 : Int32) (x6 : Int32) (x7 : Int32) (x8 : Int32) (x9 : Int32) (x11 : Int32) (s0 : Int32) (s1 : Int32) (v_rowsOf : Int32) (v_columnsOf : Int32) (v_shapeRows : List Int32) (v_shapeColumns : List Int32) (v_row : List Int32) (v_column : List Int32) (v_below : List Int32) (v_face : List Int32) (v_high : List Int32) (v_to : List Int32) (v_pileSize : List Int32) : Option (List Int32 × List Int32 × List Int32 × List Int32 × List Int32 × List Int32 × List Int32 × List Int32 × List Int32) :=
    mm_ck (mm_inb s1 v_high.length) (mm_nm (mm_is v_high s1 s0) (fun (l_68 : List Int32) =>
    mm_nm ((x11 - x8)) (fun (y_69 : Int32) =>
    mm_ck (mm_inb x9 v_to.length) (mm_nm (mm_is v_to x9 y_69) (fun (l_71 : List Int32) =>
    fX9_movesAll_402 N k_174 x1 x2 x4 x5 x6 x7 x8 x9 v_rowsOf v_columnsOf v_shapeRows v_shapeColumns v_row v_column v_below v_face l_68 l_71 v_pileSize)))))

def fX9_movesAll_276 (N : Nat) (k_174 : Int32 → Int32 → Int32 → Int32 → Int32 → Int32 → Int32 → Int32 → Int32 → Int32 → List Int32 → List Int32 → List Int32 → List Int32 → List Int32 → List Int32 → List Int32 → List Int32 → List Int32 → Option (List Int32 × List Int32 × List Int32 × List Int32 × List Int32 × List Int32 × List Int32 × List Int32 × List Int32)) (x1 : Int32) (x2 : Int32) (x4 : Int32) (x5 : Int32) (x6 : Int32) (x7 : Int32) (x8 : Int32) (x9 : Int32) (x10 : Int32) (x11 : Int32) (x12 : Int32) (x13 : Int32) (x14 : Int32) (s0 : Int32) (v_rowsOf : Int32) (v_columnsOf : Int32) (v_shapeRows : List Int32) (v_shapeColumns : List Int32) (v_row : List Int32) (v_column : List Int32) (v_below : List Int32) (v_face : List Int32) (v_high : List Int32) (v_to : List Int32) (v_pileSize : List Int32) : Option (List Int32 × List Int32 × List Int32 × List Int32 × List Int32 × List Int32 × List Int32 × List Int32 × List Int32) :=
    if s0 = x5 then
    (mm_bd1 (fX9_pileAt N x11 x12) (fun (r_51 : Int32) =>
    mm_ck (mm_inb r_51 v_pileSize.length) (mm_ck (mm_inb x10 v_below.length) (mm_nm ((((mm_ig v_pileSize r_51) - (1 : Int32)) - (mm_ig v_below x10))) (fun (y_55 : Int32) =>
    if x6 = 0 then
    (fX9_movesAll_326 N k_174 x1 x2 x4 x5 x6 x7 x8 x9 x10 x13 y_55 x9 v_rowsOf v_columnsOf v_shapeRows v_shapeColumns v_row v_column v_below v_face v_high v_to v_pileSize)
    else (fX9_movesAll_326 N k_174 x1 x2 x4 x5 x6 x7 x8 x9 x10 x13 (y_55 + x14) x9 v_rowsOf v_columnsOf v_shapeRows v_shapeColumns v_row v_column v_below v_face v_high v_to v_pileSize))))))
    else (if x6 = 0 then
    (mm_ck (mm_inb x10 v_below.length) (fX9_movesAll_389 N k_174 x1 x2 x4 x5 x6 x7 x8 x9 x11 ((mm_ig v_below x10) + x14) x9 v_rowsOf v_columnsOf v_shapeRows v_shapeColumns v_row v_column v_below v_face v_high v_to v_pileSize))
    else (mm_ck (mm_inb x10 v_below.length) (fX9_movesAll_389 N k_174 x1 x2 x4 x5 x6 x7 x8 x9 x11 (mm_ig v_below x10) x9 v_rowsOf v_columnsOf v_shapeRows v_shapeColumns v_row v_column v_below v_face v_high v_to v_pileSize)))

def fX9_movesAll_263 (N : Nat) (k_174 : Int32 → Int32 → Int32 → Int32 → Int32 → Int32 → Int32 → Int32 → Int32 → Int32 → List Int32 → List Int32 → List Int32 → List Int32 → List Int32 → List Int32 → List Int32 → List Int32 → List Int32 → Option (List Int32 × List Int32 × List Int32 × List Int32 × List Int32 × List Int32 × List Int32 × List Int32 × List Int32)) (x1 : Int32) (x2 : Int32) (x4 : Int32) (x5 : Int32) (x6 : Int32) (x7 : Int32) (x8 : Int32) (x9 : Int32) (x10 : Int32) (x11 : Int32) (x12 : Int32) (x13 : Int32) (s0 : Int32) (v_rowsOf : Int32) (v_columnsOf : Int32) (v_shapeRows : List Int32) (v_shapeColumns : List Int32) (v_row : List Int32) (v_column : List Int32) (v_below : List Int32) (v_face : List Int32) (v_high : List Int32) (v_to : List Int32) (v_pileSize : List Int32) : Option (List Int32 × List Int32 × List Int32 × List Int32 × List Int32 × List Int32 × List Int32 × List Int32 × List Int32) :=
    if x2 ≤ x11 then
    (fX9_movesAll_276 N k_174 x1 x2 x4 x5 x6 x7 x8 x9 x10 x11 x12 x13 s0 (0 : Int32) v_rowsOf v_columnsOf v_shapeRows v_shapeColumns v_row v_column v_below v_face v_high v_to v_pileSize)
    else (fX9_movesAll_276 N k_174 x1 x2 x4 x5 x6 x7 x8 x9 x10 x11 x12 x13 s0 (1 : Int32) v_rowsOf v_columnsOf v_shapeRows v_shapeColumns v_row v_column v_below v_face v_high v_to v_pileSize)

def fX9_movesAll_217 (N : Nat) (k_174 : Int32 → Int32 → Int32 → Int32 → Int32 → Int32 → Int32 → Int32 → Int32 → Int32 → List Int32 → List Int32 → List Int32 → List Int32 → List Int32 → List Int32 → List Int32 → List Int32 → List Int32 → Option (List Int32 × List Int32 × List Int32 × List Int32 × List Int32 × List Int32 × List Int32 × List Int32 × List Int32)) (x1 : Int32) (x2 : Int32) (x4 : Int32) (x5 : Int32) (x6 : Int32) (x7 : Int32) (x8 : Int32) (x9 : Int32) (x10 : Int32) (x11 : Int32) (s0 : Int32) (s1 : Int32) (s2 : Int32) (v_rowsOf : Int32) (v_columnsOf : Int32) (v_shapeRows : List Int32) (v_shapeColumns : List Int32) (v_row : List Int32) (v_column : List Int32) (v_below : List Int32) (v_face : List Int32) (v_high : List Int32) (v_to : List Int32) (v_pileSize : List Int32) : Option (List Int32 × List Int32 × List Int32 × List Int32 × List Int32 × List Int32 × List Int32 × List Int32 × List Int32) :=
    mm_bd1 (fX9_placeOf N s2 s1 s0 v_row v_column) (fun (r_37 : Int32) =>
    mm_nm (((((2 : Int32) * x2) - (1 : Int32)) - x11)) (fun (y_39 : Int32) =>
    mm_bd1 (fX9_within N ((y_39).toInt64) (0 : Int64) ((x7 - (1 : Int32)).toInt64)) (fun (r_40 : Bool) =>
    if r_40 = false then
    (fX9_movesAll_263 N k_174 x1 x2 x4 x5 x6 x7 x8 x9 x10 x11 r_37 y_39 (0 : Int32) v_rowsOf v_columnsOf v_shapeRows v_shapeColumns v_row v_column v_below v_face v_high v_to v_pileSize)
    else (mm_bd1 (fX9_pileAt N y_39 r_37) (fun (r_43 : Int32) =>
    mm_ck (mm_inb r_43 v_pileSize.length) (fX9_movesAll_263 N k_174 x1 x2 x4 x5 x6 x7 x8 x9 x10 x11 r_37 y_39 (mm_ig v_pileSize r_43) v_rowsOf v_columnsOf v_shapeRows v_shapeColumns v_row v_column v_below v_face v_high v_to v_pileSize))))))

def fX9_movesAll_485 (N : Nat) (k_411 : Int32 → Int32 → Int32 → Int32 → Int32 → Int32 → Int32 → List Int32 → List Int32 → List Int32 → List Int32 → List Int32 → List Int32 → List Int32 → List Int32 → List Int32 → Option (List Int32 × List Int32 × List Int32 × List Int32 × List Int32 × List Int32 × List Int32 × List Int32 × List Int32)) (x1 : Int32) (x2 : Int32) (x4 : Int32) (x7 : Int32) (x9 : Int32) (v_rowsOf : Int32) (v_columnsOf : Int32) (v_shapeRows : List Int32) (v_shapeColumns : List Int32) (v_row : List Int32) (v_column : List Int32) (v_below : List Int32) (v_face : List Int32) (v_high : List Int32) (v_to : List Int32) (v_pileSize : List Int32) : Option (List Int32 × List Int32 × List Int32 × List Int32 × List Int32 × List Int32 × List Int32 × List Int32 × List Int32) :=
    mm_nm (x9 + (1 : Int32)) (fun (y_89 : Int32) =>
    k_411 x1 x2 x4 x7 y_89 v_rowsOf v_columnsOf v_shapeRows v_shapeColumns v_row v_column v_below v_face v_high v_to v_pileSize)

def fX9_movesAll_507 (N : Nat)  (x1 : Int32) (x4 : Int32) (s0 : Int32) (v_rowsOf : Int32) (v_columnsOf : Int32) (v_shapeRows : List Int32) (v_shapeColumns : List Int32) (v_row : List Int32) (v_column : List Int32) (v_below : List Int32) (v_face : List Int32) (v_high : List Int32) (v_to : List Int32) (v_pileSize : List Int32) : Option (List Int32 × List Int32 × List Int32 × List Int32 × List Int32 × List Int32 × List Int32 × List Int32 × List Int32) :=
    if x4 = 0 then
    (mm_ck (mm_inb x1 v_shapeRows.length) (mm_nm (mm_is v_shapeRows x1 s0) (fun (l_92 : List Int32) =>
    some (l_92, v_shapeColumns, v_row, v_column, v_below, v_face, v_high, v_to, v_pileSize))))
    else (mm_ck (mm_inb x1 v_shapeColumns.length) (mm_nm (mm_is v_shapeColumns x1 s0) (fun (l_94 : List Int32) =>
    some (v_shapeRows, l_94, v_row, v_column, v_below, v_face, v_high, v_to, v_pileSize))))

def fX9_movesAll_411 (N : Nat)  : Nat → Int32 → Int32 → Int32 → Int32 → Int32 → Int32 → Int32 → List Int32 → List Int32 → List Int32 → List Int32 → List Int32 → List Int32 → List Int32 → List Int32 → List Int32 → Option (List Int32 × List Int32 × List Int32 × List Int32 × List Int32 × List Int32 × List Int32 × List Int32 × List Int32)
  | 0 => fun _ _ _ _ _ _ _ _ _ _ _ _ _ _ _ _ => none
  | n + 1 => fun x1 x2 x4 x7 x9 v_rowsOf v_columnsOf v_shapeRows v_shapeColumns v_row v_column v_below v_face v_high v_to v_pileSize =>
    mm_bd1 (fX9_fields N v_rowsOf v_columnsOf) (fun (r_72 : Int32) =>
    if r_72 ≤ x9 then
    (if x2 ≤ (x7 - x2) then
    (fX9_movesAll_507 N x1 x4 (x7 - x2) v_rowsOf v_columnsOf v_shapeRows v_shapeColumns v_row v_column v_below v_face v_high v_to v_pileSize)
    else (fX9_movesAll_507 N x1 x4 x2 v_rowsOf v_columnsOf v_shapeRows v_shapeColumns v_row v_column v_below v_face v_high v_to v_pileSize))
    else (mm_ck (mm_inb x9 v_high.length) (mm_nm ((mm_ig v_high x9)) (fun (y_77 : Int32) =>
    mm_ck (mm_inb (((32 : Int32) * x1) + x9) v_below.length) (mm_nm (mm_is v_below (((32 : Int32) * x1) + x9) y_77) (fun (l_79 : List Int32) =>
    if x4 = 0 then
    (mm_ck (mm_inb x9 v_to.length) (mm_nm ((mm_ig v_to x9)) (fun (y_82 : Int32) =>
    mm_ck (mm_inb (((32 : Int32) * x1) + x9) v_row.length) (mm_nm (mm_is v_row (((32 : Int32) * x1) + x9) y_82) (fun (l_84 : List Int32) =>
    fX9_movesAll_485 N (fX9_movesAll_411 N n) x1 x2 x4 x7 x9 v_rowsOf v_columnsOf v_shapeRows v_shapeColumns l_84 v_column l_79 v_face v_high v_to v_pileSize)))))
    else (mm_ck (mm_inb x9 v_to.length) (mm_nm ((mm_ig v_to x9)) (fun (y_86 : Int32) =>
    mm_ck (mm_inb (((32 : Int32) * x1) + x9) v_column.length) (mm_nm (mm_is v_column (((32 : Int32) * x1) + x9) y_86) (fun (l_88 : List Int32) =>
    fX9_movesAll_485 N (fX9_movesAll_411 N n) x1 x2 x4 x7 x9 v_rowsOf v_columnsOf v_shapeRows v_shapeColumns v_row l_88 l_79 v_face v_high v_to v_pileSize)))))))))))

def fX9_movesAll_174 (N : Nat)  : Nat → Int32 → Int32 → Int32 → Int32 → Int32 → Int32 → Int32 → Int32 → Int32 → Int32 → List Int32 → List Int32 → List Int32 → List Int32 → List Int32 → List Int32 → List Int32 → List Int32 → List Int32 → Option (List Int32 × List Int32 × List Int32 × List Int32 × List Int32 × List Int32 × List Int32 × List Int32 × List Int32)
  | 0 => fun _ _ _ _ _ _ _ _ _ _ _ _ _ _ _ _ _ _ _ => none
  | n + 1 => fun x1 x2 x4 x5 x6 x7 x8 x9 v_rowsOf v_columnsOf v_shapeRows v_shapeColumns v_row v_column v_below v_face v_high v_to v_pileSize =>
    mm_bd1 (fX9_fields N v_rowsOf v_columnsOf) (fun (r_30 : Int32) =>
    if r_30 ≤ x9 then
    (fX9_movesAll_411 N N x1 x2 x4 x7 (0 : Int32) v_rowsOf v_columnsOf v_shapeRows v_shapeColumns v_row v_column v_below v_face v_high v_to v_pileSize)
    else (mm_nm ((((32 : Int32) * x1) + x9)) (fun (y_33 : Int32) =>
    mm_bd1 (fX9_placeOf N x1 x9 x4 v_row v_column) (fun (r_34 : Int32) =>
    if x4 = 0 then
    (fX9_movesAll_217 N (fX9_movesAll_174 N n) x1 x2 x4 x5 x6 x7 x8 x9 y_33 r_34 (1 : Int32) x9 x1 v_rowsOf v_columnsOf v_shapeRows v_shapeColumns v_row v_column v_below v_face v_high v_to v_pileSize)
    else (fX9_movesAll_217 N (fX9_movesAll_174 N n) x1 x2 x4 x5 x6 x7 x8 x9 y_33 r_34 (0 : Int32) x9 x1 v_rowsOf v_columnsOf v_shapeRows v_shapeColumns v_row v_column v_below v_face v_high v_to v_pileSize)))))

def fX9_movesAll_118 (N : Nat)  : Nat → Int32 → Int32 → Int32 → Int32 → Int32 → Int32 → Int32 → Int32 → Int32 → Int32 → List Int32 → List Int32 → List Int32 → List Int32 → List Int32 → List Int32 → List Int32 → List Int32 → List Int32 → Option (List Int32 × List Int32 × List Int32 × List Int32 × List Int32 × List Int32 × List Int32 × List Int32 × List Int32)
  | 0 => fun _ _ _ _ _ _ _ _ _ _ _ _ _ _ _ _ _ _ _ => none
  | n + 1 => fun x1 x2 x4 x5 x6 x7 x8 x9 v_rowsOf v_columnsOf v_shapeRows v_shapeColumns v_row v_column v_below v_face v_high v_to v_pileSize =>
    mm_bd1 (fX9_fields N v_rowsOf v_columnsOf) (fun (r_15 : Int32) =>
    if r_15 ≤ x9 then
    (fX9_movesAll_174 N N x1 x2 x4 x5 x6 x7 x8 (0 : Int32) v_rowsOf v_columnsOf v_shapeRows v_shapeColumns v_row v_column v_below v_face v_high v_to v_pileSize)
    else (mm_bd1 (fX9_placeOf N x1 x9 x4 v_row v_column) (fun (r_18 : Int32) =>
    if x4 = 0 then
    (fX9_movesAll_154 N (fX9_movesAll_118 N n) x1 x2 x4 x5 x6 x7 x8 x9 (1 : Int32) x9 x1 r_18 v_rowsOf v_columnsOf v_shapeRows v_shapeColumns v_row v_column v_below v_face v_high v_to v_pileSize)
    else (fX9_movesAll_154 N (fX9_movesAll_118 N n) x1 x2 x4 x5 x6 x7 x8 x9 (0 : Int32) x9 x1 r_18 v_rowsOf v_columnsOf v_shapeRows v_shapeColumns v_row v_column v_below v_face v_high v_to v_pileSize))))

def fX9_movesAll_94 (N : Nat)  : Nat → Int32 → Int32 → Int32 → Int32 → Int32 → Int32 → Int32 → Int32 → Int32 → Int32 → List Int32 → List Int32 → List Int32 → List Int32 → List Int32 → List Int32 → List Int32 → List Int32 → List Int32 → Option (List Int32 × List Int32 × List Int32 × List Int32 × List Int32 × List Int32 × List Int32 × List Int32 × List Int32)
  | 0 => fun _ _ _ _ _ _ _ _ _ _ _ _ _ _ _ _ _ _ _ => none
  | n + 1 => fun x1 x2 x4 x5 x6 x7 x8 x9 v_rowsOf v_columnsOf v_shapeRows v_shapeColumns v_row v_column v_below v_face v_high v_to v_pileSize =>
    if (64 : Int32) ≤ x9 then
    (fX9_movesAll_118 N N x1 x2 x4 x5 x6 x7 x8 (0 : Int32) v_rowsOf v_columnsOf v_shapeRows v_shapeColumns v_row v_column v_below v_face v_high v_to v_pileSize)
    else (mm_ck (mm_inb x9 v_pileSize.length) (mm_nm (mm_is v_pileSize x9 (0 : Int32)) (fun (l_13 : List Int32) =>
    mm_nm (x9 + (1 : Int32)) (fun (y_14 : Int32) =>
    fX9_movesAll_94 N n x1 x2 x4 x5 x6 x7 x8 y_14 v_rowsOf v_columnsOf v_shapeRows v_shapeColumns v_row v_column v_below v_face v_high v_to l_13))))

def fX9_movesAll_89 (N : Nat)  (x1 : Int32) (x2 : Int32) (x4 : Int32) (x5 : Int32) (x6 : Int32) (x7 : Int32) (s0 : Int32) (v_rowsOf : Int32) (v_columnsOf : Int32) (v_shapeRows : List Int32) (v_shapeColumns : List Int32) (v_row : List Int32) (v_column : List Int32) (v_below : List Int32) (v_face : List Int32) (v_high : List Int32) (v_to : List Int32) (v_pileSize : List Int32) : Option (List Int32 × List Int32 × List Int32 × List Int32 × List Int32 × List Int32 × List Int32 × List Int32 × List Int32) :=
    fX9_movesAll_94 N N x1 x2 x4 x5 x6 x7 s0 (0 : Int32) v_rowsOf v_columnsOf v_shapeRows v_shapeColumns v_row v_column v_below v_face v_high v_to v_pileSize

def fX9_movesAll_59 (N : Nat)  (x1 : Int32) (x2 : Int32) (x4 : Int32) (x5 : Int32) (x6 : Int32) (s0 : Int32) (v_rowsOf : Int32) (v_columnsOf : Int32) (v_shapeRows : List Int32) (v_shapeColumns : List Int32) (v_row : List Int32) (v_column : List Int32) (v_below : List Int32) (v_face : List Int32) (v_high : List Int32) (v_to : List Int32) (v_pileSize : List Int32) : Option (List Int32 × List Int32 × List Int32 × List Int32 × List Int32 × List Int32 × List Int32 × List Int32 × List Int32) :=
    if x5 = 0 then
    (if 0 ≤ (((2 : Int32) * x2) - s0) then
    (fX9_movesAll_89 N x1 x2 x4 x5 x6 s0 (0 : Int32) v_rowsOf v_columnsOf v_shapeRows v_shapeColumns v_row v_column v_below v_face v_high v_to v_pileSize)
    else (fX9_movesAll_89 N x1 x2 x4 x5 x6 s0 (((2 : Int32) * x2) - s0) v_rowsOf v_columnsOf v_shapeRows v_shapeColumns v_row v_column v_below v_face v_high v_to v_pileSize))
    else (fX9_movesAll_89 N x1 x2 x4 x5 x6 s0 x2 v_rowsOf v_columnsOf v_shapeRows v_shapeColumns v_row v_column v_below v_face v_high v_to v_pileSize)

def fX9_movesAll_37 (N : Nat)  (x1 : Int32) (x2 : Int32) (x4 : Int32) (x5 : Int32) (s0 : Int32) (v_rowsOf : Int32) (v_columnsOf : Int32) (v_shapeRows : List Int32) (v_shapeColumns : List Int32) (v_row : List Int32) (v_column : List Int32) (v_below : List Int32) (v_face : List Int32) (v_high : List Int32) (v_to : List Int32) (v_pileSize : List Int32) : Option (List Int32 × List Int32 × List Int32 × List Int32 × List Int32 × List Int32 × List Int32 × List Int32 × List Int32) :=
    if x4 = 0 then
    (mm_ck (mm_inb x1 v_shapeRows.length) (fX9_movesAll_59 N x1 x2 x4 x5 s0 (mm_ig v_shapeRows x1) v_rowsOf v_columnsOf v_shapeRows v_shapeColumns v_row v_column v_below v_face v_high v_to v_pileSize))
    else (mm_ck (mm_inb x1 v_shapeColumns.length) (fX9_movesAll_59 N x1 x2 x4 x5 s0 (mm_ig v_shapeColumns x1) v_rowsOf v_columnsOf v_shapeRows v_shapeColumns v_row v_column v_below v_face v_high v_to v_pileSize))

def fX9_movesAll_24 (N : Nat)  (x1 : Int32) (x2 : Int32) (x3 : Int32) (x4 : Int32) (s0 : Int32) (v_rowsOf : Int32) (v_columnsOf : Int32) (v_shapeRows : List Int32) (v_shapeColumns : List Int32) (v_row : List Int32) (v_column : List Int32) (v_below : List Int32) (v_face : List Int32) (v_high : List Int32) (v_to : List Int32) (v_pileSize : List Int32) : Option (List Int32 × List Int32 × List Int32 × List Int32 × List Int32 × List Int32 × List Int32 × List Int32 × List Int32) :=
    mm_ck (mm_nz (2 : Int32)) (if (mm_rem x3 (2 : Int32)) = 0 then
    (fX9_movesAll_37 N x1 x2 x4 s0 (1 : Int32) v_rowsOf v_columnsOf v_shapeRows v_shapeColumns v_row v_column v_below v_face v_high v_to v_pileSize)
    else (fX9_movesAll_37 N x1 x2 x4 s0 (0 : Int32) v_rowsOf v_columnsOf v_shapeRows v_shapeColumns v_row v_column v_below v_face v_high v_to v_pileSize))

def fX9_movesAll_10 (N : Nat)  (x1 : Int32) (x2 : Int32) (x3 : Int32) (s0 : Int32) (v_rowsOf : Int32) (v_columnsOf : Int32) (v_shapeRows : List Int32) (v_shapeColumns : List Int32) (v_row : List Int32) (v_column : List Int32) (v_below : List Int32) (v_face : List Int32) (v_high : List Int32) (v_to : List Int32) (v_pileSize : List Int32) : Option (List Int32 × List Int32 × List Int32 × List Int32 × List Int32 × List Int32 × List Int32 × List Int32 × List Int32) :=
    mm_ck (mm_nz (4 : Int32)) (if (2 : Int32) ≤ (mm_rem x3 (4 : Int32)) then
    (fX9_movesAll_24 N x1 x2 x3 s0 (0 : Int32) v_rowsOf v_columnsOf v_shapeRows v_shapeColumns v_row v_column v_below v_face v_high v_to v_pileSize)
    else (fX9_movesAll_24 N x1 x2 x3 s0 (1 : Int32) v_rowsOf v_columnsOf v_shapeRows v_shapeColumns v_row v_column v_below v_face v_high v_to v_pileSize))

def fX9_movesAll (N : Nat) (x1 : Int32) (x2 : Int32) (x3 : Int32) (v_rowsOf : Int32) (v_columnsOf : Int32) (v_shapeRows : List Int32) (v_shapeColumns : List Int32) (v_row : List Int32) (v_column : List Int32) (v_below : List Int32) (v_face : List Int32) (v_high : List Int32) (v_to : List Int32) (v_pileSize : List Int32) : Option (List Int32 × List Int32 × List Int32 × List Int32 × List Int32 × List Int32 × List Int32 × List Int32 × List Int32) :=
    if (4 : Int32) ≤ x3 then
    (fX9_movesAll_10 N x1 x2 x3 (0 : Int32) v_rowsOf v_columnsOf v_shapeRows v_shapeColumns v_row v_column v_below v_face v_high v_to v_pileSize)
    else (fX9_movesAll_10 N x1 x2 x3 (1 : Int32) v_rowsOf v_columnsOf v_shapeRows v_shapeColumns v_row v_column v_below v_face v_high v_to v_pileSize)

def fX9_foldsOn (N : Nat) (x1 : Int32) (x2 : Int32) (x3 : Int32) (v_rowsOf : Int32) (v_columnsOf : Int32) (v_textMany : Int32) (v_base : Int32) (v_at : Int32) (v_ends : Int32) (v_fault : Int32) (v_opened : Int32) (v_bentMany : Int32) (v_bentWrong : Int32) (v_moreWorn : Int32) (v_limit : List Int32) (v_shapeRows : List Int32) (v_shapeColumns : List Int32) (v_row : List Int32) (v_column : List Int32) (v_below : List Int32) (v_face : List Int32) (v_worn : List Int32) (v_lastBend : List Int32) (v_tape : List Int32) (v_text : List Int32) (v_names : List Int32) (v_bends : List Int32) (v_high : List Int32) (v_to : List Int32) (v_pileSize : List Int32) : Option (Int32 × Int32 × Int32 × Int32 × Int32 × Int32 × Int32 × Int32 × List Int32 × List Int32 × List Int32 × List Int32 × List Int32 × List Int32 × List Int32 × List Int32 × List Int32 × List Int32 × List Int32 × List Int32 × List Int32) :=
    mm_bd12 (fX9_bendsAll N x1 x2 x3 v_rowsOf v_columnsOf v_textMany v_base v_at v_ends v_fault v_opened v_bentMany v_bentWrong v_moreWorn v_limit v_row v_column v_face v_worn v_lastBend v_tape v_text v_names v_bends) (fun (w_1 : Int32) (w_2 : Int32) (w_3 : Int32) (w_4 : Int32) (w_5 : Int32) (w_6 : Int32) (w_7 : Int32) (w_8 : Int32) (w_9 : List Int32) (w_10 : List Int32) (w_11 : List Int32) (w_12 : List Int32) =>
    mm_bd9 (fX9_movesAll N x1 x2 x3 v_rowsOf v_columnsOf v_shapeRows v_shapeColumns v_row v_column v_below v_face v_high v_to v_pileSize) (fun (w_14 : List Int32) (w_15 : List Int32) (w_16 : List Int32) (w_17 : List Int32) (w_18 : List Int32) (w_19 : List Int32) (w_20 : List Int32) (w_21 : List Int32) (w_22 : List Int32) =>
    some (w_1, w_2, w_3, w_4, w_5, w_6, w_7, w_8, w_14, w_15, w_16, w_17, w_18, w_19, w_9, w_10, w_11, w_12, w_20, w_21, w_22)))

def fX9_fold (N : Nat) (x1 : Int32) (x2 : Int32) (v_rowsOf : Int32) (v_columnsOf : Int32) (v_folded : Int32) (v_wronged : Int32) (v_textMany : Int32) (v_base : Int32) (v_at : Int32) (v_ends : Int32) (v_fault : Int32) (v_opened : Int32) (v_bentMany : Int32) (v_bentWrong : Int32) (v_moreWorn : Int32) (v_limit : List Int32) (v_shapeRows : List Int32) (v_shapeColumns : List Int32) (v_row : List Int32) (v_column : List Int32) (v_below : List Int32) (v_face : List Int32) (v_worn : List Int32) (v_lastBend : List Int32) (v_tape : List Int32) (v_text : List Int32) (v_names : List Int32) (v_bends : List Int32) (v_high : List Int32) (v_to : List Int32) (v_pileSize : List Int32) : Option (Int32 × Int32 × Int32 × Int32 × Int32 × Int32 × Int32 × Int32 × Int32 × Int32 × Int32 × List Int32 × List Int32 × List Int32 × List Int32 × List Int32 × List Int32 × List Int32 × List Int32 × List Int32 × List Int32 × List Int32 × List Int32 × List Int32) :=
    mm_bd1 (fX9_within N ((x2).toInt64) (0 : Int64) (7 : Int64)) (fun (r_1 : Bool) =>
    if r_1 = false then
    (some ((-1 : Int32), v_folded, v_wronged, v_base, v_at, v_ends, v_fault, v_opened, v_bentMany, v_bentWrong, v_moreWorn, v_shapeRows, v_shapeColumns, v_row, v_column, v_below, v_face, v_worn, v_lastBend, v_names, v_bends, v_high, v_to, v_pileSize))
    else (mm_bd1 (fX9_isLine N (0 : Int32) x1 x2 v_shapeRows v_shapeColumns) (fun (r_4 : Bool) =>
    if r_4 = false then
    (some ((-2 : Int32), v_folded, v_wronged, v_base, v_at, v_ends, v_fault, v_opened, v_bentMany, v_bentWrong, v_moreWorn, v_shapeRows, v_shapeColumns, v_row, v_column, v_below, v_face, v_worn, v_lastBend, v_names, v_bends, v_high, v_to, v_pileSize))
    else (mm_bd21 (fX9_foldsOn N (0 : Int32) x1 x2 v_rowsOf v_columnsOf v_textMany v_base v_at v_ends v_fault v_opened v_bentMany v_bentWrong v_moreWorn v_limit v_shapeRows v_shapeColumns v_row v_column v_below v_face v_worn v_lastBend v_tape v_text v_names v_bends v_high v_to v_pileSize) (fun (w_7 : Int32) (w_8 : Int32) (w_9 : Int32) (w_10 : Int32) (w_11 : Int32) (w_12 : Int32) (w_13 : Int32) (w_14 : Int32) (w_15 : List Int32) (w_16 : List Int32) (w_17 : List Int32) (w_18 : List Int32) (w_19 : List Int32) (w_20 : List Int32) (w_21 : List Int32) (w_22 : List Int32) (w_23 : List Int32) (w_24 : List Int32) (w_25 : List Int32) (w_26 : List Int32) (w_27 : List Int32) =>
    mm_nm ((v_folded + (1 : Int32))) (fun (y_29 : Int32) =>
    mm_nm ((v_wronged + w_13)) (fun (y_30 : Int32) =>
    some (w_12, y_29, y_30, w_7, w_8, w_9, w_10, w_11, w_12, w_13, w_14, w_15, w_16, w_17, w_18, w_19, w_20, w_21, w_22, w_23, w_24, w_25, w_26, w_27))))))))

def fX9_flat (N : Nat) (v_rowsOf : Int32) (v_columnsOf : Int32) (v_shapeRows : List Int32) (v_shapeColumns : List Int32) (v_row : List Int32) (v_column : List Int32) (v_below : List Int32) (v_face : List Int32) : Option (Int32 × List Int32 × List Int32 × List Int32 × List Int32 × List Int32 × List Int32) :=
    mm_ck (mm_inb (0 : Int32) v_shapeRows.length) (mm_ck (mm_inb (0 : Int32) v_shapeColumns.length) (mm_nm (((mm_ig v_shapeRows (0 : Int32)) * (mm_ig v_shapeColumns (0 : Int32)))) (fun (y_3 : Int32) =>
    mm_bd6 (fX9_liesFlat N (0 : Int32) v_rowsOf v_columnsOf v_shapeRows v_shapeColumns v_row v_column v_below v_face) (fun (w_4 : List Int32) (w_5 : List Int32) (w_6 : List Int32) (w_7 : List Int32) (w_8 : List Int32) (w_9 : List Int32) =>
    some (y_3, w_4, w_5, w_6, w_7, w_8, w_9)))))

def fX9_crease (N : Nat) (x1 : Int32) (x2 : Int32) (v_rowsOf : Int32) (v_columnsOf : Int32) (v_limit : List Int32) (v_worn : List Int32) (v_lastBend : List Int32) : Option (Int32) :=
    if x1 < 0 then
    (some ((-1 : Int32)))
    else (mm_ck (mm_nz (10 : Int32)) (if (1 : Int32) < (mm_rem x1 (10 : Int32)) then
    (some ((-1 : Int32)))
    else (mm_ck (mm_nz (10 : Int32)) (mm_ck (mm_nz (10 : Int32)) (mm_bd1 (fX9_isCrease N (((2 : Int32) * (x1 / (10 : Int32))) + (mm_rem x1 (10 : Int32))) v_rowsOf v_columnsOf) (fun (r_6 : Bool) =>
    if r_6 = false then
    (some ((-1 : Int32)))
    else (mm_bd1 (fX9_within N ((x2).toInt64) (0 : Int64) (2 : Int64)) (fun (r_9 : Bool) =>
    if r_9 = false then
    (some ((-1 : Int32)))
    else (mm_ck (mm_nz (10 : Int32)) (mm_ck (mm_nz (10 : Int32)) (mm_nm ((((2 : Int32) * (x1 / (10 : Int32))) + (mm_rem x1 (10 : Int32)))) (fun (y_14 : Int32) =>
    if x2 = 0 then
    (mm_ck (mm_inb y_14 v_worn.length) (some ((mm_ig v_worn y_14))))
    else (if x2 = (1 : Int32) then
    (mm_ck (mm_inb y_14 v_lastBend.length) (some ((mm_ig v_lastBend y_14))))
    else (mm_ck (mm_inb y_14 v_worn.length) (mm_ck (mm_inb (0 : Int32) v_limit.length) (if (mm_ig v_worn y_14) < (mm_ig v_limit (0 : Int32)) then
    (some ((0 : Int32)))
    else (some ((1 : Int32)))))))))))))))))))

def fX9_sizeAt_54 (N : Nat) (k_6 : Int32 → Int32 → Int32 → Int32 → Int32 → Int32 → Int32 → List Int32 → List Int32 → Option (Int32)) (x1 : Int32) (x2 : Int32) (x3 : Int32) (x5 : Int32) (s0 : Int32) (s1 : Int32) (v_rowsOf : Int32) (v_columnsOf : Int32) (v_row : List Int32) (v_column : List Int32) : Option (Int32) :=
    mm_nm ((s1 + s0)) (fun (y_8 : Int32) =>
    mm_nm (x5 + (1 : Int32)) (fun (y_9 : Int32) =>
    k_6 x1 x2 x3 y_8 y_9 v_rowsOf v_columnsOf v_row v_column))

def fX9_sizeAt_53 (N : Nat) (k_6 : Int32 → Int32 → Int32 → Int32 → Int32 → Int32 → Int32 → List Int32 → List Int32 → Option (Int32)) (x1 : Int32) (x2 : Int32) (x3 : Int32) (x5 : Int32) (s0 : Int32) (v_rowsOf : Int32) (v_columnsOf : Int32) (v_row : List Int32) (v_column : List Int32) : Option (Int32) :=
    fX9_sizeAt_54 N k_6 x1 x2 x3 x5 (0 : Int32) s0 v_rowsOf v_columnsOf v_row v_column

def fX9_sizeAt_6 (N : Nat)  : Nat → Int32 → Int32 → Int32 → Int32 → Int32 → Int32 → Int32 → List Int32 → List Int32 → Option (Int32)
  | 0 => fun _ _ _ _ _ _ _ _ _ => none
  | n + 1 => fun x1 x2 x3 x4 x5 v_rowsOf v_columnsOf v_row v_column =>
    mm_bd1 (fX9_fields N v_rowsOf v_columnsOf) (fun (r_1 : Int32) =>
    if r_1 ≤ x5 then
    (some (x4))
    else (mm_ck (mm_inb (((32 : Int32) * x1) + x5) v_row.length) (if (mm_ig v_row (((32 : Int32) * x1) + x5)) = x2 then
    (mm_ck (mm_inb (((32 : Int32) * x1) + x5) v_column.length) (if (mm_ig v_column (((32 : Int32) * x1) + x5)) = x3 then
    (fX9_sizeAt_54 N (fX9_sizeAt_6 N n) x1 x2 x3 x5 (1 : Int32) x4 v_rowsOf v_columnsOf v_row v_column)
    else (fX9_sizeAt_53 N (fX9_sizeAt_6 N n) x1 x2 x3 x5 x4 v_rowsOf v_columnsOf v_row v_column)))
    else (fX9_sizeAt_53 N (fX9_sizeAt_6 N n) x1 x2 x3 x5 x4 v_rowsOf v_columnsOf v_row v_column))))

def fX9_sizeAt (N : Nat) (x1 : Int32) (x2 : Int32) (x3 : Int32) (v_rowsOf : Int32) (v_columnsOf : Int32) (v_row : List Int32) (v_column : List Int32) : Option (Int32) :=
    fX9_sizeAt_6 N N x1 x2 x3 (0 : Int32) (0 : Int32) v_rowsOf v_columnsOf v_row v_column

def fX9_fieldAt_58 (N : Nat) (k_3 : Int32 → Int32 → Int32 → Int32 → Int32 → Int32 → Int32 → List Int32 → List Int32 → List Int32 → Option (Int32)) (x1 : Int32) (x2 : Int32) (x3 : Int32) (x4 : Int32) (x5 : Int32) (v_rowsOf : Int32) (v_columnsOf : Int32) (v_row : List Int32) (v_column : List Int32) (v_below : List Int32) : Option (Int32) :=
    mm_nm (x5 + (1 : Int32)) (fun (y_11 : Int32) =>
    k_3 x1 x2 x3 x4 y_11 v_rowsOf v_columnsOf v_row v_column v_below)

def fX9_fieldAt_3 (N : Nat)  : Nat → Int32 → Int32 → Int32 → Int32 → Int32 → Int32 → Int32 → List Int32 → List Int32 → List Int32 → Option (Int32)
  | 0 => fun _ _ _ _ _ _ _ _ _ _ => none
  | n + 1 => fun x1 x2 x3 x4 x5 v_rowsOf v_columnsOf v_row v_column v_below =>
    mm_bd1 (fX9_fields N v_rowsOf v_columnsOf) (fun (r_1 : Int32) =>
    if r_1 ≤ x5 then
    (some ((-1 : Int32)))
    else (mm_nm ((((32 : Int32) * x1) + x5)) (fun (y_4 : Int32) =>
    mm_ck (mm_inb y_4 v_row.length) (if (mm_ig v_row y_4) = x2 then
    (mm_ck (mm_inb y_4 v_column.length) (if (mm_ig v_column y_4) = x3 then
    (mm_ck (mm_inb y_4 v_below.length) (if (mm_ig v_below y_4) = x4 then
    (some (x5))
    else (fX9_fieldAt_58 N (fX9_fieldAt_3 N n) x1 x2 x3 x4 x5 v_rowsOf v_columnsOf v_row v_column v_below)))
    else (fX9_fieldAt_58 N (fX9_fieldAt_3 N n) x1 x2 x3 x4 x5 v_rowsOf v_columnsOf v_row v_column v_below)))
    else (fX9_fieldAt_58 N (fX9_fieldAt_3 N n) x1 x2 x3 x4 x5 v_rowsOf v_columnsOf v_row v_column v_below)))))

def fX9_fieldAt (N : Nat) (x1 : Int32) (x2 : Int32) (x3 : Int32) (x4 : Int32) (v_rowsOf : Int32) (v_columnsOf : Int32) (v_row : List Int32) (v_column : List Int32) (v_below : List Int32) : Option (Int32) :=
    fX9_fieldAt_3 N N x1 x2 x3 x4 (0 : Int32) v_rowsOf v_columnsOf v_row v_column v_below

def fX9_shape_36 (N : Nat) (k_4 : Int32 → Int32 → Int32 → Int32 → Int32 → List Int32 → List Int32 → List Int32 → Option (Int32)) (x1 : Int32) (x3 : Int32) (s0 : Int32) (v_rowsOf : Int32) (v_columnsOf : Int32) (v_shapeRows : List Int32) (v_shapeColumns : List Int32) (v_below : List Int32) : Option (Int32) :=
    mm_nm (x3 + (1 : Int32)) (fun (y_12 : Int32) =>
    k_4 x1 s0 y_12 v_rowsOf v_columnsOf v_shapeRows v_shapeColumns v_below)

def fX9_shape_4 (N : Nat)  : Nat → Int32 → Int32 → Int32 → Int32 → Int32 → List Int32 → List Int32 → List Int32 → Option (Int32)
  | 0 => fun _ _ _ _ _ _ _ _ => none
  | n + 1 => fun x1 x2 x3 v_rowsOf v_columnsOf v_shapeRows v_shapeColumns v_below =>
    mm_bd1 (fX9_fields N v_rowsOf v_columnsOf) (fun (r_1 : Int32) =>
    if r_1 ≤ x3 then
    (if x1 = 0 then
    (mm_ck (mm_inb (0 : Int32) v_shapeRows.length) (some ((mm_ig v_shapeRows (0 : Int32)))))
    else (if x1 = (1 : Int32) then
    (mm_ck (mm_inb (0 : Int32) v_shapeColumns.length) (some ((mm_ig v_shapeColumns (0 : Int32)))))
    else (if x1 = (2 : Int32) then
    (some (x2))
    else (some ((-1 : Int32))))))
    else (mm_ck (mm_inb x3 v_below.length) (if ((mm_ig v_below x3) + (1 : Int32)) ≤ x2 then
    (fX9_shape_36 N (fX9_shape_4 N n) x1 x3 x2 v_rowsOf v_columnsOf v_shapeRows v_shapeColumns v_below)
    else (mm_ck (mm_inb x3 v_below.length) (fX9_shape_36 N (fX9_shape_4 N n) x1 x3 ((mm_ig v_below x3) + (1 : Int32)) v_rowsOf v_columnsOf v_shapeRows v_shapeColumns v_below)))))

def fX9_shape (N : Nat) (x1 : Int32) (v_rowsOf : Int32) (v_columnsOf : Int32) (v_shapeRows : List Int32) (v_shapeColumns : List Int32) (v_below : List Int32) : Option (Int32) :=
    fX9_shape_4 N N x1 (0 : Int32) (0 : Int32) v_rowsOf v_columnsOf v_shapeRows v_shapeColumns v_below

def fX9_isField (N : Nat) (x1 : Int32) (v_rowsOf : Int32) (v_columnsOf : Int32) : Option (Bool) :=
    mm_bd1 (fX9_fields N v_rowsOf v_columnsOf) (fun (r_1 : Int32) =>
    mm_bd1 (fX9_within N ((x1).toInt64) (0 : Int64) ((r_1 - (1 : Int32)).toInt64)) (fun (r_3 : Bool) =>
    some (r_3)))

def fX9_whereOf (N : Nat) (x1 : Int32) (x2 : Int32) (x3 : Int32) (v_row : List Int32) (v_column : List Int32) (v_below : List Int32) (v_face : List Int32) : Option (Int32) :=
    mm_nm ((((32 : Int32) * x1) + x2)) (fun (y_1 : Int32) =>
    if x3 = 0 then
    (mm_ck (mm_inb y_1 v_row.length) (some ((mm_ig v_row y_1))))
    else (if x3 = (1 : Int32) then
    (mm_ck (mm_inb y_1 v_column.length) (some ((mm_ig v_column y_1))))
    else (if x3 = (2 : Int32) then
    (mm_ck (mm_inb y_1 v_below.length) (some ((mm_ig v_below y_1))))
    else (mm_ck (mm_inb y_1 v_face.length) (some ((mm_ig v_face y_1)))))))

def fX9_where (N : Nat) (x1 : Int32) (x2 : Int32) (v_rowsOf : Int32) (v_columnsOf : Int32) (v_row : List Int32) (v_column : List Int32) (v_below : List Int32) (v_face : List Int32) : Option (Int32) :=
    mm_bd1 (fX9_isField N x1 v_rowsOf v_columnsOf) (fun (r_1 : Bool) =>
    if r_1 = false then
    (some ((-1 : Int32)))
    else (mm_bd1 (fX9_within N ((x2).toInt64) (0 : Int64) (3 : Int64)) (fun (r_4 : Bool) =>
    if r_4 = false then
    (some ((-1 : Int32)))
    else (mm_bd1 (fX9_whereOf N (0 : Int32) x1 x2 v_row v_column v_below v_face) (fun (r_7 : Int32) =>
    some (r_7))))))

def fX9_isPile (N : Nat) (x1 : Int32) (x2 : Int32) (v_shapeRows : List Int32) (v_shapeColumns : List Int32) : Option (Bool) :=
    if x2 < 0 then
    (some (false))
    else (mm_ck (mm_nz (10 : Int32)) (mm_ck (mm_inb x1 v_shapeRows.length) (if (mm_ig v_shapeRows x1) ≤ (x2 / (10 : Int32)) then
    (some (false))
    else (mm_ck (mm_nz (10 : Int32)) (mm_ck (mm_inb x1 v_shapeColumns.length) (if (mm_ig v_shapeColumns x1) ≤ (mm_rem x2 (10 : Int32)) then
    (some (false))
    else (some (true))))))))

def fX9_pile_45 (N : Nat)  (x1 : Int32) (x3 : Int32) (s0 : Int32) (v_rowsOf : Int32) (v_columnsOf : Int32) (v_shapeRows : List Int32) (v_shapeColumns : List Int32) (v_row : List Int32) (v_column : List Int32) (v_below : List Int32) : Option (Int32) :=
    mm_bd1 (fX9_within N ((s0).toInt64) (0 : Int64) ((x3 - (1 : Int32)).toInt64)) (fun (r_10 : Bool) =>
    if r_10 = false then
    (some ((-1 : Int32)))
    else (mm_ck (mm_nz (10 : Int32)) (mm_ck (mm_nz (10 : Int32)) (mm_bd1 (fX9_fieldAt N (0 : Int32) (x1 / (10 : Int32)) (mm_rem x1 (10 : Int32)) s0 v_rowsOf v_columnsOf v_row v_column v_below) (fun (r_15 : Int32) =>
    some (r_15))))))

def fX9_pile (N : Nat) (x1 : Int32) (x2 : Int32) (v_rowsOf : Int32) (v_columnsOf : Int32) (v_shapeRows : List Int32) (v_shapeColumns : List Int32) (v_row : List Int32) (v_column : List Int32) (v_below : List Int32) : Option (Int32) :=
    mm_bd1 (fX9_isPile N (0 : Int32) x1 v_shapeRows v_shapeColumns) (fun (r_1 : Bool) =>
    if r_1 = false then
    (some ((-1 : Int32)))
    else (mm_ck (mm_nz (10 : Int32)) (mm_ck (mm_nz (10 : Int32)) (mm_bd1 (fX9_sizeAt N (0 : Int32) (x1 / (10 : Int32)) (mm_rem x1 (10 : Int32)) v_rowsOf v_columnsOf v_row v_column) (fun (r_6 : Int32) =>
    if x2 = (-2 : Int32) then
    (some (r_6))
    else (if x2 = (-1 : Int32) then
    (fX9_pile_45 N x1 r_6 (r_6 - (1 : Int32)) v_rowsOf v_columnsOf v_shapeRows v_shapeColumns v_row v_column v_below)
    else (fX9_pile_45 N x1 r_6 x2 v_rowsOf v_columnsOf v_shapeRows v_shapeColumns v_row v_column v_below)))))))

def fX9_tornNow_44 (N : Nat) (k_4 : Int32 → Int32 → Int32 → Int32 → Int32 → List Int32 → List Int32 → Option (Int32)) (x1 : Int32) (x3 : Int32) (s0 : Int32) (s1 : Int32) (v_rowsOf : Int32) (v_columnsOf : Int32) (v_limit : List Int32) (v_worn : List Int32) : Option (Int32) :=
    mm_nm ((s1 + s0)) (fun (y_8 : Int32) =>
    mm_nm (x3 + (1 : Int32)) (fun (y_9 : Int32) =>
    k_4 x1 y_8 y_9 v_rowsOf v_columnsOf v_limit v_worn))

def fX9_tornNow_43 (N : Nat) (k_4 : Int32 → Int32 → Int32 → Int32 → Int32 → List Int32 → List Int32 → Option (Int32)) (x1 : Int32) (x3 : Int32) (s0 : Int32) (v_rowsOf : Int32) (v_columnsOf : Int32) (v_limit : List Int32) (v_worn : List Int32) : Option (Int32) :=
    fX9_tornNow_44 N k_4 x1 x3 (0 : Int32) s0 v_rowsOf v_columnsOf v_limit v_worn

def fX9_tornNow_4 (N : Nat)  : Nat → Int32 → Int32 → Int32 → Int32 → Int32 → List Int32 → List Int32 → Option (Int32)
  | 0 => fun _ _ _ _ _ _ _ => none
  | n + 1 => fun x1 x2 x3 v_rowsOf v_columnsOf v_limit v_worn =>
    if (64 : Int32) ≤ x3 then
    (some (x2))
    else (mm_bd1 (fX9_isCrease N x3 v_rowsOf v_columnsOf) (fun (r_2 : Bool) =>
    if r_2 = false then
    (fX9_tornNow_43 N (fX9_tornNow_4 N n) x1 x3 x2 v_rowsOf v_columnsOf v_limit v_worn)
    else (mm_ck (mm_inb (((64 : Int32) * x1) + x3) v_worn.length) (mm_ck (mm_inb (0 : Int32) v_limit.length) (if (mm_ig v_worn (((64 : Int32) * x1) + x3)) < (mm_ig v_limit (0 : Int32)) then
    (fX9_tornNow_43 N (fX9_tornNow_4 N n) x1 x3 x2 v_rowsOf v_columnsOf v_limit v_worn)
    else (fX9_tornNow_44 N (fX9_tornNow_4 N n) x1 x3 (1 : Int32) x2 v_rowsOf v_columnsOf v_limit v_worn))))))

def fX9_tornNow (N : Nat) (x1 : Int32) (v_rowsOf : Int32) (v_columnsOf : Int32) (v_limit : List Int32) (v_worn : List Int32) : Option (Int32) :=
    fX9_tornNow_4 N N x1 (0 : Int32) (0 : Int32) v_rowsOf v_columnsOf v_limit v_worn

def fX9_led (N : Nat) (x1 : Int32) (v_rowsOf : Int32) (v_columnsOf : Int32) (v_folded : Int32) (v_wronged : Int32) (v_limit : List Int32) (v_worn : List Int32) : Option (Int32) :=
    if x1 = 0 then
    (some (v_folded))
    else (if x1 = (1 : Int32) then
    (some (v_wronged))
    else (if x1 = (2 : Int32) then
    (mm_bd1 (fX9_tornNow N (0 : Int32) v_rowsOf v_columnsOf v_limit v_worn) (fun (r_4 : Int32) =>
    some (r_4)))
    else (some ((-1 : Int32)))))

def fX9_plan (N : Nat) (x1 : Int32) (x2 : Int32) (v_planned : Int32) (v_planLine : List Int32) (v_planWay : List Int32) : Option (Int32 × Int32 × List Int32 × List Int32) :=
    if x1 = 0 then
    (some ((0 : Int32), (0 : Int32), v_planLine, v_planWay))
    else (mm_bd1 (fX9_within N ((x1).toInt64) (1 : Int64) (7 : Int64)) (fun (r_2 : Bool) =>
    if r_2 = false then
    (some ((-1 : Int32), v_planned, v_planLine, v_planWay))
    else (mm_bd1 (fX9_within N ((x2).toInt64) (0 : Int64) (7 : Int64)) (fun (r_5 : Bool) =>
    if r_5 = false then
    (some ((-1 : Int32), v_planned, v_planLine, v_planWay))
    else (if v_planned = (12 : Int32) then
    (some ((-3 : Int32), v_planned, v_planLine, v_planWay))
    else (mm_ck (mm_inb v_planned v_planLine.length) (mm_nm (mm_is v_planLine v_planned x1) (fun (l_10 : List Int32) =>
    mm_ck (mm_inb v_planned v_planWay.length) (mm_nm (mm_is v_planWay v_planned x2) (fun (l_12 : List Int32) =>
    mm_nm ((v_planned + (1 : Int32))) (fun (y_13 : Int32) =>
    some (y_13, y_13, l_10, l_12))))))))))))

def fX9_isShelf (N : Nat) (x0 : Int32) : Option (Bool) :=
    mm_bd1 (fX9_within N ((x0).toInt64) (0 : Int64) (5 : Int64)) (fun (r_1 : Bool) =>
    some (r_1))

def fX9_plans_228 (N : Nat) (k_69 : Int32 → Int32 → Int32 → Int32 → Int32 → Int32 → List Int32 → List Int32 → List Int32 → List Int32 → List Int64 → Option (Int32 × Int32 × List Int32 × List Int32)) (x1 : Int32) (x2 : Int32) (x3 : Int32) (x4 : Int32) (x5 : Int32) (v_planned : Int32) (v_planLine : List Int32) (v_planWay : List Int32) (v_shelf : List Int32) (v_many : List Int32) (v_items : List Int64) : Option (Int32 × Int32 × List Int32 × List Int32) :=
    k_69 x1 x2 x3 x4 x5 v_planned v_planLine v_planWay v_shelf v_many v_items

def fX9_plans_172 (N : Nat) (k_69 : Int32 → Int32 → Int32 → Int32 → Int32 → Int32 → List Int32 → List Int32 → List Int32 → List Int32 → List Int64 → Option (Int32 × Int32 × List Int32 × List Int32)) (x1 : Int32) (x2 : Int32) (x3 : Int32) (x4 : Int32) (x6 : Int32) (s0 : Int32) (v_planned : Int32) (v_planLine : List Int32) (v_planWay : List Int32) (v_shelf : List Int32) (v_many : List Int32) (v_items : List Int64) : Option (Int32 × Int32 × List Int32 × List Int32) :=
    if s0 = 0 then
    (fX9_plans_228 N k_69 x1 x2 x3 x4 s0 v_planned v_planLine v_planWay v_shelf v_many v_items)
    else (mm_ck (mm_inb x6 v_items.length) (mm_nm (((mm_lg v_items x6).toInt32)) (fun (y_31 : Int32) =>
    mm_ck (mm_inb v_planned v_planLine.length) (mm_nm (mm_is v_planLine v_planned y_31) (fun (l_33 : List Int32) =>
    mm_ck (mm_inb (x6 + (1 : Int32)) v_items.length) (mm_nm (((mm_lg v_items (x6 + (1 : Int32))).toInt32)) (fun (y_35 : Int32) =>
    mm_ck (mm_inb v_planned v_planWay.length) (mm_nm (mm_is v_planWay v_planned y_35) (fun (l_37 : List Int32) =>
    mm_nm ((v_planned + (1 : Int32))) (fun (y_38 : Int32) =>
    mm_nm (x4 + (1 : Int32)) (fun (y_39 : Int32) =>
    fX9_plans_228 N k_69 x1 x2 x3 y_39 s0 y_38 l_33 l_37 v_shelf v_many v_items)))))))))))

def fX9_plans_171 (N : Nat) (k_69 : Int32 → Int32 → Int32 → Int32 → Int32 → Int32 → List Int32 → List Int32 → List Int32 → List Int32 → List Int64 → Option (Int32 × Int32 × List Int32 × List Int32)) (x1 : Int32) (x2 : Int32) (x3 : Int32) (x4 : Int32) (x6 : Int32) (v_planned : Int32) (v_planLine : List Int32) (v_planWay : List Int32) (v_shelf : List Int32) (v_many : List Int32) (v_items : List Int64) : Option (Int32 × Int32 × List Int32 × List Int32) :=
    fX9_plans_172 N k_69 x1 x2 x3 x4 x6 (0 : Int32) v_planned v_planLine v_planWay v_shelf v_many v_items

def fX9_plans_111 (N : Nat) (k_69 : Int32 → Int32 → Int32 → Int32 → Int32 → Int32 → List Int32 → List Int32 → List Int32 → List Int32 → List Int64 → Option (Int32 × Int32 × List Int32 × List Int32)) (x1 : Int32) (x2 : Int32) (x3 : Int32) (x4 : Int32) (s0 : Int32) (v_planned : Int32) (v_planLine : List Int32) (v_planWay : List Int32) (v_shelf : List Int32) (v_many : List Int32) (v_items : List Int64) : Option (Int32 × Int32 × List Int32 × List Int32) :=
    mm_nm (((((60 : Int32) * x1) + x2) + ((2 : Int32) * x4))) (fun (y_19 : Int32) =>
    if s0 = 0 then
    (fX9_plans_171 N k_69 x1 x2 x3 x4 y_19 v_planned v_planLine v_planWay v_shelf v_many v_items)
    else (mm_ck (mm_inb y_19 v_items.length) (mm_bd1 (fX9_within N (mm_lg v_items y_19) (1 : Int64) (7 : Int64)) (fun (r_22 : Bool) =>
    if r_22 = false then
    (fX9_plans_171 N k_69 x1 x2 x3 x4 y_19 v_planned v_planLine v_planWay v_shelf v_many v_items)
    else (mm_ck (mm_inb (y_19 + (1 : Int32)) v_items.length) (mm_bd1 (fX9_within N (mm_lg v_items (y_19 + (1 : Int32))) (0 : Int64) (7 : Int64)) (fun (r_26 : Bool) =>
    if r_26 = false then
    (fX9_plans_171 N k_69 x1 x2 x3 x4 y_19 v_planned v_planLine v_planWay v_shelf v_many v_items)
    else (fX9_plans_172 N k_69 x1 x2 x3 x4 y_19 (1 : Int32) v_planned v_planLine v_planWay v_shelf v_many v_items))))))))

def fX9_plans_110 (N : Nat) (k_69 : Int32 → Int32 → Int32 → Int32 → Int32 → Int32 → List Int32 → List Int32 → List Int32 → List Int32 → List Int64 → Option (Int32 × Int32 × List Int32 × List Int32)) (x1 : Int32) (x2 : Int32) (x3 : Int32) (x4 : Int32) (v_planned : Int32) (v_planLine : List Int32) (v_planWay : List Int32) (v_shelf : List Int32) (v_many : List Int32) (v_items : List Int64) : Option (Int32 × Int32 × List Int32 × List Int32) :=
    fX9_plans_111 N k_69 x1 x2 x3 x4 (0 : Int32) v_planned v_planLine v_planWay v_shelf v_many v_items

def fX9_plans_69 (N : Nat)  : Nat → Int32 → Int32 → Int32 → Int32 → Int32 → Int32 → List Int32 → List Int32 → List Int32 → List Int32 → List Int64 → Option (Int32 × Int32 × List Int32 × List Int32)
  | 0 => fun _ _ _ _ _ _ _ _ _ _ _ => none
  | n + 1 => fun x1 x2 x3 x4 x5 v_planned v_planLine v_planWay v_shelf v_many v_items =>
    if x5 = 0 then
    (some (x4, v_planned, v_planLine, v_planWay))
    else (if x3 ≤ x4 then
    (some (x4, v_planned, v_planLine, v_planWay))
    else (mm_ck (mm_inb x1 v_many.length) (if (((mm_ig v_many x1) - (2 : Int32)) - ((2 : Int32) * x4)) < x2 then
    (fX9_plans_110 N (fX9_plans_69 N n) x1 x2 x3 x4 v_planned v_planLine v_planWay v_shelf v_many v_items)
    else (if (12 : Int32) ≤ v_planned then
    (fX9_plans_110 N (fX9_plans_69 N n) x1 x2 x3 x4 v_planned v_planLine v_planWay v_shelf v_many v_items)
    else (fX9_plans_111 N (fX9_plans_69 N n) x1 x2 x3 x4 (1 : Int32) v_planned v_planLine v_planWay v_shelf v_many v_items)))))

def fX9_plans_67 (N : Nat)  (x1 : Int32) (x2 : Int32) (x3 : Int32) (x4 : Int32) (s0 : Int32) (v_planned : Int32) (v_planLine : List Int32) (v_planWay : List Int32) (v_shelf : List Int32) (v_many : List Int32) (v_items : List Int64) : Option (Int32 × Int32 × List Int32 × List Int32) :=
    fX9_plans_69 N N x1 x2 x3 x4 s0 v_planned v_planLine v_planWay v_shelf v_many v_items

def fX9_plans_66 (N : Nat)  (x1 : Int32) (x2 : Int32) (x3 : Int32) (x4 : Int32) (v_planned : Int32) (v_planLine : List Int32) (v_planWay : List Int32) (v_shelf : List Int32) (v_many : List Int32) (v_items : List Int64) : Option (Int32 × Int32 × List Int32 × List Int32) :=
    fX9_plans_67 N x1 x2 x3 x4 (0 : Int32) v_planned v_planLine v_planWay v_shelf v_many v_items

def fX9_plans_44 (N : Nat)  (x1 : Int32) (x2 : Int32) (x3 : Int32) (v_planned : Int32) (v_planLine : List Int32) (v_planWay : List Int32) (v_shelf : List Int32) (v_many : List Int32) (v_items : List Int64) : Option (Int32 × Int32 × List Int32 × List Int32) :=
    mm_ck (mm_inb x1 v_shelf.length) (if (mm_ig v_shelf x1) = (50 : Int32) then
    (if x2 < 0 then
    (fX9_plans_66 N x1 x2 x3 (0 : Int32) v_planned v_planLine v_planWay v_shelf v_many v_items)
    else (fX9_plans_67 N x1 x2 x3 (0 : Int32) (1 : Int32) v_planned v_planLine v_planWay v_shelf v_many v_items))
    else (fX9_plans_66 N x1 x2 x3 (0 : Int32) v_planned v_planLine v_planWay v_shelf v_many v_items))

def fX9_plans (N : Nat) (x1 : Int32) (x2 : Int32) (x3 : Int32) (v_planned : Int32) (v_planLine : List Int32) (v_planWay : List Int32) (v_shelf : List Int32) (v_many : List Int32) (v_items : List Int64) : Option (Int32 × Int32 × List Int32 × List Int32) :=
    mm_bd1 (fX9_isShelf N x1) (fun (r_1 : Bool) =>
    if r_1 = false then
    (some ((-1 : Int32), v_planned, v_planLine, v_planWay))
    else (mm_bd1 (fX9_within N ((x3).toInt64) (1 : Int64) (12 : Int64)) (fun (r_4 : Bool) =>
    if r_4 = false then
    (some ((-1 : Int32), v_planned, v_planLine, v_planWay))
    else (mm_ck (mm_inb x1 v_shelf.length) (if (mm_ig v_shelf x1) < 0 then
    (fX9_plans_44 N x1 x2 x3 v_planned v_planLine v_planWay v_shelf v_many v_items)
    else (mm_ck (mm_inb x1 v_shelf.length) (if (mm_ig v_shelf x1) = (50 : Int32) then
    (fX9_plans_44 N x1 x2 x3 v_planned v_planLine v_planWay v_shelf v_many v_items)
    else (some ((-12 : Int32), v_planned, v_planLine, v_planWay)))))))))

def fX9_startsAt_7 (N : Nat)  : Nat → Int32 → Int32 → Int32 → Int32 → List Int32 → List Int32 → List Int32 → List Int32 → List Int32 → List Int32 → List Int32 → List Int32 → Option (List Int32 × List Int32 × List Int32 × List Int32 × List Int32 × List Int32 × List Int32 × List Int32)
  | 0 => fun _ _ _ _ _ _ _ _ _ _ _ _ => none
  | n + 1 => fun x1 x2 v_rowsOf v_columnsOf v_shapeRows v_shapeColumns v_row v_column v_below v_face v_worn v_lastBend =>
    if (64 : Int32) ≤ x2 then
    (some (v_shapeRows, v_shapeColumns, v_row, v_column, v_below, v_face, v_worn, v_lastBend))
    else (mm_ck (mm_inb x2 v_worn.length) (mm_nm ((mm_ig v_worn x2)) (fun (y_10 : Int32) =>
    mm_ck (mm_inb (((64 : Int32) * x1) + x2) v_worn.length) (mm_nm (mm_is v_worn (((64 : Int32) * x1) + x2) y_10) (fun (l_12 : List Int32) =>
    mm_ck (mm_inb x2 v_lastBend.length) (mm_nm ((mm_ig v_lastBend x2)) (fun (y_14 : Int32) =>
    mm_ck (mm_inb (((64 : Int32) * x1) + x2) v_lastBend.length) (mm_nm (mm_is v_lastBend (((64 : Int32) * x1) + x2) y_14) (fun (l_16 : List Int32) =>
    mm_nm (x2 + (1 : Int32)) (fun (y_17 : Int32) =>
    fX9_startsAt_7 N n x1 y_17 v_rowsOf v_columnsOf v_shapeRows v_shapeColumns v_row v_column v_below v_face l_12 l_16))))))))))

def fX9_startsAt (N : Nat) (x1 : Int32) (v_rowsOf : Int32) (v_columnsOf : Int32) (v_shapeRows : List Int32) (v_shapeColumns : List Int32) (v_row : List Int32) (v_column : List Int32) (v_below : List Int32) (v_face : List Int32) (v_worn : List Int32) (v_lastBend : List Int32) : Option (List Int32 × List Int32 × List Int32 × List Int32 × List Int32 × List Int32 × List Int32 × List Int32) :=
    mm_bd6 (fX9_liesFlat N x1 v_rowsOf v_columnsOf v_shapeRows v_shapeColumns v_row v_column v_below v_face) (fun (w_1 : List Int32) (w_2 : List Int32) (w_3 : List Int32) (w_4 : List Int32) (w_5 : List Int32) (w_6 : List Int32) =>
    fX9_startsAt_7 N N x1 (0 : Int32) v_rowsOf v_columnsOf w_1 w_2 w_3 w_4 w_5 w_6 v_worn v_lastBend)

def fX9_goesPlan_103 (N : Nat) (k_17 : Int32 → Int32 → Int32 → Int32 → Int32 → Int32 → Int32 → Int32 → Int32 → Int32 → Int32 → Int32 → Int32 → Int32 → Int32 → Int32 → Int32 → Int32 → List Int32 → List Int32 → List Int32 → List Int32 → List Int32 → List Int32 → List Int32 → List Int32 → List Int32 → List Int32 → List Int32 → List Int32 → List Int32 → List Int32 → List Int32 → List Int32 → List Int32 → List Int32 → Option (Int32 × Int32 × Int32 × Int32 × Int32 × Int32 × Int32 × Int32 × Int32 × Int32 × Int32 × Int32 × List Int32 × List Int32 × List Int32 × List Int32 × List Int32 × List Int32 × List Int32 × List Int32 × List Int32 × List Int32 × List Int32 × List Int32 × List Int32)) (x1 : Int32) (x2 : Int32) (x3 : Int32) (x4 : Int32) (v_rowsOf : Int32) (v_columnsOf : Int32) (v_textMany : Int32) (v_base : Int32) (v_at : Int32) (v_ends : Int32) (v_fault : Int32) (v_opened : Int32) (v_bentMany : Int32) (v_bentWrong : Int32) (v_moreWorn : Int32) (v_planned : Int32) (v_allWrong : Int32) (v_allWorn : Int32) (v_z : Int32) (v_limit : List Int32) (v_shapeRows : List Int32) (v_shapeColumns : List Int32) (v_row : List Int32) (v_column : List Int32) (v_below : List Int32) (v_face : List Int32) (v_worn : List Int32) (v_lastBend : List Int32) (v_tape : List Int32) (v_text : List Int32) (v_names : List Int32) (v_bends : List Int32) (v_high : List Int32) (v_to : List Int32) (v_pileSize : List Int32) (v_planLine : List Int32) (v_planWay : List Int32) : Option (Int32 × Int32 × Int32 × Int32 × Int32 × Int32 × Int32 × Int32 × Int32 × Int32 × Int32 × Int32 × List Int32 × List Int32 × List Int32 × List Int32 × List Int32 × List Int32 × List Int32 × List Int32 × List Int32 × List Int32 × List Int32 × List Int32 × List Int32) :=
    mm_ck (mm_inb x3 v_planLine.length) (mm_bd21 (fX9_foldsOn N (1 : Int32) (mm_ig v_planLine x3) x4 v_rowsOf v_columnsOf v_textMany v_base v_at v_ends v_fault v_opened v_bentMany v_bentWrong v_moreWorn v_limit v_shapeRows v_shapeColumns v_row v_column v_below v_face v_worn v_lastBend v_tape v_text v_names v_bends v_high v_to v_pileSize) (fun (w_24 : Int32) (w_25 : Int32) (w_26 : Int32) (w_27 : Int32) (w_28 : Int32) (w_29 : Int32) (w_30 : Int32) (w_31 : Int32) (w_32 : List Int32) (w_33 : List Int32) (w_34 : List Int32) (w_35 : List Int32) (w_36 : List Int32) (w_37 : List Int32) (w_38 : List Int32) (w_39 : List Int32) (w_40 : List Int32) (w_41 : List Int32) (w_42 : List Int32) (w_43 : List Int32) (w_44 : List Int32) =>
    mm_nm ((v_allWrong + w_30)) (fun (y_46 : Int32) =>
    mm_nm ((v_allWorn + w_31)) (fun (y_47 : Int32) =>
    mm_nm (x3 + (1 : Int32)) (fun (y_48 : Int32) =>
    k_17 x1 x2 y_48 v_rowsOf v_columnsOf v_textMany w_24 w_25 w_26 w_27 w_28 w_29 w_30 w_31 v_planned y_46 y_47 v_z v_limit w_32 w_33 w_34 w_35 w_36 w_37 w_38 w_39 v_tape v_text w_40 w_41 w_42 w_43 w_44 v_planLine v_planWay)))))

def fX9_goesPlan_101 (N : Nat) (k_17 : Int32 → Int32 → Int32 → Int32 → Int32 → Int32 → Int32 → Int32 → Int32 → Int32 → Int32 → Int32 → Int32 → Int32 → Int32 → Int32 → Int32 → Int32 → List Int32 → List Int32 → List Int32 → List Int32 → List Int32 → List Int32 → List Int32 → List Int32 → List Int32 → List Int32 → List Int32 → List Int32 → List Int32 → List Int32 → List Int32 → List Int32 → List Int32 → List Int32 → Option (Int32 × Int32 × Int32 × Int32 × Int32 × Int32 × Int32 × Int32 × Int32 × Int32 × Int32 × Int32 × List Int32 × List Int32 × List Int32 × List Int32 × List Int32 × List Int32 × List Int32 × List Int32 × List Int32 × List Int32 × List Int32 × List Int32 × List Int32)) (x1 : Int32) (x2 : Int32) (x3 : Int32) (s0 : Int32) (v_rowsOf : Int32) (v_columnsOf : Int32) (v_textMany : Int32) (v_base : Int32) (v_at : Int32) (v_ends : Int32) (v_fault : Int32) (v_opened : Int32) (v_bentMany : Int32) (v_bentWrong : Int32) (v_moreWorn : Int32) (v_planned : Int32) (v_allWrong : Int32) (v_allWorn : Int32) (v_z : Int32) (v_limit : List Int32) (v_shapeRows : List Int32) (v_shapeColumns : List Int32) (v_row : List Int32) (v_column : List Int32) (v_below : List Int32) (v_face : List Int32) (v_worn : List Int32) (v_lastBend : List Int32) (v_tape : List Int32) (v_text : List Int32) (v_names : List Int32) (v_bends : List Int32) (v_high : List Int32) (v_to : List Int32) (v_pileSize : List Int32) (v_planLine : List Int32) (v_planWay : List Int32) : Option (Int32 × Int32 × Int32 × Int32 × Int32 × Int32 × Int32 × Int32 × Int32 × Int32 × Int32 × Int32 × List Int32 × List Int32 × List Int32 × List Int32 × List Int32 × List Int32 × List Int32 × List Int32 × List Int32 × List Int32 × List Int32 × List Int32 × List Int32) :=
    fX9_goesPlan_103 N k_17 x1 x2 x3 s0 v_rowsOf v_columnsOf v_textMany v_base v_at v_ends v_fault v_opened v_bentMany v_bentWrong v_moreWorn v_planned v_allWrong v_allWorn v_z v_limit v_shapeRows v_shapeColumns v_row v_column v_below v_face v_worn v_lastBend v_tape v_text v_names v_bends v_high v_to v_pileSize v_planLine v_planWay

def fX9_goesPlan_17 (N : Nat)  : Nat → Int32 → Int32 → Int32 → Int32 → Int32 → Int32 → Int32 → Int32 → Int32 → Int32 → Int32 → Int32 → Int32 → Int32 → Int32 → Int32 → Int32 → Int32 → List Int32 → List Int32 → List Int32 → List Int32 → List Int32 → List Int32 → List Int32 → List Int32 → List Int32 → List Int32 → List Int32 → List Int32 → List Int32 → List Int32 → List Int32 → List Int32 → List Int32 → List Int32 → Option (Int32 × Int32 × Int32 × Int32 × Int32 × Int32 × Int32 × Int32 × Int32 × Int32 × Int32 × Int32 × List Int32 × List Int32 × List Int32 × List Int32 × List Int32 × List Int32 × List Int32 × List Int32 × List Int32 × List Int32 × List Int32 × List Int32 × List Int32)
  | 0 => fun _ _ _ _ _ _ _ _ _ _ _ _ _ _ _ _ _ _ _ _ _ _ _ _ _ _ _ _ _ _ _ _ _ _ _ _ => none
  | n + 1 => fun x1 x2 x3 v_rowsOf v_columnsOf v_textMany v_base v_at v_ends v_fault v_opened v_bentMany v_bentWrong v_moreWorn v_planned v_allWrong v_allWorn v_z v_limit v_shapeRows v_shapeColumns v_row v_column v_below v_face v_worn v_lastBend v_tape v_text v_names v_bends v_high v_to v_pileSize v_planLine v_planWay =>
    if v_planned ≤ x3 then
    (some (x3, v_base, v_at, v_ends, v_fault, v_opened, v_bentMany, v_bentWrong, v_moreWorn, v_allWrong, v_allWorn, v_z, v_shapeRows, v_shapeColumns, v_row, v_column, v_below, v_face, v_worn, v_lastBend, v_names, v_bends, v_high, v_to, v_pileSize))
    else (if x1 ≤ x3 then
    (some (x3, v_base, v_at, v_ends, v_fault, v_opened, v_bentMany, v_bentWrong, v_moreWorn, v_allWrong, v_allWorn, v_z, v_shapeRows, v_shapeColumns, v_row, v_column, v_below, v_face, v_worn, v_lastBend, v_names, v_bends, v_high, v_to, v_pileSize))
    else (mm_ck (mm_inb x3 v_planLine.length) (mm_ck (mm_inb x3 v_planWay.length) (mm_bd1 (fX9_isLine N (1 : Int32) (mm_ig v_planLine x3) (mm_ig v_planWay x3) v_shapeRows v_shapeColumns) (fun (r_14 : Bool) =>
    if r_14 = false then
    (some (x3, v_base, v_at, v_ends, v_fault, v_opened, v_bentMany, v_bentWrong, v_moreWorn, v_allWrong, v_allWorn, v_z, v_shapeRows, v_shapeColumns, v_row, v_column, v_below, v_face, v_worn, v_lastBend, v_names, v_bends, v_high, v_to, v_pileSize))
    else (mm_ck (mm_inb x3 v_planWay.length) (mm_nm ((mm_ig v_planWay x3)) (fun (y_18 : Int32) =>
    if x2 < 0 then
    (fX9_goesPlan_103 N (fX9_goesPlan_17 N n) x1 x2 x3 y_18 v_rowsOf v_columnsOf v_textMany v_base v_at v_ends v_fault v_opened v_bentMany v_bentWrong v_moreWorn v_planned v_allWrong v_allWorn v_z v_limit v_shapeRows v_shapeColumns v_row v_column v_below v_face v_worn v_lastBend v_tape v_text v_names v_bends v_high v_to v_pileSize v_planLine v_planWay)
    else (mm_nm (((v_z * (1103515245 : Int32)) + (12345 : Int32))) (fun (y_20 : Int32) =>
    mm_ck (mm_nz (100 : Int32)) (if x2 ≤ (mm_rem ((y_20.toUInt32 >>> ((8 : Int32).toUInt32 &&& Int32.toUInt32 31)).toInt32) (100 : Int32)) then
    (fX9_goesPlan_101 N (fX9_goesPlan_17 N n) x1 x2 x3 y_18 v_rowsOf v_columnsOf v_textMany v_base v_at v_ends v_fault v_opened v_bentMany v_bentWrong v_moreWorn v_planned v_allWrong v_allWorn y_20 v_limit v_shapeRows v_shapeColumns v_row v_column v_below v_face v_worn v_lastBend v_tape v_text v_names v_bends v_high v_to v_pileSize v_planLine v_planWay)
    else (fX9_goesPlan_101 N (fX9_goesPlan_17 N n) x1 x2 x3 (y_18 ^^^ (1 : Int32)) v_rowsOf v_columnsOf v_textMany v_base v_at v_ends v_fault v_opened v_bentMany v_bentWrong v_moreWorn v_planned v_allWrong v_allWorn y_20 v_limit v_shapeRows v_shapeColumns v_row v_column v_below v_face v_worn v_lastBend v_tape v_text v_names v_bends v_high v_to v_pileSize v_planLine v_planWay))))))))))))

def fX9_goesPlan (N : Nat) (x1 : Int32) (x2 : Int32) (v_rowsOf : Int32) (v_columnsOf : Int32) (v_textMany : Int32) (v_base : Int32) (v_at : Int32) (v_ends : Int32) (v_fault : Int32) (v_opened : Int32) (v_bentMany : Int32) (v_bentWrong : Int32) (v_moreWorn : Int32) (v_planned : Int32) (v_allWrong : Int32) (v_allWorn : Int32) (v_z : Int32) (v_limit : List Int32) (v_shapeRows : List Int32) (v_shapeColumns : List Int32) (v_row : List Int32) (v_column : List Int32) (v_below : List Int32) (v_face : List Int32) (v_worn : List Int32) (v_lastBend : List Int32) (v_tape : List Int32) (v_text : List Int32) (v_names : List Int32) (v_bends : List Int32) (v_high : List Int32) (v_to : List Int32) (v_pileSize : List Int32) (v_planLine : List Int32) (v_planWay : List Int32) : Option (Int32 × Int32 × Int32 × Int32 × Int32 × Int32 × Int32 × Int32 × Int32 × Int32 × Int32 × Int32 × List Int32 × List Int32 × List Int32 × List Int32 × List Int32 × List Int32 × List Int32 × List Int32 × List Int32 × List Int32 × List Int32 × List Int32 × List Int32) :=
    mm_bd8 (fX9_startsAt N (1 : Int32) v_rowsOf v_columnsOf v_shapeRows v_shapeColumns v_row v_column v_below v_face v_worn v_lastBend) (fun (w_1 : List Int32) (w_2 : List Int32) (w_3 : List Int32) (w_4 : List Int32) (w_5 : List Int32) (w_6 : List Int32) (w_7 : List Int32) (w_8 : List Int32) =>
    fX9_goesPlan_17 N N x1 x2 (0 : Int32) v_rowsOf v_columnsOf v_textMany v_base v_at v_ends v_fault v_opened v_bentMany v_bentWrong v_moreWorn v_planned (0 : Int32) (0 : Int32) v_z v_limit w_1 w_2 w_3 w_4 w_5 w_6 w_7 w_8 v_tape v_text v_names v_bends v_high v_to v_pileSize v_planLine v_planWay)

def fX9_cost (N : Nat) (x1 : Int32) (v_rowsOf : Int32) (v_columnsOf : Int32) (v_textMany : Int32) (v_base : Int32) (v_at : Int32) (v_ends : Int32) (v_fault : Int32) (v_opened : Int32) (v_bentMany : Int32) (v_bentWrong : Int32) (v_moreWorn : Int32) (v_planned : Int32) (v_allWrong : Int32) (v_allWorn : Int32) (v_z : Int32) (v_limit : List Int32) (v_shapeRows : List Int32) (v_shapeColumns : List Int32) (v_row : List Int32) (v_column : List Int32) (v_below : List Int32) (v_face : List Int32) (v_worn : List Int32) (v_lastBend : List Int32) (v_tape : List Int32) (v_text : List Int32) (v_names : List Int32) (v_bends : List Int32) (v_high : List Int32) (v_to : List Int32) (v_pileSize : List Int32) (v_planLine : List Int32) (v_planWay : List Int32) : Option (Int32 × Int32 × Int32 × Int32 × Int32 × Int32 × Int32 × Int32 × Int32 × Int32 × Int32 × Int32 × List Int32 × List Int32 × List Int32 × List Int32 × List Int32 × List Int32 × List Int32 × List Int32 × List Int32 × List Int32 × List Int32 × List Int32 × List Int32) :=
    mm_bd1 (fX9_within N ((x1).toInt64) (0 : Int64) (3 : Int64)) (fun (r_1 : Bool) =>
    if r_1 = false then
    (some ((-1 : Int32), v_base, v_at, v_ends, v_fault, v_opened, v_bentMany, v_bentWrong, v_moreWorn, v_allWrong, v_allWorn, v_z, v_shapeRows, v_shapeColumns, v_row, v_column, v_below, v_face, v_worn, v_lastBend, v_names, v_bends, v_high, v_to, v_pileSize))
    else (mm_bd25 (fX9_goesPlan N (12 : Int32) (-1 : Int32) v_rowsOf v_columnsOf v_textMany v_base v_at v_ends v_fault v_opened v_bentMany v_bentWrong v_moreWorn v_planned v_allWrong v_allWorn v_z v_limit v_shapeRows v_shapeColumns v_row v_column v_below v_face v_worn v_lastBend v_tape v_text v_names v_bends v_high v_to v_pileSize v_planLine v_planWay) (fun (r_4 : Int32) (w_5 : Int32) (w_6 : Int32) (w_7 : Int32) (w_8 : Int32) (w_9 : Int32) (w_10 : Int32) (w_11 : Int32) (w_12 : Int32) (w_13 : Int32) (w_14 : Int32) (w_15 : Int32) (w_16 : List Int32) (w_17 : List Int32) (w_18 : List Int32) (w_19 : List Int32) (w_20 : List Int32) (w_21 : List Int32) (w_22 : List Int32) (w_23 : List Int32) (w_24 : List Int32) (w_25 : List Int32) (w_26 : List Int32) (w_27 : List Int32) (w_28 : List Int32) =>
    if x1 = 0 then
    (some (r_4, w_5, w_6, w_7, w_8, w_9, w_10, w_11, w_12, w_13, w_14, w_15, w_16, w_17, w_18, w_19, w_20, w_21, w_22, w_23, w_24, w_25, w_26, w_27, w_28))
    else (if x1 = (1 : Int32) then
    (some (w_14, w_5, w_6, w_7, w_8, w_9, w_10, w_11, w_12, w_13, w_14, w_15, w_16, w_17, w_18, w_19, w_20, w_21, w_22, w_23, w_24, w_25, w_26, w_27, w_28))
    else (if x1 = (2 : Int32) then
    (some (w_13, w_5, w_6, w_7, w_8, w_9, w_10, w_11, w_12, w_13, w_14, w_15, w_16, w_17, w_18, w_19, w_20, w_21, w_22, w_23, w_24, w_25, w_26, w_27, w_28))
    else (mm_bd1 (fX9_tornNow N (1 : Int32) v_rowsOf v_columnsOf v_limit w_22) (fun (r_33 : Int32) =>
    mm_bd1 (fX9_tornNow N (0 : Int32) v_rowsOf v_columnsOf v_limit w_22) (fun (r_35 : Int32) =>
    some ((r_33 - r_35), w_5, w_6, w_7, w_8, w_9, w_10, w_11, w_12, w_13, w_14, w_15, w_16, w_17, w_18, w_19, w_20, w_21, w_22, w_23, w_24, w_25, w_26, w_27, w_28)))))))))

def fX9_isBehind (N : Nat) (x1 : Int32) (v_rowsOf : Int32) (v_columnsOf : Int32) (v_textMany : Int32) (v_base : Int32) (v_at : Int32) (v_ends : Int32) (v_fault : Int32) (v_opened : Int32) (v_bentMany : Int32) (v_bentWrong : Int32) (v_moreWorn : Int32) (v_planned : Int32) (v_allWrong : Int32) (v_allWorn : Int32) (v_z : Int32) (v_limit : List Int32) (v_shapeRows : List Int32) (v_shapeColumns : List Int32) (v_row : List Int32) (v_column : List Int32) (v_below : List Int32) (v_face : List Int32) (v_worn : List Int32) (v_lastBend : List Int32) (v_tape : List Int32) (v_text : List Int32) (v_names : List Int32) (v_bends : List Int32) (v_high : List Int32) (v_to : List Int32) (v_pileSize : List Int32) (v_planLine : List Int32) (v_planWay : List Int32) : Option (Bool × Int32 × Int32 × Int32 × Int32 × Int32 × Int32 × Int32 × Int32 × Int32 × Int32 × Int32 × List Int32 × List Int32 × List Int32 × List Int32 × List Int32 × List Int32 × List Int32 × List Int32 × List Int32 × List Int32 × List Int32 × List Int32 × List Int32) :=
    if x1 < 0 then
    (some (false, v_base, v_at, v_ends, v_fault, v_opened, v_bentMany, v_bentWrong, v_moreWorn, v_allWrong, v_allWorn, v_z, v_shapeRows, v_shapeColumns, v_row, v_column, v_below, v_face, v_worn, v_lastBend, v_names, v_bends, v_high, v_to, v_pileSize))
    else (mm_bd25 (fX9_goesPlan N x1 (-1 : Int32) v_rowsOf v_columnsOf v_textMany v_base v_at v_ends v_fault v_opened v_bentMany v_bentWrong v_moreWorn v_planned v_allWrong v_allWorn v_z v_limit v_shapeRows v_shapeColumns v_row v_column v_below v_face v_worn v_lastBend v_tape v_text v_names v_bends v_high v_to v_pileSize v_planLine v_planWay) (fun (r_2 : Int32) (w_3 : Int32) (w_4 : Int32) (w_5 : Int32) (w_6 : Int32) (w_7 : Int32) (w_8 : Int32) (w_9 : Int32) (w_10 : Int32) (w_11 : Int32) (w_12 : Int32) (w_13 : Int32) (w_14 : List Int32) (w_15 : List Int32) (w_16 : List Int32) (w_17 : List Int32) (w_18 : List Int32) (w_19 : List Int32) (w_20 : List Int32) (w_21 : List Int32) (w_22 : List Int32) (w_23 : List Int32) (w_24 : List Int32) (w_25 : List Int32) (w_26 : List Int32) =>
    if r_2 = x1 then
    (some (true, w_3, w_4, w_5, w_6, w_7, w_8, w_9, w_10, w_11, w_12, w_13, w_14, w_15, w_16, w_17, w_18, w_19, w_20, w_21, w_22, w_23, w_24, w_25, w_26))
    else (some (false, w_3, w_4, w_5, w_6, w_7, w_8, w_9, w_10, w_11, w_12, w_13, w_14, w_15, w_16, w_17, w_18, w_19, w_20, w_21, w_22, w_23, w_24, w_25, w_26))))

def fX9_lies (N : Nat) (x1 : Int32) (x2 : Int32) (v_rowsOf : Int32) (v_columnsOf : Int32) (v_textMany : Int32) (v_base : Int32) (v_at : Int32) (v_ends : Int32) (v_fault : Int32) (v_opened : Int32) (v_bentMany : Int32) (v_bentWrong : Int32) (v_moreWorn : Int32) (v_planned : Int32) (v_allWrong : Int32) (v_allWorn : Int32) (v_z : Int32) (v_limit : List Int32) (v_shapeRows : List Int32) (v_shapeColumns : List Int32) (v_row : List Int32) (v_column : List Int32) (v_below : List Int32) (v_face : List Int32) (v_worn : List Int32) (v_lastBend : List Int32) (v_tape : List Int32) (v_text : List Int32) (v_names : List Int32) (v_bends : List Int32) (v_high : List Int32) (v_to : List Int32) (v_pileSize : List Int32) (v_planLine : List Int32) (v_planWay : List Int32) : Option (Int32 × Int32 × Int32 × Int32 × Int32 × Int32 × Int32 × Int32 × Int32 × Int32 × Int32 × Int32 × List Int32 × List Int32 × List Int32 × List Int32 × List Int32 × List Int32 × List Int32 × List Int32 × List Int32 × List Int32 × List Int32 × List Int32 × List Int32) :=
    if x1 < 0 then
    (some ((-1 : Int32), v_base, v_at, v_ends, v_fault, v_opened, v_bentMany, v_bentWrong, v_moreWorn, v_allWrong, v_allWorn, v_z, v_shapeRows, v_shapeColumns, v_row, v_column, v_below, v_face, v_worn, v_lastBend, v_names, v_bends, v_high, v_to, v_pileSize))
    else (mm_ck (mm_nz (100 : Int32)) (mm_bd1 (fX9_isField N (x1 / (100 : Int32)) v_rowsOf v_columnsOf) (fun (r_3 : Bool) =>
    if r_3 = false then
    (some ((-1 : Int32), v_base, v_at, v_ends, v_fault, v_opened, v_bentMany, v_bentWrong, v_moreWorn, v_allWrong, v_allWorn, v_z, v_shapeRows, v_shapeColumns, v_row, v_column, v_below, v_face, v_worn, v_lastBend, v_names, v_bends, v_high, v_to, v_pileSize))
    else (mm_bd1 (fX9_within N ((x2).toInt64) (0 : Int64) (3 : Int64)) (fun (r_6 : Bool) =>
    if r_6 = false then
    (some ((-1 : Int32), v_base, v_at, v_ends, v_fault, v_opened, v_bentMany, v_bentWrong, v_moreWorn, v_allWrong, v_allWorn, v_z, v_shapeRows, v_shapeColumns, v_row, v_column, v_below, v_face, v_worn, v_lastBend, v_names, v_bends, v_high, v_to, v_pileSize))
    else (mm_ck (mm_nz (100 : Int32)) (mm_bd25 (fX9_isBehind N (mm_rem x1 (100 : Int32)) v_rowsOf v_columnsOf v_textMany v_base v_at v_ends v_fault v_opened v_bentMany v_bentWrong v_moreWorn v_planned v_allWrong v_allWorn v_z v_limit v_shapeRows v_shapeColumns v_row v_column v_below v_face v_worn v_lastBend v_tape v_text v_names v_bends v_high v_to v_pileSize v_planLine v_planWay) (fun (r_10 : Bool) (w_11 : Int32) (w_12 : Int32) (w_13 : Int32) (w_14 : Int32) (w_15 : Int32) (w_16 : Int32) (w_17 : Int32) (w_18 : Int32) (w_19 : Int32) (w_20 : Int32) (w_21 : Int32) (w_22 : List Int32) (w_23 : List Int32) (w_24 : List Int32) (w_25 : List Int32) (w_26 : List Int32) (w_27 : List Int32) (w_28 : List Int32) (w_29 : List Int32) (w_30 : List Int32) (w_31 : List Int32) (w_32 : List Int32) (w_33 : List Int32) (w_34 : List Int32) =>
    if r_10 = false then
    (some ((-1 : Int32), w_11, w_12, w_13, w_14, w_15, w_16, w_17, w_18, w_19, w_20, w_21, w_22, w_23, w_24, w_25, w_26, w_27, w_28, w_29, w_30, w_31, w_32, w_33, w_34))
    else (mm_ck (mm_nz (100 : Int32)) (mm_bd1 (fX9_whereOf N (1 : Int32) (x1 / (100 : Int32)) x2 w_24 w_25 w_26 w_27) (fun (r_38 : Int32) =>
    some (r_38, w_11, w_12, w_13, w_14, w_15, w_16, w_17, w_18, w_19, w_20, w_21, w_22, w_23, w_24, w_25, w_26, w_27, w_28, w_29, w_30, w_31, w_32, w_33, w_34))))))))))))

def fX9_topOf (N : Nat) (x1 : Int32) (x2 : Int32) (x3 : Int32) (v_rowsOf : Int32) (v_columnsOf : Int32) (v_row : List Int32) (v_column : List Int32) (v_below : List Int32) : Option (Int32) :=
    mm_bd1 (fX9_sizeAt N x1 x2 x3 v_rowsOf v_columnsOf v_row v_column) (fun (r_1 : Int32) =>
    mm_bd1 (fX9_fieldAt N x1 x2 x3 (r_1 - (1 : Int32)) v_rowsOf v_columnsOf v_row v_column v_below) (fun (r_3 : Int32) =>
    some (r_3)))

def fX9_top (N : Nat) (x1 : Int32) (x2 : Int32) (v_rowsOf : Int32) (v_columnsOf : Int32) (v_textMany : Int32) (v_base : Int32) (v_at : Int32) (v_ends : Int32) (v_fault : Int32) (v_opened : Int32) (v_bentMany : Int32) (v_bentWrong : Int32) (v_moreWorn : Int32) (v_planned : Int32) (v_allWrong : Int32) (v_allWorn : Int32) (v_z : Int32) (v_limit : List Int32) (v_shapeRows : List Int32) (v_shapeColumns : List Int32) (v_row : List Int32) (v_column : List Int32) (v_below : List Int32) (v_face : List Int32) (v_worn : List Int32) (v_lastBend : List Int32) (v_tape : List Int32) (v_text : List Int32) (v_names : List Int32) (v_bends : List Int32) (v_high : List Int32) (v_to : List Int32) (v_pileSize : List Int32) (v_planLine : List Int32) (v_planWay : List Int32) : Option (Int32 × Int32 × Int32 × Int32 × Int32 × Int32 × Int32 × Int32 × Int32 × Int32 × Int32 × Int32 × List Int32 × List Int32 × List Int32 × List Int32 × List Int32 × List Int32 × List Int32 × List Int32 × List Int32 × List Int32 × List Int32 × List Int32 × List Int32) :=
    mm_bd25 (fX9_isBehind N x1 v_rowsOf v_columnsOf v_textMany v_base v_at v_ends v_fault v_opened v_bentMany v_bentWrong v_moreWorn v_planned v_allWrong v_allWorn v_z v_limit v_shapeRows v_shapeColumns v_row v_column v_below v_face v_worn v_lastBend v_tape v_text v_names v_bends v_high v_to v_pileSize v_planLine v_planWay) (fun (r_1 : Bool) (w_2 : Int32) (w_3 : Int32) (w_4 : Int32) (w_5 : Int32) (w_6 : Int32) (w_7 : Int32) (w_8 : Int32) (w_9 : Int32) (w_10 : Int32) (w_11 : Int32) (w_12 : Int32) (w_13 : List Int32) (w_14 : List Int32) (w_15 : List Int32) (w_16 : List Int32) (w_17 : List Int32) (w_18 : List Int32) (w_19 : List Int32) (w_20 : List Int32) (w_21 : List Int32) (w_22 : List Int32) (w_23 : List Int32) (w_24 : List Int32) (w_25 : List Int32) =>
    if r_1 = false then
    (some ((-1 : Int32), w_2, w_3, w_4, w_5, w_6, w_7, w_8, w_9, w_10, w_11, w_12, w_13, w_14, w_15, w_16, w_17, w_18, w_19, w_20, w_21, w_22, w_23, w_24, w_25))
    else (mm_bd1 (fX9_isPile N (1 : Int32) x2 w_13 w_14) (fun (r_28 : Bool) =>
    if r_28 = false then
    (some ((-1 : Int32), w_2, w_3, w_4, w_5, w_6, w_7, w_8, w_9, w_10, w_11, w_12, w_13, w_14, w_15, w_16, w_17, w_18, w_19, w_20, w_21, w_22, w_23, w_24, w_25))
    else (mm_ck (mm_nz (10 : Int32)) (mm_ck (mm_nz (10 : Int32)) (mm_bd1 (fX9_topOf N (1 : Int32) (x2 / (10 : Int32)) (mm_rem x2 (10 : Int32)) v_rowsOf v_columnsOf w_15 w_16 w_17) (fun (r_33 : Int32) =>
    some (r_33, w_2, w_3, w_4, w_5, w_6, w_7, w_8, w_9, w_10, w_11, w_12, w_13, w_14, w_15, w_16, w_17, w_18, w_19, w_20, w_21, w_22, w_23, w_24, w_25))))))))

def fX9_isOnTop (N : Nat) (x1 : Int32) (x2 : Int32) (v_rowsOf : Int32) (v_columnsOf : Int32) (v_row : List Int32) (v_column : List Int32) (v_below : List Int32) : Option (Bool) :=
    mm_ck (mm_inb (((32 : Int32) * x1) + x2) v_row.length) (mm_ck (mm_inb (((32 : Int32) * x1) + x2) v_column.length) (mm_bd1 (fX9_topOf N x1 (mm_ig v_row (((32 : Int32) * x1) + x2)) (mm_ig v_column (((32 : Int32) * x1) + x2)) v_rowsOf v_columnsOf v_row v_column v_below) (fun (r_3 : Int32) =>
    if r_3 = x2 then
    (some (true))
    else (some (false)))))

def fX9_beside (N : Nat) (x1 : Int32) (x2 : Int32) (v_rowsOf : Int32) (v_columnsOf : Int32) (v_textMany : Int32) (v_base : Int32) (v_at : Int32) (v_ends : Int32) (v_fault : Int32) (v_opened : Int32) (v_bentMany : Int32) (v_bentWrong : Int32) (v_moreWorn : Int32) (v_planned : Int32) (v_allWrong : Int32) (v_allWorn : Int32) (v_z : Int32) (v_limit : List Int32) (v_shapeRows : List Int32) (v_shapeColumns : List Int32) (v_row : List Int32) (v_column : List Int32) (v_below : List Int32) (v_face : List Int32) (v_worn : List Int32) (v_lastBend : List Int32) (v_tape : List Int32) (v_text : List Int32) (v_names : List Int32) (v_bends : List Int32) (v_high : List Int32) (v_to : List Int32) (v_pileSize : List Int32) (v_planLine : List Int32) (v_planWay : List Int32) : Option (Int32 × Int32 × Int32 × Int32 × Int32 × Int32 × Int32 × Int32 × Int32 × Int32 × Int32 × Int32 × List Int32 × List Int32 × List Int32 × List Int32 × List Int32 × List Int32 × List Int32 × List Int32 × List Int32 × List Int32 × List Int32 × List Int32 × List Int32) :=
    if x2 < 0 then
    (some ((-1 : Int32), v_base, v_at, v_ends, v_fault, v_opened, v_bentMany, v_bentWrong, v_moreWorn, v_allWrong, v_allWorn, v_z, v_shapeRows, v_shapeColumns, v_row, v_column, v_below, v_face, v_worn, v_lastBend, v_names, v_bends, v_high, v_to, v_pileSize))
    else (mm_ck (mm_nz (100 : Int32)) (mm_bd1 (fX9_isField N (x2 / (100 : Int32)) v_rowsOf v_columnsOf) (fun (r_3 : Bool) =>
    if r_3 = false then
    (some ((-1 : Int32), v_base, v_at, v_ends, v_fault, v_opened, v_bentMany, v_bentWrong, v_moreWorn, v_allWrong, v_allWorn, v_z, v_shapeRows, v_shapeColumns, v_row, v_column, v_below, v_face, v_worn, v_lastBend, v_names, v_bends, v_high, v_to, v_pileSize))
    else (mm_ck (mm_nz (100 : Int32)) (mm_bd1 (fX9_isField N (mm_rem x2 (100 : Int32)) v_rowsOf v_columnsOf) (fun (r_7 : Bool) =>
    if r_7 = false then
    (some ((-1 : Int32), v_base, v_at, v_ends, v_fault, v_opened, v_bentMany, v_bentWrong, v_moreWorn, v_allWrong, v_allWorn, v_z, v_shapeRows, v_shapeColumns, v_row, v_column, v_below, v_face, v_worn, v_lastBend, v_names, v_bends, v_high, v_to, v_pileSize))
    else (mm_ck (mm_nz (100 : Int32)) (mm_ck (mm_nz (100 : Int32)) (if (x2 / (100 : Int32)) = (mm_rem x2 (100 : Int32)) then
    (some ((-1 : Int32), v_base, v_at, v_ends, v_fault, v_opened, v_bentMany, v_bentWrong, v_moreWorn, v_allWrong, v_allWorn, v_z, v_shapeRows, v_shapeColumns, v_row, v_column, v_below, v_face, v_worn, v_lastBend, v_names, v_bends, v_high, v_to, v_pileSize))
    else (mm_bd25 (fX9_isBehind N x1 v_rowsOf v_columnsOf v_textMany v_base v_at v_ends v_fault v_opened v_bentMany v_bentWrong v_moreWorn v_planned v_allWrong v_allWorn v_z v_limit v_shapeRows v_shapeColumns v_row v_column v_below v_face v_worn v_lastBend v_tape v_text v_names v_bends v_high v_to v_pileSize v_planLine v_planWay) (fun (r_13 : Bool) (w_14 : Int32) (w_15 : Int32) (w_16 : Int32) (w_17 : Int32) (w_18 : Int32) (w_19 : Int32) (w_20 : Int32) (w_21 : Int32) (w_22 : Int32) (w_23 : Int32) (w_24 : Int32) (w_25 : List Int32) (w_26 : List Int32) (w_27 : List Int32) (w_28 : List Int32) (w_29 : List Int32) (w_30 : List Int32) (w_31 : List Int32) (w_32 : List Int32) (w_33 : List Int32) (w_34 : List Int32) (w_35 : List Int32) (w_36 : List Int32) (w_37 : List Int32) =>
    if r_13 = false then
    (some ((-1 : Int32), w_14, w_15, w_16, w_17, w_18, w_19, w_20, w_21, w_22, w_23, w_24, w_25, w_26, w_27, w_28, w_29, w_30, w_31, w_32, w_33, w_34, w_35, w_36, w_37))
    else (mm_ck (mm_nz (100 : Int32)) (mm_ck (mm_inb ((32 : Int32) + (x2 / (100 : Int32))) w_27.length) (mm_ck (mm_nz (100 : Int32)) (mm_ck (mm_inb ((32 : Int32) + (mm_rem x2 (100 : Int32))) w_27.length) (mm_nm (((mm_ig w_27 ((32 : Int32) + (x2 / (100 : Int32)))) - (mm_ig w_27 ((32 : Int32) + (mm_rem x2 (100 : Int32)))))) (fun (y_44 : Int32) =>
    mm_ck (mm_nz (100 : Int32)) (mm_ck (mm_inb ((32 : Int32) + (x2 / (100 : Int32))) w_28.length) (mm_ck (mm_nz (100 : Int32)) (mm_ck (mm_inb ((32 : Int32) + (mm_rem x2 (100 : Int32))) w_28.length) (mm_nm (((mm_ig w_28 ((32 : Int32) + (x2 / (100 : Int32)))) - (mm_ig w_28 ((32 : Int32) + (mm_rem x2 (100 : Int32)))))) (fun (y_49 : Int32) =>
    if ((y_44 * y_44) + (y_49 * y_49)) = (1 : Int32) then
    (mm_ck (mm_nz (100 : Int32)) (mm_bd1 (fX9_isOnTop N (1 : Int32) (x2 / (100 : Int32)) v_rowsOf v_columnsOf w_27 w_28 w_29) (fun (r_52 : Bool) =>
    if r_52 = false then
    (some ((0 : Int32), w_14, w_15, w_16, w_17, w_18, w_19, w_20, w_21, w_22, w_23, w_24, w_25, w_26, w_27, w_28, w_29, w_30, w_31, w_32, w_33, w_34, w_35, w_36, w_37))
    else (mm_ck (mm_nz (100 : Int32)) (mm_bd1 (fX9_isOnTop N (1 : Int32) (mm_rem x2 (100 : Int32)) v_rowsOf v_columnsOf w_27 w_28 w_29) (fun (r_56 : Bool) =>
    if r_56 = false then
    (some ((0 : Int32), w_14, w_15, w_16, w_17, w_18, w_19, w_20, w_21, w_22, w_23, w_24, w_25, w_26, w_27, w_28, w_29, w_30, w_31, w_32, w_33, w_34, w_35, w_36, w_37))
    else (some ((1 : Int32), w_14, w_15, w_16, w_17, w_18, w_19, w_20, w_21, w_22, w_23, w_24, w_25, w_26, w_27, w_28, w_29, w_30, w_31, w_32, w_33, w_34, w_35, w_36, w_37))))))))
    else (some ((0 : Int32), w_14, w_15, w_16, w_17, w_18, w_19, w_20, w_21, w_22, w_23, w_24, w_25, w_26, w_27, w_28, w_29, w_30, w_31, w_32, w_33, w_34, w_35, w_36, w_37))))))))))))))))))))))))

def fX9_copies_128 (N : Nat)  : Nat → Int32 → Int32 → Int32 → List Int32 → List Int32 → List Int32 → List Int32 → List Int32 → List Int32 → List Int32 → List Int32 → Option (List Int32 × List Int32 × List Int32 × List Int32 × List Int32 × List Int32 × List Int32 × List Int32)
  | 0 => fun _ _ _ _ _ _ _ _ _ _ _ => none
  | n + 1 => fun x1 x2 x3 v_shapeRows v_shapeColumns v_row v_column v_below v_face v_worn v_lastBend =>
    if (64 : Int32) ≤ x3 then
    (some (v_shapeRows, v_shapeColumns, v_row, v_column, v_below, v_face, v_worn, v_lastBend))
    else (mm_ck (mm_inb (((64 : Int32) * x1) + x3) v_worn.length) (mm_nm ((mm_ig v_worn (((64 : Int32) * x1) + x3))) (fun (y_29 : Int32) =>
    mm_ck (mm_inb (((64 : Int32) * x2) + x3) v_worn.length) (mm_nm (mm_is v_worn (((64 : Int32) * x2) + x3) y_29) (fun (l_31 : List Int32) =>
    mm_ck (mm_inb (((64 : Int32) * x1) + x3) v_lastBend.length) (mm_nm ((mm_ig v_lastBend (((64 : Int32) * x1) + x3))) (fun (y_33 : Int32) =>
    mm_ck (mm_inb (((64 : Int32) * x2) + x3) v_lastBend.length) (mm_nm (mm_is v_lastBend (((64 : Int32) * x2) + x3) y_33) (fun (l_35 : List Int32) =>
    mm_nm (x3 + (1 : Int32)) (fun (y_36 : Int32) =>
    fX9_copies_128 N n x1 x2 y_36 v_shapeRows v_shapeColumns v_row v_column v_below v_face l_31 l_35))))))))))

def fX9_copies_26 (N : Nat)  : Nat → Int32 → Int32 → Int32 → List Int32 → List Int32 → List Int32 → List Int32 → List Int32 → List Int32 → List Int32 → List Int32 → Option (List Int32 × List Int32 × List Int32 × List Int32 × List Int32 × List Int32 × List Int32 × List Int32)
  | 0 => fun _ _ _ _ _ _ _ _ _ _ _ => none
  | n + 1 => fun x1 x2 x3 v_shapeRows v_shapeColumns v_row v_column v_below v_face v_worn v_lastBend =>
    if (32 : Int32) ≤ x3 then
    (fX9_copies_128 N N x1 x2 (0 : Int32) v_shapeRows v_shapeColumns v_row v_column v_below v_face v_worn v_lastBend)
    else (mm_ck (mm_inb (((32 : Int32) * x1) + x3) v_row.length) (mm_nm ((mm_ig v_row (((32 : Int32) * x1) + x3))) (fun (y_11 : Int32) =>
    mm_ck (mm_inb (((32 : Int32) * x2) + x3) v_row.length) (mm_nm (mm_is v_row (((32 : Int32) * x2) + x3) y_11) (fun (l_13 : List Int32) =>
    mm_ck (mm_inb (((32 : Int32) * x1) + x3) v_column.length) (mm_nm ((mm_ig v_column (((32 : Int32) * x1) + x3))) (fun (y_15 : Int32) =>
    mm_ck (mm_inb (((32 : Int32) * x2) + x3) v_column.length) (mm_nm (mm_is v_column (((32 : Int32) * x2) + x3) y_15) (fun (l_17 : List Int32) =>
    mm_ck (mm_inb (((32 : Int32) * x1) + x3) v_below.length) (mm_nm ((mm_ig v_below (((32 : Int32) * x1) + x3))) (fun (y_19 : Int32) =>
    mm_ck (mm_inb (((32 : Int32) * x2) + x3) v_below.length) (mm_nm (mm_is v_below (((32 : Int32) * x2) + x3) y_19) (fun (l_21 : List Int32) =>
    mm_ck (mm_inb (((32 : Int32) * x1) + x3) v_face.length) (mm_nm ((mm_ig v_face (((32 : Int32) * x1) + x3))) (fun (y_23 : Int32) =>
    mm_ck (mm_inb (((32 : Int32) * x2) + x3) v_face.length) (mm_nm (mm_is v_face (((32 : Int32) * x2) + x3) y_23) (fun (l_25 : List Int32) =>
    mm_nm (x3 + (1 : Int32)) (fun (y_26 : Int32) =>
    fX9_copies_26 N n x1 x2 y_26 v_shapeRows v_shapeColumns l_13 l_17 l_21 l_25 v_worn v_lastBend))))))))))))))))))

def fX9_copies (N : Nat) (x1 : Int32) (x2 : Int32) (v_shapeRows : List Int32) (v_shapeColumns : List Int32) (v_row : List Int32) (v_column : List Int32) (v_below : List Int32) (v_face : List Int32) (v_worn : List Int32) (v_lastBend : List Int32) : Option (List Int32 × List Int32 × List Int32 × List Int32 × List Int32 × List Int32 × List Int32 × List Int32) :=
    mm_ck (mm_inb x1 v_shapeRows.length) (mm_nm ((mm_ig v_shapeRows x1)) (fun (y_2 : Int32) =>
    mm_ck (mm_inb x2 v_shapeRows.length) (mm_nm (mm_is v_shapeRows x2 y_2) (fun (l_4 : List Int32) =>
    mm_ck (mm_inb x1 v_shapeColumns.length) (mm_nm ((mm_ig v_shapeColumns x1)) (fun (y_6 : Int32) =>
    mm_ck (mm_inb x2 v_shapeColumns.length) (mm_nm (mm_is v_shapeColumns x2 y_6) (fun (l_8 : List Int32) =>
    fX9_copies_26 N N x1 x2 (0 : Int32) l_4 l_8 v_row v_column v_below v_face v_worn v_lastBend))))))))

def fX9_halvings_4 (N : Nat)  : Nat → Int32 → Int32 → Option (Int32)
  | 0 => fun _ _ => none
  | n + 1 => fun x1 x2 =>
    if x2 ≤ (1 : Int32) then
    (some (x1))
    else (mm_nm (x1 + (1 : Int32)) (fun (y_2 : Int32) =>
    mm_ck (mm_nz (2 : Int32)) (mm_nm (((x2 + (1 : Int32)) / (2 : Int32))) (fun (y_4 : Int32) =>
    fX9_halvings_4 N n y_2 y_4))))

def fX9_halvings (N : Nat) (x0 : Int32) : Option (Int32) :=
    fX9_halvings_4 N N (0 : Int32) x0

def fX9_ends1_157 (N : Nat)  : Nat → Int32 → Int32 → Int32 → Int32 → Int32 → Bool → Int32 → Int32 → Int32 → List Int32 → List Int32 → List Int32 → List Int32 → List Int32 → Option (Bool × Int32 × Int32 × Int32 × List Int32)
  | 0 => fun _ _ _ _ _ _ _ _ _ _ _ _ _ _ => none
  | n + 1 => fun x1 x6 v_rowsOf v_columnsOf v_wishedField v_isFound v_bestWrong v_bestWorn v_bestMany v_row v_column v_below v_way1 v_bestWay =>
    if x1 ≤ x6 then
    (some (v_isFound, v_bestWrong, v_bestWorn, v_bestMany, v_bestWay))
    else (mm_ck (mm_inb x6 v_way1.length) (mm_nm ((mm_ig v_way1 x6)) (fun (y_13 : Int32) =>
    mm_ck (mm_inb x6 v_bestWay.length) (mm_nm (mm_is v_bestWay x6 y_13) (fun (l_15 : List Int32) =>
    mm_nm (x6 + (1 : Int32)) (fun (y_16 : Int32) =>
    fX9_ends1_157 N n x1 y_16 v_rowsOf v_columnsOf v_wishedField v_isFound v_bestWrong v_bestWorn v_bestMany v_row v_column v_below v_way1 l_15))))))

def fX9_ends1_128 (N : Nat)  (x1 : Int32) (x2 : Int32) (x3 : Int32) (x5 : Int32) (v_rowsOf : Int32) (v_columnsOf : Int32) (v_wishedField : Int32) (v_isFound : Bool) (v_bestWrong : Int32) (v_bestWorn : Int32) (v_bestMany : Int32) (v_row : List Int32) (v_column : List Int32) (v_below : List Int32) (v_way1 : List Int32) (v_bestWay : List Int32) : Option (Bool × Int32 × Int32 × Int32 × List Int32) :=
    if x5 = 0 then
    (some (v_isFound, v_bestWrong, v_bestWorn, v_bestMany, v_bestWay))
    else (fX9_ends1_157 N N x1 (0 : Int32) v_rowsOf v_columnsOf v_wishedField true x2 x3 x1 v_row v_column v_below v_way1 v_bestWay)

def fX9_ends1_69 (N : Nat)  (x1 : Int32) (x2 : Int32) (x3 : Int32) (s0 : Int32) (v_rowsOf : Int32) (v_columnsOf : Int32) (v_wishedField : Int32) (v_isFound : Bool) (v_bestWrong : Int32) (v_bestWorn : Int32) (v_bestMany : Int32) (v_row : List Int32) (v_column : List Int32) (v_below : List Int32) (v_way1 : List Int32) (v_bestWay : List Int32) : Option (Bool × Int32 × Int32 × Int32 × List Int32) :=
    fX9_ends1_128 N x1 x2 x3 s0 v_rowsOf v_columnsOf v_wishedField v_isFound v_bestWrong v_bestWorn v_bestMany v_row v_column v_below v_way1 v_bestWay

def fX9_ends1_126 (N : Nat)  (x1 : Int32) (x2 : Int32) (x3 : Int32) (s0 : Int32) (v_rowsOf : Int32) (v_columnsOf : Int32) (v_wishedField : Int32) (v_isFound : Bool) (v_bestWrong : Int32) (v_bestWorn : Int32) (v_bestMany : Int32) (v_row : List Int32) (v_column : List Int32) (v_below : List Int32) (v_way1 : List Int32) (v_bestWay : List Int32) : Option (Bool × Int32 × Int32 × Int32 × List Int32) :=
    fX9_ends1_128 N x1 x2 x3 s0 v_rowsOf v_columnsOf v_wishedField v_isFound v_bestWrong v_bestWorn v_bestMany v_row v_column v_below v_way1 v_bestWay

def fX9_ends1_121 (N : Nat)  (x1 : Int32) (x2 : Int32) (x3 : Int32) (v_rowsOf : Int32) (v_columnsOf : Int32) (v_wishedField : Int32) (v_isFound : Bool) (v_bestWrong : Int32) (v_bestWorn : Int32) (v_bestMany : Int32) (v_row : List Int32) (v_column : List Int32) (v_below : List Int32) (v_way1 : List Int32) (v_bestWay : List Int32) : Option (Bool × Int32 × Int32 × Int32 × List Int32) :=
    fX9_ends1_126 N x1 x2 x3 (1 : Int32) v_rowsOf v_columnsOf v_wishedField v_isFound v_bestWrong v_bestWorn v_bestMany v_row v_column v_below v_way1 v_bestWay

def fX9_ends1_125 (N : Nat)  (x1 : Int32) (x2 : Int32) (x3 : Int32) (v_rowsOf : Int32) (v_columnsOf : Int32) (v_wishedField : Int32) (v_isFound : Bool) (v_bestWrong : Int32) (v_bestWorn : Int32) (v_bestMany : Int32) (v_row : List Int32) (v_column : List Int32) (v_below : List Int32) (v_way1 : List Int32) (v_bestWay : List Int32) : Option (Bool × Int32 × Int32 × Int32 × List Int32) :=
    fX9_ends1_126 N x1 x2 x3 (0 : Int32) v_rowsOf v_columnsOf v_wishedField v_isFound v_bestWrong v_bestWorn v_bestMany v_row v_column v_below v_way1 v_bestWay

def fX9_ends1_74 (N : Nat)  (x1 : Int32) (x2 : Int32) (x3 : Int32) (x5 : Int32) (v_rowsOf : Int32) (v_columnsOf : Int32) (v_wishedField : Int32) (v_isFound : Bool) (v_bestWrong : Int32) (v_bestWorn : Int32) (v_bestMany : Int32) (v_row : List Int32) (v_column : List Int32) (v_below : List Int32) (v_way1 : List Int32) (v_bestWay : List Int32) : Option (Bool × Int32 × Int32 × Int32 × List Int32) :=
    if v_isFound = false then
    (fX9_ends1_128 N x1 x2 x3 x5 v_rowsOf v_columnsOf v_wishedField v_isFound v_bestWrong v_bestWorn v_bestMany v_row v_column v_below v_way1 v_bestWay)
    else (if x2 < v_bestWrong then
    (fX9_ends1_121 N x1 x2 x3 v_rowsOf v_columnsOf v_wishedField v_isFound v_bestWrong v_bestWorn v_bestMany v_row v_column v_below v_way1 v_bestWay)
    else (if x2 = v_bestWrong then
    (if x3 < v_bestWorn then
    (fX9_ends1_121 N x1 x2 x3 v_rowsOf v_columnsOf v_wishedField v_isFound v_bestWrong v_bestWorn v_bestMany v_row v_column v_below v_way1 v_bestWay)
    else (if x3 = v_bestWorn then
    (if v_bestMany ≤ x1 then
    (fX9_ends1_125 N x1 x2 x3 v_rowsOf v_columnsOf v_wishedField v_isFound v_bestWrong v_bestWorn v_bestMany v_row v_column v_below v_way1 v_bestWay)
    else (fX9_ends1_121 N x1 x2 x3 v_rowsOf v_columnsOf v_wishedField v_isFound v_bestWrong v_bestWorn v_bestMany v_row v_column v_below v_way1 v_bestWay))
    else (fX9_ends1_125 N x1 x2 x3 v_rowsOf v_columnsOf v_wishedField v_isFound v_bestWrong v_bestWorn v_bestMany v_row v_column v_below v_way1 v_bestWay)))
    else (fX9_ends1_125 N x1 x2 x3 v_rowsOf v_columnsOf v_wishedField v_isFound v_bestWrong v_bestWorn v_bestMany v_row v_column v_below v_way1 v_bestWay)))

def fX9_ends1_40 (N : Nat)  (x1 : Int32) (x2 : Int32) (x3 : Int32) (s0 : Int32) (v_rowsOf : Int32) (v_columnsOf : Int32) (v_wishedField : Int32) (v_isFound : Bool) (v_bestWrong : Int32) (v_bestWorn : Int32) (v_bestMany : Int32) (v_row : List Int32) (v_column : List Int32) (v_below : List Int32) (v_way1 : List Int32) (v_bestWay : List Int32) : Option (Bool × Int32 × Int32 × Int32 × List Int32) :=
    if v_isFound = false then
    (fX9_ends1_74 N x1 x2 x3 s0 v_rowsOf v_columnsOf v_wishedField v_isFound v_bestWrong v_bestWorn v_bestMany v_row v_column v_below v_way1 v_bestWay)
    else (if v_wishedField < 0 then
    (fX9_ends1_74 N x1 x2 x3 s0 v_rowsOf v_columnsOf v_wishedField v_isFound v_bestWrong v_bestWorn v_bestMany v_row v_column v_below v_way1 v_bestWay)
    else (if v_bestMany ≤ x1 then
    (fX9_ends1_69 N x1 x2 x3 (0 : Int32) v_rowsOf v_columnsOf v_wishedField v_isFound v_bestWrong v_bestWorn v_bestMany v_row v_column v_below v_way1 v_bestWay)
    else (fX9_ends1_69 N x1 x2 x3 (1 : Int32) v_rowsOf v_columnsOf v_wishedField v_isFound v_bestWrong v_bestWorn v_bestMany v_row v_column v_below v_way1 v_bestWay)))

def fX9_ends1_28 (N : Nat)  (x1 : Int32) (x2 : Int32) (x3 : Int32) (v_rowsOf : Int32) (v_columnsOf : Int32) (v_wishedField : Int32) (v_isFound : Bool) (v_bestWrong : Int32) (v_bestWorn : Int32) (v_bestMany : Int32) (v_row : List Int32) (v_column : List Int32) (v_below : List Int32) (v_way1 : List Int32) (v_bestWay : List Int32) : Option (Bool × Int32 × Int32 × Int32 × List Int32) :=
    if v_isFound = false then
    (fX9_ends1_40 N x1 x2 x3 (1 : Int32) v_rowsOf v_columnsOf v_wishedField v_isFound v_bestWrong v_bestWorn v_bestMany v_row v_column v_below v_way1 v_bestWay)
    else (fX9_ends1_40 N x1 x2 x3 (0 : Int32) v_rowsOf v_columnsOf v_wishedField v_isFound v_bestWrong v_bestWorn v_bestMany v_row v_column v_below v_way1 v_bestWay)

def fX9_ends1 (N : Nat) (x1 : Int32) (x2 : Int32) (x3 : Int32) (v_rowsOf : Int32) (v_columnsOf : Int32) (v_wishedField : Int32) (v_isFound : Bool) (v_bestWrong : Int32) (v_bestWorn : Int32) (v_bestMany : Int32) (v_row : List Int32) (v_column : List Int32) (v_below : List Int32) (v_way1 : List Int32) (v_bestWay : List Int32) : Option (Bool × Int32 × Int32 × Int32 × List Int32) :=
    mm_nm ((x1 + (1 : Int32))) (fun (y_1 : Int32) =>
    if v_wishedField < 0 then
    (fX9_ends1_28 N x1 x2 x3 v_rowsOf v_columnsOf v_wishedField v_isFound v_bestWrong v_bestWorn v_bestMany v_row v_column v_below v_way1 v_bestWay)
    else (mm_bd1 (fX9_topOf N y_1 (0 : Int32) (0 : Int32) v_rowsOf v_columnsOf v_row v_column v_below) (fun (r_3 : Int32) =>
    if r_3 = v_wishedField then
    (fX9_ends1_28 N x1 x2 x3 v_rowsOf v_columnsOf v_wishedField v_isFound v_bestWrong v_bestWorn v_bestMany v_row v_column v_below v_way1 v_bestWay)
    else (some (v_isFound, v_bestWrong, v_bestWorn, v_bestMany, v_bestWay)))))

def fX9_goesDeeper_154 (N : Nat) (go : Int32 → Int32 → Int32 → Int32 → Int32 → Int32 → Int32 → Int32 → Int32 → Int32 → Int32 → Int32 → Int32 → Int32 → Int32 → Bool → Int32 → Int32 → Int32 → List Int32 → List Int32 → List Int32 → List Int32 → List Int32 → List Int32 → List Int32 → List Int32 → List Int32 → List Int32 → List Int32 → List Int32 → List Int32 → List Int32 → List Int32 → List Int32 → List Int32 → List Int32 → Option (Int32 × Int32 × Int32 × Int32 × Int32 × Int32 × Int32 × Int32 × Bool × Int32 × Int32 × Int32 × List Int32 × List Int32 × List Int32 × List Int32 × List Int32 × List Int32 × List Int32 × List Int32 × List Int32 × List Int32 × List Int32 × List Int32 × List Int32 × List Int32 × List Int32)) (k_66 : Int32 → Int32 → Int32 → Int32 → Int32 → Int32 → Int32 → Int32 → Int32 → Int32 → Int32 → Int32 → Int32 → Int32 → Int32 → Int32 → Int32 → Bool → Int32 → Int32 → Int32 → List Int32 → List Int32 → List Int32 → List Int32 → List Int32 → List Int32 → List Int32 → List Int32 → List Int32 → List Int32 → List Int32 → List Int32 → List Int32 → List Int32 → List Int32 → List Int32 → List Int32 → List Int32 → Option (Int32 × Int32 × Int32 × Int32 × Int32 × Int32 × Int32 × Int32 × Bool × Int32 × Int32 × Int32 × List Int32 × List Int32 × List Int32 × List Int32 × List Int32 × List Int32 × List Int32 × List Int32 × List Int32 × List Int32 × List Int32 × List Int32 × List Int32 × List Int32 × List Int32)) (k_76 : Int32 → Int32 → Int32 → Int32 → Int32 → Int32 → Int32 → Int32 → Int32 → Int32 → Int32 → Int32 → Int32 → Int32 → Int32 → Int32 → Int32 → Int32 → Bool → Int32 → Int32 → Int32 → List Int32 → List Int32 → List Int32 → List Int32 → List Int32 → List Int32 → List Int32 → List Int32 → List Int32 → List Int32 → List Int32 → List Int32 → List Int32 → List Int32 → List Int32 → List Int32 → List Int32 → List Int32 → Option (Int32 × Int32 × Int32 × Int32 × Int32 × Int32 × Int32 × Int32 × Bool × Int32 × Int32 × Int32 × List Int32 × List Int32 × List Int32 × List Int32 × List Int32 × List Int32 × List Int32 × List Int32 × List Int32 × List Int32 × List Int32 × List Int32 × List Int32 × List Int32 × List Int32)) (x1 : Int32) (x2 : Int32) (x3 : Int32) (x4 : Int32) (x5 : Int32) (x6 : Int32) (v_rowsOf : Int32) (v_columnsOf : Int32) (v_textMany : Int32) (v_base : Int32) (v_at : Int32) (v_ends : Int32) (v_fault : Int32) (v_opened : Int32) (v_bentMany : Int32) (v_bentWrong : Int32) (v_moreWorn : Int32) (v_wishedField : Int32) (v_isFound : Bool) (v_bestWrong : Int32) (v_bestWorn : Int32) (v_bestMany : Int32) (v_limit : List Int32) (v_shapeRows : List Int32) (v_shapeColumns : List Int32) (v_row : List Int32) (v_column : List Int32) (v_below : List Int32) (v_face : List Int32) (v_worn : List Int32) (v_lastBend : List Int32) (v_tape : List Int32) (v_text : List Int32) (v_names : List Int32) (v_bends : List Int32) (v_high : List Int32) (v_to : List Int32) (v_pileSize : List Int32) (v_way1 : List Int32) (v_bestWay : List Int32) : Option (Int32 × Int32 × Int32 × Int32 × Int32 × Int32 × Int32 × Int32 × Bool × Int32 × Int32 × Int32 × List Int32 × List Int32 × List Int32 × List Int32 × List Int32 × List Int32 × List Int32 × List Int32 × List Int32 × List Int32 × List Int32 × List Int32 × List Int32 × List Int32 × List Int32) :=
    mm_nm (x6 + (1 : Int32)) (fun (y_87 : Int32) =>
    k_76 x1 x2 x3 x4 x5 y_87 v_rowsOf v_columnsOf v_textMany v_base v_at v_ends v_fault v_opened v_bentMany v_bentWrong v_moreWorn v_wishedField v_isFound v_bestWrong v_bestWorn v_bestMany v_limit v_shapeRows v_shapeColumns v_row v_column v_below v_face v_worn v_lastBend v_tape v_text v_names v_bends v_high v_to v_pileSize v_way1 v_bestWay)

def fX9_goesDeeper_76 (N : Nat) (go : Int32 → Int32 → Int32 → Int32 → Int32 → Int32 → Int32 → Int32 → Int32 → Int32 → Int32 → Int32 → Int32 → Int32 → Int32 → Bool → Int32 → Int32 → Int32 → List Int32 → List Int32 → List Int32 → List Int32 → List Int32 → List Int32 → List Int32 → List Int32 → List Int32 → List Int32 → List Int32 → List Int32 → List Int32 → List Int32 → List Int32 → List Int32 → List Int32 → List Int32 → Option (Int32 × Int32 × Int32 × Int32 × Int32 × Int32 × Int32 × Int32 × Bool × Int32 × Int32 × Int32 × List Int32 × List Int32 × List Int32 × List Int32 × List Int32 × List Int32 × List Int32 × List Int32 × List Int32 × List Int32 × List Int32 × List Int32 × List Int32 × List Int32 × List Int32)) (k_66 : Int32 → Int32 → Int32 → Int32 → Int32 → Int32 → Int32 → Int32 → Int32 → Int32 → Int32 → Int32 → Int32 → Int32 → Int32 → Int32 → Int32 → Bool → Int32 → Int32 → Int32 → List Int32 → List Int32 → List Int32 → List Int32 → List Int32 → List Int32 → List Int32 → List Int32 → List Int32 → List Int32 → List Int32 → List Int32 → List Int32 → List Int32 → List Int32 → List Int32 → List Int32 → List Int32 → Option (Int32 × Int32 × Int32 × Int32 × Int32 × Int32 × Int32 × Int32 × Bool × Int32 × Int32 × Int32 × List Int32 × List Int32 × List Int32 × List Int32 × List Int32 × List Int32 × List Int32 × List Int32 × List Int32 × List Int32 × List Int32 × List Int32 × List Int32 × List Int32 × List Int32)) : Nat → Int32 → Int32 → Int32 → Int32 → Int32 → Int32 → Int32 → Int32 → Int32 → Int32 → Int32 → Int32 → Int32 → Int32 → Int32 → Int32 → Int32 → Int32 → Bool → Int32 → Int32 → Int32 → List Int32 → List Int32 → List Int32 → List Int32 → List Int32 → List Int32 → List Int32 → List Int32 → List Int32 → List Int32 → List Int32 → List Int32 → List Int32 → List Int32 → List Int32 → List Int32 → List Int32 → List Int32 → Option (Int32 × Int32 × Int32 × Int32 × Int32 × Int32 × Int32 × Int32 × Bool × Int32 × Int32 × Int32 × List Int32 × List Int32 × List Int32 × List Int32 × List Int32 × List Int32 × List Int32 × List Int32 × List Int32 × List Int32 × List Int32 × List Int32 × List Int32 × List Int32 × List Int32)
  | 0 => fun _ _ _ _ _ _ _ _ _ _ _ _ _ _ _ _ _ _ _ _ _ _ _ _ _ _ _ _ _ _ _ _ _ _ _ _ _ _ _ _ => none
  | n + 1 => fun x1 x2 x3 x4 x5 x6 v_rowsOf v_columnsOf v_textMany v_base v_at v_ends v_fault v_opened v_bentMany v_bentWrong v_moreWorn v_wishedField v_isFound v_bestWrong v_bestWorn v_bestMany v_limit v_shapeRows v_shapeColumns v_row v_column v_below v_face v_worn v_lastBend v_tape v_text v_names v_bends v_high v_to v_pileSize v_way1 v_bestWay =>
    if (8 : Int32) ≤ x6 then
    (mm_nm (x5 + (1 : Int32)) (fun (y_21 : Int32) =>
    k_66 x1 x2 x3 x4 y_21 v_rowsOf v_columnsOf v_textMany v_base v_at v_ends v_fault v_opened v_bentMany v_bentWrong v_moreWorn v_wishedField v_isFound v_bestWrong v_bestWorn v_bestMany v_limit v_shapeRows v_shapeColumns v_row v_column v_below v_face v_worn v_lastBend v_tape v_text v_names v_bends v_high v_to v_pileSize v_way1 v_bestWay))
    else (mm_bd1 (fX9_isLine N x4 x5 x6 v_shapeRows v_shapeColumns) (fun (r_22 : Bool) =>
    if r_22 = false then
    (fX9_goesDeeper_154 N go k_66 (fX9_goesDeeper_76 N go k_66 n) x1 x2 x3 x4 x5 x6 v_rowsOf v_columnsOf v_textMany v_base v_at v_ends v_fault v_opened v_bentMany v_bentWrong v_moreWorn v_wishedField v_isFound v_bestWrong v_bestWorn v_bestMany v_limit v_shapeRows v_shapeColumns v_row v_column v_below v_face v_worn v_lastBend v_tape v_text v_names v_bends v_high v_to v_pileSize v_way1 v_bestWay)
    else (mm_bd8 (fX9_copies N x4 (x4 + (1 : Int32)) v_shapeRows v_shapeColumns v_row v_column v_below v_face v_worn v_lastBend) (fun (w_25 : List Int32) (w_26 : List Int32) (w_27 : List Int32) (w_28 : List Int32) (w_29 : List Int32) (w_30 : List Int32) (w_31 : List Int32) (w_32 : List Int32) =>
    mm_bd21 (fX9_foldsOn N (x4 + (1 : Int32)) x5 x6 v_rowsOf v_columnsOf v_textMany v_base v_at v_ends v_fault v_opened v_bentMany v_bentWrong v_moreWorn v_limit w_25 w_26 w_27 w_28 w_29 w_30 w_31 w_32 v_tape v_text v_names v_bends v_high v_to v_pileSize) (fun (w_34 : Int32) (w_35 : Int32) (w_36 : Int32) (w_37 : Int32) (w_38 : Int32) (w_39 : Int32) (w_40 : Int32) (w_41 : Int32) (w_42 : List Int32) (w_43 : List Int32) (w_44 : List Int32) (w_45 : List Int32) (w_46 : List Int32) (w_47 : List Int32) (w_48 : List Int32) (w_49 : List Int32) (w_50 : List Int32) (w_51 : List Int32) (w_52 : List Int32) (w_53 : List Int32) (w_54 : List Int32) =>
    mm_nm ((((10 : Int32) * x5) + x6)) (fun (y_56 : Int32) =>
    mm_ck (mm_inb x1 v_way1.length) (mm_nm (mm_is v_way1 x1 y_56) (fun (l_58 : List Int32) =>
    mm_bd27 (go (x1 + (1 : Int32)) (x2 + w_40) (x3 + w_41) v_rowsOf v_columnsOf v_textMany w_34 w_35 w_36 w_37 w_38 w_39 w_40 w_41 v_wishedField v_isFound v_bestWrong v_bestWorn v_bestMany v_limit w_42 w_43 w_44 w_45 w_46 w_47 w_48 w_49 v_tape v_text w_50 w_51 w_52 w_53 w_54 l_58 v_bestWay) (fun (w_59 : Int32) (w_60 : Int32) (w_61 : Int32) (w_62 : Int32) (w_63 : Int32) (w_64 : Int32) (w_65 : Int32) (w_66 : Int32) (w_67 : Bool) (w_68 : Int32) (w_69 : Int32) (w_70 : Int32) (w_71 : List Int32) (w_72 : List Int32) (w_73 : List Int32) (w_74 : List Int32) (w_75 : List Int32) (w_76 : List Int32) (w_77 : List Int32) (w_78 : List Int32) (w_79 : List Int32) (w_80 : List Int32) (w_81 : List Int32) (w_82 : List Int32) (w_83 : List Int32) (w_84 : List Int32) (w_85 : List Int32) =>
    fX9_goesDeeper_154 N go k_66 (fX9_goesDeeper_76 N go k_66 n) x1 x2 x3 x4 x5 x6 v_rowsOf v_columnsOf v_textMany w_59 w_60 w_61 w_62 w_63 w_64 w_65 w_66 v_wishedField w_67 w_68 w_69 w_70 v_limit w_71 w_72 w_73 w_74 w_75 w_76 w_77 w_78 v_tape v_text w_79 w_80 w_81 w_82 w_83 w_84 w_85)))))))))

def fX9_goesDeeper_66 (N : Nat) (go : Int32 → Int32 → Int32 → Int32 → Int32 → Int32 → Int32 → Int32 → Int32 → Int32 → Int32 → Int32 → Int32 → Int32 → Int32 → Bool → Int32 → Int32 → Int32 → List Int32 → List Int32 → List Int32 → List Int32 → List Int32 → List Int32 → List Int32 → List Int32 → List Int32 → List Int32 → List Int32 → List Int32 → List Int32 → List Int32 → List Int32 → List Int32 → List Int32 → List Int32 → Option (Int32 × Int32 × Int32 × Int32 × Int32 × Int32 × Int32 × Int32 × Bool × Int32 × Int32 × Int32 × List Int32 × List Int32 × List Int32 × List Int32 × List Int32 × List Int32 × List Int32 × List Int32 × List Int32 × List Int32 × List Int32 × List Int32 × List Int32 × List Int32 × List Int32))  : Nat → Int32 → Int32 → Int32 → Int32 → Int32 → Int32 → Int32 → Int32 → Int32 → Int32 → Int32 → Int32 → Int32 → Int32 → Int32 → Int32 → Int32 → Bool → Int32 → Int32 → Int32 → List Int32 → List Int32 → List Int32 → List Int32 → List Int32 → List Int32 → List Int32 → List Int32 → List Int32 → List Int32 → List Int32 → List Int32 → List Int32 → List Int32 → List Int32 → List Int32 → List Int32 → List Int32 → Option (Int32 × Int32 × Int32 × Int32 × Int32 × Int32 × Int32 × Int32 × Bool × Int32 × Int32 × Int32 × List Int32 × List Int32 × List Int32 × List Int32 × List Int32 × List Int32 × List Int32 × List Int32 × List Int32 × List Int32 × List Int32 × List Int32 × List Int32 × List Int32 × List Int32)
  | 0 => fun _ _ _ _ _ _ _ _ _ _ _ _ _ _ _ _ _ _ _ _ _ _ _ _ _ _ _ _ _ _ _ _ _ _ _ _ _ _ _ => none
  | n + 1 => fun x1 x2 x3 x4 x5 v_rowsOf v_columnsOf v_textMany v_base v_at v_ends v_fault v_opened v_bentMany v_bentWrong v_moreWorn v_wishedField v_isFound v_bestWrong v_bestWorn v_bestMany v_limit v_shapeRows v_shapeColumns v_row v_column v_below v_face v_worn v_lastBend v_tape v_text v_names v_bends v_high v_to v_pileSize v_way1 v_bestWay =>
    if (8 : Int32) ≤ x5 then
    (some (v_base, v_at, v_ends, v_fault, v_opened, v_bentMany, v_bentWrong, v_moreWorn, v_isFound, v_bestWrong, v_bestWorn, v_bestMany, v_shapeRows, v_shapeColumns, v_row, v_column, v_below, v_face, v_worn, v_lastBend, v_names, v_bends, v_high, v_to, v_pileSize, v_way1, v_bestWay))
    else (fX9_goesDeeper_76 N go (fX9_goesDeeper_66 N go n) N x1 x2 x3 x4 x5 (0 : Int32) v_rowsOf v_columnsOf v_textMany v_base v_at v_ends v_fault v_opened v_bentMany v_bentWrong v_moreWorn v_wishedField v_isFound v_bestWrong v_bestWorn v_bestMany v_limit v_shapeRows v_shapeColumns v_row v_column v_below v_face v_worn v_lastBend v_tape v_text v_names v_bends v_high v_to v_pileSize v_way1 v_bestWay)
