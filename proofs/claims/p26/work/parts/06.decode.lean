/-! Decoding by bytes: a dozen rows in one check -/
def bp_w (c : ByteArray) (pc : Nat) (bs : List UInt8) : Prop := ∃ r : List UInt8, c.data.toList.drop pc = bs ++ r
def bls_w (c : ByteArray) : List (Nat × List UInt8) → Prop
  | [] => True
  | x :: l => bp_w c x.1 x.2 ∧ bls_w c l
def pf_w : List UInt8 → List UInt8 → Bool
  | [], _ => true
  | _ :: _, [] => false
  | b :: bs, x :: xs => Nat.beq b.toNat x.toNat && pf_w bs xs
def bk_w : List UInt8 → Nat → List (Nat × List UInt8) → Bool
  | _, _, [] => true
  | xs, p, x :: l => Nat.ble p x.1 && (pf_w x.2 (xs.drop (x.1 - p)) && bk_w (xs.drop (x.1 - p)) x.1 l)
theorem pf_w_e : ∀ (bs xs : List UInt8), pf_w bs xs = true → ∃ r : List UInt8, xs = bs ++ r := by
  intro bs
  induction bs with
  | nil =>
    intro xs _
    exact ⟨xs, rfl⟩
  | cons b bs ih =>
    intro xs h
    cases xs with
    | nil => exact Bool.noConfusion (show false = true from h)
    | cons x xs =>
      have h2 : (Nat.beq b.toNat x.toNat && pf_w bs xs) = true := h
      rw [Bool.and_eq_true] at h2
      obtain ⟨r, hr⟩ := ih xs h2.2
      have hb : b = x := UInt8.toNat_inj.mp (Nat.eq_of_beq_eq_true h2.1)
      exact ⟨r, by rw [hb, hr]; rfl⟩
theorem bk_w_e {c : ByteArray} : ∀ (l : List (Nat × List UInt8)) (xs : List UInt8) (p : Nat), xs = c.data.toList.drop p → bk_w xs p l = true → bls_w c l := by
  intro l
  induction l with
  | nil =>
    intro xs p _ _
    exact True.intro
  | cons x l ih =>
    intro xs p hx h
    have h2 : (Nat.ble p x.1 && (pf_w x.2 (xs.drop (x.1 - p)) && bk_w (xs.drop (x.1 - p)) x.1 l)) = true := h
    rw [Bool.and_eq_true, Bool.and_eq_true] at h2
    obtain ⟨g1, g2, g3⟩ := h2
    have hp := Nat.le_of_ble_eq_true g1
    have hd : xs.drop (x.1 - p) = c.data.toList.drop x.1 := by
      rw [hx, List.drop_drop]
      congr 1
      omega
    rw [hd] at g2 g3
    obtain ⟨r, hr⟩ := pf_w_e _ _ g2
    exact ⟨⟨r, hr⟩, ih _ _ rfl g3⟩
theorem bls_of {c : ByteArray} {l : List (Nat × List UInt8)} (h : bk_w c.data.toList 0 l = true) : bls_w c l := bk_w_e l _ 0 rfl h
theorem dr_g : ∀ (pc : Nat) (l : List UInt8) (b : UInt8) (t : List UInt8), l.drop pc = b :: t → (∃ h : pc < l.length, l[pc] = b) ∧ l.drop (pc + 1) = t := by
  intro pc
  induction pc with
  | zero =>
    intro l b t h
    cases l with
    | nil => exact absurd (show ([] : List UInt8) = b :: t from h) (by intro z; cases z)
    | cons x l =>
      have h : x :: l = b :: t := h
      injection h with h1 h2
      subst h1
      subst h2
      exact ⟨⟨Nat.zero_lt_succ _, rfl⟩, rfl⟩
  | succ n ih =>
    intro l b t h
    cases l with
    | nil => exact absurd (show ([] : List UInt8) = b :: t from h) (by intro z; cases z)
    | cons x l =>
      obtain ⟨⟨h1, h2⟩, h3⟩ := ih l b t h
      exact ⟨⟨Nat.succ_lt_succ h1, h2⟩, h3⟩
theorem bp_s {c : ByteArray} {pc : Nat} {b : UInt8} {bs : List UInt8} (h : bp_w c pc (b :: bs)) : bp_w c (pc + 1) bs := by
  obtain ⟨r, h⟩ := h
  exact ⟨r, (dr_g pc _ b _ h).2⟩
theorem u1_w {c : ByteArray} {pc : Nat} {b : UInt8} {bs : List UInt8} (h : bp_w c pc (b :: bs)) : (Reader.u1 : Decoder Nat) c pc = Except.ok (b.toNat, pc + 1) := by
  obtain ⟨r, h⟩ := h
  obtain ⟨⟨h1, h2⟩, -⟩ := dr_g pc _ b _ h
  have h3 : pc < c.size := h1
  have h4 : c[pc] = b := h2
  show (dite (pc < c.size) (fun h => (do set (pc + 1); pure (c[pc]'h).toNat : Decoder Nat)) (fun _ => throw (HasTruncated.truncated pc))) c pc = _
  rw [dif_pos h3, h4]
  rfl
theorem bg_w {α β : Type} {r : Decoder β} {f : β → Decoder α} {c : ByteArray} {p q : Nat} {x : β} {y : α × Nat} (h : r c p = Except.ok (x, q)) (hf : f x c q = Except.ok y) : (r >>= f) c p = Except.ok y := by
  show Except.bind (r c p) _ = _
  rw [h]
  exact hf
theorem fm_w {α β : Type} {r : Decoder β} {g : β → α} {c : ByteArray} {p q : Nat} {x : β} (h : r c p = Except.ok (x, q)) : (g <$> r) c p = Except.ok (g x, q) := by
  show Except.bind (r c p) _ = _
  rw [h]
  rfl
theorem u2_w {c : ByteArray} {pc : Nat} {a b : UInt8} {bs : List UInt8} (h : bp_w c pc (a :: b :: bs)) : (Reader.u2 : Decoder Nat) c pc = Except.ok (a.toNat * 256 + b.toNat, pc + 2) := bg_w (u1_w h) (bg_w (u1_w (bp_s h)) rfl)
theorem s1_w {c : ByteArray} {pc : Nat} {a : UInt8} {bs : List UInt8} (h : bp_w c pc (a :: bs)) : (Reader.s1 : Decoder Int) c pc = Except.ok (Reader.signed 8 a.toNat, pc + 1) := fm_w (u1_w h)
theorem s2_w {c : ByteArray} {pc : Nat} {a b : UInt8} {bs : List UInt8} (h : bp_w c pc (a :: b :: bs)) : (Reader.s2 : Decoder Int) c pc = Except.ok (Reader.signed 16 (a.toNat * 256 + b.toNat), pc + 2) := fm_w (u2_w h)
theorem de_w {i : Instr} {n : Nat} {c : ByteArray} {pc : Nat} (h : Decoder.instr pc c pc = Except.ok (i, pc + n)) : decode c pc = Except.ok (i, n) := by
  unfold decode
  show Except.bind (Decoder.instr pc c pc) _ = _
  rw [h]
  show Except.ok (i, pc + n - pc) = _
  rw [Nat.add_sub_cancel_left]
theorem op_1 {c : ByteArray} {pc : Nat} (h : bp_w c pc [1]) : decode c pc = Except.ok (.aconst_null, 1) := de_w (n := 1) (bg_w (u1_w h) rfl)
theorem op_2 {c : ByteArray} {pc : Nat} (h : bp_w c pc [2]) : decode c pc = Except.ok (.iconst (-1), 1) := de_w (n := 1) (bg_w (u1_w h) rfl)
theorem op_3 {c : ByteArray} {pc : Nat} (h : bp_w c pc [3]) : decode c pc = Except.ok (.iconst 0, 1) := de_w (n := 1) (bg_w (u1_w h) rfl)
theorem op_4 {c : ByteArray} {pc : Nat} (h : bp_w c pc [4]) : decode c pc = Except.ok (.iconst 1, 1) := de_w (n := 1) (bg_w (u1_w h) rfl)
theorem op_5 {c : ByteArray} {pc : Nat} (h : bp_w c pc [5]) : decode c pc = Except.ok (.iconst 2, 1) := de_w (n := 1) (bg_w (u1_w h) rfl)
theorem op_6 {c : ByteArray} {pc : Nat} (h : bp_w c pc [6]) : decode c pc = Except.ok (.iconst 3, 1) := de_w (n := 1) (bg_w (u1_w h) rfl)
theorem op_7 {c : ByteArray} {pc : Nat} (h : bp_w c pc [7]) : decode c pc = Except.ok (.iconst 4, 1) := de_w (n := 1) (bg_w (u1_w h) rfl)
theorem op_8 {c : ByteArray} {pc : Nat} (h : bp_w c pc [8]) : decode c pc = Except.ok (.iconst 5, 1) := de_w (n := 1) (bg_w (u1_w h) rfl)
theorem op_9 {c : ByteArray} {pc : Nat} (h : bp_w c pc [9]) : decode c pc = Except.ok (.lconst 0, 1) := de_w (n := 1) (bg_w (u1_w h) rfl)
theorem op_10 {c : ByteArray} {pc : Nat} (h : bp_w c pc [10]) : decode c pc = Except.ok (.lconst 1, 1) := de_w (n := 1) (bg_w (u1_w h) rfl)
theorem op_26 {c : ByteArray} {pc : Nat} (h : bp_w c pc [26]) : decode c pc = Except.ok (.iload_n 0, 1) := de_w (n := 1) (bg_w (u1_w h) rfl)
theorem op_27 {c : ByteArray} {pc : Nat} (h : bp_w c pc [27]) : decode c pc = Except.ok (.iload_n 1, 1) := de_w (n := 1) (bg_w (u1_w h) rfl)
theorem op_28 {c : ByteArray} {pc : Nat} (h : bp_w c pc [28]) : decode c pc = Except.ok (.iload_n 2, 1) := de_w (n := 1) (bg_w (u1_w h) rfl)
theorem op_29 {c : ByteArray} {pc : Nat} (h : bp_w c pc [29]) : decode c pc = Except.ok (.iload_n 3, 1) := de_w (n := 1) (bg_w (u1_w h) rfl)
theorem op_30 {c : ByteArray} {pc : Nat} (h : bp_w c pc [30]) : decode c pc = Except.ok (.lload_n 0, 1) := de_w (n := 1) (bg_w (u1_w h) rfl)
theorem op_31 {c : ByteArray} {pc : Nat} (h : bp_w c pc [31]) : decode c pc = Except.ok (.lload_n 1, 1) := de_w (n := 1) (bg_w (u1_w h) rfl)
theorem op_32 {c : ByteArray} {pc : Nat} (h : bp_w c pc [32]) : decode c pc = Except.ok (.lload_n 2, 1) := de_w (n := 1) (bg_w (u1_w h) rfl)
theorem op_33 {c : ByteArray} {pc : Nat} (h : bp_w c pc [33]) : decode c pc = Except.ok (.lload_n 3, 1) := de_w (n := 1) (bg_w (u1_w h) rfl)
theorem op_42 {c : ByteArray} {pc : Nat} (h : bp_w c pc [42]) : decode c pc = Except.ok (.aload_n 0, 1) := de_w (n := 1) (bg_w (u1_w h) rfl)
theorem op_43 {c : ByteArray} {pc : Nat} (h : bp_w c pc [43]) : decode c pc = Except.ok (.aload_n 1, 1) := de_w (n := 1) (bg_w (u1_w h) rfl)
theorem op_44 {c : ByteArray} {pc : Nat} (h : bp_w c pc [44]) : decode c pc = Except.ok (.aload_n 2, 1) := de_w (n := 1) (bg_w (u1_w h) rfl)
theorem op_45 {c : ByteArray} {pc : Nat} (h : bp_w c pc [45]) : decode c pc = Except.ok (.aload_n 3, 1) := de_w (n := 1) (bg_w (u1_w h) rfl)
theorem op_46 {c : ByteArray} {pc : Nat} (h : bp_w c pc [46]) : decode c pc = Except.ok (.iaload, 1) := de_w (n := 1) (bg_w (u1_w h) rfl)
theorem op_47 {c : ByteArray} {pc : Nat} (h : bp_w c pc [47]) : decode c pc = Except.ok (.laload, 1) := de_w (n := 1) (bg_w (u1_w h) rfl)
theorem op_50 {c : ByteArray} {pc : Nat} (h : bp_w c pc [50]) : decode c pc = Except.ok (.aaload, 1) := de_w (n := 1) (bg_w (u1_w h) rfl)
theorem op_60 {c : ByteArray} {pc : Nat} (h : bp_w c pc [60]) : decode c pc = Except.ok (.istore_n 1, 1) := de_w (n := 1) (bg_w (u1_w h) rfl)
theorem op_61 {c : ByteArray} {pc : Nat} (h : bp_w c pc [61]) : decode c pc = Except.ok (.istore_n 2, 1) := de_w (n := 1) (bg_w (u1_w h) rfl)
theorem op_62 {c : ByteArray} {pc : Nat} (h : bp_w c pc [62]) : decode c pc = Except.ok (.istore_n 3, 1) := de_w (n := 1) (bg_w (u1_w h) rfl)
theorem op_76 {c : ByteArray} {pc : Nat} (h : bp_w c pc [76]) : decode c pc = Except.ok (.astore_n 1, 1) := de_w (n := 1) (bg_w (u1_w h) rfl)
theorem op_77 {c : ByteArray} {pc : Nat} (h : bp_w c pc [77]) : decode c pc = Except.ok (.astore_n 2, 1) := de_w (n := 1) (bg_w (u1_w h) rfl)
theorem op_78 {c : ByteArray} {pc : Nat} (h : bp_w c pc [78]) : decode c pc = Except.ok (.astore_n 3, 1) := de_w (n := 1) (bg_w (u1_w h) rfl)
theorem op_79 {c : ByteArray} {pc : Nat} (h : bp_w c pc [79]) : decode c pc = Except.ok (.iastore, 1) := de_w (n := 1) (bg_w (u1_w h) rfl)
theorem op_80 {c : ByteArray} {pc : Nat} (h : bp_w c pc [80]) : decode c pc = Except.ok (.lastore, 1) := de_w (n := 1) (bg_w (u1_w h) rfl)
theorem op_83 {c : ByteArray} {pc : Nat} (h : bp_w c pc [83]) : decode c pc = Except.ok (.aastore, 1) := de_w (n := 1) (bg_w (u1_w h) rfl)
theorem op_87 {c : ByteArray} {pc : Nat} (h : bp_w c pc [87]) : decode c pc = Except.ok (.pop, 1) := de_w (n := 1) (bg_w (u1_w h) rfl)
theorem op_88 {c : ByteArray} {pc : Nat} (h : bp_w c pc [88]) : decode c pc = Except.ok (.pop2, 1) := de_w (n := 1) (bg_w (u1_w h) rfl)
theorem op_89 {c : ByteArray} {pc : Nat} (h : bp_w c pc [89]) : decode c pc = Except.ok (.dup, 1) := de_w (n := 1) (bg_w (u1_w h) rfl)
theorem op_92 {c : ByteArray} {pc : Nat} (h : bp_w c pc [92]) : decode c pc = Except.ok (.dup2, 1) := de_w (n := 1) (bg_w (u1_w h) rfl)
theorem op_96 {c : ByteArray} {pc : Nat} (h : bp_w c pc [96]) : decode c pc = Except.ok (.iadd, 1) := de_w (n := 1) (bg_w (u1_w h) rfl)
theorem op_97 {c : ByteArray} {pc : Nat} (h : bp_w c pc [97]) : decode c pc = Except.ok (.ladd, 1) := de_w (n := 1) (bg_w (u1_w h) rfl)
theorem op_100 {c : ByteArray} {pc : Nat} (h : bp_w c pc [100]) : decode c pc = Except.ok (.isub, 1) := de_w (n := 1) (bg_w (u1_w h) rfl)
theorem op_104 {c : ByteArray} {pc : Nat} (h : bp_w c pc [104]) : decode c pc = Except.ok (.imul, 1) := de_w (n := 1) (bg_w (u1_w h) rfl)
theorem op_105 {c : ByteArray} {pc : Nat} (h : bp_w c pc [105]) : decode c pc = Except.ok (.lmul, 1) := de_w (n := 1) (bg_w (u1_w h) rfl)
theorem op_108 {c : ByteArray} {pc : Nat} (h : bp_w c pc [108]) : decode c pc = Except.ok (.idiv, 1) := de_w (n := 1) (bg_w (u1_w h) rfl)
theorem op_112 {c : ByteArray} {pc : Nat} (h : bp_w c pc [112]) : decode c pc = Except.ok (.irem, 1) := de_w (n := 1) (bg_w (u1_w h) rfl)
theorem op_116 {c : ByteArray} {pc : Nat} (h : bp_w c pc [116]) : decode c pc = Except.ok (.ineg, 1) := de_w (n := 1) (bg_w (u1_w h) rfl)
theorem op_120 {c : ByteArray} {pc : Nat} (h : bp_w c pc [120]) : decode c pc = Except.ok (.ishl, 1) := de_w (n := 1) (bg_w (u1_w h) rfl)
theorem op_121 {c : ByteArray} {pc : Nat} (h : bp_w c pc [121]) : decode c pc = Except.ok (.lshl, 1) := de_w (n := 1) (bg_w (u1_w h) rfl)
theorem op_122 {c : ByteArray} {pc : Nat} (h : bp_w c pc [122]) : decode c pc = Except.ok (.ishr, 1) := de_w (n := 1) (bg_w (u1_w h) rfl)
theorem op_124 {c : ByteArray} {pc : Nat} (h : bp_w c pc [124]) : decode c pc = Except.ok (.iushr, 1) := de_w (n := 1) (bg_w (u1_w h) rfl)
theorem op_126 {c : ByteArray} {pc : Nat} (h : bp_w c pc [126]) : decode c pc = Except.ok (.iand, 1) := de_w (n := 1) (bg_w (u1_w h) rfl)
theorem op_127 {c : ByteArray} {pc : Nat} (h : bp_w c pc [127]) : decode c pc = Except.ok (.land, 1) := de_w (n := 1) (bg_w (u1_w h) rfl)
theorem op_128 {c : ByteArray} {pc : Nat} (h : bp_w c pc [128]) : decode c pc = Except.ok (.ior, 1) := de_w (n := 1) (bg_w (u1_w h) rfl)
theorem op_129 {c : ByteArray} {pc : Nat} (h : bp_w c pc [129]) : decode c pc = Except.ok (.lor, 1) := de_w (n := 1) (bg_w (u1_w h) rfl)
theorem op_130 {c : ByteArray} {pc : Nat} (h : bp_w c pc [130]) : decode c pc = Except.ok (.ixor, 1) := de_w (n := 1) (bg_w (u1_w h) rfl)
theorem op_133 {c : ByteArray} {pc : Nat} (h : bp_w c pc [133]) : decode c pc = Except.ok (.i2l, 1) := de_w (n := 1) (bg_w (u1_w h) rfl)
theorem op_136 {c : ByteArray} {pc : Nat} (h : bp_w c pc [136]) : decode c pc = Except.ok (.l2i, 1) := de_w (n := 1) (bg_w (u1_w h) rfl)
theorem op_145 {c : ByteArray} {pc : Nat} (h : bp_w c pc [145]) : decode c pc = Except.ok (.i2b, 1) := de_w (n := 1) (bg_w (u1_w h) rfl)
theorem op_147 {c : ByteArray} {pc : Nat} (h : bp_w c pc [147]) : decode c pc = Except.ok (.i2s, 1) := de_w (n := 1) (bg_w (u1_w h) rfl)
theorem op_148 {c : ByteArray} {pc : Nat} (h : bp_w c pc [148]) : decode c pc = Except.ok (.lcmp, 1) := de_w (n := 1) (bg_w (u1_w h) rfl)
theorem op_172 {c : ByteArray} {pc : Nat} (h : bp_w c pc [172]) : decode c pc = Except.ok (.ireturn, 1) := de_w (n := 1) (bg_w (u1_w h) rfl)
theorem op_173 {c : ByteArray} {pc : Nat} (h : bp_w c pc [173]) : decode c pc = Except.ok (.lreturn, 1) := de_w (n := 1) (bg_w (u1_w h) rfl)
theorem op_177 {c : ByteArray} {pc : Nat} (h : bp_w c pc [177]) : decode c pc = Except.ok (.return_, 1) := de_w (n := 1) (bg_w (u1_w h) rfl)
theorem op_190 {c : ByteArray} {pc : Nat} (h : bp_w c pc [190]) : decode c pc = Except.ok (.arraylength, 1) := de_w (n := 1) (bg_w (u1_w h) rfl)
theorem op_18 {c : ByteArray} {pc : Nat} {a : UInt8} (h : bp_w c pc [18, a]) : decode c pc = Except.ok (.ldc a.toNat, 2) := de_w (n := 2) (bg_w (u1_w h) (bg_w (u1_w (bp_s h)) rfl))
theorem op_21 {c : ByteArray} {pc : Nat} {a : UInt8} (h : bp_w c pc [21, a]) : decode c pc = Except.ok (.iload a.toNat, 2) := de_w (n := 2) (bg_w (u1_w h) (bg_w (u1_w (bp_s h)) rfl))
theorem op_22 {c : ByteArray} {pc : Nat} {a : UInt8} (h : bp_w c pc [22, a]) : decode c pc = Except.ok (.lload a.toNat, 2) := de_w (n := 2) (bg_w (u1_w h) (bg_w (u1_w (bp_s h)) rfl))
theorem op_25 {c : ByteArray} {pc : Nat} {a : UInt8} (h : bp_w c pc [25, a]) : decode c pc = Except.ok (.aload a.toNat, 2) := de_w (n := 2) (bg_w (u1_w h) (bg_w (u1_w (bp_s h)) rfl))
theorem op_54 {c : ByteArray} {pc : Nat} {a : UInt8} (h : bp_w c pc [54, a]) : decode c pc = Except.ok (.istore a.toNat, 2) := de_w (n := 2) (bg_w (u1_w h) (bg_w (u1_w (bp_s h)) rfl))
theorem op_55 {c : ByteArray} {pc : Nat} {a : UInt8} (h : bp_w c pc [55, a]) : decode c pc = Except.ok (.lstore a.toNat, 2) := de_w (n := 2) (bg_w (u1_w h) (bg_w (u1_w (bp_s h)) rfl))
theorem op_58 {c : ByteArray} {pc : Nat} {a : UInt8} (h : bp_w c pc [58, a]) : decode c pc = Except.ok (.astore a.toNat, 2) := de_w (n := 2) (bg_w (u1_w h) (bg_w (u1_w (bp_s h)) rfl))
theorem op_16 {c : ByteArray} {pc : Nat} {a : UInt8} (h : bp_w c pc [16, a]) : decode c pc = Except.ok (.bipush (Reader.signed 8 a.toNat), 2) := de_w (n := 2) (bg_w (u1_w h) (bg_w (s1_w (bp_s h)) rfl))
theorem op_19 {c : ByteArray} {pc : Nat} {a b : UInt8} (h : bp_w c pc [19, a, b]) : decode c pc = Except.ok (.ldc_w (a.toNat * 256 + b.toNat), 3) := de_w (n := 3) (bg_w (u1_w h) (bg_w (u2_w (bp_s h)) rfl))
theorem op_20 {c : ByteArray} {pc : Nat} {a b : UInt8} (h : bp_w c pc [20, a, b]) : decode c pc = Except.ok (.ldc2_w (a.toNat * 256 + b.toNat), 3) := de_w (n := 3) (bg_w (u1_w h) (bg_w (u2_w (bp_s h)) rfl))
theorem op_178 {c : ByteArray} {pc : Nat} {a b : UInt8} (h : bp_w c pc [178, a, b]) : decode c pc = Except.ok (.getstatic (a.toNat * 256 + b.toNat), 3) := de_w (n := 3) (bg_w (u1_w h) (bg_w (u2_w (bp_s h)) rfl))
theorem op_180 {c : ByteArray} {pc : Nat} {a b : UInt8} (h : bp_w c pc [180, a, b]) : decode c pc = Except.ok (.getfield (a.toNat * 256 + b.toNat), 3) := de_w (n := 3) (bg_w (u1_w h) (bg_w (u2_w (bp_s h)) rfl))
theorem op_181 {c : ByteArray} {pc : Nat} {a b : UInt8} (h : bp_w c pc [181, a, b]) : decode c pc = Except.ok (.putfield (a.toNat * 256 + b.toNat), 3) := de_w (n := 3) (bg_w (u1_w h) (bg_w (u2_w (bp_s h)) rfl))
theorem op_182 {c : ByteArray} {pc : Nat} {a b : UInt8} (h : bp_w c pc [182, a, b]) : decode c pc = Except.ok (.invokevirtual (a.toNat * 256 + b.toNat), 3) := de_w (n := 3) (bg_w (u1_w h) (bg_w (u2_w (bp_s h)) rfl))
theorem op_183 {c : ByteArray} {pc : Nat} {a b : UInt8} (h : bp_w c pc [183, a, b]) : decode c pc = Except.ok (.invokespecial (a.toNat * 256 + b.toNat), 3) := de_w (n := 3) (bg_w (u1_w h) (bg_w (u2_w (bp_s h)) rfl))
theorem op_184 {c : ByteArray} {pc : Nat} {a b : UInt8} (h : bp_w c pc [184, a, b]) : decode c pc = Except.ok (.invokestatic (a.toNat * 256 + b.toNat), 3) := de_w (n := 3) (bg_w (u1_w h) (bg_w (u2_w (bp_s h)) rfl))
theorem op_187 {c : ByteArray} {pc : Nat} {a b : UInt8} (h : bp_w c pc [187, a, b]) : decode c pc = Except.ok (.new (a.toNat * 256 + b.toNat), 3) := de_w (n := 3) (bg_w (u1_w h) (bg_w (u2_w (bp_s h)) rfl))
theorem op_189 {c : ByteArray} {pc : Nat} {a b : UInt8} (h : bp_w c pc [189, a, b]) : decode c pc = Except.ok (.anewarray (a.toNat * 256 + b.toNat), 3) := de_w (n := 3) (bg_w (u1_w h) (bg_w (u2_w (bp_s h)) rfl))
theorem op_17 {c : ByteArray} {pc : Nat} {a b : UInt8} (h : bp_w c pc [17, a, b]) : decode c pc = Except.ok (.sipush (Reader.signed 16 (a.toNat * 256 + b.toNat)), 3) := de_w (n := 3) (bg_w (u1_w h) (bg_w (s2_w (bp_s h)) rfl))
theorem op_167 {c : ByteArray} {pc : Nat} {a b : UInt8} (h : bp_w c pc [167, a, b]) : decode c pc = Except.ok (.goto (Reader.signed 16 (a.toNat * 256 + b.toNat)), 3) := de_w (n := 3) (bg_w (u1_w h) (bg_w (s2_w (bp_s h)) rfl))
theorem op_199 {c : ByteArray} {pc : Nat} {a b : UInt8} (h : bp_w c pc [199, a, b]) : decode c pc = Except.ok (.ifnonnull (Reader.signed 16 (a.toNat * 256 + b.toNat)), 3) := de_w (n := 3) (bg_w (u1_w h) (bg_w (s2_w (bp_s h)) rfl))
theorem op_153 {c : ByteArray} {pc : Nat} {a b : UInt8} (h : bp_w c pc [153, a, b]) : decode c pc = Except.ok (.ifCond .eq (Reader.signed 16 (a.toNat * 256 + b.toNat)), 3) := de_w (n := 3) (bg_w (u1_w h) (bg_w (s2_w (bp_s h)) rfl))
theorem op_159 {c : ByteArray} {pc : Nat} {a b : UInt8} (h : bp_w c pc [159, a, b]) : decode c pc = Except.ok (.if_icmp .eq (Reader.signed 16 (a.toNat * 256 + b.toNat)), 3) := de_w (n := 3) (bg_w (u1_w h) (bg_w (s2_w (bp_s h)) rfl))
theorem op_154 {c : ByteArray} {pc : Nat} {a b : UInt8} (h : bp_w c pc [154, a, b]) : decode c pc = Except.ok (.ifCond .ne (Reader.signed 16 (a.toNat * 256 + b.toNat)), 3) := de_w (n := 3) (bg_w (u1_w h) (bg_w (s2_w (bp_s h)) rfl))
theorem op_160 {c : ByteArray} {pc : Nat} {a b : UInt8} (h : bp_w c pc [160, a, b]) : decode c pc = Except.ok (.if_icmp .ne (Reader.signed 16 (a.toNat * 256 + b.toNat)), 3) := de_w (n := 3) (bg_w (u1_w h) (bg_w (s2_w (bp_s h)) rfl))
theorem op_155 {c : ByteArray} {pc : Nat} {a b : UInt8} (h : bp_w c pc [155, a, b]) : decode c pc = Except.ok (.ifCond .lt (Reader.signed 16 (a.toNat * 256 + b.toNat)), 3) := de_w (n := 3) (bg_w (u1_w h) (bg_w (s2_w (bp_s h)) rfl))
theorem op_161 {c : ByteArray} {pc : Nat} {a b : UInt8} (h : bp_w c pc [161, a, b]) : decode c pc = Except.ok (.if_icmp .lt (Reader.signed 16 (a.toNat * 256 + b.toNat)), 3) := de_w (n := 3) (bg_w (u1_w h) (bg_w (s2_w (bp_s h)) rfl))
theorem op_156 {c : ByteArray} {pc : Nat} {a b : UInt8} (h : bp_w c pc [156, a, b]) : decode c pc = Except.ok (.ifCond .ge (Reader.signed 16 (a.toNat * 256 + b.toNat)), 3) := de_w (n := 3) (bg_w (u1_w h) (bg_w (s2_w (bp_s h)) rfl))
theorem op_162 {c : ByteArray} {pc : Nat} {a b : UInt8} (h : bp_w c pc [162, a, b]) : decode c pc = Except.ok (.if_icmp .ge (Reader.signed 16 (a.toNat * 256 + b.toNat)), 3) := de_w (n := 3) (bg_w (u1_w h) (bg_w (s2_w (bp_s h)) rfl))
theorem op_157 {c : ByteArray} {pc : Nat} {a b : UInt8} (h : bp_w c pc [157, a, b]) : decode c pc = Except.ok (.ifCond .gt (Reader.signed 16 (a.toNat * 256 + b.toNat)), 3) := de_w (n := 3) (bg_w (u1_w h) (bg_w (s2_w (bp_s h)) rfl))
theorem op_163 {c : ByteArray} {pc : Nat} {a b : UInt8} (h : bp_w c pc [163, a, b]) : decode c pc = Except.ok (.if_icmp .gt (Reader.signed 16 (a.toNat * 256 + b.toNat)), 3) := de_w (n := 3) (bg_w (u1_w h) (bg_w (s2_w (bp_s h)) rfl))
theorem op_158 {c : ByteArray} {pc : Nat} {a b : UInt8} (h : bp_w c pc [158, a, b]) : decode c pc = Except.ok (.ifCond .le (Reader.signed 16 (a.toNat * 256 + b.toNat)), 3) := de_w (n := 3) (bg_w (u1_w h) (bg_w (s2_w (bp_s h)) rfl))
theorem op_164 {c : ByteArray} {pc : Nat} {a b : UInt8} (h : bp_w c pc [164, a, b]) : decode c pc = Except.ok (.if_icmp .le (Reader.signed 16 (a.toNat * 256 + b.toNat)), 3) := de_w (n := 3) (bg_w (u1_w h) (bg_w (s2_w (bp_s h)) rfl))
theorem op_132 {c : ByteArray} {pc : Nat} {a b : UInt8} (h : bp_w c pc [132, a, b]) : decode c pc = Except.ok (.iinc a.toNat (Reader.signed 8 b.toNat), 3) := de_w (n := 3) (bg_w (u1_w h) (bg_w (u1_w (bp_s h)) (bg_w (s1_w (bp_s (bp_s h))) rfl)))
theorem op_188_10 {c : ByteArray} {pc : Nat} (h : bp_w c pc [188, 10]) : decode c pc = Except.ok (.newarray .int, 2) := de_w (n := 2) (bg_w (u1_w h) (bg_w (u1_w (bp_s h)) rfl))
theorem op_188_11 {c : ByteArray} {pc : Nat} (h : bp_w c pc [188, 11]) : decode c pc = Except.ok (.newarray .long, 2) := de_w (n := 2) (bg_w (u1_w h) (bg_w (u1_w (bp_s h)) rfl))
