section
/-! The law: single ones -/
theorem pq_u {nm : List Int32} {n d d1 dc p p1 dc1 p2 f1 w a1 g1 o1 dc2 c v : Int32} {D D1 D2 : List Int32} (hb : pb_w n dc p D) (hp : p1.toInt = p.toInt + 1) (h1 : pq_w nm id n d1 dc p1 D dc1 p2 f1 D1 w a1 g1 o1) (hf : ¬ 0 ≤ f1.toInt) (hn : fX2_note 700 c dc1 D1 = some (dc2, D2)) (hu : ¬ c = 59 ∧ ¬ c = 63) (hv : ∀ S : List Int32, sx_w nm c (w :: S) = v :: S) : pq_w nm id n d dc p D dc2 p2 f1 D2 v a1 g1 d := by
  obtain ⟨b1, b2, b3, b4, b5⟩ := hb
  obtain ⟨x1, h1 | ⟨x2, x3, x3', x4, x5, cs, x6, x7, x8, xp, x9⟩⟩ := h1
  · exact absurd h1 hf
  · obtain ⟨y1, y2⟩ := no_e (by omega) (by omega) x6.1 hn
    refine ⟨x1, Or.inr ⟨x2, x3, rfl, by omega, x5, cs ++ [c], ?_, ?_, ?_, pu_a xp (pu_1 hu), fun S => ?_⟩⟩
    · refine cs_t x6 ?_
      have e : dc.toInt.toNat + cs.length = dc1.toInt.toNat := by omega
      rw [e]
      exact y2
    · rw [List.length_append, List.length_singleton]
      omega
    · rw [List.length_append, List.length_singleton]
      omega
    · rw [xs_a, x9]
      exact hv S
theorem on_r {go8 : Int32 → Int32 → Int32 → Int32 → Int32 → List Int32 → List Int32 → Option (Int32 × Int32 × Int32 × List Int32)} {go9 : Int32 → Int32 → Int32 → Int32 → Int32 → List Int32 → List Int32 → List Int32 → Option (Int32 × Int32 × Int32 × Int32)} {tape8 : List Int32} {base n : Int32} {tape text names : List Int32} (HB : hb_w (fun k => tape8.getD k 0) base n tape text) (RG : rg_w tape8 base n tape text names go8 go9) : rg_w tape8 base n tape text names (fX2_readOneo 700 go8) (fX9_oneo 700 go9) := by
  intro d dc p D dc' p' f' D' v a9 f9 o9 d0 d6 hb e8 e9
  have n0 : (0 : Int32).toInt = 0 := by decide
  have n1 : (1 : Int32).toInt = 1 := by decide
  have n6 : (6 : Int32).toInt = 6 := by decide
  obtain ⟨b1, b2, b3, b4, b5⟩ := id hb
  have RE : rg_w tape8 base n tape text names (fX2_readEither 700 go8) (fX9_either 700 go9) := ei_r HB (bo_r HB (cm_r HB (su_r HB (pd_r HB RG))))
  unfold fX2_readOneo at e8
  unfold fX9_oneo at e9
  rw [if_pos (by decide)] at e9
  obtain ⟨r, nr, e8⟩ := mm_bd1s e8
  have hr := nx_e nr
  obtain ⟨s, ns, e9⟩ := mm_bd1s e9
  have hs := HB p s (by omega) ns
  rw [di_e, bs_1] at e8
  -- a fault here
  have FL : fX2_readOne_157 700 go8 n dc p (-1) tape8 D = some (dc', p', f', D') → f' = p := by
    intro e
    rw [uf_X2_readOne_157] at e
    obtain ⟨w, ew, e⟩ := mm_bd1s e
    have hw := fl_8 ew
    rw [if_neg m1_f] at hw
    apply mm_sub4 e
    exact hw
  have F9 : (mm_bd2 (fX9_wrong 700 p (-1)) (fun (r_42 : Int32) (w_43 : Int32) => some (r_42, p, w_43, d))) = some (v, a9, f9, o9) → f9 = p := by
    intro e
    obtain ⟨w1, w2, ew, e⟩ := mm_bd2s e
    have hw := fl_9 ew
    rw [if_neg m1_f] at hw
    apply mm_sub4 e
    exact hw
  have FF : f' = p → f9 = p → pq_w names id n d dc p D dc' p' f' D' v a9 f9 o9 := fun h1 h2 => ⟨by rw [h1, h2], Or.inl (by rw [h1]; omega)⟩
  -- a sign ahead
  have SG : ∀ c : Int32, (c = 33 ∨ c = 45) → r = c → s = c → pq_w names id n d dc p D dc' p' f' D' v a9 f9 o9 := by
    intro c hc h1 h2
    have hlt : p.toInt < n.toInt := nb_l (c := c) (b := (fun k => tape8.getD k 0)) (by rcases hc with h | h <;> rw [h] <;> decide) (by rw [← hr]; exact h1)
    have e9' : fX9_one_32 700 go9 c base p n (-1) d tape text names = some (v, a9, f9, o9) := by
      rcases hc with h | h
      · rw [if_pos (by rw [h2, h]), h2] at e9
        exact e9
      · rw [if_neg (by rw [h2, h]; decide), if_pos (by rw [h2, h]), h2] at e9
        exact e9
    have hd : ¬ (48 ≤ r.toInt ∧ r.toInt ≤ 57) := by rcases hc with h | h <;> rw [h1, h] <;> decide
    have hn : ¬ (r = 98 ∨ r = 102 ∨ r = 107 ∨ r = 110 ∨ r = 114 ∨ r = 119) := by rcases hc with h | h <;> rw [h1, h] <;> decide
    rw [decide_eq_false hd, if_pos rfl, na_e, bs_1, decide_eq_false hn, if_pos rfl] at e8
    rw [uf_X9_one_32] at e9'
    by_cases g : (6 : Int32) ≤ d
    · have dg := i_le g
      rw [if_pos g, uf_X2_readOne_99, if_pos g] at e8
      rw [if_pos (Int32.toInt_inj.mp (by omega))] at e9'
      exact FF (FL e8) (F9 e9')
    · have dg := i_nle g
      rw [if_neg g] at e8
      rw [if_neg (fun k => absurd (i_eq k) (by omega)), nm_eq, nm_eq, if_neg (by rcases hc with h | h <;> rw [h] <;> decide)] at e9'
      have e8' : fX2_readOne_62 700 go8 d c n dc p (-1) tape8 D = some (dc', p', f', D') := by
        rcases hc with h | h
        · rw [if_pos (by rw [h1, h]), h1] at e8
          exact e8
        · rw [if_neg (by rw [h1, h]; decide), if_pos (by rw [h1, h]), h1] at e8
          exact e8
      rw [uf_X2_readOne_62, nm_eq] at e8'
      generalize hy : p + (1 : Int32) = p1 at e8' e9'
      have ey := i_addE hy (by omega) (by omega)
      generalize hz : d + (1 : Int32) = d1 at e8' e9'
      have ez := i_addE hz (by omega) (by omega)
      obtain ⟨dc1, p2, f1, D1, eg8, e8a⟩ := mm_bd4s e8'
      obtain ⟨w, a1, g1, o1, eg9, e9a⟩ := mm_bd4s e9'
      have q := RG d1 dc p1 D dc1 p2 f1 D1 w a1 g1 o1 (by omega) (by omega) (pb_n hb (by omega) hlt) eg8 eg9
      rw [uf_X9_one_83, if_neg (by rcases hc with h | h <;> rw [h] <;> decide), uf_X9_one_104, nm_eq, if_neg (by rcases hc with h | h <;> rw [h] <;> decide)] at e9a
      have e8b : fX2_readOne_93 700 go8 (if c = 33 then (33 : Int32) else (126 : Int32)) n dc1 p2 f1 tape8 D1 = some (dc', p', f', D') := by
        by_cases k : c = 33
        · rw [if_pos k] at e8a ⊢
          exact e8a
        · rw [if_neg k] at e8a ⊢
          exact e8a
      rw [uf_X2_readOne_93] at e8b
      obtain ⟨dc2, D2, en, e8c⟩ := mm_bd2s e8b
      have e9b : some ((if c = 45 then -w else (if w = 0 then (1 : Int32) else (0 : Int32))), a1, g1, o1 - (1 : Int32)) = some (v, a9, f9, o9) := by
        by_cases k : c = 45
        · rw [if_pos k] at e9a ⊢
          exact e9a
        · rw [if_neg k] at e9a ⊢
          by_cases k2 : w = 0
          · rw [if_pos k2] at e9a ⊢
            exact e9a
          · rw [if_neg k2] at e9a ⊢
            exact e9a
      apply mm_sub4 e8c
      apply mm_sub4 e9b
      by_cases hf : 0 ≤ f1.toInt
      · exact ⟨q.1, Or.inl hf⟩
      · have U := pq_u (d := d) (v := (if c = 45 then -w else (if w = 0 then (1 : Int32) else (0 : Int32)))) hb (by omega) q hf en (by rcases hc with h | h <;> rw [h] <;> decide) (fun S => by
          rcases hc with h | h
          · subst h
            rfl
          · subst h
            rfl)
        obtain ⟨-, z2 | ⟨-, -, z4, -⟩⟩ := q
        · exact absurd z2 hf
        · have ho : o1 - (1 : Int32) = d := by
            rw [z4]
            generalize hk : d1 - (1 : Int32) = k
            have ek := i_subE hk (by omega) (by omega)
            exact Int32.toInt_inj.mp (by omega)
          rw [ho]
          exact U
  by_cases c33 : r = 33
  · exact SG 33 (Or.inl rfl) c33 (by rw [hs]; exact (nb_c (by decide) (by decide)).mpr (by rw [← hr]; exact c33))
  by_cases c45 : r = 45
  · exact SG 45 (Or.inr rfl) c45 (by rw [hs]; exact (nb_c (by decide) (by decide)).mpr (by rw [← hr]; exact c45))
  have s33 : ¬ s = 33 := fun h => c33 (by rw [hr]; exact (nb_c (by decide) (by decide)).mp (by rw [← hs]; exact h))
  have s45 : ¬ s = 45 := fun h => c45 (by rw [hr]; exact (nb_c (by decide) (by decide)).mp (by rw [← hs]; exact h))
  rw [if_neg s33, if_neg s45] at e9
  by_cases c40 : r = 40
  · have s40 : s = 40 := by rw [hs]; exact (nb_c (by decide) (by decide)).mpr (by rw [← hr]; exact c40)
    have hlt : p.toInt < n.toInt := nb_l (c := 40) (b := (fun k => tape8.getD k 0)) (by decide) (by rw [← hr]; exact c40)
    rw [if_pos s40, s40, uf_X9_one_32] at e9
    have hd : ¬ (48 ≤ r.toInt ∧ r.toInt ≤ 57) := by rw [c40]; decide
    have hn : ¬ (r = 98 ∨ r = 102 ∨ r = 107 ∨ r = 110 ∨ r = 114 ∨ r = 119) := by rw [c40]; decide
    rw [decide_eq_false hd, if_pos rfl, na_e, bs_1, decide_eq_false hn, if_pos rfl] at e8
    by_cases g : (6 : Int32) ≤ d
    · have dg := i_le g
      rw [if_pos g, uf_X2_readOne_99, if_pos g] at e8
      rw [if_pos (Int32.toInt_inj.mp (by omega))] at e9
      exact FF (FL e8) (F9 e9)
    · have dg := i_nle g
      rw [if_neg g, if_neg c33, if_neg c45, uf_X2_readOne_99, if_neg g, if_pos c40, nm_eq] at e8
      rw [if_neg (fun k => absurd (i_eq k) (by omega)), nm_eq, nm_eq, if_pos rfl] at e9
      generalize hy : p + (1 : Int32) = p1 at e8 e9
      have ey := i_addE hy (by omega) (by omega)
      generalize hz : d + (1 : Int32) = d1 at e8 e9
      have ez := i_addE hz (by omega) (by omega)
      obtain ⟨dc1, p2, f1, D1, eg8, e8⟩ := mm_bd4s e8
      obtain ⟨w, a1, g1, o1, eg9, e9⟩ := mm_bd4s e9
      have q := RE d1 dc p1 D dc1 p2 f1 D1 w a1 g1 o1 (by omega) (by omega) (pb_n hb (by omega) hlt) eg8 eg9
      obtain ⟨rm, em, e8⟩ := mm_bd1s e8
      have hm := me_e em
      rw [uf_X9_one_83, if_pos rfl] at e9
      obtain ⟨rt, at_, et, e9⟩ := mm_bd2s e9
      by_cases hf : 0 ≤ f1.toInt
      · rw [if_pos hf] at hm
        rw [if_pos hm] at e8
        obtain ⟨u, eu, e8⟩ := mm_bd1s e8
        have hu := fl_8 eu
        rw [if_pos hf] at hu
        have hf9 : 0 ≤ g1.toInt := by rw [q.1]; exact hf
        unfold fX9_takes at et
        rw [if_pos (Int32.le_iff_toInt_le.mpr (by omega))] at et
        have et := sm_i et
        injection et with h1 h2
        rw [if_pos h1.symm] at e9
        obtain ⟨u1, u2, eu9, e9⟩ := mm_bd2s e9
        have hu9 := fl_9 eu9
        rw [if_pos hf9] at hu9
        apply mm_sub4 e8
        apply mm_sub4 e9
        exact ⟨by rw [hu, hu9]; exact q.1, Or.inl (by rw [hu]; exact hf)⟩
      · have q' := q
        obtain ⟨z1, z2 | ⟨z2, z3, z4, z5, z6, cs, z7, z8, z9, zp, z10⟩⟩ := q'
        · exact absurd z2 hf
        · rw [z3, z1, z2] at et
          obtain ⟨t1, t2⟩ := tk_e HB (by omega) et
          rw [if_neg m1_f] at t1
          rw [if_neg hf] at hm
          by_cases k : nb_8 (fun k => tape8.getD k 0) n p2 = 41
          · have k9 : nb_9 (fun k => tape8.getD k 0) n p2 = 41 := (nb_c (by decide) (by decide)).mpr k
            have hlt2 := nb_l (by decide) k
            rw [decide_eq_true k] at hm
            rw [decide_eq_true k9] at t1
            rw [if_pos t1] at t2
            rw [if_neg (by rw [hm]; decide), nm_eq] at e8
            rw [if_neg (by rw [t1]; decide), uf_X9_one_104, nm_eq, if_pos rfl, t2] at e9
            generalize hy2 : p2 + (1 : Int32) = p3 at e8 e9
            have ey2 := i_addE hy2 (by omega) (by omega)
            apply mm_sub4 e8
            apply mm_sub4 e9
            have ho : o1 - (1 : Int32) = d := by
              rw [z4]
              generalize hk : d1 - (1 : Int32) = k
              have ek := i_subE hk (by omega) (by omega)
              exact Int32.toInt_inj.mp (by omega)
            exact ⟨z1, Or.inr ⟨z2, rfl, ho, by omega, by omega, cs, z7, z8, by omega, zp, z10⟩⟩
          · have k9 : ¬ nb_9 (fun k => tape8.getD k 0) n p2 = 41 := fun h => k ((nb_c (by decide) (by decide)).mp h)
            rw [decide_eq_false k] at hm
            rw [decide_eq_false k9] at t1
            rw [if_neg (by rw [t1]; decide)] at t2
            rw [if_pos hm] at e8
            rw [if_pos t1] at e9
            obtain ⟨u, eu, e8⟩ := mm_bd1s e8
            have hu := fl_8 eu
            rw [if_neg hf] at hu
            obtain ⟨u1, u2, eu9, e9⟩ := mm_bd2s e9
            have hu9 := fl_9 eu9
            rw [if_neg (by rw [z1]; exact hf), t2] at hu9
            apply mm_sub4 e8
            apply mm_sub4 e9
            exact ⟨by rw [hu, hu9], Or.inl (by rw [hu]; omega)⟩
  have s40 : ¬ s = 40 := fun h => c40 (by rw [hr]; exact (nb_c (by decide) (by decide)).mp (by rw [← hs]; exact h))
  rw [if_neg s40] at e9
  obtain ⟨k, ek, e9⟩ := mm_bd1s e9
  obtain ⟨kn, kx⟩ := nn_e ek
  by_cases hna : na_w r
  · have hd : ¬ (48 ≤ r.toInt ∧ r.toInt ≤ 57) := by
      rcases hna with h | h | h | h | h | h <;> rw [h] <;> decide
    have hlt : p.toInt < n.toInt := nb_l (c := r) (b := (fun k => tape8.getD k 0)) (by rcases hna with h | h | h | h | h | h <;> rw [h] <;> decide) hr.symm
    have hsr : s = r := by rw [hs, hr]; exact nb_e hlt
    rw [hsr] at kn
    obtain ⟨k0, k5, kv⟩ := kn hna
    rw [decide_eq_false hd, if_pos rfl, na_e, bs_1, decide_eq_true (show r = 98 ∨ r = 102 ∨ r = 107 ∨ r = 110 ∨ r = 114 ∨ r = 119 from hna), if_neg (by decide), nm_eq] at e8
    rw [if_neg (fun q => absurd (i_lt q) (by omega)), nm_eq] at e9
    have e9 := ck_x e9
    obtain ⟨dc1, D1, en, e8⟩ := mm_bd2s e8
    obtain ⟨y1, y2⟩ := no_e b1 (by omega) b5 en
    generalize hy : p + (1 : Int32) = p1 at e8 e9
    have ey := i_addE hy (by omega) (by omega)
    apply mm_sub4 e8
    apply mm_sub4 e9
    refine ⟨rfl, Or.inr ⟨rfl, rfl, rfl, by omega, by omega, [r], y2, by rw [List.length_singleton]; omega, by rw [List.length_singleton]; omega, pu_1 (na_u hna), fun S => ?_⟩⟩
    rw [kv names]
    exact sx_n hna
  · have hns : ¬ na_w s := by
      intro h
      apply hna
      have h0 : ¬ s = 0 := by rcases h with h | h | h | h | h | h <;> rw [h] <;> decide
      have h1 : ¬ s = -1 := by rcases h with h | h | h | h | h | h <;> rw [h] <;> decide
      have : r = s := by rw [hr]; exact (nb_c h0 h1).mp hs.symm
      rw [this]
      exact h
    have hk := kx hns
    rw [hk, if_pos (by decide)] at e9
    by_cases hd : 48 ≤ r.toInt ∧ r.toInt ≤ 57
    · rw [decide_eq_true hd, if_neg (by decide)] at e8
      obtain ⟨dc1, p1, D1, en, e8⟩ := mm_bd3s e8
      unfold fX2_readNumber at en
      obtain ⟨q1, q2, q3, q4, q5, q6, q7, q8, q9, q10⟩ := nu_4 HB 700 700 (0 : Int32) (0 : Int32) dc p D dc1 p1 D1 v a9 f9 o9 hb (Or.inl ⟨n0, n0⟩) (fun _ => by rw [← hr]; exact hd) en e9
      have n1000 : (1000 : Int32).toInt = 1000 := by decide
      have hc := i_addE (rfl : (1000 : Int32) + v = _) (by omega) (by omega)
      have hne : ∀ z : Int32, z.toInt < 1000 → ¬ (1000 : Int32) + v = z := fun z hz h => absurd (i_eq h) (by omega)
      apply mm_sub4 e8
      refine ⟨q1, Or.inr ⟨rfl, q2, q3, q4, q5, [(1000 : Int32) + v], q8, by rw [List.length_singleton]; omega, by rw [List.length_singleton]; omega, pu_1 ⟨hne _ (by decide), hne _ (by decide)⟩, fun S => ?_⟩⟩
      show sx_w names ((1000 : Int32) + v) S = v :: S
      unfold sx_w
      rw [if_neg (by rintro (h | h | h | h | h | h) <;> exact hne _ (by decide) h), if_neg (hne _ (by decide)), if_neg (hne _ (by decide)), if_pos (Int32.le_iff_toInt_le.mpr (by omega))]
      have hv : ((1000 : Int32) + v) - (1000 : Int32) = v := by
        rw [Int32.add_comm, Int32.add_sub_cancel]
      rw [hv]
    · rw [decide_eq_false hd, if_pos rfl, na_e, bs_1, decide_eq_false (show ¬ (r = 98 ∨ r = 102 ∨ r = 107 ∨ r = 110 ∨ r = 114 ∨ r = 119) from hna), if_pos rfl] at e8
      have h8 : f' = p := by
        by_cases g : (6 : Int32) ≤ d
        · rw [if_pos g, uf_X2_readOne_99, if_pos g] at e8
          exact FL e8
        · rw [if_neg g, if_neg c33, if_neg c45, uf_X2_readOne_99, if_neg g, if_neg c40] at e8
          exact FL e8
      have h9 : f9 = p := by
        rw [show (700 : Nat) = 699 + 1 from rfl, uf_X9_one_176, if_neg (by decide)] at e9
        obtain ⟨s2, ns2, e9⟩ := mm_bd1s e9
        have g2 := HB p s2 (by omega) ns2
        have k9 : ¬ (48 ≤ s2.toInt ∧ s2.toInt ≤ 57) := fun h => hd (by rw [hr]; rw [g2] at h; exact nb_d9.mp h)
        have Q : fX9_one_229 700 go9 (0 : Int32) (0 : Int32) base p n (-1) d tape text names = some (v, a9, f9, o9) → f9 = p := by
          intro e
          rw [uf_X9_one_229, if_pos rfl] at e
          exact F9 e
        by_cases k1 : s2 < (48 : Int32)
        · rw [if_pos k1] at e9
          exact Q e9
        · have d1 := i_nlt k1
          have n48 : (48 : Int32).toInt = 48 := by decide
          have n57 : (57 : Int32).toInt = 57 := by decide
          rw [if_neg k1] at e9
          obtain ⟨s3, ns3, e9⟩ := mm_bd1s e9
          have g3 := HB p s3 (by omega) ns3
          rw [← g2] at g3
          rw [g3, if_pos (show (57 : Int32) < s2 by rw [Int32.lt_iff_toInt_lt]; omega)] at e9
          exact Q e9
      exact FF h8 h9
theorem on_M {tape8 : List Int32} {base n : Int32} {tape text names : List Int32} (HB : hb_w (fun k => tape8.getD k 0) base n tape text) : ∀ (M M' : Nat), rg_w tape8 base n tape text names (fX2_readOne 700 M) (fX9_one 700 M') := by
  intro M
  induction M with
  | zero =>
    intro M' d dc p D dc' p' f' D' v a9 f9 o9 d0 d6 hb e8
    exact absurd e8 (by intro h; cases h)
  | succ M ih =>
    intro M'
    cases M' with
    | zero =>
      intro d dc p D dc' p' f' D' v a9 f9 o9 d0 d6 hb e8 e9
      exact absurd e9 (by intro h; cases h)
    | succ M' =>
      intro d dc p D dc' p' f' D' v a9 f9 o9 d0 d6 hb e8 e9
      exact on_r HB (ih M') d dc p D dc' p' f' D' v a9 f9 o9 d0 d6 hb e8 e9
end
section
/-! The law: lines -/
def wy_w (nm : List Int32) : List Int32 → Bool → List Int32 → Int32
  | [], _, _ => 0
  | c :: cs, k, S => if c = 59 then (if k = true then S.headD 0 else wy_w nm cs true S.tail) else if c = 63 then wy_w nm cs (!decide (S.headD 0 = 0)) S.tail else wy_w nm cs k (sx_w nm c S)
theorem wy_a (nm : List Int32) : ∀ (a b : List Int32) (k : Bool) (S : List Int32), pu_w a → wy_w nm (a ++ b) k S = wy_w nm b k (xs_w nm a S) := by
  intro a
  induction a with
  | nil =>
    intro b k S _
    rfl
  | cons c a ih =>
    intro b k S h
    obtain ⟨h1, h2⟩ := h c (List.mem_cons_self ..)
    show (if c = 59 then (if k = true then S.headD 0 else wy_w nm (a ++ b) true S.tail) else if c = 63 then wy_w nm (a ++ b) (!decide (S.headD 0 = 0)) S.tail else wy_w nm (a ++ b) k (sx_w nm c S)) = _
    rw [if_neg h1, if_neg h2, ih b k _ (fun x hx => h x (List.mem_cons_of_mem c hx))]
    rfl
/-- a line: its steps, whether it holds, what it gives -/
def li_w (nm : List Int32) (h : Bool) (v : Int32) (L : List Int32) : Prop := ∀ rest S : List Int32, wy_w nm (L ++ rest) true S = if h = true then v else wy_w nm rest true S
theorem li_1 {nm cs : List Int32} {v : Int32} (hp : pu_w cs) (hx : ∀ S : List Int32, xs_w nm cs S = v :: S) : li_w nm true v (cs ++ [59]) := by
  intro rest S
  rw [List.append_assoc, wy_a nm cs _ true S hp, hx, if_pos rfl]
  rfl
theorem li_2 {nm cs cs2 : List Int32} {u v : Int32} (hp : pu_w cs) (hx : ∀ S : List Int32, xs_w nm cs S = u :: S) (hp2 : pu_w cs2) (hx2 : ∀ S : List Int32, xs_w nm cs2 S = v :: S) : li_w nm (!decide (u = 0)) v (cs ++ ([63] ++ (cs2 ++ [59]))) := by
  intro rest S
  rw [List.append_assoc, wy_a nm cs _ true S hp, hx]
  show wy_w nm ((cs2 ++ [59]) ++ rest) (!decide (u = 0)) S = _
  rw [List.append_assoc, wy_a nm cs2 _ _ S hp2, hx2]
  show (if (!decide (u = 0)) = true then v else wy_w nm rest true S) = _
  rfl
/-- the tape's rest behind a fault, in the class -/
theorem tf_f {n sc dc p f i r8 s8 sc' dc' p' f' : Int32} {tape8 stp D stp' D' : List Int32} {m : Nat} (hf : 0 ≤ f.toInt) (e : fX2_readTape_21 700 m i n sc dc p f tape8 stp D = some (r8, s8, sc', dc', p', f', stp', D')) : r8 = f ∧ f' = f ∧ sc' = sc ∧ stp' = stp ∧ s8 = 0 := by
  have n0 : (0 : Int32).toInt = 0 := by decide
  have K : fX2_readTape_71 700 n sc dc p f tape8 stp D = some (r8, s8, sc', dc', p', f', stp', D') → r8 = f ∧ f' = f ∧ sc' = sc ∧ stp' = stp ∧ s8 = 0 := by
    intro e
    rw [uf_X2_readTape_71, if_pos (Int32.le_iff_toInt_le.mpr (by omega)), uf_X2_readTape_108] at e
    apply mm_sub8 e
    exact ⟨rfl, rfl, rfl, rfl, rfl⟩
  have K2 : fX2_readTape_56 700 n sc dc p f tape8 stp D = some (r8, s8, sc', dc', p', f', stp', D') → r8 = f ∧ f' = f ∧ sc' = sc ∧ stp' = stp ∧ s8 = 0 := by
    intro e
    rw [uf_X2_readTape_56] at e
    by_cases c : n ≤ p
    · rw [if_pos c] at e
      exact K e
    · rw [if_neg c] at e
      obtain ⟨w, ew, e⟩ := mm_bd1s e
      have hw := fl_8 ew
      rw [if_pos hf] at hw
      rw [hw] at e
      exact K e
  cases m with
  | zero => exact absurd e (by intro h; cases h)
  | succ m =>
    rw [uf_X2_readTape_21] at e
    by_cases c : (120 : Int32) ≤ i
    · rw [if_pos c] at e
      exact K2 e
    · rw [if_neg c] at e
      obtain ⟨r1, m1, e⟩ := mm_bd1s e
      have h1 := me_e m1
      rw [if_pos hf] at h1
      rw [if_pos h1] at e
      exact K2 e
/-- and in the reference -/
theorem tf_g {base a n f o x3 x4 g b9 a9 n9 f9 o9 : Int32} {tape text names : List Int32} {m : Nat} (hf : 0 ≤ f.toInt) (e : fX9_workOut_96 700 (fX9_workOut_33 700 m) x3 x4 base a n f o tape text names = some (g, b9, a9, n9, f9, o9)) : f9 = f := by
  have n0 : (0 : Int32).toInt = 0 := by decide
  rw [uf_X9_workOut_96] at e
  obtain ⟨r, w, et, e⟩ := mm_bd2s e
  unfold fX9_takes at et
  rw [if_pos (Int32.le_iff_toInt_le.mpr (by omega))] at et
  have et := sm_i et
  injection et with h1 h2
  subst h1
  cases m with
  | zero => exact absurd e (by intro h; cases h)
  | succ m =>
    rw [uf_X9_workOut_33, if_pos (by decide), if_pos (Int32.le_iff_toInt_le.mpr (by omega))] at e
    apply mm_sub6 e
    rfl
theorem tf_74 {base a n f o x3 x4 x6 x7 g b9 a9 n9 f9 o9 : Int32} {tape text names : List Int32} {m : Nat} (hf : 0 ≤ f.toInt) (e : fX9_workOut_74 700 (fX9_workOut_33 700 m) x3 x4 x6 x7 base a n f o tape text names = some (g, b9, a9, n9, f9, o9)) : f9 = f := by
  have n0 : (0 : Int32).toInt = 0 := by decide
  rw [uf_X9_workOut_74, if_pos (Int32.le_iff_toInt_le.mpr (by omega))] at e
  exact tf_g hf e
/-- a line -/
theorem ln_e {tape8 : List Int32} {base n : Int32} {tape text names : List Int32} (HB : hb_w (fun k => tape8.getD k 0) base n tape text) {dc p dc' p' f' x3 x4 g b9 a9 n9 f9 o9 : Int32} {D D' : List Int32} {m : Nat} (hb : pb_w n dc p D) (hx : x3 = 0 ∨ x3 = 1) (e8 : fX2_readLine 700 n dc p (-1) tape8 D = some (dc', p', f', D')) (e9 : fX9_workOut_33 700 (m + 1) x3 x4 1 base p n (-1) 0 tape text names = some (g, b9, a9, n9, f9, o9)) : (0 ≤ f'.toInt ∧ f9 = f') ∨ (f' = -1 ∧ p.toInt ≤ p'.toInt ∧ p'.toInt ≤ n.toInt ∧ ∃ (L : List Int32) (h : Bool) (v : Int32), cs_w dc.toInt.toNat D D' L ∧ dc'.toInt = dc.toInt + L.length ∧ (L.length : Int) ≤ p'.toInt - p.toInt + 1 ∧ 1 ≤ L.length ∧ li_w names h v L ∧ fX9_workOut_96 700 (fX9_workOut_33 700 m) (if h = true ∧ x3 = 0 then (1 : Int32) else x3) (if h = true ∧ x3 = 0 then v else x4) base p' n (-1) 0 tape text names = some (g, b9, a9, n9, f9, o9)) := by
  have n0 : (0 : Int32).toInt = 0 := by decide
  have n1 : (1 : Int32).toInt = 1 := by decide
  obtain ⟨b1, b2, b3, b4, b5⟩ := id hb
  have RE : rg_w tape8 base n tape text names (fX2_readEither 700 (fX2_readOne 700 8)) (fX9_either 700 (fX9_one 700 8)) := ei_r HB (bo_r HB (cm_r HB (su_r HB (pd_r HB (on_M HB 8 8)))))
  rw [uf_X2_readLine] at e8
  rw [uf_X9_workOut_33, if_neg (by decide)] at e9
  obtain ⟨dc1, p1, f1, D1, eg8, e8⟩ := mm_bd4s e8
  obtain ⟨u, a1, g1, o1, eg9, e9⟩ := mm_bd4s e9
  have q := RE 0 dc p D dc1 p1 f1 D1 u a1 g1 o1 (by decide) (by decide) hb eg8 eg9
  obtain ⟨rm, em, e8⟩ := mm_bd1s e8
  have hm := me_e em
  obtain ⟨rt, at_, et, e9⟩ := mm_bd2s e9
  -- what follows a line's last part
  have G : ∀ (x6 x7 a o : Int32) (h : Bool), x7 = mm_b h → fX9_workOut_74 700 (fX9_workOut_33 700 m) x3 x4 x6 x7 base a n (-1) o tape text names = some (g, b9, a9, n9, f9, o9) → fX9_workOut_96 700 (fX9_workOut_33 700 m) (if h = true ∧ x3 = 0 then (1 : Int32) else x3) (if h = true ∧ x3 = 0 then x6 else x4) base a n (-1) o tape text names = some (g, b9, a9, n9, f9, o9) := by
    intro x6 x7 a o h hh e
    rw [uf_X9_workOut_74, if_neg (by decide)] at e
    cases h with
    | false =>
      rw [if_pos (by rw [hh]; decide)] at e
      rw [if_neg (fun k => absurd k.1 (by decide)), if_neg (fun k => absurd k.1 (by decide))]
      exact e
    | true =>
      rw [if_neg (by rw [hh]; decide)] at e
      by_cases k : x3 = 0
      · rw [if_pos k] at e
        rw [if_pos ⟨rfl, k⟩, if_pos ⟨rfl, k⟩]
        exact e
      · rw [if_neg k] at e
        rw [if_neg (fun h => k h.2), if_neg (fun h => k h.2)]
        exact e
  by_cases hf : 0 ≤ f1.toInt
  · rw [if_pos hf] at hm
    rw [if_pos hm, uf_X2_readLine_35] at e8
    obtain ⟨w1, w2, -, e8⟩ := mm_bd2s e8
    have hf9 : 0 ≤ g1.toInt := by rw [q.1]; exact hf
    unfold fX9_takes at et
    rw [if_pos (Int32.le_iff_toInt_le.mpr (by omega))] at et
    have et := sm_i et
    injection et with h1 h2
    rw [if_pos h1.symm] at e9
    have q9 := tf_74 hf9 e9
    apply mm_sub4 e8
    exact Or.inl ⟨hf, by rw [q9]; exact q.1⟩
  · have qb := pq_b hb q hf
    obtain ⟨z1, z2 | ⟨z2, z3, z4, z5, z6, cs, z7, z8, z9, zp, z10⟩⟩ := q
    · exact absurd z2 hf
    · rw [z3, z1, z2] at et
      obtain ⟨t1, t2⟩ := tk_e HB (by omega) et
      rw [if_neg m1_f] at t1
      rw [if_neg hf] at hm
      rw [z1, z2, z4] at e9
      rw [z2] at e8
      have hc1 : dc.toInt.toNat + cs.length = dc1.toInt.toNat := by omega
      by_cases k : nb_8 (fun k => tape8.getD k 0) n p1 = 63
      · have k9 : nb_9 (fun k => tape8.getD k 0) n p1 = 63 := (nb_c (by decide) (by decide)).mpr k
        have hlt := nb_l (by decide) k
        rw [decide_eq_true k] at hm
        rw [decide_eq_true k9] at t1
        rw [if_pos t1] at t2
        rw [if_neg (by rw [hm]; decide), nm_eq] at e8
        rw [if_neg (by rw [t1]; decide), t2] at e9
        obtain ⟨dc2, D2, en, e8⟩ := mm_bd2s e8
        obtain ⟨y1, y2⟩ := no_e (by omega) (by omega) z7.1 en
        have e9' : fX9_workOut_66 700 (fX9_workOut_33 700 m) x3 x4 (mm_b (!decide (u = 0))) base (p1 + (1 : Int32)) n (-1) 0 tape text names = some (g, b9, a9, n9, f9, o9) := by
          by_cases hu : u = 0
          · rw [if_pos hu] at e9
            rw [decide_eq_true hu]
            exact e9
          · rw [if_neg hu] at e9
            rw [decide_eq_false hu]
            exact e9
        rw [uf_X9_workOut_66] at e9'
        generalize hy : p1 + (1 : Int32) = p2 at e8 e9'
        have ey := i_addE hy (by omega) (by omega)
        obtain ⟨dc3, p3, f3, D3, eh8, e8⟩ := mm_bd4s e8
        obtain ⟨v, a3, g3, o3, eh9, e9a⟩ := mm_bd4s e9'
        have q2 := RE 0 dc2 p2 D2 dc3 p3 f3 D3 v a3 g3 o3 (by decide) (by decide) ⟨by omega, by omega, by omega, b4, y2.1⟩ eh8 eh9
        rw [uf_X2_readLine_35] at e8
        obtain ⟨dc4, D4, en4, e8⟩ := mm_bd2s e8
        by_cases hf3 : 0 ≤ f3.toInt
        · have q9 := tf_74 (by rw [q2.1]; exact hf3) e9a
          apply mm_sub4 e8
          exact Or.inl ⟨hf3, by rw [q9]; exact q2.1⟩
        · obtain ⟨w1, w2 | ⟨w2, w3, w4, w5, w6, cs2, w7, w8, w9, wp, w10⟩⟩ := q2
          · exact absurd w2 hf3
          · rw [w1, w2, w3, w4] at e9a
            obtain ⟨v1, v2⟩ := no_e (by omega) (by omega) w7.1 en4
            apply mm_sub4 e8
            have hc2 : dc1.toInt.toNat + 1 = dc2.toInt.toNat := by omega
            have hc3 : dc2.toInt.toNat + cs2.length = dc3.toInt.toNat := by omega
            refine Or.inr ⟨w2, by omega, w6, cs ++ ([63] ++ (cs2 ++ [59])), !decide (u = 0), v, ?_, ?_, ?_, ?_, li_2 zp (fun S => z10 S) wp (fun S => w10 S), G v _ p3 0 _ rfl e9a⟩
            · refine cs_t z7 ?_
              rw [hc1]
              refine cs_t y2 ?_
              rw [List.length_singleton, hc2]
              refine cs_t w7 ?_
              rw [hc3]
              exact v2
            · simp only [List.length_append, List.length_singleton]
              omega
            · simp only [List.length_append, List.length_singleton]
              omega
            · simp only [List.length_append, List.length_singleton]
              omega
      · have k9 : ¬ nb_9 (fun k => tape8.getD k 0) n p1 = 63 := fun h => k ((nb_c (by decide) (by decide)).mp h)
        rw [decide_eq_false k] at hm
        rw [decide_eq_false k9] at t1
        rw [if_neg (by rw [t1]; decide)] at t2
        rw [if_pos hm, uf_X2_readLine_35] at e8
        rw [if_pos t1, t2] at e9
        obtain ⟨dc4, D4, en4, e8⟩ := mm_bd2s e8
        obtain ⟨v1, v2⟩ := no_e (by omega) (by omega) z7.1 en4
        apply mm_sub4 e8
        refine Or.inr ⟨rfl, by omega, z6, cs ++ [59], true, u, ?_, ?_, ?_, ?_, li_1 zp (fun S => z10 S), G u 1 p1 0 true rfl e9⟩
        · refine cs_t z7 ?_
          rw [hc1]
          exact v2
        · rw [List.length_append, List.length_singleton]
          omega
        · rw [List.length_append, List.length_singleton]
          omega
        · rw [List.length_append, List.length_singleton]
          omega
theorem cp_g {xs ys : List Int32} {n : Int32} (h1 : xs.length = 121) (h2 : ys.length = 121) (n0 : 0 ≤ n.toInt) (n1 : n.toInt ≤ 121) (k : Nat) (hk : k < n.toInt.toNat) : (mm_cp xs ys 0 0 n).getD k 0 = xs.getD k 0 := by
  have e0 : (0 : Int32).toNatClampNeg = 0 := by decide
  have en : n.toNatClampNeg = n.toInt.toNat := rfl
  unfold mm_cp
  rw [e0, en, List.take_zero, List.drop_zero, List.nil_append, List.getD_eq_getElem?_getD, List.getD_eq_getElem?_getD, List.getElem?_append_left (by rw [List.length_take]; omega), List.getElem?_take, if_pos hk]
/-- the lines behind the first -/
theorem tl_21 {tape8 : List Int32} {base n : Int32} {tape text names : List Int32} (HB : hb_w (fun k => tape8.getD k 0) base n tape text) {sc r8 s8 sc' dc' p' f' g b9 a9 n9 f9 o9 : Int32} {stp stp' D' : List Int32} (hl : stp.length = 121) : ∀ (m m' : Nat) (i dc p x3 x4 : Int32) (D : List Int32), 0 ≤ dc.toInt → dc.toInt ≤ p.toInt + 1 → 0 ≤ p.toInt → p.toInt ≤ n.toInt → n.toInt ≤ 120 → D.length = 121 → 0 ≤ i.toInt → i.toInt ≤ p.toInt → (x3 = 0 ∨ x3 = 1) → (x3 = 0 → x4 = 0) → fX2_readTape_21 700 m i n sc dc p (-1) tape8 stp D = some (r8, s8, sc', dc', p', f', stp', D') → fX9_workOut_96 700 (fX9_workOut_33 700 m') x3 x4 base p n (-1) 0 tape text names = some (g, b9, a9, n9, f9, o9) → f9 = f' ∧ r8 = f' ∧ s8 = 0 ∧ ((0 ≤ f'.toInt ∧ sc' = sc ∧ stp' = stp) ∨ (f' = -1 ∧ ∃ prog : List Int32, (∀ k : Nat, k < dc.toInt.toNat → stp'.getD k 0 = D.getD k 0) ∧ (∀ k : Nat, k < prog.length → stp'.getD (dc.toInt.toNat + k) 0 = prog.getD k 0) ∧ sc'.toInt = dc.toInt + prog.length ∧ sc'.toInt ≤ 121 ∧ ∀ S : List Int32, g = if x3 = 0 then wy_w names prog true S else x4)) := by
  have n0 : (0 : Int32).toInt = 0 := by decide
  have n1 : (1 : Int32).toInt = 1 := by decide
  have n120 : (120 : Int32).toInt = 120 := by decide
  intro m
  induction m with
  | zero =>
    intro m' i dc p x3 x4 D h0 h1 p0 h2 h3 h4 i0 i1 hx hx4 e8
    exact absurd e8 (by intro h; cases h)
  | succ m ih =>
    intro m' i dc p x3 x4 D h0 h1 p0 h2 h3 h4 i0 i1 hx hx4 e8 e9
    rw [uf_X9_workOut_96] at e9
    obtain ⟨rt, at_, et, e9⟩ := mm_bd2s e9
    obtain ⟨t1, t2⟩ := tk_e HB p0 et
    rw [if_neg m1_f] at t1
    rw [uf_X2_readTape_21] at e8
    cases m' with
    | zero => exact absurd e9 (by intro h; cases h)
    | succ m' =>
      by_cases k : nb_8 (fun k => tape8.getD k 0) n p = 59
      · have k9 : nb_9 (fun k => tape8.getD k 0) n p = 59 := (nb_c (by decide) (by decide)).mpr k
        have hlt := nb_l (by decide) k
        rw [decide_eq_true k9] at t1
        rw [if_pos t1] at t2
        rw [t1, t2] at e9
        have e9m : fX9_workOut_33 700 (m' + 1) x3 x4 1 base (p + (1 : Int32)) n (-1) 0 tape text names = some (g, b9, a9, n9, f9, o9) := e9
        rw [if_neg (fun h => absurd (i_le h) (by omega))] at e8
        obtain ⟨r1, m1, e8⟩ := mm_bd1s e8
        have h1' := me_e m1
        rw [if_neg m1_f, decide_eq_true k] at h1'
        rw [if_neg (by rw [h1']; decide), nm_eq] at e8
        generalize hy : p + (1 : Int32) = p1 at e8 e9m
        have ey := i_addE hy (by omega) (by omega)
        obtain ⟨dc1, p2, f1, D1, el, e8⟩ := mm_bd4s e8
        rw [nm_eq] at e8
        rcases ln_e HB ⟨h0, by omega, by omega, h3, h4⟩ hx el e9m with ⟨hf, hf9⟩ | ⟨q1, q2, q3, L, h, v, q4, q5, q6, q6', q7, q8⟩
        · obtain ⟨u1, u2, u3, u4, u5⟩ := tf_f hf e8
          exact ⟨by rw [hf9, u2], by rw [u1, u2], u5, Or.inl ⟨by rw [u2]; exact hf, u3, u4⟩⟩
        · rw [q1] at e8
          generalize hj : i + (1 : Int32) = j at e8
          have ej := i_addE hj (by omega) (by omega)
          have hx' : (if h = true ∧ x3 = 0 then (1 : Int32) else x3) = 0 ∨ (if h = true ∧ x3 = 0 then (1 : Int32) else x3) = 1 := by
            by_cases w : h = true ∧ x3 = 0
            · rw [if_pos w]
              exact Or.inr rfl
            · rw [if_neg w]
              exact hx
          have hx4' : (if h = true ∧ x3 = 0 then (1 : Int32) else x3) = 0 → (if h = true ∧ x3 = 0 then v else x4) = 0 := by
            intro w
            by_cases w2 : h = true ∧ x3 = 0
            · rw [if_pos w2] at w
              exact absurd w (by decide)
            · rw [if_neg w2] at w ⊢
              exact hx4 w
          obtain ⟨v1, v2, v2', v3⟩ := ih m' j dc1 p2 _ _ D1 (by omega) (by omega) (by omega) q3 h3 q4.1 (by omega) (by omega) hx' hx4' e8 q8
          refine ⟨v1, v2, v2', ?_⟩
          rcases v3 with v3 | ⟨v4, prog, v7, v8, v9, v9', v10⟩
          · exact Or.inl v3
          · have hdc : dc.toInt.toNat + L.length = dc1.toInt.toNat := by omega
            refine Or.inr ⟨v4, L ++ prog, fun k hk => ?_, fun k hk => ?_, ?_, v9', fun S => ?_⟩
            · rw [v7 k (by omega), q4.2.1 k hk]
            · rw [List.length_append] at hk
              by_cases w : k < L.length
              · rw [v7 (dc.toInt.toNat + k) (by omega), q4.2.2 k w, List.getD_eq_getElem?_getD, List.getD_eq_getElem?_getD, List.getElem?_append_left w]
              · have e1 : dc.toInt.toNat + k = dc1.toInt.toNat + (k - L.length) := by omega
                rw [e1, v8 (k - L.length) (by omega), List.getD_eq_getElem?_getD, List.getD_eq_getElem?_getD, List.getElem?_append_right (by omega)]
            · rw [List.length_append]
              omega
            · have q := v10 S
              rw [q7 prog S]
              by_cases w : x3 = 0
              · rw [if_pos w]
                by_cases w2 : h = true
                · rw [if_pos w2]
                  rw [if_pos (c := h = true ∧ x3 = 0) ⟨w2, w⟩, if_pos (c := h = true ∧ x3 = 0) ⟨w2, w⟩, if_neg (by decide)] at q
                  exact q
                · rw [if_neg w2]
                  rw [if_neg (c := h = true ∧ x3 = 0) (fun z => w2 z.1), if_neg (c := h = true ∧ x3 = 0) (fun z => w2 z.1), if_pos w] at q
                  exact q
              · rw [if_neg w]
                rw [if_neg (c := h = true ∧ x3 = 0) (fun z => w z.2), if_neg (c := h = true ∧ x3 = 0) (fun z => w z.2), if_neg w] at q
                exact q
      · have k9 : ¬ nb_9 (fun k => tape8.getD k 0) n p = 59 := fun h => k ((nb_c (by decide) (by decide)).mp h)
        rw [decide_eq_false k9] at t1
        rw [if_neg (by rw [t1]; decide)] at t2
        rw [t1, t2] at e9
        have e9m : fX9_workOut_33 700 (m' + 1) x3 x4 0 base p n (-1) 0 tape text names = some (g, b9, a9, n9, f9, o9) := e9
        rw [uf_X9_workOut_33, if_pos rfl, if_neg (by decide)] at e9m
        have e8m : fX2_readTape_56 700 n sc dc p (-1) tape8 stp D = some (r8, s8, sc', dc', p', f', stp', D') := by
          by_cases c0 : (120 : Int32) ≤ i
          · rw [if_pos c0] at e8
            exact e8
          · rw [if_neg c0] at e8
            obtain ⟨r1, m1, e8⟩ := mm_bd1s e8
            have h1' := me_e m1
            rw [if_neg m1_f, decide_eq_false k] at h1'
            rw [if_pos h1'] at e8
            exact e8
        rw [uf_X2_readTape_56] at e8m
        by_cases c : n ≤ p
        · rw [if_pos c, uf_X2_readTape_71, if_neg (by decide)] at e8m
          rw [if_pos c] at e9m
          have e8n := ck_x e8m
          rw [nm_eq, uf_X2_readTape_108] at e8n
          apply mm_sub8 e8n
          apply mm_sub6 e9m
          refine ⟨rfl, rfl, rfl, Or.inr ⟨rfl, [], fun k hk => cp_g h4 hl h0 (by omega) k hk, fun k hk => absurd hk (by rw [List.length_nil]; omega), by rw [List.length_nil]; omega, by omega, fun S => ?_⟩⟩
          by_cases w : x3 = 0
          · rw [if_pos w]
            exact hx4 w
          · rw [if_neg w]
        · rw [if_neg c] at e8m e9m
          obtain ⟨w, ew, e8n⟩ := mm_bd1s e8m
          have hw := fl_8 ew
          rw [if_neg m1_f] at hw
          obtain ⟨w1, w2, ew9, e9n⟩ := mm_bd2s e9m
          have hw9 := fl_9 ew9
          rw [if_neg m1_f] at hw9
          rw [hw, uf_X2_readTape_71, if_pos (Int32.le_iff_toInt_le.mpr (by omega)), uf_X2_readTape_108] at e8n
          apply mm_sub8 e8n
          apply mm_sub6 e9n
          exact ⟨hw9, rfl, rfl, Or.inl ⟨p0, rfl, rfl⟩⟩
/-- the whole tape -/
theorem lw_e {tape8 : List Int32} {base n : Int32} {tape text names : List Int32} (HB : hb_w (fun k => tape8.getD k 0) base n tape text) {sc dc0 pl0 fa0 r8 s8 sc' dc' p' f' b1 a1 n1 f1 o1 g b9 a9 n9 f9 o9 : Int32} {stp D0 stp' D' : List Int32} (h0 : 0 ≤ n.toInt) (h1 : n.toInt ≤ 120) (hl : stp.length = 121) (hd : D0.length = 121) (e8 : fX2_readTape 700 n sc dc0 pl0 fa0 tape8 stp D0 = some (r8, s8, sc', dc', p', f', stp', D')) (e9 : fX9_workOut 700 base n b1 a1 n1 f1 o1 tape text names = some (g, b9, a9, n9, f9, o9)) : f9 = f' ∧ r8 = f' ∧ s8 = 0 ∧ ((0 ≤ f'.toInt ∧ sc' = sc ∧ stp' = stp) ∨ (f' = -1 ∧ ∃ prog : List Int32, (∀ k : Nat, k < prog.length → stp'.getD k 0 = prog.getD k 0) ∧ sc'.toInt = prog.length ∧ 1 ≤ prog.length ∧ sc'.toInt ≤ 121 ∧ ∀ S : List Int32, g = wy_w names prog true S)) := by
  have n0 : (0 : Int32).toInt = 0 := by decide
  have z0 : (0 : Int32).toInt.toNat = 0 := by decide
  rw [uf_X2_readTape] at e8
  rw [uf_X9_workOut] at e9
  obtain ⟨dc1, p1, f1', D1, el, e8⟩ := mm_bd4s e8
  rcases ln_e (m := 699) HB ⟨by omega, by omega, by omega, h1, hd⟩ (Or.inl rfl) el e9 with ⟨hf, hf9⟩ | ⟨q1, q2, q3, L, h, v, q4, q5, q6, q6', q7, q8⟩
  · obtain ⟨u1, u2, u3, u4, u5⟩ := tf_f hf e8
    exact ⟨by rw [hf9, u2], by rw [u1, u2], u5, Or.inl ⟨by rw [u2]; exact hf, u3, u4⟩⟩
  · rw [q1] at e8
    have hx' : (if h = true ∧ (0 : Int32) = 0 then (1 : Int32) else 0) = 0 ∨ (if h = true ∧ (0 : Int32) = 0 then (1 : Int32) else 0) = 1 := by
      by_cases w : h = true ∧ (0 : Int32) = 0
      · rw [if_pos w]
        exact Or.inr rfl
      · rw [if_neg w]
        exact Or.inl rfl
    have hx4' : (if h = true ∧ (0 : Int32) = 0 then (1 : Int32) else 0) = 0 → (if h = true ∧ (0 : Int32) = 0 then v else (0 : Int32)) = 0 := by
      intro w
      by_cases w2 : h = true ∧ (0 : Int32) = 0
      · rw [if_pos w2] at w
        exact absurd w (by decide)
      · rw [if_neg w2]
    obtain ⟨v1, v2, v2', v3⟩ := tl_21 HB hl 700 699 (0 : Int32) dc1 p1 _ _ D1 (by omega) (by omega) (by omega) q3 h1 q4.1 (by omega) (by omega) hx' hx4' e8 q8
    refine ⟨v1, v2, v2', ?_⟩
    rcases v3 with v3 | ⟨v4, prog, v7, v8, v9, v9', v10⟩
    · exact Or.inl v3
    · rw [z0] at q4
      have hdc : L.length = dc1.toInt.toNat := by omega
      refine Or.inr ⟨v4, L ++ prog, fun k hk => ?_, ?_, ?_, v9', fun S => ?_⟩
      · rw [List.length_append] at hk
        by_cases w : k < L.length
        · have e1 := q4.2.2 k w
          rw [Nat.zero_add] at e1
          rw [v7 k (by omega), e1, List.getD_eq_getElem?_getD, List.getD_eq_getElem?_getD, List.getElem?_append_left w]
        · have e1 : k = dc1.toInt.toNat + (k - L.length) := by omega
          have e2 := v8 (k - L.length) (by omega)
          rw [← e1] at e2
          rw [e2, List.getD_eq_getElem?_getD, List.getD_eq_getElem?_getD, List.getElem?_append_right (by omega)]
      · rw [List.length_append]
        omega
      · rw [List.length_append]
        omega
      · have q := v10 S
        rw [q7 prog S]
        by_cases w2 : h = true
        · rw [if_pos w2]
          rw [if_pos (c := h = true ∧ (0 : Int32) = 0) ⟨w2, rfl⟩, if_pos (c := h = true ∧ (0 : Int32) = 0) ⟨w2, rfl⟩, if_neg (by decide)] at q
          exact q
        · rw [if_neg w2]
          rw [if_neg (c := h = true ∧ (0 : Int32) = 0) (fun z => w2 z.1), if_neg (c := h = true ∧ (0 : Int32) = 0) (fun z => w2 z.1), if_pos rfl] at q
          exact q
end
section
/-! law alike -/
theorem hb_t {n : Int32} {tape text : List Int32} : hb_w (fun k => tape.getD k 0) (-1) n tape text := by
  intro p r p0 e
  unfold fX9_byteAt at e
  unfold nb_9
  by_cases c : n ≤ p
  · rw [if_pos c] at e ⊢
    exact (sm_i e).symm
  · rw [if_neg c, if_neg (by decide)] at e
    rw [if_neg c]
    exact (sm_i (ck_x e)).symm
theorem lx_37 {x2 tm txm b a en f o : Int32} {tape names : List Int32} (h2 : x2.toInt ≤ 120) : ∀ (m : Nat) (x3 : Int32) (text : List Int32) (r tm' txm' b' a' en' f' o' : Int32) (text' : List Int32), fX9_law_37 700 m x2 x3 tm txm b a en f o tape text names = some (r, tm', txm', b', a', en', f', o', text') → 0 ≤ x3.toInt → text.length = 120 → r = 1 ∧ tm' = tm ∧ txm' = x2 ∧ text'.length = 120 ∧ (∀ k : Nat, k < x3.toInt.toNat → text'.getD k 0 = text.getD k 0) ∧ (∀ k : Nat, x3.toInt.toNat ≤ k → (k : Int) < x2.toInt → text'.getD k 0 = tape.getD k 0) := by
  have n1 : (1 : Int32).toInt = 1 := by decide
  intro m
  induction m with
  | zero =>
    intro x3 text r tm' txm' b' a' en' f' o' text' e
    exact absurd e (by intro h; cases h)
  | succ m ih =>
    intro x3 text r tm' txm' b' a' en' f' o' text' e p0 l
    rw [uf_X9_law_37] at e
    by_cases c : x2 ≤ x3
    · have d := i_le c
      rw [if_pos c] at e
      apply mm_sub9 e
      exact ⟨rfl, rfl, rfl, l, fun _ _ => rfl, fun k k0 k1 => absurd k1 (by omega)⟩
    · have d := i_nle c
      rw [if_neg c] at e
      have e := ck_x e
      rw [nm_eq] at e
      have e := ck_x e
      rw [nm_eq, nm_eq] at e
      have s1 := ps_is text x3 (mm_ig tape x3)
      generalize hy : x3 + (1 : Int32) = y at e
      have ey := i_addE hy (by omega) (by omega)
      obtain ⟨q1, q2, q3, q4, q5, q6⟩ := ih y _ r tm' txm' b' a' en' f' o' text' e (by omega) (by rw [is_len]; exact l)
      refine ⟨q1, q2, q3, q4, fun k hk => ?_, fun k k0 k1 => ?_⟩
      · rw [q5 k (by omega), ps_ne s1 (by omega) (by omega)]
      · by_cases g : x3.toInt.toNat = k
        · rw [q5 k (by omega), ← g, ps_at s1 (by omega)]
          rfl
        · exact q6 k (by omega) k1
set_option maxHeartbeats 4000000 in
theorem rs_law_a {v_wearing_size : Int32} {v_wearing_stepCount : Int32} {v_wearing_draftCount : Int32} {v_wearing_place : Int32} {v_wearing_fault : Int32} {v_wearing_tape : List Int32} {v_wearing_steps : List Int32} {v_wearing_draft : List Int32} {v_wearing_stack : List Int32} {m_tapeMany : Int32} {m_textMany : Int32} {m_base : Int32} {m_at : Int32} {m_ends : Int32} {m_fault : Int32} {m_opened : Int32} {m_tape : List Int32} {m_text : List Int32} {m_names : List Int32} {m_bends : List Int32} {m_high : List Int32} {m_to : List Int32} {m_pileSize : List Int32} (g8_0 : gi_la v_wearing_size v_wearing_stepCount v_wearing_draftCount v_wearing_tape v_wearing_steps v_wearing_draft v_wearing_stack) (g9_0 : gm_tx m_tapeMany m_textMany m_tape m_text m_names m_bends m_high m_to m_pileSize) (hr_0 : rl_tp v_wearing_size v_wearing_tape m_tapeMany m_tape) : ∃ (r : Int32) (p_wearing_size : Int32) (p_wearing_stepCount : Int32) (p_wearing_draftCount : Int32) (p_wearing_place : Int32) (p_wearing_fault : Int32) (p_wearing_steps : List Int32) (p_wearing_draft : List Int32) (q_tapeMany : Int32) (q_textMany : Int32) (q_base : Int32) (q_at : Int32) (q_ends : Int32) (q_fault : Int32) (q_opened : Int32) (q_text : List Int32), fX8_law 700 v_wearing_size v_wearing_stepCount v_wearing_draftCount v_wearing_place v_wearing_fault v_wearing_tape v_wearing_steps v_wearing_draft = some (r, p_wearing_size, p_wearing_stepCount, p_wearing_draftCount, p_wearing_place, p_wearing_fault, p_wearing_steps, p_wearing_draft) ∧ fX9_law 700 m_tapeMany m_textMany m_base m_at m_ends m_fault m_opened m_tape m_text m_names = some (r, q_tapeMany, q_textMany, q_base, q_at, q_ends, q_fault, q_opened, q_text) ∧ gi_la p_wearing_size p_wearing_stepCount p_wearing_draftCount v_wearing_tape p_wearing_steps p_wearing_draft v_wearing_stack ∧ gm_tx q_tapeMany q_textMany m_tape q_text m_names m_bends m_high m_to m_pileSize ∧ rl_tp p_wearing_size v_wearing_tape q_tapeMany m_tape := by
  obtain ⟨⟨r8, p_wearing_size, p_wearing_stepCount, p_wearing_draftCount, p_wearing_place, p_wearing_fault, p_wearing_steps, p_wearing_draft⟩, e8, -⟩ := st8_law (v_wearing_place := v_wearing_place) (v_wearing_fault := v_wearing_fault) g8_0
  obtain ⟨⟨r9, q_tapeMany, q_textMany, q_base, q_at, q_ends, q_fault, q_opened, q_text⟩, e9, -⟩ := st9_law (v_base := m_base) (v_at := m_at) (v_ends := m_ends) (v_fault := m_fault) (v_opened := m_opened) g9_0
  have k8 := wp_get (st8_law g8_0) e8
  have k9 := wp_get (st9_law g9_0) e9
  obtain ⟨a0, a1, -, -, -, -, -, a7, a8, -⟩ := id g8_0
  obtain ⟨-, -, -, -, -, c5, -⟩ := id g9_0
  obtain ⟨rfl, rfl⟩ := hr_0
  have n0 : (0 : Int32).toInt = 0 := by decide
  have X : r9 = r8 ∧ q_tapeMany = p_wearing_size := by
    have f8 := e8
    have f9 := e9
    unfold fX8_law at f8
    unfold fX9_law at f9
    obtain ⟨u0, u1, u2, u3, u4, u5, u6, u7, et, f8⟩ := mm_bd8s f8
    obtain ⟨v0, v1, v2, v3, v4, v5, ew, f9⟩ := mm_bd6s f9
    obtain ⟨q1, q2, q3, q4⟩ := lw_e hb_t a0 a1 a7 a8 et ew
    rcases q4 with ⟨hf, -⟩ | ⟨hf, -⟩
    · rw [if_pos (Int32.le_iff_toInt_le.mpr (by rw [q2]; omega))] at f8
      rw [if_neg (fun h => absurd (i_lt h) (by rw [q1]; omega))] at f9
      apply mm_sub8 f8
      apply mm_sub9 f9
      exact ⟨by rw [q1, q2], q3.symm⟩
    · rw [if_neg (by rw [q2, hf]; decide)] at f8
      rw [if_pos (by rw [q1, hf]; decide)] at f9
      obtain ⟨w1, w2, -⟩ := lx_37 a1 700 _ _ _ _ _ _ _ _ _ _ _ f9 (by decide) c5
      apply mm_sub8 f8
      exact ⟨w1, by rw [w2, q3]⟩
  obtain ⟨er, es⟩ := X
  subst er
  subst es
  exact ⟨_, _, _, _, _, _, _, _, _, _, _, _, _, _, _, _, e8, e9, k8, k9, rfl, rfl⟩
end
section
/-! The law: steps worked off -/
def sk_w (t : Int32) (st S : List Int32) : Prop := st.length = 121 ∧ 0 ≤ t.toInt ∧ S.length = t.toInt.toNat ∧ ∀ i : Nat, i < S.length → st.getD (S.length - 1 - i) 0 = S.getD i 0
theorem po_e {t r t' : Int32} {st S : List Int32} (h : sk_w t st S) (ht : t.toInt ≤ 121) (e : fX2_pop 700 t st = some (r, t')) : r = S.headD 0 ∧ sk_w t' st S.tail ∧ t'.toInt ≤ t.toInt := by
  have n0 : (0 : Int32).toInt = 0 := by decide
  have n1 : (1 : Int32).toInt = 1 := by decide
  obtain ⟨h1, h2, h3, h4⟩ := h
  unfold fX2_pop at e
  by_cases c : t = 0
  · rw [if_pos c] at e
    rw [c, n0] at h3
    have hS : S = [] := List.length_eq_zero_iff.mp h3
    subst hS
    apply mm_sub2 e
    exact ⟨rfl, ⟨h1, h2, by rw [c, n0]; rfl, fun i hi => absurd hi (by intro k; cases k)⟩, Int.le_refl _⟩
  · have d := i_ne c
    rw [if_neg c, nm_eq] at e
    have e := ck_x e
    generalize hy : t - (1 : Int32) = y at e
    have ey := i_subE hy (by omega) (by omega)
    apply mm_sub2 e
    cases S with
    | nil => exact absurd h3 (by rw [List.length_nil]; omega)
    | cons a S =>
      rw [List.length_cons] at h3 h4
      have q := h4 0 (by omega)
      have hk : S.length + 1 - 1 - 0 = y.toInt.toNat := by omega
      rw [hk] at q
      refine ⟨q, ⟨h1, by omega, by show S.length = _; omega, fun i hi => ?_⟩, by omega⟩
      have hi : i < S.length := hi
      have q2 := h4 (i + 1) (by omega)
      have hk2 : S.length + 1 - 1 - (i + 1) = S.length - 1 - i := by omega
      rw [hk2] at q2
      exact q2
theorem ps_e {v t t' : Int32} {st st' S : List Int32} (h : sk_w t st S) (ht : t.toInt < 121) (e : fX2_push 700 v t st = some (t', st')) : sk_w t' st' (v :: S) ∧ t'.toInt = t.toInt + 1 := by
  have n121 : (121 : Int32).toInt = 121 := by decide
  have n1 : (1 : Int32).toInt = 1 := by decide
  obtain ⟨h1, h2, h3, h4⟩ := h
  unfold fX2_push at e
  rw [if_neg (fun k => absurd (i_le k) (by omega))] at e
  have e := ck_x e
  rw [nm_eq, nm_eq] at e
  generalize hy : t + (1 : Int32) = y at e
  have ey := i_addE hy (by omega) (by omega)
  apply mm_sub2 e
  refine ⟨⟨by rw [is_len]; exact h1, by omega, by rw [List.length_cons]; omega, fun i hi => ?_⟩, by omega⟩
  rw [List.length_cons] at hi
  rw [List.length_cons, ge_is _ _ _ _ (by omega)]
  cases i with
  | zero =>
    rw [if_pos (by omega)]
    rfl
  | succ i =>
    rw [if_neg (by omega)]
    have hk : S.length + 1 - 1 - (i + 1) = S.length - 1 - i := by omega
    rw [hk, h4 i (by omega)]
    rfl
theorem jo_e {c a b r : Int32} (e : fX2_joined 700 c a b = some r) : r = jn_w c a b := by
  unfold fX2_joined at e
  unfold jn_w
  by_cases c37 : c = 37
  · subst c37
    rw [if_pos rfl] at e
    rw [if_neg (by decide), if_neg (by decide), if_neg (by decide), if_neg (by decide), if_neg (by decide), if_neg (by decide), if_neg (by decide), if_neg (by decide), if_neg (by decide), if_pos rfl]
    by_cases k : b = 0
    · rw [if_pos k] at e ⊢
      exact (sm_i e).symm
    · rw [if_neg k] at e ⊢
      exact (sm_i (ck_x e)).symm
  rw [if_neg c37] at e
  by_cases c38 : c = 38
  · subst c38
    rw [if_pos rfl] at e
    rw [if_neg (by decide), if_pos rfl]
    by_cases k : a = 0
    · rw [if_pos k] at e ⊢
      exact (sm_i e).symm
    · rw [if_neg k] at e ⊢
      by_cases k2 : b = 0
      · rw [if_pos k2] at e ⊢
        exact (sm_i e).symm
      · rw [if_neg k2] at e ⊢
        exact (sm_i e).symm
  rw [if_neg c38] at e
  by_cases c42 : c = 42
  · subst c42
    rw [if_pos rfl] at e
    exact (sm_i e).symm
  rw [if_neg c42] at e
  by_cases c43 : c = 43
  · subst c43
    rw [if_pos rfl] at e
    exact (sm_i e).symm
  rw [if_neg c43] at e
  by_cases c45 : c = 45
  · subst c45
    rw [if_pos rfl] at e
    exact (sm_i e).symm
  rw [if_neg c45] at e
  by_cases c47 : c = 47
  · subst c47
    rw [if_pos rfl] at e
    rw [if_neg (by decide), if_neg (by decide), if_neg (by decide), if_neg (by decide), if_neg (by decide), if_neg (by decide), if_neg (by decide), if_neg (by decide), if_pos rfl]
    by_cases k : b = 0
    · rw [if_pos k] at e ⊢
      exact (sm_i e).symm
    · rw [if_neg k] at e ⊢
      exact (sm_i (ck_x e)).symm
  rw [if_neg c47] at e
  by_cases c60 : c = 60
  · subst c60
    rw [if_pos rfl] at e
    rw [if_neg (by decide), if_neg (by decide), if_pos rfl]
    by_cases k : b ≤ a
    · rw [if_pos k] at e ⊢
      exact (sm_i e).symm
    · rw [if_neg k] at e ⊢
      exact (sm_i e).symm
  rw [if_neg c60] at e
  by_cases c61 : c = 61
  · subst c61
    rw [if_pos rfl] at e
    rw [if_neg (by decide), if_neg (by decide), if_neg (by decide), if_pos rfl]
    by_cases k : a = b
    · rw [if_pos k] at e ⊢
      exact (sm_i e).symm
    · rw [if_neg k] at e ⊢
      exact (sm_i e).symm
  rw [if_neg c61] at e
  by_cases c62 : c = 62
  · subst c62
    rw [if_pos rfl] at e
    rw [if_neg (by decide), if_neg (by decide), if_neg (by decide), if_neg (by decide), if_pos rfl]
    by_cases k : a ≤ b
    · rw [if_pos k] at e ⊢
      exact (sm_i e).symm
    · rw [if_neg k] at e ⊢
      exact (sm_i e).symm
  rw [if_neg c62] at e
  by_cases c124 : c = 124
  · subst c124
    rw [if_pos rfl] at e
    rw [if_pos rfl]
    by_cases k : a = 0
    · rw [if_pos k] at e ⊢
      by_cases k2 : b = 0
      · rw [if_pos k2] at e ⊢
        exact (sm_i e).symm
      · rw [if_neg k2] at e ⊢
        exact (sm_i e).symm
    · rw [if_neg k] at e ⊢
      exact (sm_i e).symm
  rw [if_neg c124] at e
  rw [if_neg c124, if_neg c38, if_neg c60, if_neg c61, if_neg c62, if_neg c43, if_neg c45, if_neg c42, if_neg c47, if_neg c37]
  exact (sm_i e).symm
def cl_w (v : Int32) : Int32 := mm_max (0 : Int32) (mm_min (9 : Int32) v)
theorem wo_24 {x1 x2 x3 x4 x5 x6 sc : Int32} {stp P : List Int32} (hs : sc.toInt = P.length) (hs1 : sc.toInt ≤ 121) (hP : ∀ k : Nat, k < P.length → stp.getD k 0 = P.getD k 0) : ∀ (m : Nat) (b : Bool) (x8 t : Int32) (st S : List Int32) (r t' : Int32) (st' : List Int32), fX2_worth_24 700 m x1 x2 x3 x4 x5 x6 (mm_b b) x8 sc t stp st = some (r, t', st') → 0 ≤ x8.toInt → x8.toInt ≤ sc.toInt → sk_w t st S → t.toInt ≤ x8.toInt → r = cl_w (wy_w [x1, x2, x3, x4, x5, x6] (P.drop x8.toInt.toNat) b S) := by
  have n0 : (0 : Int32).toInt = 0 := by decide
  have n1 : (1 : Int32).toInt = 1 := by decide
  intro m
  induction m with
  | zero =>
    intro b x8 t st S r t' st' e
    exact absurd e (by intro h; cases h)
  | succ m ih =>
    intro b x8 t st S r t' st' e p0 p1 hk ht
    rw [uf_X2_worth_24] at e
    by_cases c : sc ≤ x8
    · have d := i_le c
      rw [if_pos c] at e
      have hd : P.drop x8.toInt.toNat = [] := List.drop_of_length_le (by omega)
      rw [hd]
      apply mm_sub3 e
      rfl
    · have d := i_nle c
      rw [if_neg c] at e
      have e := ck_x e
      rw [nm_eq] at e
      have hlt : x8.toInt.toNat < P.length := by omega
      have hc : mm_ig stp x8 = P.getD x8.toInt.toNat 0 := hP _ hlt
      rw [hc] at e
      have hdr : P.drop x8.toInt.toNat = P.getD x8.toInt.toNat 0 :: P.drop (x8.toInt.toNat + 1) := by
        rw [List.drop_eq_getElem_cons hlt, List.getD_eq_getElem?_getD, List.getElem?_eq_getElem hlt]
        rfl
      rw [hdr]
      generalize P.getD x8.toInt.toNat 0 = y at e ⊢
      generalize hy : x8 + (1 : Int32) = x9 at *
      have ey := i_addE hy (by omega) (by omega)
      have hx9 : x8.toInt.toNat + 1 = x9.toInt.toNat := by omega
      rw [hx9]
      -- a value pushed
      have PU : ∀ (v t1 : Int32) (s1 : List Int32), fX2_push 700 v t st = some (t1, s1) → fX2_worth_24 700 m x1 x2 x3 x4 x5 x6 (mm_b b) x9 sc t1 stp s1 = some (r, t', st') → ¬ y = 59 → ¬ y = 63 → sx_w [x1, x2, x3, x4, x5, x6] y S = v :: S → r = cl_w (wy_w [x1, x2, x3, x4, x5, x6] (y :: P.drop x9.toInt.toNat) b S) := by
        intro v t1 s1 ep e h1 h2 h3
        obtain ⟨q1, q2⟩ := ps_e hk (by omega) ep
        have q := ih b x9 t1 s1 (v :: S) r t' st' e (by omega) (by omega) q1 (by omega)
        show r = cl_w (if y = 59 then (if b = true then S.headD 0 else wy_w [x1, x2, x3, x4, x5, x6] (P.drop x9.toInt.toNat) true S.tail) else if y = 63 then wy_w [x1, x2, x3, x4, x5, x6] (P.drop x9.toInt.toNat) (!decide (S.headD 0 = 0)) S.tail else wy_w [x1, x2, x3, x4, x5, x6] (P.drop x9.toInt.toNat) b (sx_w [x1, x2, x3, x4, x5, x6] y S))
        rw [if_neg h1, if_neg h2, h3]
        exact q
      -- one popped, one pushed
      have P1 : ∀ (u v t1 t2 : Int32) (s2 : List Int32), fX2_pop 700 t st = some (u, t1) → fX2_push 700 v t1 st = some (t2, s2) → fX2_worth_24 700 m x1 x2 x3 x4 x5 x6 (mm_b b) x9 sc t2 stp s2 = some (r, t', st') → ¬ y = 59 → ¬ y = 63 → (u = S.headD 0 → sx_w [x1, x2, x3, x4, x5, x6] y S = v :: S.tail) → r = cl_w (wy_w [x1, x2, x3, x4, x5, x6] (y :: P.drop x9.toInt.toNat) b S) := by
        intro u v t1 t2 s2 eo ep e h1 h2 h3
        obtain ⟨o1, o2, o3⟩ := po_e hk (by omega) eo
        obtain ⟨q1, q2⟩ := ps_e o2 (by omega) ep
        have q := ih b x9 t2 s2 (v :: S.tail) r t' st' e (by omega) (by omega) q1 (by omega)
        show r = cl_w (if y = 59 then (if b = true then S.headD 0 else wy_w [x1, x2, x3, x4, x5, x6] (P.drop x9.toInt.toNat) true S.tail) else if y = 63 then wy_w [x1, x2, x3, x4, x5, x6] (P.drop x9.toInt.toNat) (!decide (S.headD 0 = 0)) S.tail else wy_w [x1, x2, x3, x4, x5, x6] (P.drop x9.toInt.toNat) b (sx_w [x1, x2, x3, x4, x5, x6] y S))
        rw [if_neg h1, if_neg h2, h3 o1]
        exact q
      by_cases c33 : y = 33
      · rw [if_pos c33] at e
        obtain ⟨u, t1, eo, e⟩ := mm_bd2s e
        have e2 : fX2_worth_242 700 (fX2_worth_24 700 m) x1 x2 x3 x4 x5 x6 (mm_b b) x8 (if u = 0 then (1 : Int32) else (0 : Int32)) sc t1 stp st = some (r, t', st') := by
          by_cases k : u = 0
          · rw [if_pos k] at e ⊢
            exact e
          · rw [if_neg k] at e ⊢
            exact e
        rw [uf_X2_worth_242] at e2
        obtain ⟨t2, s2, ep, e2⟩ := mm_bd2s e2
        rw [uf_X2_worth_317, nm_eq, hy] at e2
        exact P1 u _ t1 t2 s2 eo ep e2 (by rw [c33]; decide) (by rw [c33]; decide) (fun h => by rw [c33, h]; rfl)
      rw [if_neg c33] at e
      by_cases c59 : y = 59
      · rw [if_pos c59] at e
        obtain ⟨u, t1, eo, e⟩ := mm_bd2s e
        obtain ⟨o1, o2, o3⟩ := po_e hk (by omega) eo
        show r = cl_w (if y = 59 then (if b = true then S.headD 0 else wy_w [x1, x2, x3, x4, x5, x6] (P.drop x9.toInt.toNat) true S.tail) else _)
        rw [if_pos c59]
        cases b with
        | false =>
          rw [if_pos (by decide), uf_X2_worth_317, nm_eq, hy] at e
          rw [if_neg (by decide)]
          exact ih true x9 t1 st S.tail r t' st' e (by omega) (by omega) o2 (by omega)
        | true =>
          rw [if_neg (by decide)] at e
          rw [if_pos rfl]
          apply mm_sub3 e
          rw [o1]
          rfl
      rw [if_neg c59] at e
      by_cases c63 : y = 63
      · rw [if_pos c63] at e
        obtain ⟨u, t1, eo, e⟩ := mm_bd2s e
        obtain ⟨o1, o2, o3⟩ := po_e hk (by omega) eo
        show r = cl_w (if y = 59 then _ else if y = 63 then wy_w [x1, x2, x3, x4, x5, x6] (P.drop x9.toInt.toNat) (!decide (S.headD 0 = 0)) S.tail else _)
        rw [if_neg c59, if_pos c63]
        have e2 : fX2_worth_173 700 (fX2_worth_24 700 m) x1 x2 x3 x4 x5 x6 x8 (mm_b (!decide (S.headD 0 = 0))) sc t1 stp st = some (r, t', st') := by
          rw [← o1]
          by_cases k : u = 0
          · rw [if_pos k] at e
            rw [decide_eq_true k]
            exact e
          · rw [if_neg k] at e
            rw [decide_eq_false k]
            exact e
        rw [uf_X2_worth_173, uf_X2_worth_317, nm_eq, hy] at e2
        exact ih _ x9 t1 st S.tail r t' st' e2 (by omega) (by omega) o2 (by omega)
      rw [if_neg c63] at e
      by_cases c98 : y = 98
      · rw [if_pos c98] at e
        obtain ⟨t1, s1, ep, e⟩ := mm_bd2s e
        rw [uf_X2_worth_317, nm_eq, hy] at e
        exact PU _ t1 s1 ep e (by rw [c98]; decide) (by rw [c98]; decide) (by rw [c98]; rfl)
      rw [if_neg c98] at e
      by_cases c102 : y = 102
      · rw [if_pos c102] at e
        obtain ⟨t1, s1, ep, e⟩ := mm_bd2s e
        rw [uf_X2_worth_317, nm_eq, hy] at e
        exact PU _ t1 s1 ep e (by rw [c102]; decide) (by rw [c102]; decide) (by rw [c102]; rfl)
      rw [if_neg c102] at e
      by_cases c107 : y = 107
      · rw [if_pos c107] at e
        obtain ⟨t1, s1, ep, e⟩ := mm_bd2s e
        rw [uf_X2_worth_317, nm_eq, hy] at e
        exact PU _ t1 s1 ep e (by rw [c107]; decide) (by rw [c107]; decide) (by rw [c107]; rfl)
      rw [if_neg c107] at e
      by_cases c110 : y = 110
      · rw [if_pos c110] at e
        obtain ⟨t1, s1, ep, e⟩ := mm_bd2s e
        rw [uf_X2_worth_317, nm_eq, hy] at e
        exact PU _ t1 s1 ep e (by rw [c110]; decide) (by rw [c110]; decide) (by rw [c110]; rfl)
      rw [if_neg c110] at e
      by_cases c114 : y = 114
      · rw [if_pos c114] at e
        obtain ⟨t1, s1, ep, e⟩ := mm_bd2s e
        rw [uf_X2_worth_317, nm_eq, hy] at e
        exact PU _ t1 s1 ep e (by rw [c114]; decide) (by rw [c114]; decide) (by rw [c114]; rfl)
      rw [if_neg c114] at e
      by_cases c119 : y = 119
      · rw [if_pos c119] at e
        obtain ⟨t1, s1, ep, e⟩ := mm_bd2s e
        rw [uf_X2_worth_317, nm_eq, hy] at e
        exact PU _ t1 s1 ep e (by rw [c119]; decide) (by rw [c119]; decide) (by rw [c119]; rfl)
      rw [if_neg c119] at e
      by_cases c126 : y = 126
      · rw [if_pos c126] at e
        obtain ⟨u, t1, eo, e⟩ := mm_bd2s e
        obtain ⟨t2, s2, ep, e⟩ := mm_bd2s e
        rw [uf_X2_worth_317, nm_eq, hy] at e
        exact P1 u _ t1 t2 s2 eo ep e (by rw [c126]; decide) (by rw [c126]; decide) (fun h => by rw [c126, h]; rfl)
      rw [if_neg c126] at e
      have hna : ¬ (y = 98 ∨ y = 102 ∨ y = 107 ∨ y = 110 ∨ y = 114 ∨ y = 119) := by
        rintro (h | h | h | h | h | h)
        · exact c98 h
        · exact c102 h
        · exact c107 h
        · exact c110 h
        · exact c114 h
        · exact c119 h
      have e := ck_x e
      by_cases g : y < (1000 : Int32)
      · rw [if_pos g] at e
        obtain ⟨u1, t1, eo1, e⟩ := mm_bd2s e
        have e := ck_x e
        obtain ⟨u2, t2, eo2, e⟩ := mm_bd2s e
        obtain ⟨v, ej, e⟩ := mm_bd1s e
        obtain ⟨t3, s3, ep, e⟩ := mm_bd2s e
        rw [uf_X2_worth_317, nm_eq, hy] at e
        obtain ⟨o1, o2, o3⟩ := po_e hk (by omega) eo1
        obtain ⟨o4, o5, o6⟩ := po_e o2 (by omega) eo2
        obtain ⟨q1, q2⟩ := ps_e o5 (by omega) ep
        have hj := jo_e ej
        have q := ih b x9 t3 s3 (v :: S.tail.tail) r t' st' e (by omega) (by omega) q1 (by omega)
        show r = cl_w (if y = 59 then (if b = true then S.headD 0 else wy_w [x1, x2, x3, x4, x5, x6] (P.drop x9.toInt.toNat) true S.tail) else if y = 63 then wy_w [x1, x2, x3, x4, x5, x6] (P.drop x9.toInt.toNat) (!decide (S.headD 0 = 0)) S.tail else wy_w [x1, x2, x3, x4, x5, x6] (P.drop x9.toInt.toNat) b (sx_w [x1, x2, x3, x4, x5, x6] y S))
        rw [if_neg c59, if_neg c63]
        have hx : sx_w [x1, x2, x3, x4, x5, x6] y S = v :: S.tail.tail := by
          unfold sx_w
          rw [if_neg hna, if_neg c33, if_neg c126, if_neg (Int32.not_le.mpr g), hj, o1, o4]
        rw [hx]
        exact q
      · rw [if_neg g] at e
        have e := ck_x e
        obtain ⟨t1, s1, ep, e⟩ := mm_bd2s e
        rw [uf_X2_worth_317, nm_eq, hy] at e
        refine PU _ t1 s1 ep e c59 c63 ?_
        unfold sx_w
        rw [if_neg hna, if_neg c33, if_neg c126, if_pos (Int32.not_lt.mp g)]
theorem wr_e {x1 x2 x3 x4 x5 x6 sc sk r sk' : Int32} {stp st st' P : List Int32} (hs : sc.toInt = P.length) (hs0 : 1 ≤ P.length) (hs1 : sc.toInt ≤ 121) (hP : ∀ k : Nat, k < P.length → stp.getD k 0 = P.getD k 0) (hl : st.length = 121) (e : fX2_worth 700 x1 x2 x3 x4 x5 x6 sc sk stp st = some (r, sk', st')) : r = cl_w (wy_w [x1, x2, x3, x4, x5, x6] P true []) := by
  have n0 : (0 : Int32).toInt = 0 := by decide
  have z0 : (0 : Int32).toInt.toNat = 0 := by decide
  rw [uf_X2_worth, if_neg (fun h => absurd (i_eq h) (by omega))] at e
  have q := wo_24 hs hs1 hP 700 true (0 : Int32) (0 : Int32) st [] r sk' st' e (by omega) (by omega) ⟨hl, by omega, by rw [z0]; rfl, fun i hi => absurd hi (by intro k; cases k)⟩ (by omega)
  rw [z0, List.drop_zero] at q
  exact q
theorem wr_0 {x1 x2 x3 x4 x5 x6 sc sk r sk' : Int32} {stp st st' : List Int32} (hs : sc = 0) (e : fX2_worth 700 x1 x2 x3 x4 x5 x6 sc sk stp st = some (r, sk', st')) : r = (1 : Int32) + ((2 : Int32) * x3) := by
  rw [uf_X2_worth, if_pos hs] at e
  apply mm_sub3 e
  rfl
end
section
/-! Creases: how one bends -/
def ba_w (w f : Int32) : Int32 := if (if f = 0 then (1 : Int32) else (0 : Int32)) = mm_b (ovw w) then 1 else 2
def bn_w (w ln a1 a2 x1 x2 f1 f2 : Int32) : Int32 := if x1 = x2 then (if a1 = (if csw w = false then ln else ln - (1 : Int32)) ∧ a2 = (if csw w = false then ln - (1 : Int32) else ln) then ba_w w f1 else if a2 = (if csw w = false then ln else ln - (1 : Int32)) ∧ a1 = (if csw w = false then ln - (1 : Int32) else ln) then ba_w w f2 else 0) else 0
theorem bt_8 {i w r : Int32} {F : List Int32} (e : fX5_bendAt 700 i w F = some r) : r = ba_w w (F.getD i.toInt.toNat 0) := by
  unfold fX5_bendAt at e
  have e := ck_x e
  have e2 : fX5_bendAt_14 700 w (if F.getD i.toInt.toNat 0 = 0 then (1 : Int32) else (0 : Int32)) F = some r := by
    by_cases k : F.getD i.toInt.toNat 0 = 0
    · rw [if_pos k]
      rw [if_pos (show mm_ig F i = 0 from k)] at e
      exact e
    · rw [if_neg k]
      rw [if_neg (show ¬ mm_ig F i = 0 from k)] at e
      exact e
  unfold fX5_bendAt_14 at e2
  obtain ⟨o, eo, e2⟩ := mm_bd1s e2
  have ho := ov_e eo
  subst ho
  unfold ba_w
  by_cases k : (if F.getD i.toInt.toNat 0 = 0 then (1 : Int32) else (0 : Int32)) = mm_b (ovw w)
  · rw [if_pos k] at e2 ⊢
    exact (sm_i e2).symm
  · rw [if_neg k] at e2 ⊢
    exact (sm_i e2).symm
theorem bb_e {i j ln w r : Int32} {R C F : List Int32} (e : fX5_bendBetween 700 i j ln w R C F = some r) : r = bn_w w ln (al_w w (R.getD i.toInt.toNat 0) (C.getD i.toInt.toNat 0)) (al_w w (R.getD j.toInt.toNat 0) (C.getD j.toInt.toNat 0)) (ac_w w (R.getD i.toInt.toNat 0) (C.getD i.toInt.toNat 0)) (ac_w w (R.getD j.toInt.toNat 0) (C.getD j.toInt.toNat 0)) (F.getD i.toInt.toNat 0) (F.getD j.toInt.toNat 0) := by
  unfold fX5_bendBetween at e
  obtain ⟨o, eo, e⟩ := mm_bd1s e
  have ho := cs_e eo
  subst ho
  have e2 : fX5_bendBetween_15 700 i j ln w (if csw w = false then ln else ln - (1 : Int32)) R C F = some r := by
    by_cases k : csw w = false
    · rw [if_pos k] at e ⊢
      exact e
    · rw [if_neg k] at e ⊢
      exact e
  unfold fX5_bendBetween_15 at e2
  obtain ⟨o, eo, e2⟩ := mm_bd1s e2
  have ho := cs_e eo
  subst ho
  have e3 : fX5_bendBetween_32 700 i j w (if csw w = false then ln else ln - (1 : Int32)) (if csw w = false then ln - (1 : Int32) else ln) R C F = some r := by
    by_cases k : csw w = false
    · rw [if_pos k] at e2
      rw [if_pos k] at e2 ⊢
      rw [if_pos k]
      exact e2
    · rw [if_neg k] at e2
      rw [if_neg k] at e2 ⊢
      rw [if_neg k]
      exact e2
  unfold bn_w
  generalize (if csw w = false then ln else ln - (1 : Int32)) = co at e3 ⊢
  generalize (if csw w = false then ln - (1 : Int32) else ln) = st at e3 ⊢
  unfold fX5_bendBetween_32 at e3
  obtain ⟨y1, ey1, e3⟩ := mm_bd1s e3
  obtain ⟨y2, ey2, e3⟩ := mm_bd1s e3
  have hy1 := ac_e ey1
  have hy2 := ac_e ey2
  rw [← hy1, ← hy2]
  by_cases k : y1 = y2
  · rw [if_pos k] at e3 ⊢
    obtain ⟨b1, eb1, e3⟩ := mm_bd1s e3
    have hb1 := al_e eb1
    rw [← hb1]
    have K : ¬ (b1 = co ∧ al_w w (R.getD j.toInt.toNat 0) (C.getD j.toInt.toNat 0) = st) → fX5_bendBetween_85 700 i j w co st R C F = some r → r = if b1 = co ∧ al_w w (R.getD j.toInt.toNat 0) (C.getD j.toInt.toNat 0) = st then ba_w w (F.getD i.toInt.toNat 0) else if al_w w (R.getD j.toInt.toNat 0) (C.getD j.toInt.toNat 0) = co ∧ b1 = st then ba_w w (F.getD j.toInt.toNat 0) else 0 := by
      intro hn e
      rw [if_neg hn]
      unfold fX5_bendBetween_85 at e
      obtain ⟨b2, eb2, e⟩ := mm_bd1s e
      have hb2 := al_e eb2
      rw [← hb2]
      by_cases g : b2 = co
      · rw [if_pos g] at e
        obtain ⟨b3, eb3, e⟩ := mm_bd1s e
        have hb3 := al_e eb3
        rw [← hb1] at hb3
        rw [hb3] at e
        by_cases g2 : b1 = st
        · rw [if_pos g2] at e
          rw [if_pos ⟨g, g2⟩]
          obtain ⟨u, eu, e⟩ := mm_bd1s e
          rw [← sm_i e]
          exact bt_8 eu
        · rw [if_neg g2] at e
          rw [if_neg (fun h => g2 h.2)]
          exact (sm_i e).symm
      · rw [if_neg g] at e
        rw [if_neg (fun h => g h.1)]
        exact (sm_i e).symm
    by_cases g : b1 = co
    · rw [if_pos g] at e3
      obtain ⟨b2, eb2, e3⟩ := mm_bd1s e3
      have hb2 := al_e eb2
      by_cases g2 : b2 = st
      · rw [if_pos g2] at e3
        rw [← hb2, if_pos ⟨g, g2⟩]
        obtain ⟨u, eu, e3⟩ := mm_bd1s e3
        rw [← sm_i e3]
        exact bt_8 eu
      · rw [if_neg g2] at e3
        exact K (fun h => g2 (by rw [hb2]; exact h.2)) e3
    · rw [if_neg g] at e3
      exact K (fun h => g h.1) e3
  · rw [if_neg k] at e3 ⊢
    exact (sm_i e3).symm
theorem pm_1 (x : Int32) : ¬ x - (1 : Int32) = x := by
  intro h
  have q : x - (1 : Int32) - x = x - x := by rw [h]
  rw [Int32.sub_self, Int32.sub_sub, Int32.add_comm, ← Int32.sub_sub, Int32.sub_self] at q
  exact absurd q (by decide)
/-- a crease as the reference bends it -/
theorem bo_9 {lv k ln w co f g r : Int32} {lim row col fac wo : List Int32} (w0 : 0 ≤ w.toInt) (w7 : w.toInt ≤ 7) (l1 : 1 ≤ ln.toInt) (hf : k / (2 : Int32) = f) (hg : fX9_otherOf 700 k co = some g) (e : fX9_bendOf 700 lv k ln w co lim row col fac wo = some r) : r = if wo.getD (((64 : Int32) * lv) + k).toInt.toNat 0 < lim.getD 0 0 then bn_w w ln (al_w w (row.getD (((32 : Int32) * lv) + f).toInt.toNat 0) (col.getD (((32 : Int32) * lv) + f).toInt.toNat 0)) (al_w w (row.getD (((32 : Int32) * lv) + g).toInt.toNat 0) (col.getD (((32 : Int32) * lv) + g).toInt.toNat 0)) (ac_w w (row.getD (((32 : Int32) * lv) + f).toInt.toNat 0) (col.getD (((32 : Int32) * lv) + f).toInt.toNat 0)) (ac_w w (row.getD (((32 : Int32) * lv) + g).toInt.toNat 0) (col.getD (((32 : Int32) * lv) + g).toInt.toNat 0)) (fac.getD (((32 : Int32) * lv) + f).toInt.toNat 0) (fac.getD (((32 : Int32) * lv) + g).toInt.toNat 0) else 0 := by
  obtain ⟨wy1, wy2⟩ := wy_e w0 w7
  have n1 : (1 : Int32).toInt = 1 := by decide
  have hlb : ln.toInt < 2147483648 := Int32.toInt_lt ln
  have es := i_subE (rfl : ln - (1 : Int32) = _) (by omega) (by omega)
  unfold fX9_bendOf at e
  have e := ck_x e
  rw [nm_eq, hf, hg, bs_1] at e
  have e1 : fX9_bendOf_23 700 lv k ln w f g (b9_w w) co lim row col fac wo = some r := by
    unfold b9_w
    by_cases q : (4 : Int32) ≤ w
    · rw [if_pos q] at e ⊢
      exact e
    · rw [if_neg q] at e ⊢
      exact e
  unfold fX9_bendOf_23 at e1
  obtain ⟨a1, ea1, e1⟩ := mm_bd1s e1
  obtain ⟨a2, ea2, e1⟩ := mm_bd1s e1
  have ha1 := pl_e ea1
  have ha2 := pl_e ea2
  rw [al_p] at ha1 ha2
  rw [← ha1, ← ha2]
  -- what is behind a place beside the line
  have K : (a1 = ln - (1 : Int32) ∧ a2 = ln ∨ a1 = ln ∧ a2 = ln - (1 : Int32)) → fX9_bendOf_75 700 lv k ln w f g (b9_w w) a1 co lim row col fac wo = some r → r = if wo.getD (((64 : Int32) * lv) + k).toInt.toNat 0 < lim.getD 0 0 then bn_w w ln a1 a2 (ac_w w (row.getD (((32 : Int32) * lv) + f).toInt.toNat 0) (col.getD (((32 : Int32) * lv) + f).toInt.toNat 0)) (ac_w w (row.getD (((32 : Int32) * lv) + g).toInt.toNat 0) (col.getD (((32 : Int32) * lv) + g).toInt.toNat 0)) (fac.getD (((32 : Int32) * lv) + f).toInt.toNat 0) (fac.getD (((32 : Int32) * lv) + g).toInt.toNat 0) else 0 := by
    intro hbe e
    unfold fX9_bendOf_75 fX9_bendOf_80 at e
    rw [if_neg (by decide)] at e
    have e2 : fX9_bendOf_101 700 lv k ln w f g (b9_w w) a1 (if b9_w w = 0 then (1 : Int32) else (0 : Int32)) f lv co lim row col fac wo = some r := by
      by_cases q : b9_w w = 0
      · rw [if_pos q] at e ⊢
        exact e
      · rw [if_neg q] at e ⊢
        exact e
    unfold fX9_bendOf_101 at e2
    obtain ⟨y1, ey1, e2⟩ := mm_bd1s e2
    have hy1 := pl_e ey1
    rw [pl_not, ac_p] at hy1
    rw [← hy1]
    have e3 : fX9_bendOf_118 700 lv k ln w f g a1 (if b9_w w = 0 then (1 : Int32) else (0 : Int32)) g lv y1 co lim row col fac wo = some r := by
      by_cases q : b9_w w = 0
      · rw [if_pos q] at e2
        rw [if_pos q]
        exact e2
      · rw [if_neg q] at e2
        rw [if_neg q]
        exact e2
    unfold fX9_bendOf_118 at e3
    obtain ⟨y2, ey2, e3⟩ := mm_bd1s e3
    have hy2 := pl_e ey2
    rw [pl_not, ac_p] at hy2
    rw [← hy2]
    unfold bn_w
    by_cases h1 : y1 = y2
    · rw [if_pos h1] at e3 ⊢
      have e3 := ck_x (ck_x e3)
      by_cases h2 : wo.getD (((64 : Int32) * lv) + k).toInt.toNat 0 < lim.getD 0 0
      · rw [if_pos h2]
        rw [if_pos (show mm_ig wo (((64 : Int32) * lv) + k) < mm_ig lim (0 : Int32) from h2)] at e3
        have e3 := ck_x e3
        have e4 : fX9_bendOf_159 700 lv ln w f g a1 (l9_w w) co lim row col fac wo = some r := by
          unfold l9_w
          by_cases q : (2 : Int32) ≤ (mm_rem w (4 : Int32))
          · rw [if_pos q] at e3 ⊢
            exact e3
          · rw [if_neg q] at e3 ⊢
            exact e3
        rw [wy1] at e4
        unfold fX9_bendOf_159 at e4
        -- the field that comes
        have T : ∀ x : Int32, fX9_bendOf_184 700 lv w x co lim row col fac wo = some r → r = ba_w w (fac.getD (((32 : Int32) * lv) + x).toInt.toNat 0) := by
          intro x e
          unfold fX9_bendOf_184 at e
          have e := ck_x e
          have e2 : fX9_bendOf_198 700 lv x (v9_w w) co lim row col fac wo = some r := by
            unfold v9_w
            by_cases q : (mm_rem w (2 : Int32)) = 0
            · rw [if_pos q] at e ⊢
              exact e
            · rw [if_neg q] at e ⊢
              exact e
          unfold fX9_bendOf_198 at e2
          have e2 := ck_x e2
          have e3 : fX9_bendOf_220 700 (v9_w w) (if fac.getD (((32 : Int32) * lv) + x).toInt.toNat 0 = 0 then (1 : Int32) else (0 : Int32)) co lim row col fac wo = some r := by
            by_cases q : fac.getD (((32 : Int32) * lv) + x).toInt.toNat 0 = 0
            · rw [if_pos q]
              rw [if_pos (show mm_ig fac (((32 : Int32) * lv) + x) = 0 from q)] at e2
              exact e2
            · rw [if_neg q]
              rw [if_neg (show ¬ mm_ig fac (((32 : Int32) * lv) + x) = 0 from q)] at e2
              exact e2
          unfold fX9_bendOf_220 at e3
          have hv : v9_w w = mm_b (ovw w) := by
            rw [← wy2]
            unfold o9_w v9_w
            by_cases q : (mm_rem w (2 : Int32)) = 0
            · rw [if_pos q]
              decide
            · rw [if_neg q]
              decide
          rw [hv] at e3
          unfold ba_w
          by_cases q : (if fac.getD (((32 : Int32) * lv) + x).toInt.toNat 0 = 0 then (1 : Int32) else (0 : Int32)) = mm_b (ovw w)
          · rw [if_pos q] at e3 ⊢
            exact (sm_i e3).symm
          · rw [if_neg q] at e3 ⊢
            exact (sm_i e3).symm
        rcases hbe with ⟨h3, h4⟩ | ⟨h3, h4⟩
        · have hlt : ¬ ln ≤ a1 := fun h => absurd (i_le h) (by rw [h3]; omega)
          rw [if_neg hlt] at e4
          unfold fX9_bendOf_172 at e4
          cases hc : csw w with
          | true =>
            rw [hc, if_pos (by decide)] at e4
            rw [if_neg (c := true = false) (by decide), if_neg (c := true = false) (by decide), if_pos ⟨h3, h4⟩]
            exact T f e4
          | false =>
            rw [hc, if_neg (by decide)] at e4
            rw [if_pos (c := false = false) rfl, if_pos (c := false = false) rfl, if_neg (fun h => pm_1 ln (h3.symm.trans h.1)), if_pos ⟨h4, h3⟩]
            exact T g e4
        · have hle : ln ≤ a1 := by rw [h3]; exact Int32.le_refl _
          rw [if_pos hle] at e4
          unfold fX9_bendOf_172 at e4
          cases hc : csw w with
          | true =>
            rw [hc, if_neg (by decide)] at e4
            rw [if_neg (c := true = false) (by decide), if_neg (c := true = false) (by decide), if_neg (fun h => pm_1 ln (h.1.symm.trans h3)), if_pos ⟨h4, h3⟩]
            exact T g e4
          | false =>
            rw [hc, if_pos (by decide)] at e4
            rw [if_pos (c := false = false) rfl, if_pos (c := false = false) rfl, if_pos ⟨h3, h4⟩]
            exact T f e4
      · rw [if_neg h2]
        rw [if_neg (show ¬ mm_ig wo (((64 : Int32) * lv) + k) < mm_ig lim (0 : Int32) from h2)] at e3
        exact (sm_i e3).symm
    · rw [if_neg h1] at e3 ⊢
      rw [ite_self]
      exact (sm_i e3).symm
  have Z : ¬ (a1 = ln - (1 : Int32) ∧ a2 = ln ∨ a1 = ln ∧ a2 = ln - (1 : Int32)) → fX9_bendOf_79 700 lv k ln w f g (b9_w w) a1 co lim row col fac wo = some r → r = if wo.getD (((64 : Int32) * lv) + k).toInt.toNat 0 < lim.getD 0 0 then bn_w w ln a1 a2 (ac_w w (row.getD (((32 : Int32) * lv) + f).toInt.toNat 0) (col.getD (((32 : Int32) * lv) + f).toInt.toNat 0)) (ac_w w (row.getD (((32 : Int32) * lv) + g).toInt.toNat 0) (col.getD (((32 : Int32) * lv) + g).toInt.toNat 0)) (fac.getD (((32 : Int32) * lv) + f).toInt.toNat 0) (fac.getD (((32 : Int32) * lv) + g).toInt.toNat 0) else 0 := by
    intro hn e
    unfold fX9_bendOf_79 fX9_bendOf_80 at e
    rw [if_pos rfl] at e
    have hz : bn_w w ln a1 a2 (ac_w w (row.getD (((32 : Int32) * lv) + f).toInt.toNat 0) (col.getD (((32 : Int32) * lv) + f).toInt.toNat 0)) (ac_w w (row.getD (((32 : Int32) * lv) + g).toInt.toNat 0) (col.getD (((32 : Int32) * lv) + g).toInt.toNat 0)) (fac.getD (((32 : Int32) * lv) + f).toInt.toNat 0) (fac.getD (((32 : Int32) * lv) + g).toInt.toNat 0) = 0 := by
      unfold bn_w
      cases hc : csw w with
      | true =>
        rw [if_neg (c := true = false) (by decide), if_neg (c := true = false) (by decide)]
        split
        · rw [if_neg (fun h => hn (Or.inl h)), if_neg (fun h => hn (Or.inr ⟨h.2, h.1⟩))]
        · rfl
      | false =>
        rw [if_pos (c := false = false) rfl, if_pos (c := false = false) rfl]
        split
        · rw [if_neg (fun h => hn (Or.inr h)), if_neg (fun h => hn (Or.inl ⟨h.2, h.1⟩))]
        · rfl
    rw [hz, ite_self]
    exact (sm_i e).symm
  have S : ∀ hh : ¬ (a1 = ln - (1 : Int32) ∧ a2 = ln), fX9_bendOf_61 700 lv k ln w f g (b9_w w) a1 a2 co lim row col fac wo = some r → r = if wo.getD (((64 : Int32) * lv) + k).toInt.toNat 0 < lim.getD 0 0 then bn_w w ln a1 a2 (ac_w w (row.getD (((32 : Int32) * lv) + f).toInt.toNat 0) (col.getD (((32 : Int32) * lv) + f).toInt.toNat 0)) (ac_w w (row.getD (((32 : Int32) * lv) + g).toInt.toNat 0) (col.getD (((32 : Int32) * lv) + g).toInt.toNat 0)) (fac.getD (((32 : Int32) * lv) + f).toInt.toNat 0) (fac.getD (((32 : Int32) * lv) + g).toInt.toNat 0) else 0 := by
    intro hh e
    unfold fX9_bendOf_61 at e
    by_cases q1 : a1 = ln
    · rw [if_pos q1] at e
      by_cases q2 : a2 = ln - (1 : Int32)
      · rw [if_pos q2] at e
        exact K (Or.inr ⟨q1, q2⟩) e
      · rw [if_neg q2] at e
        exact Z (fun h => h.elim hh (fun h => q2 h.2)) e
    · rw [if_neg q1] at e
      exact Z (fun h => h.elim hh (fun h => q1 h.1)) e
  by_cases q1 : a1 = ln - (1 : Int32)
  · rw [if_pos q1] at e1
    by_cases q2 : a2 = ln
    · rw [if_pos q2] at e1
      exact K (Or.inl ⟨q1, q2⟩) e1
    · rw [if_neg q2] at e1
      exact S (fun h => q2 h.2) e1
  · rw [if_neg q1] at e1
    exact S (fun h => q1 h.1) e1
end
section
/-! Creases: which bend -/
def gk_w (c k : Nat) : Nat := if k % 2 = 0 then k / 2 + 1 else k / 2 + c
def be_w (m c : Nat) (ln w lim : Int32) (R C F W : List Int32) (k : Nat) : Int32 := if (k / 2 < m ∧ (if k % 2 = 0 then k / 2 % c < c - 1 else k / 2 + c < m)) ∧ W.getD k 0 < lim then bn_w w ln (al_w w (R.getD (k / 2) 0) (C.getD (k / 2) 0)) (al_w w (R.getD (gk_w c k) 0) (C.getD (gk_w c k) 0)) (ac_w w (R.getD (k / 2) 0) (C.getD (k / 2) 0)) (ac_w w (R.getD (gk_w c k) 0) (C.getD (gk_w c k) 0)) (F.getD (k / 2) 0) (F.getD (gk_w c k) 0) else 0
theorem bn_3 (w ln a1 a2 x1 x2 f1 f2 : Int32) : bn_w w ln a1 a2 x1 x2 f1 f2 = 0 ∨ bn_w w ln a1 a2 x1 x2 f1 f2 = 1 ∨ bn_w w ln a1 a2 x1 x2 f1 f2 = 2 := by
  have B : ∀ f : Int32, ba_w w f = 1 ∨ ba_w w f = 2 := by
    intro f
    unfold ba_w
    by_cases k : (if f = 0 then (1 : Int32) else (0 : Int32)) = mm_b (ovw w)
    · rw [if_pos k]
      exact Or.inl rfl
    · rw [if_neg k]
      exact Or.inr rfl
  unfold bn_w
  by_cases k1 : x1 = x2
  · rw [if_pos k1]
    by_cases k2 : a1 = (if csw w = false then ln else ln - (1 : Int32)) ∧ a2 = (if csw w = false then ln - (1 : Int32) else ln)
    · rw [if_pos k2]
      exact Or.inr (B f1)
    · rw [if_neg k2]
      by_cases k3 : a2 = (if csw w = false then ln else ln - (1 : Int32)) ∧ a1 = (if csw w = false then ln - (1 : Int32) else ln)
      · rw [if_pos k3]
        exact Or.inr (B f2)
      · rw [if_neg k3]
        exact Or.inl rfl
  · rw [if_neg k1]
    exact Or.inl rfl
theorem be_3 (m c : Nat) (ln w lim : Int32) (R C F W : List Int32) (k : Nat) : be_w m c ln w lim R C F W k = 0 ∨ be_w m c ln w lim R C F W k = 1 ∨ be_w m c ln w lim R C F W k = 2 := by
  unfold be_w
  by_cases h : (k / 2 < m ∧ (if k % 2 = 0 then k / 2 % c < c - 1 else k / 2 + c < m)) ∧ W.getD k 0 < lim
  · rw [if_pos h]
    exact bn_3 _ _ _ _ _ _ _ _
  · rw [if_neg h]
    exact Or.inl rfl
theorem nb_n {f kk rows cols r : Int32} {m k : Nat} (hm : (rows * cols).toInt = m) (m32 : m ≤ 32) (c0 : 1 ≤ cols.toInt) (c8 : cols.toInt ≤ 8) (hf : f.toInt = (k / 2 : Nat)) (hk : kk.toInt = (k % 2 : Nat)) (e : fX5_neighbour 700 f kk rows cols = some r) : ((k / 2 < m ∧ (if k % 2 = 0 then k / 2 % cols.toInt.toNat < cols.toInt.toNat - 1 else k / 2 + cols.toInt.toNat < m)) → r.toInt = gk_w cols.toInt.toNat k) ∧ (¬ (k / 2 < m ∧ (if k % 2 = 0 then k / 2 % cols.toInt.toNat < cols.toInt.toNat - 1 else k / 2 + cols.toInt.toNat < m)) → r = -1) := by
  have n0 : (0 : Int32).toInt = 0 := by decide
  have n1 : (1 : Int32).toInt = 1 := by decide
  unfold fX5_neighbour at e
  rw [hf_e, bs_1] at e
  obtain ⟨c, hc⟩ : ∃ c : Nat, cols.toInt = c := ⟨cols.toInt.toNat, by omega⟩
  have hcn : cols.toInt.toNat = c := by omega
  rw [hcn]
  unfold gk_w
  by_cases g : 0 ≤ f.toInt ∧ f.toInt < (rows * cols).toInt
  · rw [decide_eq_true g, if_neg (by decide)] at e
    by_cases p : k % 2 = 0
    · rw [if_pos (Int32.toInt_inj.mp (by omega))] at e
      have e := ck_x e
      rw [if_pos p, if_pos p]
      have hr := ((i_rem f cols (by omega)).resolve_left (by omega)).1
      rw [hf, hc, ← Int.natCast_emod] at hr
      generalize hz : cols - (1 : Int32) = z at e
      have ez := i_subE hz (by omega) (by omega)
      by_cases q : z ≤ mm_rem f cols
      · have dq := i_le q
        rw [if_pos q] at e
        exact ⟨fun h => absurd h.2 (by omega), fun _ => (sm_i e).symm⟩
      · have dq := i_nle q
        rw [if_neg q] at e
        refine ⟨fun _ => ?_, fun h => absurd (show k / 2 < m ∧ k / 2 % c < c - 1 from ⟨by omega, by omega⟩) h⟩
        rw [← sm_i e, i_addE rfl (by omega) (by omega)]
        omega
    · rw [if_neg (fun h => p (by have := i_eq h; omega)), if_pos (Int32.toInt_inj.mp (by omega))] at e
      rw [if_neg p, if_neg p]
      obtain ⟨fl, ef, e⟩ := mm_bd1s e
      have hfl : rows * cols = fl := sm_i ef
      subst hfl
      generalize hz : f + cols = z at e
      have ez := i_addE hz (by omega) (by omega)
      by_cases q : rows * cols ≤ z
      · have dq := i_le q
        rw [if_pos q] at e
        exact ⟨fun h => absurd h.2 (by omega), fun _ => (sm_i e).symm⟩
      · have dq := i_nle q
        rw [if_neg q] at e
        refine ⟨fun _ => ?_, fun h => absurd (show k / 2 < m ∧ k / 2 + c < m from ⟨by omega, by omega⟩) h⟩
        rw [← sm_i e]
        omega
  · rw [decide_eq_false g, if_pos rfl] at e
    exact ⟨fun h => absurd h.1 (by omega), fun _ => (sm_i e).symm⟩
theorem mk_6 {ln w lim rows cols : Int32} {R C F W : List Int32} {m : Nat} (hm : (rows * cols).toInt = m) (m32 : m ≤ 32) (c0 : 1 ≤ cols.toInt) (c8 : cols.toInt ≤ 8) : ∀ (n : Nat) (x4 x5 : Int32) (be : List Int32) (r : Int32) (be' : List Int32), fX5_markBends_6 700 n ln w lim x4 x5 rows cols R C F W be = some (r, be') → 0 ≤ x5.toInt → x5.toInt ≤ 2 * m → be.length = 64 → be'.length = 64 ∧ (∀ k : Nat, k < x5.toInt.toNat → be'.getD k 0 = be.getD k 0) ∧ (∀ k : Nat, x5.toInt.toNat ≤ k → k < 2 * m → be'.getD k 0 = be_w m cols.toInt.toNat ln w lim R C F W k) ∧ r = x4 + kc_w (fun k => !decide (be_w m cols.toInt.toNat ln w lim R C F W k = 0)) x5.toInt.toNat (2 * m - x5.toInt.toNat) := by
  have n1 : (1 : Int32).toInt = 1 := by decide
  have n0 : (0 : Int32).toInt = 0 := by decide
  intro n
  induction n with
  | zero =>
    intro x4 x5 be r be' e
    exact absurd e (by intro h; cases h)
  | succ n ih =>
    intro x4 x5 be r be' e p0 p1 l
    rw [uf_X5_markBends_6] at e
    obtain ⟨fl, ef, e⟩ := mm_bd1s e
    have hfl : rows * cols = fl := sm_i ef
    subst hfl
    generalize hz : (2 : Int32) * (rows * cols) = z at e
    have ez := i_mulLE (c := 2) (by decide) hz (by omega) (by omega)
    by_cases c : z ≤ x5
    · have d := i_le c
      rw [if_pos c] at e
      apply mm_sub2 e
      have hq : 2 * m - x5.toInt.toNat = 0 := by omega
      refine ⟨l, fun _ _ => rfl, fun k k0 k1 => absurd k1 (by omega), ?_⟩
      rw [hq]
      exact (Int32.add_zero _).symm
    · have d := i_nle c
      rw [if_neg c] at e
      have e := ck_x (ck_x e)
      have hk2 := i_divE (c := 2) (by decide) (by decide) (rfl : x5 / (2 : Int32) = _) p0
      have hm2 := i_remE (c := 2) (by decide) (by decide) (rfl : mm_rem x5 (2 : Int32) = _) p0
      obtain ⟨k, hk⟩ : ∃ k : Nat, x5.toInt = k := ⟨x5.toInt.toNat, by omega⟩
      have hkn : x5.toInt.toNat = k := by omega
      have hkd : (x5 / (2 : Int32)).toInt = (k / 2 : Nat) := by rw [hk2, hk]; omega
      have hkm : (mm_rem x5 (2 : Int32)).toInt = (k % 2 : Nat) := by rw [hm2, hk]; omega
      obtain ⟨r6, e6, e⟩ := mm_bd1s e
      obtain ⟨h6, h6'⟩ := nb_n hm m32 c0 c8 hkd hkm e6
      have E : fX5_markBends_69 700 (fX5_markBends_6 700 n) ln w lim x4 x5 (be_w m cols.toInt.toNat ln w lim R C F W k) x5 rows cols R C F W be = some (r, be') := by
        by_cases g : k / 2 < m ∧ (if k % 2 = 0 then k / 2 % cols.toInt.toNat < cols.toInt.toNat - 1 else k / 2 + cols.toInt.toNat < m)
        · have hr6 := h6 g
          rw [if_neg (fun h => absurd (i_lt h) (by omega))] at e
          have e := ck_x e
          by_cases g2 : W.getD k 0 < lim
          · rw [if_pos (show mm_ig W x5 < lim by rw [ge_ig, hkn]; exact g2)] at e
            have e := ck_x e
            obtain ⟨r12, e12, e⟩ := mm_bd1s e
            have h12 := bb_e e12
            have hb : be_w m cols.toInt.toNat ln w lim R C F W k = r12 := by
              unfold be_w
              rw [if_pos ⟨g, g2⟩, h12]
              have q1 : (x5 / (2 : Int32)).toInt.toNat = k / 2 := by omega
              have q2 : r6.toInt.toNat = gk_w cols.toInt.toNat k := by omega
              rw [q1, q2]
            rw [hb]
            exact e
          · rw [if_neg (show ¬ mm_ig W x5 < lim by rw [ge_ig, hkn]; exact g2), uf_X5_markBends_53] at e
            have hb : be_w m cols.toInt.toNat ln w lim R C F W k = 0 := by
              unfold be_w
              rw [if_neg (fun h => g2 h.2)]
            rw [hb]
            exact e
        · have hr6 := h6' g
          rw [if_pos (by rw [hr6]; decide), uf_X5_markBends_53] at e
          have hb : be_w m cols.toInt.toNat ln w lim R C F W k = 0 := by
            unfold be_w
            rw [if_neg (fun h => g h.1)]
          rw [hb]
          exact e
      rw [uf_X5_markBends_69] at E
      have E := ck_x E
      rw [nm_eq] at E
      have E := ck_x E
      have s1 := ps_is be x5 (be_w m cols.toInt.toNat ln w lim R C F W k)
      rw [ig_p _ _ _ p0 (by omega)] at E
      obtain ⟨u, hu⟩ : ∃ u : Nat, 2 * m - x5.toInt.toNat = u + 1 := ⟨2 * m - x5.toInt.toNat - 1, by omega⟩
      have J : ∀ x4' : Int32, x4' = x4 + (if (!decide (be_w m cols.toInt.toNat ln w lim R C F W k = 0)) = true then (1 : Int32) else (0 : Int32)) → fX5_markBends_83 700 (fX5_markBends_6 700 n) ln w lim x4' x5 rows cols R C F W (mm_is be x5 (be_w m cols.toInt.toNat ln w lim R C F W k)) = some (r, be') → be'.length = 64 ∧ (∀ k : Nat, k < x5.toInt.toNat → be'.getD k 0 = be.getD k 0) ∧ (∀ k : Nat, x5.toInt.toNat ≤ k → k < 2 * m → be'.getD k 0 = be_w m cols.toInt.toNat ln w lim R C F W k) ∧ r = x4 + kc_w (fun k => !decide (be_w m cols.toInt.toNat ln w lim R C F W k = 0)) x5.toInt.toNat (2 * m - x5.toInt.toNat) := by
        intro x4' hx4 e
        rw [uf_X5_markBends_83, nm_eq] at e
        generalize hy : x5 + (1 : Int32) = y at e
        have ey := i_addE hy (by omega) (by omega)
        obtain ⟨q1, q2, q3, q4⟩ := ih x4' y _ r be' e (by omega) (by omega) (by rw [is_len]; exact l)
        refine ⟨q1, fun j hj => ?_, fun j j0 j1 => ?_, ?_⟩
        · rw [q2 j (by omega), ps_ne s1 (by omega) (by omega)]
        · by_cases g : x5.toInt.toNat = j
          · rw [q2 j (by omega), ← g, ps_at s1 (by omega), hkn]
          · exact q3 j (by omega) j1
        · have hu2 : 2 * m - y.toInt.toNat = u := by omega
          have hy2 : y.toInt.toNat = k + 1 := by omega
          rw [q4, hu, hu2, hy2, hx4, hkn, Int32.add_assoc]
          rfl
      by_cases g : be_w m cols.toInt.toNat ln w lim R C F W k = 0
      · rw [if_pos g] at E
        exact J x4 (by rw [decide_eq_true g]; exact (Int32.add_zero _).symm) E
      · rw [if_neg g, nm_eq] at E
        exact J _ (by rw [decide_eq_false g]; rfl) E
end
section
/-! Creases: the reference's bends -/
theorem dv_m {k c r : Nat} (c0 : 1 ≤ c) : (k / c < r - 1) ↔ k + c < r * c := by
  constructor
  · intro h
    have h2 : k / c + 1 ≤ r - 1 := h
    have h3 : k < (k / c + 1) * c := by
      have := Nat.lt_div_mul_add (a := k) (b := c) c0
      rw [Nat.add_mul, Nat.one_mul]
      exact this
    have h4 : (k / c + 1) * c ≤ (r - 1) * c := Nat.mul_le_mul_right c h2
    obtain ⟨q, hq⟩ : ∃ q : Nat, r = q + 1 := by
      cases r with
      | zero => exact absurd h (Nat.not_lt_zero _)
      | succ q => exact ⟨q, rfl⟩
    subst hq
    have h5 : (q + 1 - 1) * c = q * c := by rw [Nat.add_sub_cancel]
    have h6 : (q + 1) * c = q * c + c := by rw [Nat.add_mul, Nat.one_mul]
    omega
  · intro h
    obtain ⟨q, hq⟩ : ∃ q : Nat, r = q + 1 := by
      cases r with
      | zero => exact absurd h (by rw [Nat.zero_mul]; omega)
      | succ q => exact ⟨q, rfl⟩
    subst hq
    have h6 : (q + 1) * c = q * c + c := by rw [Nat.add_mul, Nat.one_mul]
    have h7 : k < q * c := by omega
    have h8 : k / c < q := (Nat.div_lt_iff_lt_mul c0).mpr h7
    omega
theorem ic_e {x rows cols : Int32} {m k : Nat} {r : Bool} (hm : (rows * cols).toInt = m) (hm2 : rows.toInt * cols.toInt = m) (m1 : 1 ≤ m) (m32 : m ≤ 32) (r0 : 1 ≤ rows.toInt) (c0 : 1 ≤ cols.toInt) (c8 : cols.toInt ≤ 8) (hk : x.toInt = k) (k64 : k < 2147483648) (e : fX9_isCrease 700 x rows cols = some r) : r = decide (k / 2 < m ∧ (if k % 2 = 0 then k / 2 % cols.toInt.toNat < cols.toInt.toNat - 1 else k / 2 + cols.toInt.toNat < m)) := by
  have n1 : (1 : Int32).toInt = 1 := by decide
  have n0 : (0 : Int32).toInt = 0 := by decide
  have m0 : (0 : Int64).toInt = 0 := by decide
  have hrb : rows.toInt < 2147483648 := Int32.toInt_lt _
  unfold fX9_isCrease fX9_fields at e
  have e := ck_x e
  rw [nm_eq, bs_1] at e
  generalize hz : (rows * cols) - (1 : Int32) = z at e
  have ez := i_subE hz (by omega) (by omega)
  generalize hf : x / (2 : Int32) = f at e
  have ef := i_divE (c := 2) (by decide) (by decide) hf (by omega)
  rw [wn_x, bs_1, i_64, i_64, m0] at e
  have efk : f.toInt = (k / 2 : Nat) := by rw [ef, hk]; omega
  obtain ⟨c, hc⟩ : ∃ c : Nat, cols.toInt = c := ⟨cols.toInt.toNat, by omega⟩
  have hcn : cols.toInt.toNat = c := by omega
  rw [hcn]
  by_cases g : 0 ≤ f.toInt ∧ f.toInt ≤ z.toInt
  · rw [decide_eq_true g, if_neg (by decide)] at e
    have e := ck_x e
    have hr2 := i_remE (c := 2) (by decide) (by decide) (rfl : mm_rem x (2 : Int32) = _) (by omega)
    by_cases p : k % 2 = 0
    · rw [if_pos (Int32.toInt_inj.mp (by rw [hr2, hk, n0]; omega))] at e
      have e := ck_x e
      have hr := ((i_rem f cols (by omega)).resolve_left (by omega)).1
      rw [efk, hc, ← Int.natCast_emod] at hr
      generalize hy : cols - (1 : Int32) = y at e
      have ey := i_subE hy (by omega) (by omega)
      by_cases q : y ≤ mm_rem f cols
      · have dq := i_le q
        rw [if_pos q] at e
        refine (sm_i e).symm.trans (Eq.symm (decide_eq_false (fun h => ?_)))
        have h2 := h.2
        rw [if_pos p] at h2
        omega
      · have dq := i_nle q
        rw [if_neg q] at e
        refine (sm_i e).symm.trans (Eq.symm (decide_eq_true ⟨by omega, ?_⟩))
        rw [if_pos p]
        omega
    · rw [if_neg (fun h => p (by have := i_eq h; rw [hr2, hk, n0] at this; omega))] at e
      have e := ck_x e
      have hd := (i_div f cols (by omega)).resolve_left (by omega)
      rw [efk, hc, ← Int.natCast_ediv] at hd
      obtain ⟨rn, hrn⟩ : ∃ rn : Nat, rows.toInt = rn := ⟨rows.toInt.toNat, by omega⟩
      have hmn : rn * c = m := by
        have : ((rn * c : Nat) : Int) = m := by rw [Int.natCast_mul, ← hrn, ← hc]; exact hm2
        exact Int.ofNat_inj.mp this
      generalize hy : rows - (1 : Int32) = y at e
      have ey := i_subE hy (by omega) (by omega)
      have W := dv_m (k := k / 2) (c := c) (r := rn) (by omega)
      rw [hmn] at W
      by_cases q : y ≤ f / cols
      · have dq := i_le q
        rw [if_pos q] at e
        refine (sm_i e).symm.trans (Eq.symm (decide_eq_false (fun h => ?_)))
        have h2 := h.2
        rw [if_neg p] at h2
        have h3 := W.mpr h2
        omega
      · have dq := i_nle q
        rw [if_neg q] at e
        refine (sm_i e).symm.trans (Eq.symm (decide_eq_true ⟨by omega, ?_⟩))
        rw [if_neg p]
        exact W.mp (by omega)
  · rw [decide_eq_false g, if_pos rfl] at e
    exact (sm_i e).symm.trans (Eq.symm (decide_eq_false (fun h => absurd h.1 (by omega))))
theorem oo_e {x cols : Int32} {k : Nat} (c0 : 1 ≤ cols.toInt) (c8 : cols.toInt ≤ 8) (hk : x.toInt = k) (k64 : k < 64) : ∃ g : Int32, fX9_otherOf 700 x cols = some g ∧ g.toInt = (gk_w cols.toInt.toNat k : Nat) := by
  have n1 : (1 : Int32).toInt = 1 := by decide
  have n0 : (0 : Int32).toInt = 0 := by decide
  have ef := i_divE (c := 2) (by decide) (by decide) (rfl : x / (2 : Int32) = _) (by omega)
  have hr2 := i_remE (c := 2) (by decide) (by decide) (rfl : mm_rem x (2 : Int32) = _) (by omega)
  have nz : mm_nz (2 : Int32) = true := by decide
  unfold gk_w fX9_otherOf
  rw [nz]
  by_cases p : k % 2 = 0
  · rw [if_pos p]
    refine ⟨x / (2 : Int32) + (1 : Int32), ?_, ?_⟩
    · show (if mm_rem x (2 : Int32) = 0 then some (x / (2 : Int32) + (1 : Int32)) else some (x / (2 : Int32) + cols)) = _
      rw [if_pos (Int32.toInt_inj.mp (by rw [hr2, hk, n0]; omega))]
    · generalize x / (2 : Int32) = f at ef
      rw [i_addE rfl (by omega) (by omega), ef, hk]
      omega
  · rw [if_neg p]
    refine ⟨x / (2 : Int32) + cols, ?_, ?_⟩
    · show (if mm_rem x (2 : Int32) = 0 then some (x / (2 : Int32) + (1 : Int32)) else some (x / (2 : Int32) + cols)) = _
      rw [if_neg (fun h => p (by have := i_eq h; rw [hr2, hk, n0] at this; omega))]
    · generalize x / (2 : Int32) = f at ef
      rw [i_addE rfl (by omega) (by omega), ef, hk]
      omega
theorem bd_18 {lv ln w rows cols tm ba at_ en fa op bw mw : Int32} {lim row col fac wo la tape text names R C F W : List Int32} {m : Nat} {z : (Int32 × Int32 × Int32 × Int32 × Int32 × Int32 × Int32 × Int32 × List Int32 × List Int32 × List Int32 × List Int32)} (hm : (rows * cols).toInt = m) (hm2 : rows.toInt * cols.toInt = m) (m1 : 1 ≤ m) (m32 : m ≤ 32) (r0 : 1 ≤ rows.toInt) (c0 : 1 ≤ cols.toInt) (c8 : cols.toInt ≤ 8) (L0 : 0 ≤ lv.toInt) (L5 : lv.toInt ≤ 5) (w0 : 0 ≤ w.toInt) (w7 : w.toInt ≤ 7) (l1 : 1 ≤ ln.toInt) (hR : ∀ k : Nat, k < m → row.getD (32 * lv.toInt.toNat + k) 0 = R.getD k 0) (hC : ∀ k : Nat, k < m → col.getD (32 * lv.toInt.toNat + k) 0 = C.getD k 0) (hF : ∀ k : Nat, k < m → fac.getD (32 * lv.toInt.toNat + k) 0 = F.getD k 0) (hW : ∀ k : Nat, k < 64 → wo.getD (64 * lv.toInt.toNat + k) 0 = W.getD k 0) : ∀ (n : Nat) (x4 bm : Int32) (be : List Int32), fX9_bendsAll_18 700 n lv ln w x4 rows cols tm ba at_ en fa op bm bw mw lim row col fac wo la tape text names be = some z → 0 ≤ x4.toInt → x4.toInt ≤ 64 → be.length = 64 → ∃ be' : List Int32, be'.length = 64 ∧ (∀ k : Nat, k < x4.toInt.toNat → be'.getD k 0 = be.getD k 0) ∧ (∀ k : Nat, x4.toInt.toNat ≤ k → k < 64 → be'.getD k 0 = be_w m cols.toInt.toNat ln w (lim.getD 0 0) R C F W k) ∧ fX9_bendsAll_87 700 700 lv (0 : Int32) rows cols tm ba at_ en fa op (bm + kc_w (fun k => !decide (be_w m cols.toInt.toNat ln w (lim.getD 0 0) R C F W k = 0)) x4.toInt.toNat (64 - x4.toInt.toNat)) bw mw lim row col fac wo la tape text names be' = some z := by
  have n1 : (1 : Int32).toInt = 1 := by decide
  have n0 : (0 : Int32).toInt = 0 := by decide
  have n64 : (64 : Int32).toInt = 64 := by decide
  intro n
  induction n with
  | zero =>
    intro x4 bm be e
    exact absurd e (by intro h; cases h)
  | succ n ih =>
    intro x4 bm be e p0 p1 l
    rw [uf_X9_bendsAll_18] at e
    by_cases c : (64 : Int32) ≤ x4
    · have d := i_le c
      rw [if_pos c] at e
      have hq : 64 - x4.toInt.toNat = 0 := by omega
      refine ⟨be, l, fun _ _ => rfl, fun k k0 k1 => absurd k1 (by omega), ?_⟩
      rw [hq]
      show fX9_bendsAll_87 700 700 lv (0 : Int32) rows cols tm ba at_ en fa op (bm + 0) bw mw lim row col fac wo la tape text names be = some z
      rw [Int32.add_zero]
      exact e
    · have d := i_nle c
      rw [if_neg c] at e
      obtain ⟨k, hk⟩ : ∃ k : Nat, x4.toInt = k := ⟨x4.toInt.toNat, by omega⟩
      have hkn : x4.toInt.toNat = k := by omega
      obtain ⟨r2, e2, e⟩ := mm_bd1s e
      have h2 := ic_e hm hm2 m1 m32 r0 c0 c8 hk (by omega) e2
      have E : fX9_bendsAll_53 700 (fX9_bendsAll_18 700 n) lv ln w x4 (be_w m cols.toInt.toNat ln w (lim.getD 0 0) R C F W k) x4 rows cols tm ba at_ en fa op bm bw mw lim row col fac wo la tape text names be = some z := by
        by_cases g : (k / 2 < m ∧ (if k % 2 = 0 then k / 2 % cols.toInt.toNat < cols.toInt.toNat - 1 else k / 2 + cols.toInt.toNat < m))
        · rw [h2, decide_eq_true g, if_neg (by decide)] at e
          obtain ⟨r5, e5, e⟩ := mm_bd1s e
          obtain ⟨o, eo, ho⟩ := oo_e c0 c8 hk (by omega)
          have h5 := bo_9 w0 w7 l1 rfl eo e5
          have hd := i_divE (c := 2) (by decide) (by decide) (rfl : x4 / (2 : Int32) = _) p0
          have hf : (x4 / (2 : Int32)).toInt = (k / 2 : Nat) := by rw [hd, hk]; omega
          have hgk : gk_w cols.toInt.toNat k < m := by
            unfold gk_w
            by_cases p : k % 2 = 0
            · rw [if_pos p] at g ⊢
              have g1 := g.1
              have g2 := g.2
              have hmm : m = rows.toInt.toNat * cols.toInt.toNat := by
                have : ((rows.toInt.toNat * cols.toInt.toNat : Nat) : Int) = m := by
                  rw [Int.natCast_mul, Int.toNat_of_nonneg (by omega), Int.toNat_of_nonneg (by omega)]
                  exact hm2
                omega
              generalize cols.toInt.toNat = cn at g2 hmm
              generalize k / 2 = f at g1 g2 ⊢
              have hq := Nat.div_add_mod f cn
              have hlt : f / cn < rows.toInt.toNat := by
                apply (Nat.div_lt_iff_lt_mul (by omega)).mpr
                omega
              have h6 : cn * (f / cn) + cn ≤ rows.toInt.toNat * cn := by
                have := Nat.mul_le_mul_right cn (show f / cn + 1 ≤ rows.toInt.toNat from hlt)
                rw [Nat.add_mul, Nat.one_mul, Nat.mul_comm (f / cn)] at this
                exact this
              omega
            · rw [if_neg p] at g ⊢
              exact g.2
          rw [iy_e L0 L5 p0 (by omega), ix_e L0 L5 (by omega) (by omega), ix_e L0 L5 (by omega) (by omega), show (x4 / (2 : Int32)).toInt.toNat = k / 2 by omega, show o.toInt.toNat = gk_w cols.toInt.toNat k by omega, hkn, hW k (by omega), hR _ g.1, hR _ hgk, hC _ g.1, hC _ hgk, hF _ g.1, hF _ hgk] at h5
          have hb : be_w m cols.toInt.toNat ln w (lim.getD 0 0) R C F W k = r5 := by
            rw [h5]
            unfold be_w
            by_cases g2 : W.getD k 0 < lim.getD 0 0
            · rw [if_pos ⟨g, g2⟩, if_pos g2]
            · rw [if_neg (fun h => g2 h.2), if_neg g2]
          rw [hb]
          exact e
        · rw [h2, decide_eq_false g, if_pos rfl] at e
          have hb : be_w m cols.toInt.toNat ln w (lim.getD 0 0) R C F W k = 0 := by
            unfold be_w
            rw [if_neg (fun h => g h.1)]
          rw [hb]
          exact e
      rw [uf_X9_bendsAll_53] at E
      have E := ck_x E
      rw [nm_eq] at E
      have E := ck_x E
      have s1 := ps_is be x4 (be_w m cols.toInt.toNat ln w (lim.getD 0 0) R C F W k)
      rw [ig_p _ _ _ p0 (by omega)] at E
      obtain ⟨u, hu⟩ : ∃ u : Nat, 64 - x4.toInt.toNat = u + 1 := ⟨64 - x4.toInt.toNat - 1, by omega⟩
      have J : ∀ v : Int32, v = (if (!decide (be_w m cols.toInt.toNat ln w (lim.getD 0 0) R C F W k = 0)) = true then (1 : Int32) else (0 : Int32)) → fX9_bendsAll_74 700 (fX9_bendsAll_18 700 n) lv ln w x4 v bm rows cols tm ba at_ en fa op bm bw mw lim row col fac wo la tape text names (mm_is be x4 (be_w m cols.toInt.toNat ln w (lim.getD 0 0) R C F W k)) = some z → ∃ be' : List Int32, be'.length = 64 ∧ (∀ k : Nat, k < x4.toInt.toNat → be'.getD k 0 = be.getD k 0) ∧ (∀ k : Nat, x4.toInt.toNat ≤ k → k < 64 → be'.getD k 0 = be_w m cols.toInt.toNat ln w (lim.getD 0 0) R C F W k) ∧ fX9_bendsAll_87 700 700 lv (0 : Int32) rows cols tm ba at_ en fa op (bm + kc_w (fun k => !decide (be_w m cols.toInt.toNat ln w (lim.getD 0 0) R C F W k = 0)) x4.toInt.toNat (64 - x4.toInt.toNat)) bw mw lim row col fac wo la tape text names be' = some z := by
        intro v hv e
        rw [uf_X9_bendsAll_74, nm_eq, nm_eq] at e
        generalize hy : x4 + (1 : Int32) = y at e
        have ey := i_addE hy (by omega) (by omega)
        obtain ⟨be', q1, q2, q3, q4⟩ := ih y (bm + v) _ e (by omega) (by omega) (by rw [is_len]; exact l)
        refine ⟨be', q1, fun j hj => ?_, fun j j0 j1 => ?_, ?_⟩
        · rw [q2 j (by omega), ps_ne s1 (by omega) (by omega)]
        · by_cases g : x4.toInt.toNat = j
          · rw [q2 j (by omega), ← g, ps_at s1 (by omega), hkn]
          · exact q3 j (by omega) j1
        · have hu2 : 64 - y.toInt.toNat = u := by omega
          have hy2 : y.toInt.toNat = k + 1 := by omega
          rw [hu2, hy2, hv, Int32.add_assoc] at q4
          rw [hu, hkn]
          exact q4
      rcases be_3 m cols.toInt.toNat ln w (lim.getD 0 0) R C F W k with g | g | g
      · rw [if_pos (show be_w m cols.toInt.toNat ln w (lim.getD 0 0) R C F W k ≤ 0 by rw [g]; decide)] at E
        exact J 0 (by rw [decide_eq_true g]; rfl) E
      · rw [if_neg (show ¬ be_w m cols.toInt.toNat ln w (lim.getD 0 0) R C F W k ≤ 0 by rw [g]; decide)] at E
        exact J 1 (by rw [decide_eq_false (by rw [g]; decide)]; rfl) E
      · rw [if_neg (show ¬ be_w m cols.toInt.toNat ln w (lim.getD 0 0) R C F W k ≤ 0 by rw [g]; decide)] at E
        exact J 1 (by rw [decide_eq_false (by rw [g]; decide)]; rfl) E
end
section
/-! Creases: what is worn -/
/-- the wearing law alike: none in force, or the class's steps are read from the reference's text -/
def lr_w (sc tm : Int32) (stp text : List Int32) : Prop := (sc = 0 ∧ tm.toInt < 0) ∨ (0 ≤ tm.toInt ∧ tm.toInt ≤ 120 ∧ ∃ (tape8 stp0 D0 D' : List Int32) (sc0 dc0 pl0 fa0 r8 s8 dc' p' : Int32), (∀ tape : List Int32, hb_w (fun k => tape8.getD k 0) 0 tm tape text) ∧ stp0.length = 121 ∧ D0.length = 121 ∧ fX2_readTape 700 tm sc0 dc0 pl0 fa0 tape8 stp0 D0 = some (r8, s8, sc, dc', p', -1, stp, D'))
theorem n6_e {l : List Int32} (h : l.length = 6) (x1 x2 x3 x4 x5 x6 : Int32) : mm_is (mm_is (mm_is (mm_is (mm_is (mm_is l (0 : Int32) x1) (1 : Int32) x2) (2 : Int32) x3) (3 : Int32) x4) (4 : Int32) x5) (5 : Int32) x6 = [x1, x2, x3, x4, x5, x6] := by
  match l, h with
  | [a, b, c, d, e, f], _ => rfl
theorem wv_e {n y s k c sc sk tm ba at_ en fa op r r' sk' b1 a1 n1 f1 o1 : Int32} {stp st st' tape text names nm' : List Int32} (H : lr_w sc tm stp text) (ln : names.length = 6) (ls : st.length = 121) (e8 : fX2_worth 700 n y s (mm_rem k (2 : Int32)) (k / (2 : Int32)) c sc sk stp st = some (r, sk', st')) (e9 : fX9_wears 700 n y s k c tm ba at_ en fa op tape text names = some (r', b1, a1, n1, f1, o1, nm')) : r = r' ∧ nm'.length = 6 := by
  have n0 : (0 : Int32).toInt = 0 := by decide
  unfold fX9_wears at e9
  rcases H with ⟨h1, h2⟩ | ⟨h1, h2, tape8, stp0, D0, D', sc0, dc0, pl0, fa0, r8, s8, dc', p', hb, g1, g2, e⟩
  · rw [if_neg (fun h => absurd (i_le h) (by omega))] at e9
    unfold fX2_worth at e8
    rw [if_pos h1] at e8
    apply mm_sub7 e9
    apply mm_sub3 e8
    exact ⟨rfl, ln⟩
  · rw [if_pos (Int32.le_iff_toInt_le.mpr (by omega))] at e9
    have e9 := ck_x e9
    rw [nm_eq] at e9
    have e9 := ck_x e9
    rw [nm_eq] at e9
    have e9 := ck_x e9
    rw [nm_eq] at e9
    have e9 := ck_x e9
    rw [nm_eq] at e9
    have e9 := ck_x e9
    rw [nm_eq] at e9
    have e9 := ck_x e9
    rw [nm_eq] at e9
    have e9 := ck_x e9
    rw [nm_eq] at e9
    have e9 := ck_x e9
    rw [nm_eq, n6_e ln] at e9
    obtain ⟨g, q1, q2, q3, q4, q5, eg, e9⟩ := mm_bd6s e9
    obtain ⟨_, _, _, W⟩ := lw_e (hb tape) h1 h2 g1 g2 e eg
    rcases W with W | ⟨_, P, p1, p2, p3, p4, p5⟩
    · exact absurd W.1 (by decide)
    have hr := wr_e p2 p3 p4 p1 ls e8
    rw [← p5 []] at hr
    have hg : r' = cl_w g ∧ nm' = [n, y, s, mm_rem k (2 : Int32), k / (2 : Int32), c] := by
      have n9 : (9 : Int32).toInt = 9 := by decide
      have hc : (cl_w g).toInt = max 0 (min 9 g.toInt) := by
        unfold cl_w
        rw [i_max, i_min, n0, n9]
      by_cases k1 : 0 ≤ g
      · have d1 := i_le k1
        rw [if_pos k1] at e9
        by_cases k2 : g ≤ (9 : Int32)
        · have d2 := i_le k2
          rw [if_pos k2] at e9
          apply mm_sub7 e9
          exact ⟨Int32.toInt_inj.mp (by rw [hc]; omega), rfl⟩
        · have d2 := i_nle k2
          rw [if_neg k2] at e9
          apply mm_sub7 e9
          exact ⟨Int32.toInt_inj.mp (by rw [hc, n9]; omega), rfl⟩
      · have d1 := i_nle k1
        rw [if_neg k1] at e9
        apply mm_sub7 e9
        exact ⟨Int32.toInt_inj.mp (by rw [hc, n0]; omega), rfl⟩
    exact ⟨hr.trans hg.1.symm, by rw [hg.2]; rfl⟩
theorem m99_e (y : Int32) : (if y ≤ (99 : Int32) then y else (99 : Int32)) = mm_min (99 : Int32) y := by
  unfold mm_min
  by_cases k : y ≤ (99 : Int32)
  · have d := i_le k
    rw [if_pos k]
    by_cases k2 : y < (99 : Int32)
    · rw [if_pos k2]
    · have d2 := i_nlt k2
      rw [if_neg k2]
      exact Int32.toInt_inj.mp (by omega)
  · have d := i_nle k
    rw [if_neg k, if_neg (fun h => absurd (i_lt h) (by omega))]
theorem wc_29 {k x2 s wr mo wr' mo' sc sk sk' : Int32} {W La be W' La' stp st st' : List Int32} (k0 : 0 ≤ k.toInt) (k1 : k.toInt < W.length) (e : fX5_wear_29 700 k x2 s wr mo W La be sc sk stp st = some (wr', mo', W', La', sk', st')) : ∃ g : Int32, fX2_worth 700 x2 (mm_ig W k) s (mm_rem k (2 : Int32)) (k / (2 : Int32)) (mm_ig be k) sc sk stp st = some (g, sk', st') ∧ W' = mm_is W k (mm_min (99 : Int32) (mm_ig W k + g)) ∧ La' = mm_is La k (mm_ig be k) ∧ mo' = mo + (mm_min (99 : Int32) (mm_ig W k + g) - mm_ig W k) ∧ wr' = wr + s := by
  unfold fX5_wear_29 at e
  have e := ck_x e
  rw [nm_eq] at e
  have e := ck_x (ck_x (ck_x e))
  obtain ⟨g, w12, w13, eg, e⟩ := mm_bd3s e
  rw [nm_eq] at e
  have e := ck_x e
  rw [nm_eq] at e
  have e := ck_x e
  rw [nm_eq] at e
  have e := ck_x e
  rw [nm_eq] at e
  have e := ck_x e
  rw [nm_eq, nm_eq, ig_p _ _ _ k0 k1] at e
  apply mm_sub6 e
  exact ⟨g, eg, rfl, rfl, rfl, rfl⟩
theorem wb_148 {kk : Int32 → Int32 → Int32 → Int32 → Int32 → Int32 → Int32 → Int32 → Int32 → Int32 → Int32 → Int32 → Int32 → List Int32 → List Int32 → List Int32 → List Int32 → List Int32 → List Int32 → List Int32 → List Int32 → List Int32 → List Int32 → Option (Int32 × Int32 × Int32 × Int32 × Int32 × Int32 × Int32 × Int32 × List Int32 × List Int32 × List Int32 × List Int32)} {lv x4 x5 s rows cols tm ba at_ en fa op bm bw mw : Int32} {lim row col fac wo la tape text names be : List Int32} {z : (Int32 × Int32 × Int32 × Int32 × Int32 × Int32 × Int32 × Int32 × List Int32 × List Int32 × List Int32 × List Int32)} (k0 : 0 ≤ x5.toInt) (k1 : x5.toInt < wo.length) (e : fX9_bendsAll_148 700 kk lv x4 x5 s rows cols tm ba at_ en fa op bm bw mw lim row col fac wo la tape text names be = some z) : ∃ (g b1 a1 n1 f1 o1 : Int32) (nm' : List Int32), fX9_wears 700 bm (mm_ig wo x5) s x4 (mm_ig be x4) tm ba at_ en fa op tape text names = some (g, b1, a1, n1, f1, o1, nm') ∧ kk lv (x4 + (1 : Int32)) rows cols tm b1 a1 n1 f1 o1 bm (bw + s) (mw + (mm_min (99 : Int32) (mm_ig wo x5 + g) - mm_ig wo x5)) lim row col fac (mm_is wo x5 (mm_min (99 : Int32) (mm_ig wo x5 + g))) (mm_is la x5 (mm_ig be x4)) tape text nm' be = some z := by
  rw [uf_X9_bendsAll_148] at e
  have e := ck_x e
  rw [nm_eq] at e
  have e := ck_x e
  obtain ⟨g, b1, a1, n1, f1, o1, nm', eg, e⟩ := mm_bd7s e
  rw [nm_eq] at e
  refine ⟨g, b1, a1, n1, f1, o1, nm', eg, ?_⟩
  have E : fX9_bendsAll_205 700 kk lv x4 x5 s (mm_ig wo x5) (mm_min (99 : Int32) (mm_ig wo x5 + g)) x5 rows cols tm b1 a1 n1 f1 o1 bm bw mw lim row col fac wo la tape text nm' be = some z := by
    rw [← m99_e]
    by_cases k : mm_ig wo x5 + g ≤ (99 : Int32)
    · rw [if_pos k] at e ⊢
      exact e
    · rw [if_neg k] at e ⊢
      exact e
  rw [uf_X9_bendsAll_205] at E
  have E := ck_x E
  rw [nm_eq] at E
  have E := ck_x E
  rw [nm_eq] at E
  have E := ck_x E
  rw [nm_eq, nm_eq] at E
  have E := ck_x E
  rw [nm_eq, ig_p _ _ _ k0 k1, uf_X9_bendsAll_250, nm_eq] at E
  exact E
/-- no crease bends any more -/
theorem bz_87 {lv rows cols tm ba at_ en fa op bm bw mw : Int32} {lim row col fac wo la tape text names be : List Int32} {z : (Int32 × Int32 × Int32 × Int32 × Int32 × Int32 × Int32 × Int32 × List Int32 × List Int32 × List Int32 × List Int32)} : ∀ (n : Nat) (x4 : Int32), fX9_bendsAll_87 700 n lv x4 rows cols tm ba at_ en fa op bm bw mw lim row col fac wo la tape text names be = some z → 0 ≤ x4.toInt → (∀ k : Nat, x4.toInt.toNat ≤ k → k < 64 → be.getD k 0 = 0) → z = (ba, at_, en, fa, op, bm, bw, mw, wo, la, names, be) := by
  have n1 : (1 : Int32).toInt = 1 := by decide
  have n64 : (64 : Int32).toInt = 64 := by decide
  intro n
  induction n with
  | zero =>
    intro x4 e
    exact absurd e (by intro h; cases h)
  | succ n ih =>
    intro x4 e p0 H
    rw [uf_X9_bendsAll_87] at e
    by_cases c : (64 : Int32) ≤ x4
    · rw [if_pos c] at e
      exact (sm_i e).symm
    · have d := i_nle c
      rw [if_neg c] at e
      have e := ck_x e
      rw [if_pos (show mm_ig be x4 = 0 by rw [ge_ig]; exact H _ (by omega) (by omega)), uf_X9_bendsAll_250, nm_eq] at e
      generalize hy : x4 + (1 : Int32) = y at e
      have ey := i_addE hy (by omega) (by omega)
      exact ih y e (by omega) (fun k k0 k1 => H k (by omega) k1)
def wk_w (lv : Nat) (W wo : List Int32) : Prop := ∀ k : Nat, k < 64 → wo.getD (64 * lv + k) 0 = W.getD k 0
theorem wk_is {lv : Int32} {W wo : List Int32} {x y v : Int32} (h : wk_w lv.toInt.toNat W wo) (l1 : W.length = 64) (l2 : wo.length = 384) (L0 : 0 ≤ lv.toInt) (L5 : lv.toInt ≤ 5) (x0 : 0 ≤ x.toInt) (x1 : x.toInt < 64) (hy : y.toInt.toNat = 64 * lv.toInt.toNat + x.toInt.toNat) : wk_w lv.toInt.toNat (mm_is W x v) (mm_is wo y v) := by
  intro k hk
  have s1 := ps_is W x v
  have s2 := ps_is wo y v
  by_cases g : x.toInt.toNat = k
  · subst g
    rw [ps_at s1 (by omega), ← hy, ps_at s2 (by omega)]
  · rw [ps_ne s1 (by omega) g, ps_ne s2 (by omega) (by omega)]
    exact h k hk
theorem wl_e {x1 x2 lv rows cols hg wd folds sc tm wr0 mo0 bm : Int32} {R C B F be T stp lim row col fac tape text bends : List Int32} {m : Nat} {r h' w' fo' wr' mo' sk' b1 a1 n1 f1 o1 bm' bw' mw' : Int32} {R' C' B' F' W' La' be' T' st' wo' la' nm' bends' : List Int32} (hm : (rows * cols).toInt = m) (m32 : m ≤ 32) (L0 : 0 ≤ lv.toInt) (L5 : lv.toInt ≤ 5) (H : lr_w sc tm stp text) (s0 : 0 ≤ sc.toInt) (s1 : sc.toInt ≤ 121) (sl : stp.length = 121) (lb : be.length = 64) (hb : ∀ k : Nat, k < 2 * m → be.getD k 0 = bends.getD k 0) (hz : ∀ k : Nat, 2 * m ≤ k → k < 64 → bends.getD k 0 = 0) : ∀ (n n' : Nat) (x6 wr mo bw mw sk ba at_ en fa op : Int32) (W La wo la st names : List Int32), fX5_bendAndTurn_12 700 n x1 x2 bm x6 rows cols hg wd folds wr mo R C B F W La be T sc sk stp st = some (r, h', w', fo', wr', mo', R', C', B', F', W', La', be', T', sk', st') → fX9_bendsAll_87 700 n' lv x6 rows cols tm ba at_ en fa op bm bw mw lim row col fac wo la tape text names bends = some (b1, a1, n1, f1, o1, bm', bw', mw', wo', la', nm', bends') → 0 ≤ x6.toInt → x6.toInt ≤ 2 * m → W.length = 64 → La.length = 64 → wo.length = 384 → la.length = 384 → st.length = 121 → names.length = 6 → wk_w lv.toInt.toNat W wo → wk_w lv.toInt.toNat La la → wr = wr0 + bw → mo = mo0 + mw → r = bm ∧ bm' = bm ∧ wr' = wr0 + bw' ∧ mo' = mo0 + mw' ∧ wk_w lv.toInt.toNat W' wo' ∧ wk_w lv.toInt.toNat La' la' ∧ W'.length = 64 ∧ La'.length = 64 ∧ wo'.length = 384 ∧ la'.length = 384 ∧ nm'.length = 6 ∧ bends' = bends ∧ (∀ k : Nat, k < 64 * lv.toInt.toNat ∨ 64 * lv.toInt.toNat + 64 ≤ k → k < 384 → wo'.getD k 0 = wo.getD k 0 ∧ la'.getD k 0 = la.getD k 0) := by
  have n1' : (1 : Int32).toInt = 1 := by decide
  have n64 : (64 : Int32).toInt = 64 := by decide
  intro n
  induction n with
  | zero =>
    intro n' x6 wr mo bw mw sk ba at_ en fa op W La wo la st names e
    exact absurd e (by intro h; cases h)
  | succ n ih =>
    intro n' x6 wr mo bw mw sk ba at_ en fa op W La wo la st names e8 e9 p0 p1 l1 l2 l3 l4 l5 l6 q1 q2 q3 q4
    rw [uf_X5_bendAndTurn_12] at e8
    obtain ⟨fl, ef, e8⟩ := mm_bd1s e8
    have hfl : rows * cols = fl := sm_i ef
    subst hfl
    generalize hz2 : (2 : Int32) * (rows * cols) = z at e8
    have ez := i_mulLE (c := 2) (by decide) hz2 (by omega) (by omega)
    by_cases c : z ≤ x6
    · have d := i_le c
      rw [if_pos c] at e8
      obtain ⟨w7, w8, w9, w10, w11, w12, w13, et, e8⟩ := mm_bd7s e8
      rw [nm_eq] at e8
      have hr := bz_87 _ _ e9 p0 (fun k k0 k1 => hz k (by omega) k1)
      apply mm_sub16 e8
      apply mm_sub12 (congrArg some hr.symm)
      exact ⟨rfl, rfl, q3, q4, q1, q2, l1, l2, l3, l4, l6, rfl, fun _ _ _ => ⟨rfl, rfl⟩⟩
    · have d := i_nle c
      rw [if_neg c] at e8
      have e8 := ck_x e8
      cases n' with
      | zero => exact absurd e9 (by intro h; cases h)
      | succ n' =>
        rw [uf_X9_bendsAll_87, if_neg (fun h => absurd (i_le h) (by omega))] at e9
        have e9 := ck_x e9
        have hbe : mm_ig bends x6 = mm_ig be x6 := by
          rw [ge_ig, ge_ig]
          exact (hb _ (by omega)).symm
        rw [hbe] at e9
        generalize hy : x6 + (1 : Int32) = y at *
        have ey := i_addE hy (by omega) (by omega)
        by_cases k : mm_ig be x6 = 0
        · rw [if_pos k, uf_X5_bendAndTurn_43, nm_eq, hy] at e8
          rw [if_pos k, uf_X9_bendsAll_250, nm_eq, hy] at e9
          exact ih n' y wr mo bw mw sk ba at_ en fa op W La wo la st names e8 e9 (by omega) (by omega) l1 l2 l3 l4 l5 l6 q1 q2 q3 q4
        · rw [if_neg k] at e8 e9
          rw [nm_eq] at e9
          have e9 := ck_x e9
          obtain ⟨w18, w19, w20, w21, w22, w23, ew, e8⟩ := mm_bd6s e8
          rw [uf_X5_bendAndTurn_43, nm_eq, hy] at e8
          generalize hx5 : ((64 : Int32) * lv) + x6 = x5 at e9
          have i5' : x5.toInt = 64 * lv.toInt + x6.toInt := by
            generalize hy6 : (64 : Int32) * lv = y6 at hx5
            have e1 := i_mulLE (c := 64) (by decide) hy6 (by omega) (by omega)
            have e2 := i_addE hx5 (by omega) (by omega)
            omega
          have i5 : x5.toInt.toNat = 64 * lv.toInt.toNat + x6.toInt.toNat := by omega
          have i50 : 0 ≤ x5.toInt := by omega
          have i51 : x5.toInt < 384 := by omega
          have hla : mm_ig la x5 = mm_ig La x6 := by
            rw [ge_ig, ge_ig, i5]
            exact q2 _ (by omega)
          have hwo : mm_ig wo x5 = mm_ig W x6 := by
            rw [ge_ig, ge_ig, i5]
            exact q1 _ (by omega)
          -- one crease worn
          have G : ∀ s : Int32, fX5_wear_29 700 x6 bm s wr mo W La be sc sk stp st = some (w18, w19, w20, w21, w22, w23) → fX9_bendsAll_148 700 (fX9_bendsAll_87 700 n') lv x6 x5 s rows cols tm ba at_ en fa op bm bw mw lim row col fac wo la tape text names bends = some (b1, a1, n1, f1, o1, bm', bw', mw', wo', la', nm', bends') → r = bm ∧ bm' = bm ∧ wr' = wr0 + bw' ∧ mo' = mo0 + mw' ∧ wk_w lv.toInt.toNat W' wo' ∧ wk_w lv.toInt.toNat La' la' ∧ W'.length = 64 ∧ La'.length = 64 ∧ wo'.length = 384 ∧ la'.length = 384 ∧ nm'.length = 6 ∧ bends' = bends ∧ (∀ k : Nat, k < 64 * lv.toInt.toNat ∨ 64 * lv.toInt.toNat + 64 ≤ k → k < 384 → wo'.getD k 0 = wo.getD k 0 ∧ la'.getD k 0 = la.getD k 0) := by
            intro s d8 d9
            obtain ⟨g, dg, dW, dL, dm, dr⟩ := wc_29 p0 (by omega) d8
            obtain ⟨g', c1, c2, c3, c4, c5, cn, dg', d9⟩ := wb_148 i50 (by omega) d9
            rw [hwo, hbe] at dg'
            obtain ⟨hg, hn⟩ := wv_e H l6 l5 dg dg'
            subst hg
            rw [hwo, hbe, hy] at d9
            have l5' : w23.length = 121 := by
              obtain ⟨q, hq, hw⟩ := sf_X2_worth (N := 700) (Nat.le_refl _) (x1 := bm) (x2 := mm_ig W x6) (x3 := s) (x4 := mm_rem x6 (2 : Int32)) (x5 := x6 / (2 : Int32)) (x6 := mm_ig be x6) (v_stacked := sk) s0 s1 sl l5
              rw [dg] at hq
              cases hq
              exact hw
            have A := ih n' y w18 w19 (bw + s) (mw + (mm_min (99 : Int32) (mm_ig W x6 + g) - mm_ig W x6)) w22 c1 c2 c3 c4 c5 w20 w21 _ _ w23 cn e8 d9 (by omega) (by omega) (by rw [dW, is_len]; exact l1) (by rw [dL, is_len]; exact l2) (by rw [is_len]; exact l3) (by rw [is_len]; exact l4) l5' hn (by rw [dW]; exact wk_is q1 l1 l3 L0 L5 p0 (by omega) i5) (by rw [dL]; exact wk_is q2 l2 l4 L0 L5 p0 (by omega) i5) (by rw [dr, q3, Int32.add_assoc]) (by rw [dm, q4, Int32.add_assoc])
            obtain ⟨a1, a2, a3, a4, a5, a6, a7, a8, a9, a10, a11, a12, a13⟩ := A
            refine ⟨a1, a2, a3, a4, a5, a6, a7, a8, a9, a10, a11, a12, fun k k0 k1 => ?_⟩
            obtain ⟨u1, u2⟩ := a13 k k0 k1
            exact ⟨u1.trans (ps_ne (ps_is wo x5 _) (by omega) (by omega)), u2.trans (ps_ne (ps_is la x5 _) (by omega) (by omega))⟩
          unfold fX5_wear at ew
          have ew := ck_x ew
          rw [hla] at e9
          by_cases c1 : mm_ig La x6 = 0
          · rw [if_pos c1] at ew e9
            unfold fX5_wear_28 at ew
            rw [uf_X9_bendsAll_147] at e9
            exact G 0 ew e9
          · rw [if_neg c1] at ew e9
            have ew := ck_x (ck_x ew)
            have e9 := ck_x (ck_x e9)
            by_cases c2 : mm_ig La x6 = mm_ig be x6
            · rw [if_pos c2] at ew e9
              unfold fX5_wear_28 at ew
              rw [uf_X9_bendsAll_147] at e9
              exact G 0 ew e9
            · rw [if_neg c2] at ew e9
              exact G 1 ew e9
end
section
/-! Creases: a whole fold -/
theorem kc_z {p : Nat → Bool} : ∀ (n a : Nat), (∀ k : Nat, a ≤ k → k < a + n → p k = false) → kc_w p a n = 0 := by
  intro n
  induction n with
  | zero =>
    intro a _
    rfl
  | succ n ih =>
    intro a h
    show (if p a = true then (1 : Int32) else (0 : Int32)) + kc_w p (a + 1) n = 0
    rw [ih (a + 1) (fun k k0 k1 => h k (by omega) (by omega)), h a (by omega) (by omega), if_neg (by decide)]
    rfl
theorem kc_a {p : Nat → Bool} : ∀ (n a n2 : Nat), kc_w p a (n + n2) = kc_w p a n + kc_w p (a + n) n2 := by
  intro n
  induction n with
  | zero =>
    intro a n2
    rw [Nat.zero_add, Nat.add_zero]
    exact (Int32.zero_add _).symm
  | succ n ih =>
    intro a n2
    rw [show n + 1 + n2 = (n + n2) + 1 by omega]
    show (if p a = true then (1 : Int32) else (0 : Int32)) + kc_w p (a + 1) (n + n2) = ((if p a = true then (1 : Int32) else (0 : Int32)) + kc_w p (a + 1) n) + kc_w p (a + (n + 1)) n2
    rw [ih (a + 1) n2, Int32.add_assoc, show a + 1 + n = a + (n + 1) by omega]
/-- what is counted lies below 2 m -/
theorem kc_m {p : Nat → Bool} {m : Nat} (m32 : m ≤ 32) (h : ∀ k : Nat, 2 * m ≤ k → p k = false) : kc_w p 0 64 = kc_w p 0 (2 * m) := by
  have e : 64 = 2 * m + (64 - 2 * m) := by omega
  rw [e, kc_a, kc_z (64 - 2 * m) (0 + 2 * m) (fun k k0 _ => h k (by omega)), Int32.add_zero]
theorem be_z {m c : Nat} {ln w lim : Int32} {R C F W : List Int32} {k : Nat} (h : 2 * m ≤ k) : be_w m c ln w lim R C F W k = 0 := by
  unfold be_w
  rw [if_neg (fun g => absurd g.1.1 (by omega))]
set_option maxHeartbeats 4000000 in
theorem bc_e {lv x1 x2 x3 rows cols hg wd fo wr mo : Int32} {R C B F W A be T : List Int32} {sc sk : Int32} {stp st : List Int32} {r h' w' fo' wr' mo' : Int32} {R' C' B' F' W' A' be' T' : List Int32} {sk' : Int32} {st' : List Int32} {tm ba at_ en fa op bm bw mw : Int32} {lim sR sC row col bel fac wo la tape text nam ben hi to PS : List Int32} {ba' at' en' fa' op' bm' bw' mw' : Int32} {sR' sC' row' col' bel' fac' wo' la' nam' ben' hi' to' PS' : List Int32} (L0 : 0 ≤ lv.toInt) (L5 : lv.toInt ≤ 5) (g : gi_sh rows cols hg wd R C B F W A be T) (s0 : 0 ≤ sc.toInt) (s1 : sc.toInt ≤ 121) (s2 : stp.length = 121) (s3 : st.length = 121) (o : ok_w x1 x2 hg wd) (ln : ln_w sR sC row col bel fac hi to PS) (rl : lg_w lv.toInt.toNat rows cols hg wd R C B F sR sC row col bel fac) (H : lr_w sc tm stp text) (hl : lim.getD 0 0 = x3) (k1 : wo.length = 384) (k2 : la.length = 384) (k3 : nam.length = 6) (k4 : ben.length = 64) (hW : wk_w lv.toInt.toNat W wo) (hA : wk_w lv.toInt.toNat A la) (e8 : fX5_bendAndTurn 700 x1 x2 x3 rows cols hg wd fo wr mo R C B F W A be T sc sk stp st = some (r, h', w', fo', wr', mo', R', C', B', F', W', A', be', T', sk', st')) (e9 : fX9_foldsOn 700 lv x1 x2 rows cols tm ba at_ en fa op bm bw mw lim sR sC row col bel fac wo la tape text nam ben hi to PS = some (ba', at', en', fa', op', bm', bw', mw', sR', sC', row', col', bel', fac', wo', la', nam', ben', hi', to', PS')) : r = bm' ∧ wr' = wr + bw' ∧ mo' = mo + mw' ∧ wk_w lv.toInt.toNat W' wo' ∧ wk_w lv.toInt.toNat A' la' ∧ wo'.length = 384 ∧ la'.length = 384 ∧ nam'.length = 6 ∧ ben'.length = 64 ∧ (∀ k : Nat, k < 64 * lv.toInt.toNat ∨ 64 * lv.toInt.toNat + 64 ≤ k → k < 384 → wo'.getD k 0 = wo.getD k 0 ∧ la'.getD k 0 = la.getD k 0) := by
  have n0 : (0 : Int32).toInt = 0 := by decide
  have y0 : (0 : Int32).toInt.toNat = 0 := by decide
  obtain ⟨a0, a1, a2, a3, a4, a5, a6, a7, a8, a9, a10, a11, a12, a13, a14, a15, a16, a17⟩ := id g
  obtain ⟨l1, l2, l3⟩ := id rl
  have hf := i_fl a0 a1 a2 a3
  have hm : (rows * cols).toInt = ((rows.toInt * cols.toInt).toNat : Nat) := by omega
  have m32 : (rows.toInt * cols.toInt).toNat ≤ 32 := by omega
  unfold fX5_bendAndTurn at e8
  obtain ⟨b0, b1, em, e8⟩ := mm_bd2s e8
  have em2 : fX5_markBends_6 700 700 x1 x2 x3 (0 : Int32) (0 : Int32) rows cols R C F W be = some (b0, b1) := em
  obtain ⟨c1, -, c3, c4⟩ := mk_6 (m := (rows.toInt * cols.toInt).toNat) hm m32 a2 a3 700 (0 : Int32) (0 : Int32) be b0 b1 em2 (by omega) (by omega) a14
  have eb := (fs_9 e9).2
  unfold fX9_bendsAll at eb
  obtain ⟨d, d1, -, d3, d4⟩ := bd_18 (m := (rows.toInt * cols.toInt).toNat) (R := R) (C := C) (F := F) (W := W) hm (by omega) (by omega) m32 a0 a2 a3 L0 L5 o.1.1 o.1.2 o.2.1 (fun k hk => (l3 k hk).1) (fun k hk => (l3 k hk).2.1) (fun k hk => (l3 k hk).2.2.2) hW 700 (0 : Int32) (0 : Int32) ben eb (by omega) (by omega) k4
  rw [y0, hl] at d3 d4
  rw [y0] at c3 c4
  have hq : b0 = 0 + kc_w (fun k => !decide (be_w (rows.toInt * cols.toInt).toNat cols.toInt.toNat x1 x2 x3 R C F W k = 0)) 0 (64 - 0) := by
    rw [c4, Nat.sub_zero, Nat.sub_zero, kc_m m32 (fun k hk => by rw [be_z hk]; rfl)]
  rw [← hq] at d4
  obtain ⟨q1, q2, q3, q4, q5, q6, -, -, q9, q10, q11, q12, q13⟩ := wl_e (m := (rows.toInt * cols.toInt).toNat) (wr0 := wr) (mo0 := mo) hm m32 L0 L5 H s0 s1 s2 c1 (fun k hk => (c3 k (Nat.zero_le k) hk).trans (d3 k (Nat.zero_le k) (by omega)).symm) (fun k k0 k1 => (d3 k (Nat.zero_le k) k1).trans (be_z k0)) 700 700 (0 : Int32) wr mo 0 0 sk ba at_ en fa op W A wo la st nam e8 d4 (by omega) (by omega) a12 a13 k1 k2 s3 k3 hW hA (Int32.add_zero wr).symm (Int32.add_zero mo).symm
  exact ⟨q1.trans q2.symm, q3, q4, q5, q6, q9, q10, q11, by rw [q12]; exact d1, q13⟩
end
section
/-! Creases torn -/
def tp_w (m c : Nat) (lim : Int32) (W : List Int32) (k : Nat) : Bool := decide ((k / 2 < m ∧ (if k % 2 = 0 then k / 2 % c < c - 1 else k / 2 + c < m)) ∧ ¬ W.getD k 0 < lim)
theorem tp_z {m c : Nat} {lim : Int32} {W : List Int32} {k : Nat} (h : 2 * m ≤ k) : tp_w m c lim W k = false := by
  unfold tp_w
  exact decide_eq_false (fun g => absurd g.1.1 (by omega))
theorem to_4 {lim rows cols : Int32} {W : List Int32} {m : Nat} (hm : (rows * cols).toInt = m) (m32 : m ≤ 32) (c0 : 1 ≤ cols.toInt) (c8 : cols.toInt ≤ 8) : ∀ (n : Nat) (x2 x3 r : Int32), fX5_torn_4 700 n lim x2 x3 rows cols W = some r → 0 ≤ x3.toInt → x3.toInt ≤ 2 * m → r = x2 + kc_w (tp_w m cols.toInt.toNat lim W) x3.toInt.toNat (2 * m - x3.toInt.toNat) := by
  have n1 : (1 : Int32).toInt = 1 := by decide
  have n0 : (0 : Int32).toInt = 0 := by decide
  intro n
  induction n with
  | zero =>
    intro x2 x3 r e
    exact absurd e (by intro h; cases h)
  | succ n ih =>
    intro x2 x3 r e p0 p1
    rw [uf_X5_torn_4] at e
    obtain ⟨fl, ef, e⟩ := mm_bd1s e
    have hfl : rows * cols = fl := sm_i ef
    subst hfl
    generalize hz : (2 : Int32) * (rows * cols) = z at e
    have ez := i_mulLE (c := 2) (by decide) hz (by omega) (by omega)
    by_cases c : z ≤ x3
    · have d := i_le c
      rw [if_pos c] at e
      have hq : 2 * m - x3.toInt.toNat = 0 := by omega
      rw [hq, ← sm_i e]
      exact (Int32.add_zero _).symm
    · have d := i_nle c
      rw [if_neg c] at e
      have e := ck_x (ck_x e)
      have hk2 := i_divE (c := 2) (by decide) (by decide) (rfl : x3 / (2 : Int32) = _) p0
      have hm2 := i_remE (c := 2) (by decide) (by decide) (rfl : mm_rem x3 (2 : Int32) = _) p0
      obtain ⟨k, hk⟩ : ∃ k : Nat, x3.toInt = k := ⟨x3.toInt.toNat, by omega⟩
      have hkn : x3.toInt.toNat = k := by omega
      have hkd : (x3 / (2 : Int32)).toInt = (k / 2 : Nat) := by rw [hk2, hk]; omega
      have hkm : (mm_rem x3 (2 : Int32)).toInt = (k % 2 : Nat) := by rw [hm2, hk]; omega
      obtain ⟨r6, e6, e⟩ := mm_bd1s e
      obtain ⟨h6, h6'⟩ := nb_n hm m32 c0 c8 hkd hkm e6
      obtain ⟨u, hu⟩ : ∃ u : Nat, 2 * m - x3.toInt.toNat = u + 1 := ⟨2 * m - x3.toInt.toNat - 1, by omega⟩
      have J : ∀ x2' : Int32, x2' = x2 + (if tp_w m cols.toInt.toNat lim W k = true then (1 : Int32) else (0 : Int32)) → fX5_torn_40 700 (fX5_torn_4 700 n) lim x2' x3 rows cols W = some r → r = x2 + kc_w (tp_w m cols.toInt.toNat lim W) x3.toInt.toNat (2 * m - x3.toInt.toNat) := by
        intro x2' hx e
        rw [uf_X5_torn_40, nm_eq] at e
        generalize hy : x3 + (1 : Int32) = y at e
        have ey := i_addE hy (by omega) (by omega)
        have q := ih x2' y r e (by omega) (by omega)
        have hu2 : 2 * m - y.toInt.toNat = u := by omega
        have hy2 : y.toInt.toNat = k + 1 := by omega
        rw [q, hu, hu2, hy2, hx, hkn, Int32.add_assoc]
        rfl
      by_cases g : k / 2 < m ∧ (if k % 2 = 0 then k / 2 % cols.toInt.toNat < cols.toInt.toNat - 1 else k / 2 + cols.toInt.toNat < m)
      · have hr6 := h6 g
        rw [if_neg (fun h => absurd (i_lt h) (by omega))] at e
        have e := ck_x e
        by_cases g2 : W.getD k 0 < lim
        · rw [if_pos (show mm_ig W x3 < lim by rw [ge_ig, hkn]; exact g2)] at e
          have hb : tp_w m cols.toInt.toNat lim W k = false := decide_eq_false (fun h => h.2 g2)
          exact J x2 (by rw [hb]; exact (Int32.add_zero _).symm) e
        · rw [if_neg (show ¬ mm_ig W x3 < lim by rw [ge_ig, hkn]; exact g2), nm_eq] at e
          have hb : tp_w m cols.toInt.toNat lim W k = true := decide_eq_true ⟨g, g2⟩
          exact J _ (by rw [hb]; rfl) e
      · have hr6 := h6' g
        rw [if_pos (by rw [hr6]; decide)] at e
        have hb : tp_w m cols.toInt.toNat lim W k = false := decide_eq_false (fun h => g h.1)
        exact J x2 (by rw [hb]; exact (Int32.add_zero _).symm) e
theorem tn_4 {lv rows cols : Int32} {lim wo W : List Int32} {m : Nat} (hm : (rows * cols).toInt = m) (hm2 : rows.toInt * cols.toInt = m) (m1 : 1 ≤ m) (m32 : m ≤ 32) (r0 : 1 ≤ rows.toInt) (c0 : 1 ≤ cols.toInt) (c8 : cols.toInt ≤ 8) (L0 : 0 ≤ lv.toInt) (L5 : lv.toInt ≤ 5) (hW : wk_w lv.toInt.toNat W wo) : ∀ (n : Nat) (x2 x3 r : Int32), fX9_tornNow_4 700 n lv x2 x3 rows cols lim wo = some r → 0 ≤ x3.toInt → x3.toInt ≤ 64 → r = x2 + kc_w (tp_w m cols.toInt.toNat (lim.getD 0 0) W) x3.toInt.toNat (64 - x3.toInt.toNat) := by
  have n1 : (1 : Int32).toInt = 1 := by decide
  have n64 : (64 : Int32).toInt = 64 := by decide
  intro n
  induction n with
  | zero =>
    intro x2 x3 r e
    exact absurd e (by intro h; cases h)
  | succ n ih =>
    intro x2 x3 r e p0 p1
    rw [uf_X9_tornNow_4] at e
    by_cases c : (64 : Int32) ≤ x3
    · have d := i_le c
      rw [if_pos c] at e
      have hq : 64 - x3.toInt.toNat = 0 := by omega
      rw [hq, ← sm_i e]
      exact (Int32.add_zero _).symm
    · have d := i_nle c
      rw [if_neg c] at e
      obtain ⟨k, hk⟩ : ∃ k : Nat, x3.toInt = k := ⟨x3.toInt.toNat, by omega⟩
      have hkn : x3.toInt.toNat = k := by omega
      obtain ⟨r2, e2, e⟩ := mm_bd1s e
      have h2 := ic_e hm hm2 m1 m32 r0 c0 c8 hk (by omega) e2
      obtain ⟨u, hu⟩ : ∃ u : Nat, 64 - x3.toInt.toNat = u + 1 := ⟨64 - x3.toInt.toNat - 1, by omega⟩
      have J : ∀ v : Int32, v = (if tp_w m cols.toInt.toNat (lim.getD 0 0) W k = true then (1 : Int32) else (0 : Int32)) → fX9_tornNow_44 700 (fX9_tornNow_4 700 n) lv x3 v x2 rows cols lim wo = some r → r = x2 + kc_w (tp_w m cols.toInt.toNat (lim.getD 0 0) W) x3.toInt.toNat (64 - x3.toInt.toNat) := by
        intro v hx e
        rw [uf_X9_tornNow_44, nm_eq, nm_eq] at e
        generalize hy : x3 + (1 : Int32) = y at e
        have ey := i_addE hy (by omega) (by omega)
        have q := ih (x2 + v) y r e (by omega) (by omega)
        have hu2 : 64 - y.toInt.toNat = u := by omega
        have hy2 : y.toInt.toNat = k + 1 := by omega
        rw [q, hu, hu2, hy2, hx, hkn, Int32.add_assoc]
        rfl
      by_cases g : k / 2 < m ∧ (if k % 2 = 0 then k / 2 % cols.toInt.toNat < cols.toInt.toNat - 1 else k / 2 + cols.toInt.toNat < m)
      · rw [h2, decide_eq_true g, if_neg (by decide)] at e
        have e := ck_x (ck_x e)
        have hw : mm_ig wo (((64 : Int32) * lv) + x3) = W.getD k 0 := by
          rw [ge_ig, iy_e L0 L5 p0 (by omega), hkn]
          exact hW k (by omega)
        rw [hw] at e
        by_cases g2 : W.getD k 0 < lim.getD 0 0
        · rw [if_pos (show W.getD k 0 < mm_ig lim (0 : Int32) from g2), uf_X9_tornNow_43] at e
          have hb : tp_w m cols.toInt.toNat (lim.getD 0 0) W k = false := decide_eq_false (fun h => h.2 g2)
          exact J 0 (by rw [hb]; rfl) e
        · rw [if_neg (show ¬ W.getD k 0 < mm_ig lim (0 : Int32) from g2)] at e
          have hb : tp_w m cols.toInt.toNat (lim.getD 0 0) W k = true := decide_eq_true ⟨g, g2⟩
          exact J 1 (by rw [hb]; rfl) e
      · rw [h2, decide_eq_false g, if_pos rfl, uf_X9_tornNow_43] at e
        have hb : tp_w m cols.toInt.toNat (lim.getD 0 0) W k = false := decide_eq_false (fun h => g h.1)
        exact J 0 (by rw [hb]; rfl) e
/-- as many creases torn -/
theorem tr_n {lv lm rows cols r r' : Int32} {lim wo W : List Int32} (a0 : 1 ≤ rows.toInt) (a1 : rows.toInt ≤ 4) (a2 : 1 ≤ cols.toInt) (a3 : cols.toInt ≤ 8) (L0 : 0 ≤ lv.toInt) (L5 : lv.toInt ≤ 5) (hl : lim.getD 0 0 = lm) (hW : wk_w lv.toInt.toNat W wo) (e8 : fX5_torn 700 lm rows cols W = some r) (e9 : fX9_tornNow 700 lv rows cols lim wo = some r') : r' = r := by
  have y0 : (0 : Int32).toInt.toNat = 0 := by decide
  have n0 : (0 : Int32).toInt = 0 := by decide
  have hf := i_fl a0 a1 a2 a3
  have m32 : (rows.toInt * cols.toInt).toNat ≤ 32 := by omega
  unfold fX5_torn at e8
  unfold fX9_tornNow at e9
  have q8 := to_4 (m := (rows.toInt * cols.toInt).toNat) (by omega) m32 a2 a3 700 (0 : Int32) (0 : Int32) r e8 (by omega) (by omega)
  have q9 := tn_4 (m := (rows.toInt * cols.toInt).toNat) (by omega) (by omega) (by omega) m32 a0 a2 a3 L0 L5 hW 700 (0 : Int32) (0 : Int32) r' e9 (by omega) (by omega)
  rw [y0, Nat.sub_zero] at q8 q9
  rw [q8, q9, hl, kc_m m32 (fun k hk => tp_z hk)]
end
section
/-! Creases and the law: what class and reference have alike -/
def rl_lw (v_wearing_stepCount : Int32) (v_wearing_steps : List Int32) (m_textMany : Int32) (m_text : List Int32) : Prop := lr_w v_wearing_stepCount m_textMany v_wearing_steps m_text
def rl_cr (v_now_wrong : Int32) (v_now_worn : List Int32) (v_now_last : List Int32) (v_hasImage : Bool) (v_kept_wrong : Int32) (v_kept_worn : List Int32) (v_kept_last : List Int32) (m_wronged : Int32) (m_imageWronged : Int32) (m_worn : List Int32) (m_lastBend : List Int32) : Prop := m_wronged = v_now_wrong ∧ wk_w 0 v_now_worn m_worn ∧ wk_w 0 v_now_last m_lastBend ∧ (v_hasImage = true → m_imageWronged = v_kept_wrong ∧ wk_w 5 v_kept_worn m_worn ∧ wk_w 5 v_kept_last m_lastBend)
def wk_b (lv : Nat) (W wo : List Int32) : Bool := (List.range 64).all (fun k => decide (wo.getD (64 * lv + k) 0 = W.getD k 0))
theorem wk_of {lv : Nat} {W wo : List Int32} (h : wk_b lv W wo = true) : wk_w lv W wo := fun k hk => of_decide_eq_true (List.all_eq_true.mp h k (List.mem_range.mpr hk))
theorem nw_cr : rl_cr 0 (mm_zs 64) (mm_zs 64) false 0 (mm_zs 64) (mm_zs 64) 0 0 (mm_zs 384) (mm_zs 384) := ⟨rfl, wk_of (by decide +kernel), wk_of (by decide +kernel), fun h => absurd h (by decide)⟩
theorem wk_fr {lv : Nat} {W wo wo' : List Int32} (h : wk_w lv W wo) (hl : lv = 0 ∨ lv = 5) (l : wo.length = 384) (f : fr wo wo' 64 320) : wk_w lv W wo' := fun k hk => (fr_n f (by omega) (by omega) (by omega)).trans (h k hk)
theorem cr_fr {a : Int32} {W A : List Int32} {g : Bool} {b : Int32} {K J : List Int32} {c d : Int32} {wo la wo' la' : List Int32} (h : rl_cr a W A g b K J c d wo la) (l1 : wo.length = 384) (l2 : la.length = 384) (f1 : fr wo wo' 64 320) (f2 : fr la la' 64 320) : rl_cr a W A g b K J c d wo' la' := ⟨h.1, wk_fr h.2.1 (Or.inl rfl) l1 f1, wk_fr h.2.2.1 (Or.inl rfl) l2 f2, fun e => ⟨(h.2.2.2 e).1, wk_fr (h.2.2.2 e).2.1 (Or.inr rfl) l1 f1, wk_fr (h.2.2.2 e).2.2 (Or.inr rfl) l2 f2⟩⟩
theorem hb_0 {n : Int32} {tape8 text : List Int32} (hx : ∀ k : Nat, (k : Int) < n.toInt → text.getD k 0 = tape8.getD k 0) : ∀ tape : List Int32, hb_w (fun k => tape8.getD k 0) 0 n tape text := by
  intro tape p r p0 e
  unfold fX9_byteAt at e
  unfold nb_9
  by_cases c : n ≤ p
  · rw [if_pos c] at e ⊢
    exact (sm_i e).symm
  · have d := i_nle c
    rw [if_neg c, if_pos (by decide), Int32.zero_add] at e
    rw [if_neg c]
    have q := sm_i (ck_x e)
    rw [← q, ge_ig]
    exact hx _ (by omega)
set_option maxHeartbeats 4000000 in
set_option maxRecDepth 20000 in
theorem rs_law_lw {v_wearing_size : Int32} {v_wearing_stepCount : Int32} {v_wearing_draftCount : Int32} {v_wearing_place : Int32} {v_wearing_fault : Int32} {v_wearing_tape : List Int32} {v_wearing_steps : List Int32} {v_wearing_draft : List Int32} {v_wearing_stack : List Int32} {m_tapeMany : Int32} {m_textMany : Int32} {m_base : Int32} {m_at : Int32} {m_ends : Int32} {m_fault : Int32} {m_opened : Int32} {m_tape : List Int32} {m_text : List Int32} {m_names : List Int32} {m_bends : List Int32} {m_high : List Int32} {m_to : List Int32} {m_pileSize : List Int32} (g8_0 : gi_la v_wearing_size v_wearing_stepCount v_wearing_draftCount v_wearing_tape v_wearing_steps v_wearing_draft v_wearing_stack) (g9_0 : gm_tx m_tapeMany m_textMany m_tape m_text m_names m_bends m_high m_to m_pileSize) (hr_0 : rl_tp v_wearing_size v_wearing_tape m_tapeMany m_tape) (hr_1 : rl_lw v_wearing_stepCount v_wearing_steps m_textMany m_text) : ∃ (r : Int32) (p_wearing_size : Int32) (p_wearing_stepCount : Int32) (p_wearing_draftCount : Int32) (p_wearing_place : Int32) (p_wearing_fault : Int32) (p_wearing_steps : List Int32) (p_wearing_draft : List Int32) (q_tapeMany : Int32) (q_textMany : Int32) (q_base : Int32) (q_at : Int32) (q_ends : Int32) (q_fault : Int32) (q_opened : Int32) (q_text : List Int32), fX8_law 700 v_wearing_size v_wearing_stepCount v_wearing_draftCount v_wearing_place v_wearing_fault v_wearing_tape v_wearing_steps v_wearing_draft = some (r, p_wearing_size, p_wearing_stepCount, p_wearing_draftCount, p_wearing_place, p_wearing_fault, p_wearing_steps, p_wearing_draft) ∧ fX9_law 700 m_tapeMany m_textMany m_base m_at m_ends m_fault m_opened m_tape m_text m_names = some (r, q_tapeMany, q_textMany, q_base, q_at, q_ends, q_fault, q_opened, q_text) ∧ gi_la p_wearing_size p_wearing_stepCount p_wearing_draftCount v_wearing_tape p_wearing_steps p_wearing_draft v_wearing_stack ∧ gm_tx q_tapeMany q_textMany m_tape q_text m_names m_bends m_high m_to m_pileSize ∧ rl_tp p_wearing_size v_wearing_tape q_tapeMany m_tape ∧ rl_lw p_wearing_stepCount p_wearing_steps q_textMany q_text := by
  obtain ⟨⟨r8, p_wearing_size, p_wearing_stepCount, p_wearing_draftCount, p_wearing_place, p_wearing_fault, p_wearing_steps, p_wearing_draft⟩, e8, -⟩ := st8_law (v_wearing_place := v_wearing_place) (v_wearing_fault := v_wearing_fault) g8_0
  obtain ⟨⟨r9, q_tapeMany, q_textMany, q_base, q_at, q_ends, q_fault, q_opened, q_text⟩, e9, -⟩ := st9_law (v_base := m_base) (v_at := m_at) (v_ends := m_ends) (v_fault := m_fault) (v_opened := m_opened) g9_0
  have k8 := wp_get (st8_law g8_0) e8
  have k9 := wp_get (st9_law g9_0) e9
  obtain ⟨a0, a1, -, -, -, -, -, a7, a8, -⟩ := id g8_0
  obtain ⟨-, -, -, -, -, c5, -⟩ := id g9_0
  obtain ⟨rfl, rfl⟩ := hr_0
  have n0 : (0 : Int32).toInt = 0 := by decide
  have X : r9 = r8 ∧ q_tapeMany = p_wearing_size ∧ rl_lw p_wearing_stepCount p_wearing_steps q_textMany q_text := by
    have f8 := e8
    have f9 := e9
    unfold fX8_law at f8
    unfold fX9_law at f9
    obtain ⟨u0, u1, u2, u3, u4, u5, u6, u7, et, f8⟩ := mm_bd8s f8
    obtain ⟨v0, v1, v2, v3, v4, v5, ew, f9⟩ := mm_bd6s f9
    obtain ⟨q1, q2, q3, q4⟩ := lw_e hb_t a0 a1 a7 a8 et ew
    rcases q4 with ⟨hf, hg⟩ | ⟨hf, -⟩
    · rw [if_pos (Int32.le_iff_toInt_le.mpr (by rw [q2]; omega))] at f8
      rw [if_neg (fun h => absurd (i_lt h) (by rw [q1]; omega))] at f9
      apply mm_sub8 f8
      apply mm_sub9 f9
      refine ⟨by rw [q1, q2], q3.symm, ?_⟩
      rw [hg.1, hg.2]
      exact hr_1
    · rw [if_neg (by rw [q2, hf]; decide)] at f8
      rw [if_pos (by rw [q1, hf]; decide)] at f9
      obtain ⟨w1, w2, w3, -, -, w6⟩ := lx_37 a1 700 _ _ _ _ _ _ _ _ _ _ _ f9 (by decide) c5
      rw [hf, ← w3] at et
      apply mm_sub8 f8
      refine ⟨w1, by rw [w2, q3], Or.inr ⟨by rw [w3]; exact a0, by rw [w3]; exact a1, _, _, _, _, _, _, _, _, _, _, _, _, hb_0 (fun k hk => w6 k (Nat.zero_le k) (by rw [← w3]; exact hk)), a7, a8, et⟩⟩
  obtain ⟨er, es, X3⟩ := X
  subst er
  subst es
  exact ⟨_, _, _, _, _, _, _, _, _, _, _, _, _, _, _, _, e8, e9, k8, k9, ⟨rfl, rfl⟩, X3⟩
set_option maxHeartbeats 4000000 in
set_option maxRecDepth 20000 in
theorem rs_sheet_cr {x1 : Int32} {v_now_rows : Int32} {v_now_cols : Int32} {v_now_high : Int32} {v_now_wide : Int32} {v_now_folds : Int32} {v_now_wrong : Int32} {v_now_more : Int32} {v_now_rowOf : List Int32} {v_now_colOf : List Int32} {v_now_below : List Int32} {v_now_face : List Int32} {v_now_worn : List Int32} {v_now_last : List Int32} {v_now_bend : List Int32} {v_now_tall : List Int32} {v_hasImage : Bool} {v_kept_rows : Int32} {v_kept_cols : Int32} {v_kept_high : Int32} {v_kept_wide : Int32} {v_kept_folds : Int32} {v_kept_rowOf : List Int32} {v_kept_colOf : List Int32} {v_kept_below : List Int32} {v_kept_face : List Int32} {v_kept_wrong : Int32} {v_kept_worn : List Int32} {v_kept_last : List Int32} {m_rowsOf : Int32} {m_columnsOf : Int32} {m_folded : Int32} {m_wronged : Int32} {m_shapeRows : List Int32} {m_shapeColumns : List Int32} {m_row : List Int32} {m_column : List Int32} {m_below : List Int32} {m_face : List Int32} {m_worn : List Int32} {m_lastBend : List Int32} {m_isKept : Bool} {m_imageRows : Int32} {m_imageColumns : Int32} {m_imageFolded : Int32} {m_imageWronged : Int32} (g8_0 : gi_sh v_now_rows v_now_cols v_now_high v_now_wide v_now_rowOf v_now_colOf v_now_below v_now_face v_now_worn v_now_last v_now_bend v_now_tall) (g9_0 : gm_sh m_rowsOf m_columnsOf m_isKept m_imageRows m_imageColumns m_shapeRows m_shapeColumns m_row m_column m_below m_face m_worn m_lastBend) (hr_0 : rl_ge v_now_rows v_now_cols v_now_high v_now_wide v_now_folds v_now_rowOf v_now_colOf v_now_below v_now_face v_hasImage v_kept_rows v_kept_cols v_kept_high v_kept_wide v_kept_folds v_kept_rowOf v_kept_colOf v_kept_below v_kept_face m_rowsOf m_columnsOf m_folded m_isKept m_imageRows m_imageColumns m_imageFolded m_shapeRows m_shapeColumns m_row m_column m_below m_face) (hr_1 : rl_cr v_now_wrong v_now_worn v_now_last v_hasImage v_kept_wrong v_kept_worn v_kept_last m_wronged m_imageWronged m_worn m_lastBend) : ∃ (r8 : Int32) (p_now_rows : Int32) (p_now_cols : Int32) (p_now_high : Int32) (p_now_wide : Int32) (p_now_folds : Int32) (p_now_wrong : Int32) (p_now_more : Int32) (p_now_rowOf : List Int32) (p_now_colOf : List Int32) (p_now_below : List Int32) (p_now_face : List Int32) (p_now_worn : List Int32) (p_now_last : List Int32) (r9 : Int32) (q_rowsOf : Int32) (q_columnsOf : Int32) (q_folded : Int32) (q_wronged : Int32) (q_shapeRows : List Int32) (q_shapeColumns : List Int32) (q_row : List Int32) (q_column : List Int32) (q_below : List Int32) (q_face : List Int32) (q_worn : List Int32) (q_lastBend : List Int32), fX8_sheet 700 x1 v_now_rows v_now_cols v_now_high v_now_wide v_now_folds v_now_wrong v_now_more v_now_rowOf v_now_colOf v_now_below v_now_face v_now_worn v_now_last = some (r8, p_now_rows, p_now_cols, p_now_high, p_now_wide, p_now_folds, p_now_wrong, p_now_more, p_now_rowOf, p_now_colOf, p_now_below, p_now_face, p_now_worn, p_now_last) ∧ fX9_sheet 700 x1 m_rowsOf m_columnsOf m_folded m_wronged m_shapeRows m_shapeColumns m_row m_column m_below m_face m_worn m_lastBend = some (r9, q_rowsOf, q_columnsOf, q_folded, q_wronged, q_shapeRows, q_shapeColumns, q_row, q_column, q_below, q_face, q_worn, q_lastBend) ∧ gi_sh p_now_rows p_now_cols p_now_high p_now_wide p_now_rowOf p_now_colOf p_now_below p_now_face p_now_worn p_now_last v_now_bend v_now_tall ∧ gm_sh q_rowsOf q_columnsOf m_isKept m_imageRows m_imageColumns q_shapeRows q_shapeColumns q_row q_column q_below q_face q_worn q_lastBend ∧ rl_ge p_now_rows p_now_cols p_now_high p_now_wide p_now_folds p_now_rowOf p_now_colOf p_now_below p_now_face v_hasImage v_kept_rows v_kept_cols v_kept_high v_kept_wide v_kept_folds v_kept_rowOf v_kept_colOf v_kept_below v_kept_face q_rowsOf q_columnsOf q_folded m_isKept m_imageRows m_imageColumns m_imageFolded q_shapeRows q_shapeColumns q_row q_column q_below q_face ∧ rl_cr p_now_wrong p_now_worn p_now_last v_hasImage v_kept_wrong v_kept_worn v_kept_last q_wronged m_imageWronged q_worn q_lastBend := by
  obtain ⟨⟨r8, p_now_rows, p_now_cols, p_now_high, p_now_wide, p_now_folds, p_now_wrong, p_now_more, p_now_rowOf, p_now_colOf, p_now_below, p_now_face, p_now_worn, p_now_last⟩, e8, -⟩ := st8_sheet (x1 := x1) (v_now_folds := v_now_folds) (v_now_wrong := v_now_wrong) (v_now_more := v_now_more) g8_0
  obtain ⟨⟨r9, q_rowsOf, q_columnsOf, q_folded, q_wronged, q_shapeRows, q_shapeColumns, q_row, q_column, q_below, q_face, q_worn, q_lastBend⟩, e9, -⟩ := st9_sheet (x1 := x1) (v_folded := m_folded) (v_wronged := m_wronged) g9_0
  have k8 := wp_get (st8_sheet g8_0) e8
  have k9 := wp_get (st9_sheet g9_0) e9
  obtain ⟨a0, a1, a2, a3, a4, a5, a6, a7, a8, a9, a10, a11, a12, a13, a14, a15, a16, a17⟩ := id g8_0
  obtain ⟨z0, z1, z2, z3, z4, z5, z6, z7, z8, z9, z10, z11, z12, z13⟩ := id g9_0
  have n0 : (0 : Int32).toInt = 0 := by decide
  have n5 : (5 : Int32).toInt = 5 := by decide
  have y0 : (0 : Int32).toInt.toNat = 0 := by decide
  have y5 : (5 : Int32).toInt.toNat = 5 := by decide
  obtain ⟨b1, b2, b3, b4, b5, b6⟩ := hr_0
  have R : rl_ge p_now_rows p_now_cols p_now_high p_now_wide p_now_folds p_now_rowOf p_now_colOf p_now_below p_now_face v_hasImage v_kept_rows v_kept_cols v_kept_high v_kept_wide v_kept_folds v_kept_rowOf v_kept_colOf v_kept_below v_kept_face q_rowsOf q_columnsOf q_folded m_isKept m_imageRows m_imageColumns m_imageFolded q_shapeRows q_shapeColumns q_row q_column q_below q_face := by
    rcases st_8 a8 a9 a10 a11 a12 a13 e8 with ⟨o8, h8⟩ | ⟨o8, h8⟩
    · rcases st_9 z6 z7 z8 z9 z10 z11 e9 with ⟨o9, h9⟩ | ⟨o9, h9⟩
      · obtain ⟨c1, c2, c3, c4, c5, c6, c7, c8, c9, c10, c11, c12, c13, c14⟩ := h8
        obtain ⟨d1, d2, d3, d4, d5, d6, d7, d8, d9, d10, d11, d12, d13⟩ := h9
        subst c2 c3 c4 c5 c6 c9 c10 c11 c12 d2 d3 d4 d6 d7 d8 d9 d10 d11
        exact ⟨b1, b2, b3, b4, b5, b6⟩
      · exact absurd o9 o8
    · rcases st_9 z6 z7 z8 z9 z10 z11 e9 with ⟨o9, h9⟩ | ⟨o9, h9⟩
      · exact absurd o8 o9
      · obtain ⟨c1, c2, c3, c4, c5, c6, c7, c8, c9, c10⟩ := h8
        obtain ⟨d1, d2, d3, d4, d5, d6, d7, d8, d9, d10, d11⟩ := h9
        rw [c2, c3, c4, c5, c6, d2, d3, d4, d6, d7]
        refine ⟨rfl, rfl, rfl, b4, ⟨?_, ?_, fl_x c9 d9⟩, fun hk => ?_⟩
        · rw [ge_is _ _ _ _ (by omega), y0, if_pos rfl]
        · rw [ge_is _ _ _ _ (by omega), y0, if_pos rfl]
        · obtain ⟨f1, f2, f3, f4⟩ := b6 hk
          subst f1 f2
          have hk2 : ¬ (m_isKept = false) := by rw [b4, hk]; decide
          obtain ⟨u0, u1, u2, u3, -⟩ := z13 hk2
          refine ⟨rfl, rfl, f3, lg_t f4 (i_fl u0 u1 u2 u3).2.2 ?_ ?_ (fun j j0 j1 => d8 j (by omega) (by omega))⟩
          · rw [ge_is _ _ _ _ (by omega), y0, if_neg (by decide)]
          · rw [ge_is _ _ _ _ (by omega), y0, if_neg (by decide)]
  obtain ⟨s1, s2, s3, s4⟩ := hr_1
  have X : rl_cr p_now_wrong p_now_worn p_now_last v_hasImage v_kept_wrong v_kept_worn v_kept_last q_wronged m_imageWronged q_worn q_lastBend := by
    rcases st_8 a8 a9 a10 a11 a12 a13 e8 with ⟨o8, h8⟩ | ⟨o8, h8⟩
    · rcases st_9 z6 z7 z8 z9 z10 z11 e9 with ⟨o9, h9⟩ | ⟨o9, h9⟩
      · obtain ⟨-, -, -, -, -, -, c7, -, -, -, -, -, c13, c14⟩ := h8
        obtain ⟨-, -, -, -, d5, -, -, -, -, -, -, d12, d13⟩ := h9
        rw [c7, c13, c14, d5, d12, d13]
        exact ⟨s1, s2, s3, s4⟩
      · exact absurd o9 o8
    · rcases st_9 z6 z7 z8 z9 z10 z11 e9 with ⟨o9, h9⟩ | ⟨o9, h9⟩
      · exact absurd o8 o9
      · obtain ⟨-, -, -, -, -, -, c7, -, -, c10⟩ := h8
        obtain ⟨-, -, -, -, d5, -, -, -, -, d10, d11⟩ := h9
        refine ⟨d5.trans c7.symm, fun k hk => ?_, fun k hk => ?_, fun e => ⟨(s4 e).1, fun k hk => (d11 _ (by omega) (by omega)).1.trans ((s4 e).2.1 k hk), fun k hk => (d11 _ (by omega) (by omega)).2.trans ((s4 e).2.2 k hk)⟩⟩
        · have u := (c10 k hk).1
          have w := (d10 k hk).1
          rw [Nat.zero_add] at u w
          rw [Nat.mul_zero, Nat.zero_add, u, w]
        · have u := (c10 k hk).2
          have w := (d10 k hk).2
          rw [Nat.zero_add] at u w
          rw [Nat.mul_zero, Nat.zero_add, u, w]
  exact ⟨_, _, _, _, _, _, _, _, _, _, _, _, _, _, _, _, _, _, _, _, _, _, _, _, _, _, _, e8, e9, k8, k9, R, X⟩
theorem fc_8 {x1 x2 rows cols hg wd folds wrong more : Int32} {R C B F worn last bend T : List Int32} {sc sk : Int32} {stp st : List Int32} {lim : Int32} {r h' w' fo' wr' mo' : Int32} {R' C' B' F' wo' la' be' T' : List Int32} {sk' : Int32} {st' : List Int32} (e : fX8_fold 700 x1 x2 rows cols hg wd folds wrong more R C B F worn last bend T sc sk stp st lim = some (r, h', w', fo', wr', mo', R', C', B', F', wo', la', be', T', sk', st')) : (¬ ok_w x1 x2 hg wd ∧ r = (if 0 ≤ x2.toInt ∧ x2.toInt ≤ 7 then (-2 : Int32) else (-1 : Int32)) ∧ wr' = wrong ∧ wo' = worn ∧ la' = last) ∨ (ok_w x1 x2 hg wd ∧ fX5_bendAndTurn 700 x1 x2 lim rows cols hg wd folds wrong more R C B F worn last bend T sc sk stp st = some (r, h', w', fo', wr', mo', R', C', B', F', wo', la', be', T', sk', st')) := by
  unfold fX8_fold at e
  rw [wa_e, bs_1] at e
  by_cases c : 0 ≤ x2.toInt ∧ x2.toInt ≤ 7
  · rw [if_pos c]
    rw [decide_eq_true c, if_neg (by decide), hl_e, bs_1] at e
    by_cases d : 1 ≤ x1.toInt ∧ x1.toInt < (if (4 : Int32) ≤ x2 then hg else wd).toInt
    · rw [decide_eq_true d, if_neg (by decide)] at e
      obtain ⟨a0, a1, a2, a3, a4, a5, a6, a7, a8, a9, a10, a11, a12, a13, a14, a15, eb, e⟩ := mm_bd16s e
      refine Or.inr ⟨⟨c, d⟩, ?_⟩
      rw [eb]
      exact e
    · rw [decide_eq_false d, if_pos rfl] at e
      apply mm_sub16 e
      exact Or.inl ⟨fun h => d h.2, rfl, rfl, rfl, rfl⟩
  · rw [if_neg c]
    rw [decide_eq_false c, if_pos rfl] at e
    apply mm_sub16 e
    exact Or.inl ⟨fun h => c h.1, rfl, rfl, rfl, rfl⟩
theorem fc_9 {x1 x2 ro co fd wr tm ba at_ en fa op bm bw mw hg wd : Int32} {lim sR sC row col bel fac wo la tape text nam ben hi to PS : List Int32} {r fd' wr' ba' at' en' fa' op' bm' bw' mw' : Int32} {sR' sC' row' col' bel' fac' wo' la' nam' ben' hi' to' PS' : List Int32} (k8 : sR.length = 6) (k9 : sC.length = 6) (g1 : mm_ig sR (0 : Int32) = hg) (g2 : mm_ig sC (0 : Int32) = wd) (hh : 1 ≤ hg.toInt ∧ hg.toInt ≤ 4) (hw : 1 ≤ wd.toInt ∧ wd.toInt ≤ 8) (e : fX9_fold 700 x1 x2 ro co fd wr tm ba at_ en fa op bm bw mw lim sR sC row col bel fac wo la tape text nam ben hi to PS = some (r, fd', wr', ba', at', en', fa', op', bm', bw', mw', sR', sC', row', col', bel', fac', wo', la', nam', ben', hi', to', PS')) : (¬ ok_w x1 x2 hg wd ∧ r = (if 0 ≤ x2.toInt ∧ x2.toInt ≤ 7 then (-2 : Int32) else (-1 : Int32)) ∧ wr' = wr ∧ wo' = wo ∧ la' = la) ∨ (ok_w x1 x2 hg wd ∧ r = bm' ∧ wr' = wr + bw' ∧ fX9_foldsOn 700 (0 : Int32) x1 x2 ro co tm ba at_ en fa op bm bw mw lim sR sC row col bel fac wo la tape text nam ben hi to PS = some (ba', at', en', fa', op', bm', bw', mw', sR', sC', row', col', bel', fac', wo', la', nam', ben', hi', to', PS')) := by
  have m0 : (0 : Int64).toInt = 0 := by decide
  have m7 : (7 : Int64).toInt = 7 := by decide
  unfold fX9_fold at e
  rw [wn_x, bs_1, i_64, m0, m7] at e
  by_cases c : 0 ≤ x2.toInt ∧ x2.toInt ≤ 7
  · rw [if_pos c]
    rw [decide_eq_true c, if_neg (by decide), il_e k8 k9 (by decide) (by decide) g1 g2 hh hw, bs_1] at e
    by_cases d : 1 ≤ x1.toInt ∧ x1.toInt < (if (4 : Int32) ≤ x2 then hg else wd).toInt
    · rw [decide_eq_true d, if_neg (by decide)] at e
      obtain ⟨a0, a1, a2, a3, a4, a5, a6, a7, a8, a9, a10, a11, a12, a13, a14, a15, a16, a17, a18, a19, a20, eb, e⟩ := mm_bd21s e
      rw [nm_eq, nm_eq] at e
      apply mm_sub24 e
      exact Or.inr ⟨⟨c, d⟩, rfl, rfl, eb⟩
    · rw [decide_eq_false d, if_pos rfl] at e
      apply mm_sub24 e
      exact Or.inl ⟨fun h => d h.2, rfl, rfl, rfl, rfl⟩
  · rw [if_neg c]
    rw [decide_eq_false c, if_pos rfl] at e
    apply mm_sub24 e
    exact Or.inl ⟨fun h => c h.1, rfl, rfl, rfl, rfl⟩
set_option maxHeartbeats 4000000 in
set_option maxRecDepth 20000 in
theorem rs_fold_cr {x1 : Int32} {x2 : Int32} {v_now_rows : Int32} {v_now_cols : Int32} {v_now_high : Int32} {v_now_wide : Int32} {v_now_folds : Int32} {v_now_wrong : Int32} {v_now_more : Int32} {v_now_rowOf : List Int32} {v_now_colOf : List Int32} {v_now_below : List Int32} {v_now_face : List Int32} {v_now_worn : List Int32} {v_now_last : List Int32} {v_now_bend : List Int32} {v_now_tall : List Int32} {v_wearing_stepCount : Int32} {v_wearing_stacked : Int32} {v_wearing_steps : List Int32} {v_wearing_stack : List Int32} {v_changes_value : Int32} {v_wearing_size : Int32} {v_wearing_draftCount : Int32} {v_wearing_tape : List Int32} {v_wearing_draft : List Int32} {v_hasImage : Bool} {v_kept_rows : Int32} {v_kept_cols : Int32} {v_kept_high : Int32} {v_kept_wide : Int32} {v_kept_folds : Int32} {v_kept_rowOf : List Int32} {v_kept_colOf : List Int32} {v_kept_below : List Int32} {v_kept_face : List Int32} {v_changes_done : Int32} {v_changes_size : Int32} {v_changes_before : List Int32} {v_changes_after : List Int32} {v_kept_wrong : Int32} {v_kept_worn : List Int32} {v_kept_last : List Int32} {m_rowsOf : Int32} {m_columnsOf : Int32} {m_folded : Int32} {m_wronged : Int32} {m_textMany : Int32} {m_base : Int32} {m_at : Int32} {m_ends : Int32} {m_fault : Int32} {m_opened : Int32} {m_bentMany : Int32} {m_bentWrong : Int32} {m_moreWorn : Int32} {m_limit : List Int32} {m_shapeRows : List Int32} {m_shapeColumns : List Int32} {m_row : List Int32} {m_column : List Int32} {m_below : List Int32} {m_face : List Int32} {m_worn : List Int32} {m_lastBend : List Int32} {m_tape : List Int32} {m_text : List Int32} {m_names : List Int32} {m_bends : List Int32} {m_high : List Int32} {m_to : List Int32} {m_pileSize : List Int32} {m_keptMany : Int32} {m_done : Int32} {m_changeWas : List Int32} {m_changeIs : List Int32} {m_isKept : Bool} {m_imageRows : Int32} {m_imageColumns : Int32} {m_tapeMany : Int32} {m_imageFolded : Int32} {m_imageWronged : Int32} (g8_0 : gi_sh v_now_rows v_now_cols v_now_high v_now_wide v_now_rowOf v_now_colOf v_now_below v_now_face v_now_worn v_now_last v_now_bend v_now_tall) (g8_1 : gi_la v_wearing_size v_wearing_stepCount v_wearing_draftCount v_wearing_tape v_wearing_steps v_wearing_draft v_wearing_stack) (g9_0 : gm_ch m_keptMany m_done m_limit m_changeWas m_changeIs) (g9_1 : gm_sh m_rowsOf m_columnsOf m_isKept m_imageRows m_imageColumns m_shapeRows m_shapeColumns m_row m_column m_below m_face m_worn m_lastBend) (g9_2 : gm_tx m_tapeMany m_textMany m_tape m_text m_names m_bends m_high m_to m_pileSize) (hr_0 : rl_ge v_now_rows v_now_cols v_now_high v_now_wide v_now_folds v_now_rowOf v_now_colOf v_now_below v_now_face v_hasImage v_kept_rows v_kept_cols v_kept_high v_kept_wide v_kept_folds v_kept_rowOf v_kept_colOf v_kept_below v_kept_face m_rowsOf m_columnsOf m_folded m_isKept m_imageRows m_imageColumns m_imageFolded m_shapeRows m_shapeColumns m_row m_column m_below m_face) (hr_1 : rl_ch v_changes_value v_changes_done v_changes_size v_changes_before v_changes_after m_keptMany m_done m_limit m_changeWas m_changeIs) (hr_2 : rl_lw v_wearing_stepCount v_wearing_steps m_textMany m_text) (hr_3 : rl_cr v_now_wrong v_now_worn v_now_last v_hasImage v_kept_wrong v_kept_worn v_kept_last m_wronged m_imageWronged m_worn m_lastBend) : ∃ (r : Int32) (p_now_high : Int32) (p_now_wide : Int32) (p_now_folds : Int32) (p_now_wrong : Int32) (p_now_more : Int32) (p_now_rowOf : List Int32) (p_now_colOf : List Int32) (p_now_below : List Int32) (p_now_face : List Int32) (p_now_worn : List Int32) (p_now_last : List Int32) (p_now_bend : List Int32) (p_now_tall : List Int32) (p_wearing_stacked : Int32) (p_wearing_stack : List Int32) (q_folded : Int32) (q_wronged : Int32) (q_base : Int32) (q_at : Int32) (q_ends : Int32) (q_fault : Int32) (q_opened : Int32) (q_bentMany : Int32) (q_bentWrong : Int32) (q_moreWorn : Int32) (q_shapeRows : List Int32) (q_shapeColumns : List Int32) (q_row : List Int32) (q_column : List Int32) (q_below : List Int32) (q_face : List Int32) (q_worn : List Int32) (q_lastBend : List Int32) (q_names : List Int32) (q_bends : List Int32) (q_high : List Int32) (q_to : List Int32) (q_pileSize : List Int32), fX8_fold 700 x1 x2 v_now_rows v_now_cols v_now_high v_now_wide v_now_folds v_now_wrong v_now_more v_now_rowOf v_now_colOf v_now_below v_now_face v_now_worn v_now_last v_now_bend v_now_tall v_wearing_stepCount v_wearing_stacked v_wearing_steps v_wearing_stack v_changes_value = some (r, p_now_high, p_now_wide, p_now_folds, p_now_wrong, p_now_more, p_now_rowOf, p_now_colOf, p_now_below, p_now_face, p_now_worn, p_now_last, p_now_bend, p_now_tall, p_wearing_stacked, p_wearing_stack) ∧ fX9_fold 700 x1 x2 m_rowsOf m_columnsOf m_folded m_wronged m_textMany m_base m_at m_ends m_fault m_opened m_bentMany m_bentWrong m_moreWorn m_limit m_shapeRows m_shapeColumns m_row m_column m_below m_face m_worn m_lastBend m_tape m_text m_names m_bends m_high m_to m_pileSize = some (r, q_folded, q_wronged, q_base, q_at, q_ends, q_fault, q_opened, q_bentMany, q_bentWrong, q_moreWorn, q_shapeRows, q_shapeColumns, q_row, q_column, q_below, q_face, q_worn, q_lastBend, q_names, q_bends, q_high, q_to, q_pileSize) ∧ gi_sh v_now_rows v_now_cols p_now_high p_now_wide p_now_rowOf p_now_colOf p_now_below p_now_face p_now_worn p_now_last p_now_bend p_now_tall ∧ gi_la v_wearing_size v_wearing_stepCount v_wearing_draftCount v_wearing_tape v_wearing_steps v_wearing_draft p_wearing_stack ∧ gm_sh m_rowsOf m_columnsOf m_isKept m_imageRows m_imageColumns q_shapeRows q_shapeColumns q_row q_column q_below q_face q_worn q_lastBend ∧ gm_tx m_tapeMany m_textMany m_tape m_text q_names q_bends q_high q_to q_pileSize ∧ rl_ge v_now_rows v_now_cols p_now_high p_now_wide p_now_folds p_now_rowOf p_now_colOf p_now_below p_now_face v_hasImage v_kept_rows v_kept_cols v_kept_high v_kept_wide v_kept_folds v_kept_rowOf v_kept_colOf v_kept_below v_kept_face m_rowsOf m_columnsOf q_folded m_isKept m_imageRows m_imageColumns m_imageFolded q_shapeRows q_shapeColumns q_row q_column q_below q_face ∧ rl_ch v_changes_value v_changes_done v_changes_size v_changes_before v_changes_after m_keptMany m_done m_limit m_changeWas m_changeIs ∧ rl_lw v_wearing_stepCount v_wearing_steps m_textMany m_text ∧ rl_cr p_now_wrong p_now_worn p_now_last v_hasImage v_kept_wrong v_kept_worn v_kept_last q_wronged m_imageWronged q_worn q_lastBend := by
  obtain ⟨⟨r8, p_now_high, p_now_wide, p_now_folds, p_now_wrong, p_now_more, p_now_rowOf, p_now_colOf, p_now_below, p_now_face, p_now_worn, p_now_last, p_now_bend, p_now_tall, p_wearing_stacked, p_wearing_stack⟩, e8, -⟩ := st8_fold (x1 := x1) (x2 := x2) (v_now_folds := v_now_folds) (v_now_wrong := v_now_wrong) (v_now_more := v_now_more) (v_wearing_stacked := v_wearing_stacked) (v_changes_value := v_changes_value) g8_0 g8_1
  obtain ⟨⟨r9, q_folded, q_wronged, q_base, q_at, q_ends, q_fault, q_opened, q_bentMany, q_bentWrong, q_moreWorn, q_shapeRows, q_shapeColumns, q_row, q_column, q_below, q_face, q_worn, q_lastBend, q_names, q_bends, q_high, q_to, q_pileSize⟩, e9, -⟩ := st9_fold (x1 := x1) (x2 := x2) (v_folded := m_folded) (v_wronged := m_wronged) (v_base := m_base) (v_at := m_at) (v_ends := m_ends) (v_fault := m_fault) (v_opened := m_opened) (v_bentMany := m_bentMany) (v_bentWrong := m_bentWrong) (v_moreWorn := m_moreWorn) g9_0 g9_1 g9_2
  have k8 := wp_get (st8_fold g8_0 g8_1) e8
  have k9 := wp_get (st9_fold g9_0 g9_1 g9_2) e9
  obtain ⟨a0, a1, a2, a3, a4, a5, a6, a7, a8, a9, a10, a11, a12, a13, a14, a15, a16, a17⟩ := id g8_0
  obtain ⟨z0, z1, z2, z3, z4, z5, z6, z7, z8, z9, z10, z11, z12, z13⟩ := id g9_1
  obtain ⟨t0, t1, t2, t3, t4, t5, t6, t7, t8, t9, t10⟩ := id g9_2
  have n0 : (0 : Int32).toInt = 0 := by decide
  have n5 : (5 : Int32).toInt = 5 := by decide
  have y0 : (0 : Int32).toInt.toNat = 0 := by decide
  have y5 : (5 : Int32).toInt.toNat = 5 := by decide
  obtain ⟨b1, b2, b3, b4, b5, b6⟩ := hr_0
  subst b1 b2
  have hf := i_fl z0 z1 z2 z3
  obtain ⟨l1, l2, l3⟩ := id b5
  have g1 : mm_ig m_shapeRows (0 : Int32) = v_now_high := by rw [ge_ig, y0]; exact l1
  have g2 : mm_ig m_shapeColumns (0 : Int32) = v_now_wide := by rw [ge_ig, y0]; exact l2
  have R : rl_ge m_rowsOf m_columnsOf p_now_high p_now_wide p_now_folds p_now_rowOf p_now_colOf p_now_below p_now_face v_hasImage v_kept_rows v_kept_cols v_kept_high v_kept_wide v_kept_folds v_kept_rowOf v_kept_colOf v_kept_below v_kept_face m_rowsOf m_columnsOf q_folded m_isKept m_imageRows m_imageColumns m_imageFolded q_shapeRows q_shapeColumns q_row q_column q_below q_face := by
    rcases fo_8 e8 with ⟨o8, h8⟩ | ⟨o8, h8⟩
    · rcases fo_9 z4 z5 g1 g2 ⟨a4, a5⟩ ⟨a6, a7⟩ e9 with ⟨o9, h9⟩ | ⟨o9, h9⟩
      · obtain ⟨c1, c2, c3, c4, c5, c6, c7⟩ := h8
        obtain ⟨d1, d2, d3, d4, d5, d6, d7⟩ := h9
        subst c1 c2 c3 c4 c5 c6 c7 d1 d2 d3 d4 d5 d6 d7
        exact ⟨rfl, rfl, b3, b4, b5, b6⟩
      · exact absurd o9 o8
    · rcases fo_9 z4 z5 g1 g2 ⟨a4, a5⟩ ⟨a6, a7⟩ e9 with ⟨o9, h9⟩ | ⟨o9, h9⟩
      · exact absurd o8 o9
      · obtain ⟨c1, c2⟩ := h8
        obtain ⟨d1, d2⟩ := h9
        have q := tr_e (m := (m_rowsOf.toInt * m_columnsOf.toInt).toNat) (lv := (0 : Int32)) (by omega) (by omega) (by omega) (by omega) o8.1.1 o8.1.2 a8 a9 a10 a11 a15 z6 z7 z8 z9 t8 t9 t10 z4 z5 ⟨a4, a5⟩ ⟨a6, a7⟩ (fun k hk => zn_n a16 (by omega) (by omega) (by omega)) (fun k hk => zn_n a17 (by omega) (by omega) (by omega)) g1 g2 (by rw [y0]; exact l3) c2 d2
        rw [ge_ig, ge_ig, y0, Nat.mul_zero] at q
        obtain ⟨q1, q2, q3, q4, q5, -⟩ := q
        refine ⟨rfl, rfl, by rw [c1, d1, b3], b4, ⟨q1, q2, q3⟩, fun hk => ?_⟩
        obtain ⟨f1, f2, f3, f4⟩ := b6 hk
        subst f1 f2
        have hk2 : ¬ (m_isKept = false) := by rw [b4, hk]; decide
        obtain ⟨u0, u1, u2, u3, -⟩ := z13 hk2
        exact ⟨rfl, rfl, f3, lg_t f4 (i_fl u0 u1 u2 u3).2.2 (q5 5 (by omega) (by omega)).1 (q5 5 (by omega) (by omega)).2 (fun j j0 j1 => q4 j (by omega) (by omega))⟩
  obtain ⟨s1, s2, s3, s4⟩ := hr_3
  obtain ⟨-, -, v3, -, -⟩ := id hr_1
  obtain ⟨-, -, y2, y3, -, -, -, y7, -, y9⟩ := id g8_1
  have X : r9 = r8 ∧ rl_cr p_now_wrong p_now_worn p_now_last v_hasImage v_kept_wrong v_kept_worn v_kept_last q_wronged m_imageWronged q_worn q_lastBend := by
    rcases fc_8 e8 with ⟨o8, c1, c2, c3, c4⟩ | ⟨o8, c1⟩
    · rcases fc_9 z4 z5 g1 g2 ⟨a4, a5⟩ ⟨a6, a7⟩ e9 with ⟨o9, d1, d2, d3, d4⟩ | ⟨o9, d1, d2, d3⟩
      · rw [c2, c3, c4, d2, d3, d4]
        exact ⟨d1.trans c1.symm, s1, s2, s3, s4⟩
      · exact absurd o9 o8
    · rcases fc_9 z4 z5 g1 g2 ⟨a4, a5⟩ ⟨a6, a7⟩ e9 with ⟨o9, d1, d2, d3, d4⟩ | ⟨o9, d1, d2, d3⟩
      · exact absurd o8 o9
      · obtain ⟨q1, q2, q3, q4, q5, q6, q7, -, -, q10⟩ := bc_e (lv := (0 : Int32)) (by omega) (by omega) g8_0 y2 y3 y7 y9 o8 ⟨z4, z5, z6, z7, z8, z9, t8, t9, t10⟩ (by rw [y0]; exact b5) hr_2 (by rw [v3]; rfl) z10 z11 t6 t7 (by rw [y0]; exact s2) (by rw [y0]; exact s3) c1 d3
        rw [y0] at q4 q5 q10
        refine ⟨d1.trans q1.symm, ?_, q4, q5, fun e => ⟨(s4 e).1, fun k hk => (q10 _ (by omega) (by omega)).1.trans ((s4 e).2.1 k hk), fun k hk => (q10 _ (by omega) (by omega)).2.trans ((s4 e).2.2 k hk)⟩⟩
        rw [d2, q2, s1]
  obtain ⟨er, X⟩ := X
  subst er
  exact ⟨_, _, _, _, _, _, _, _, _, _, _, _, _, _, _, _, _, _, _, _, _, _, _, _, _, _, _, _, _, _, _, _, _, _, _, _, _, _, _, e8, e9, k8.1, k8.2, k9.1, k9.2, R, hr_1, hr_2, X⟩
set_option maxHeartbeats 4000000 in
set_option maxRecDepth 20000 in
theorem rs_image_cr {v_hasImage : Bool} {v_now_rows : Int32} {v_now_cols : Int32} {v_now_high : Int32} {v_now_wide : Int32} {v_now_folds : Int32} {v_now_wrong : Int32} {v_now_more : Int32} {v_now_rowOf : List Int32} {v_now_colOf : List Int32} {v_now_below : List Int32} {v_now_face : List Int32} {v_now_worn : List Int32} {v_now_last : List Int32} {v_kept_rows : Int32} {v_kept_cols : Int32} {v_kept_high : Int32} {v_kept_wide : Int32} {v_kept_folds : Int32} {v_kept_wrong : Int32} {v_kept_more : Int32} {v_kept_rowOf : List Int32} {v_kept_colOf : List Int32} {v_kept_below : List Int32} {v_kept_face : List Int32} {v_kept_worn : List Int32} {v_kept_last : List Int32} {v_now_bend : List Int32} {v_now_tall : List Int32} {v_kept_bend : List Int32} {v_kept_tall : List Int32} {m_rowsOf : Int32} {m_columnsOf : Int32} {m_folded : Int32} {m_wronged : Int32} {m_isKept : Bool} {m_imageRows : Int32} {m_imageColumns : Int32} {m_imageFolded : Int32} {m_imageWronged : Int32} {m_shapeRows : List Int32} {m_shapeColumns : List Int32} {m_row : List Int32} {m_column : List Int32} {m_below : List Int32} {m_face : List Int32} {m_worn : List Int32} {m_lastBend : List Int32} (g8_0 : gi_sh v_now_rows v_now_cols v_now_high v_now_wide v_now_rowOf v_now_colOf v_now_below v_now_face v_now_worn v_now_last v_now_bend v_now_tall) (g8_1 : gi_sh v_kept_rows v_kept_cols v_kept_high v_kept_wide v_kept_rowOf v_kept_colOf v_kept_below v_kept_face v_kept_worn v_kept_last v_kept_bend v_kept_tall) (g9_0 : gm_sh m_rowsOf m_columnsOf m_isKept m_imageRows m_imageColumns m_shapeRows m_shapeColumns m_row m_column m_below m_face m_worn m_lastBend) (hr_0 : rl_ge v_now_rows v_now_cols v_now_high v_now_wide v_now_folds v_now_rowOf v_now_colOf v_now_below v_now_face v_hasImage v_kept_rows v_kept_cols v_kept_high v_kept_wide v_kept_folds v_kept_rowOf v_kept_colOf v_kept_below v_kept_face m_rowsOf m_columnsOf m_folded m_isKept m_imageRows m_imageColumns m_imageFolded m_shapeRows m_shapeColumns m_row m_column m_below m_face) (hr_1 : rl_cr v_now_wrong v_now_worn v_now_last v_hasImage v_kept_wrong v_kept_worn v_kept_last m_wronged m_imageWronged m_worn m_lastBend) : ∃ (r : Int32) (p_hasImage : Bool) (p_kept_rows : Int32) (p_kept_cols : Int32) (p_kept_high : Int32) (p_kept_wide : Int32) (p_kept_folds : Int32) (p_kept_wrong : Int32) (p_kept_more : Int32) (p_kept_rowOf : List Int32) (p_kept_colOf : List Int32) (p_kept_below : List Int32) (p_kept_face : List Int32) (p_kept_worn : List Int32) (p_kept_last : List Int32) (q_isKept : Bool) (q_imageRows : Int32) (q_imageColumns : Int32) (q_imageFolded : Int32) (q_imageWronged : Int32) (q_shapeRows : List Int32) (q_shapeColumns : List Int32) (q_row : List Int32) (q_column : List Int32) (q_below : List Int32) (q_face : List Int32) (q_worn : List Int32) (q_lastBend : List Int32), fX8_image 700 v_hasImage v_now_rows v_now_cols v_now_high v_now_wide v_now_folds v_now_wrong v_now_more v_now_rowOf v_now_colOf v_now_below v_now_face v_now_worn v_now_last v_kept_rows v_kept_cols v_kept_high v_kept_wide v_kept_folds v_kept_wrong v_kept_more v_kept_rowOf v_kept_colOf v_kept_below v_kept_face v_kept_worn v_kept_last = some (r, p_hasImage, p_kept_rows, p_kept_cols, p_kept_high, p_kept_wide, p_kept_folds, p_kept_wrong, p_kept_more, p_kept_rowOf, p_kept_colOf, p_kept_below, p_kept_face, p_kept_worn, p_kept_last) ∧ fX9_image 700 m_rowsOf m_columnsOf m_folded m_wronged m_isKept m_imageRows m_imageColumns m_imageFolded m_imageWronged m_shapeRows m_shapeColumns m_row m_column m_below m_face m_worn m_lastBend = some (r, q_isKept, q_imageRows, q_imageColumns, q_imageFolded, q_imageWronged, q_shapeRows, q_shapeColumns, q_row, q_column, q_below, q_face, q_worn, q_lastBend) ∧ gi_sh p_kept_rows p_kept_cols p_kept_high p_kept_wide p_kept_rowOf p_kept_colOf p_kept_below p_kept_face p_kept_worn p_kept_last v_kept_bend v_kept_tall ∧ gm_sh m_rowsOf m_columnsOf q_isKept q_imageRows q_imageColumns q_shapeRows q_shapeColumns q_row q_column q_below q_face q_worn q_lastBend ∧ rl_ge v_now_rows v_now_cols v_now_high v_now_wide v_now_folds v_now_rowOf v_now_colOf v_now_below v_now_face p_hasImage p_kept_rows p_kept_cols p_kept_high p_kept_wide p_kept_folds p_kept_rowOf p_kept_colOf p_kept_below p_kept_face m_rowsOf m_columnsOf m_folded q_isKept q_imageRows q_imageColumns q_imageFolded q_shapeRows q_shapeColumns q_row q_column q_below q_face ∧ rl_cr v_now_wrong v_now_worn v_now_last p_hasImage p_kept_wrong p_kept_worn p_kept_last m_wronged q_imageWronged q_worn q_lastBend := by
  obtain ⟨⟨r8, p_hasImage, p_kept_rows, p_kept_cols, p_kept_high, p_kept_wide, p_kept_folds, p_kept_wrong, p_kept_more, p_kept_rowOf, p_kept_colOf, p_kept_below, p_kept_face, p_kept_worn, p_kept_last⟩, e8, -⟩ := st8_image  (v_hasImage := v_hasImage) (v_now_folds := v_now_folds) (v_now_wrong := v_now_wrong) (v_now_more := v_now_more) (v_kept_folds := v_kept_folds) (v_kept_wrong := v_kept_wrong) (v_kept_more := v_kept_more) g8_0 g8_1
  obtain ⟨⟨r9, q_isKept, q_imageRows, q_imageColumns, q_imageFolded, q_imageWronged, q_shapeRows, q_shapeColumns, q_row, q_column, q_below, q_face, q_worn, q_lastBend⟩, e9, -⟩ := st9_image  (v_folded := m_folded) (v_wronged := m_wronged) (v_imageFolded := m_imageFolded) (v_imageWronged := m_imageWronged) g9_0
  have k8 := wp_get (st8_image g8_0 g8_1) e8
  have k9 := wp_get (st9_image g9_0) e9
  obtain ⟨a0, a1, a2, a3, a4, a5, a6, a7, a8, a9, a10, a11, a12, a13, a14, a15, a16, a17⟩ := id g8_0
  obtain ⟨c0, c1, c2, c3, c4, c5, c6, c7, c8, c9, c10, c11, c12, c13, c14, c15, c16, c17⟩ := id g8_1
  obtain ⟨z0, z1, z2, z3, z4, z5, z6, z7, z8, z9, z10, z11, z12, z13⟩ := id g9_0
  have n0 : (0 : Int32).toInt = 0 := by decide
  have n5 : (5 : Int32).toInt = 5 := by decide
  have y0 : (0 : Int32).toInt.toNat = 0 := by decide
  have y5 : (5 : Int32).toInt.toNat = 5 := by decide
  obtain ⟨b1, b2, b3, b4, b5, b6⟩ := hr_0
  subst b1 b2
  have hf := i_fl z0 z1 z2 z3
  obtain ⟨l1, l2, l3⟩ := id b5
  have RR : r9 = r8 ∧ rl_ge m_rowsOf m_columnsOf v_now_high v_now_wide v_now_folds v_now_rowOf v_now_colOf v_now_below v_now_face p_hasImage p_kept_rows p_kept_cols p_kept_high p_kept_wide p_kept_folds p_kept_rowOf p_kept_colOf p_kept_below p_kept_face m_rowsOf m_columnsOf m_folded q_isKept q_imageRows q_imageColumns q_imageFolded q_shapeRows q_shapeColumns q_row q_column q_below q_face := by
    have f8 := e8
    have f9 := e9
    unfold fX8_image at f8
    unfold fX9_image at f9
    rw [cp_e c8 c9 c10 c11 c12 c13 a8 a9 a10 a11 a12 a13] at f8
    obtain ⟨x1, x2, x3, x4, x5, x6, x7, x8, er, f9⟩ := mm_bd8s f9
    obtain ⟨⟨d1, d2⟩, d3, -, d5, -⟩ := co_e (by omega) (by omega) (by omega) (by omega) (by omega) z6 z7 z8 z9 z10 z11 er
    rw [y0, y5] at d5
    rw [y5] at d3
    have f8' : some (v_now_folds, true, m_rowsOf, m_columnsOf, v_now_high, v_now_wide, v_now_folds, v_now_wrong, v_now_more, v_now_rowOf, v_now_colOf, v_now_below, v_now_face, v_now_worn, v_now_last) = some (r8, p_hasImage, p_kept_rows, p_kept_cols, p_kept_high, p_kept_wide, p_kept_folds, p_kept_wrong, p_kept_more, p_kept_rowOf, p_kept_colOf, p_kept_below, p_kept_face, p_kept_worn, p_kept_last) := f8
    apply mm_sub15 f8'
    apply mm_sub14 f9
    rw [d1, d2]
    refine ⟨b3, rfl, rfl, b3, rfl, lg_t b5 hf.2.2 ?_ ?_ (fun j j0 j1 => d3 j (by omega) (by omega)), fun _ => ⟨rfl, rfl, b3, ?_, ?_, fun k hk => ?_⟩⟩
    · rw [ge_is _ _ _ _ (by omega), y5, if_neg (by decide)]
    · rw [ge_is _ _ _ _ (by omega), y5, if_neg (by decide)]
    · rw [ge_is _ _ _ _ (by omega), y5, if_pos rfl, ge_ig, y0]
      exact l1
    · rw [ge_is _ _ _ _ (by omega), y5, if_pos rfl, ge_ig, y0]
      exact l2
    · obtain ⟨u1, u2, u3, u4⟩ := d5 k (by omega)
      obtain ⟨v1, v2, v3, v4⟩ := l3 k hk
      exact ⟨by rw [u1]; exact v1, by rw [u2]; exact v2, by rw [u3]; exact v3, by rw [u4]; exact v4⟩
  obtain ⟨s1, s2, s3, s4⟩ := hr_1
  have X : rl_cr v_now_wrong v_now_worn v_now_last p_hasImage p_kept_wrong p_kept_worn p_kept_last m_wronged q_imageWronged q_worn q_lastBend := by
    have f8 := e8
    have f9 := e9
    unfold fX8_image at f8
    unfold fX9_image at f9
    rw [cp_e c8 c9 c10 c11 c12 c13 a8 a9 a10 a11 a12 a13] at f8
    obtain ⟨x1, x2, x3, x4, x5, x6, x7, x8, er, f9⟩ := mm_bd8s f9
    obtain ⟨-, -, d4, -, d6⟩ := co_e (by omega) (by omega) (by omega) (by omega) (by omega) z6 z7 z8 z9 z10 z11 er
    rw [y0, y5] at d6
    rw [y5] at d4
    have f8' : some (v_now_folds, true, m_rowsOf, m_columnsOf, v_now_high, v_now_wide, v_now_folds, v_now_wrong, v_now_more, v_now_rowOf, v_now_colOf, v_now_below, v_now_face, v_now_worn, v_now_last) = some (r8, p_hasImage, p_kept_rows, p_kept_cols, p_kept_high, p_kept_wide, p_kept_folds, p_kept_wrong, p_kept_more, p_kept_rowOf, p_kept_colOf, p_kept_below, p_kept_face, p_kept_worn, p_kept_last) := f8
    apply mm_sub15 f8'
    apply mm_sub14 f9
    refine ⟨s1, fun k hk => (d4 _ (by omega) (by omega)).1.trans (s2 k hk), fun k hk => (d4 _ (by omega) (by omega)).2.trans (s3 k hk), fun _ => ⟨s1, fun k hk => (d6 k hk).1.trans (s2 k hk), fun k hk => (d6 k hk).2.trans (s3 k hk)⟩⟩
  obtain ⟨er, R⟩ := RR
  subst er
  exact ⟨_, _, _, _, _, _, _, _, _, _, _, _, _, _, _, _, _, _, _, _, _, _, _, _, _, _, _, _, e8, e9, k8, k9, R, X⟩
set_option maxHeartbeats 4000000 in
set_option maxRecDepth 20000 in
theorem rs_back_cr {v_hasImage : Bool} {v_now_rows : Int32} {v_now_cols : Int32} {v_now_high : Int32} {v_now_wide : Int32} {v_now_folds : Int32} {v_now_wrong : Int32} {v_now_more : Int32} {v_now_rowOf : List Int32} {v_now_colOf : List Int32} {v_now_below : List Int32} {v_now_face : List Int32} {v_now_worn : List Int32} {v_now_last : List Int32} {v_kept_rows : Int32} {v_kept_cols : Int32} {v_kept_high : Int32} {v_kept_wide : Int32} {v_kept_folds : Int32} {v_kept_wrong : Int32} {v_kept_more : Int32} {v_kept_rowOf : List Int32} {v_kept_colOf : List Int32} {v_kept_below : List Int32} {v_kept_face : List Int32} {v_kept_worn : List Int32} {v_kept_last : List Int32} {v_now_bend : List Int32} {v_now_tall : List Int32} {v_kept_bend : List Int32} {v_kept_tall : List Int32} {m_rowsOf : Int32} {m_columnsOf : Int32} {m_folded : Int32} {m_wronged : Int32} {m_isKept : Bool} {m_imageRows : Int32} {m_imageColumns : Int32} {m_imageFolded : Int32} {m_imageWronged : Int32} {m_shapeRows : List Int32} {m_shapeColumns : List Int32} {m_row : List Int32} {m_column : List Int32} {m_below : List Int32} {m_face : List Int32} {m_worn : List Int32} {m_lastBend : List Int32} (g8_0 : gi_sh v_now_rows v_now_cols v_now_high v_now_wide v_now_rowOf v_now_colOf v_now_below v_now_face v_now_worn v_now_last v_now_bend v_now_tall) (g8_1 : gi_sh v_kept_rows v_kept_cols v_kept_high v_kept_wide v_kept_rowOf v_kept_colOf v_kept_below v_kept_face v_kept_worn v_kept_last v_kept_bend v_kept_tall) (g9_0 : gm_sh m_rowsOf m_columnsOf m_isKept m_imageRows m_imageColumns m_shapeRows m_shapeColumns m_row m_column m_below m_face m_worn m_lastBend) (hr_0 : rl_ge v_now_rows v_now_cols v_now_high v_now_wide v_now_folds v_now_rowOf v_now_colOf v_now_below v_now_face v_hasImage v_kept_rows v_kept_cols v_kept_high v_kept_wide v_kept_folds v_kept_rowOf v_kept_colOf v_kept_below v_kept_face m_rowsOf m_columnsOf m_folded m_isKept m_imageRows m_imageColumns m_imageFolded m_shapeRows m_shapeColumns m_row m_column m_below m_face) (hr_1 : rl_cr v_now_wrong v_now_worn v_now_last v_hasImage v_kept_wrong v_kept_worn v_kept_last m_wronged m_imageWronged m_worn m_lastBend) : ∃ (r : Int32) (p_now_rows : Int32) (p_now_cols : Int32) (p_now_high : Int32) (p_now_wide : Int32) (p_now_folds : Int32) (p_now_wrong : Int32) (p_now_more : Int32) (p_now_rowOf : List Int32) (p_now_colOf : List Int32) (p_now_below : List Int32) (p_now_face : List Int32) (p_now_worn : List Int32) (p_now_last : List Int32) (q_rowsOf : Int32) (q_columnsOf : Int32) (q_folded : Int32) (q_wronged : Int32) (q_shapeRows : List Int32) (q_shapeColumns : List Int32) (q_row : List Int32) (q_column : List Int32) (q_below : List Int32) (q_face : List Int32) (q_worn : List Int32) (q_lastBend : List Int32), fX8_back 700 v_hasImage v_now_rows v_now_cols v_now_high v_now_wide v_now_folds v_now_wrong v_now_more v_now_rowOf v_now_colOf v_now_below v_now_face v_now_worn v_now_last v_kept_rows v_kept_cols v_kept_high v_kept_wide v_kept_folds v_kept_wrong v_kept_more v_kept_rowOf v_kept_colOf v_kept_below v_kept_face v_kept_worn v_kept_last = some (r, p_now_rows, p_now_cols, p_now_high, p_now_wide, p_now_folds, p_now_wrong, p_now_more, p_now_rowOf, p_now_colOf, p_now_below, p_now_face, p_now_worn, p_now_last) ∧ fX9_back 700 m_rowsOf m_columnsOf m_folded m_wronged m_isKept m_imageRows m_imageColumns m_imageFolded m_imageWronged m_shapeRows m_shapeColumns m_row m_column m_below m_face m_worn m_lastBend = some (r, q_rowsOf, q_columnsOf, q_folded, q_wronged, q_shapeRows, q_shapeColumns, q_row, q_column, q_below, q_face, q_worn, q_lastBend) ∧ gi_sh p_now_rows p_now_cols p_now_high p_now_wide p_now_rowOf p_now_colOf p_now_below p_now_face p_now_worn p_now_last v_now_bend v_now_tall ∧ gm_sh q_rowsOf q_columnsOf m_isKept m_imageRows m_imageColumns q_shapeRows q_shapeColumns q_row q_column q_below q_face q_worn q_lastBend ∧ rl_ge p_now_rows p_now_cols p_now_high p_now_wide p_now_folds p_now_rowOf p_now_colOf p_now_below p_now_face v_hasImage v_kept_rows v_kept_cols v_kept_high v_kept_wide v_kept_folds v_kept_rowOf v_kept_colOf v_kept_below v_kept_face q_rowsOf q_columnsOf q_folded m_isKept m_imageRows m_imageColumns m_imageFolded q_shapeRows q_shapeColumns q_row q_column q_below q_face ∧ rl_cr p_now_wrong p_now_worn p_now_last v_hasImage v_kept_wrong v_kept_worn v_kept_last q_wronged m_imageWronged q_worn q_lastBend := by
  obtain ⟨⟨r8, p_now_rows, p_now_cols, p_now_high, p_now_wide, p_now_folds, p_now_wrong, p_now_more, p_now_rowOf, p_now_colOf, p_now_below, p_now_face, p_now_worn, p_now_last⟩, e8, -⟩ := st8_back  (v_hasImage := v_hasImage) (v_now_folds := v_now_folds) (v_now_wrong := v_now_wrong) (v_now_more := v_now_more) (v_kept_folds := v_kept_folds) (v_kept_wrong := v_kept_wrong) (v_kept_more := v_kept_more) g8_0 g8_1
  obtain ⟨⟨r9, q_rowsOf, q_columnsOf, q_folded, q_wronged, q_shapeRows, q_shapeColumns, q_row, q_column, q_below, q_face, q_worn, q_lastBend⟩, e9, -⟩ := st9_back  (v_folded := m_folded) (v_wronged := m_wronged) (v_imageFolded := m_imageFolded) (v_imageWronged := m_imageWronged) g9_0
  have k8 := wp_get (st8_back g8_0 g8_1) e8
  have k9 := wp_get (st9_back g9_0) e9
  obtain ⟨a0, a1, a2, a3, a4, a5, a6, a7, a8, a9, a10, a11, a12, a13, a14, a15, a16, a17⟩ := id g8_0
  obtain ⟨c0, c1, c2, c3, c4, c5, c6, c7, c8, c9, c10, c11, c12, c13, c14, c15, c16, c17⟩ := id g8_1
  obtain ⟨z0, z1, z2, z3, z4, z5, z6, z7, z8, z9, z10, z11, z12, z13⟩ := id g9_0
  have n0 : (0 : Int32).toInt = 0 := by decide
  have n5 : (5 : Int32).toInt = 5 := by decide
  have y0 : (0 : Int32).toInt.toNat = 0 := by decide
  have y5 : (5 : Int32).toInt.toNat = 5 := by decide
  obtain ⟨b1, b2, b3, b4, b5, b6⟩ := hr_0
  have RR : r9 = r8 ∧ rl_ge p_now_rows p_now_cols p_now_high p_now_wide p_now_folds p_now_rowOf p_now_colOf p_now_below p_now_face v_hasImage v_kept_rows v_kept_cols v_kept_high v_kept_wide v_kept_folds v_kept_rowOf v_kept_colOf v_kept_below v_kept_face q_rowsOf q_columnsOf q_folded m_isKept m_imageRows m_imageColumns m_imageFolded q_shapeRows q_shapeColumns q_row q_column q_below q_face := by
    have f8 := e8
    have f9 := e9
    unfold fX8_back at f8
    unfold fX9_back at f9
    by_cases h : v_hasImage = false
    · rw [if_pos h] at f8
      rw [if_pos (by rw [b4]; exact h)] at f9
      apply mm_sub14 f8
      apply mm_sub13 f9
      exact ⟨rfl, b1, b2, b3, b4, b5, b6⟩
    · have hk : v_hasImage = true := by
        cases hv : v_hasImage
        · exact absurd hv h
        · rfl
      have hk2 : ¬ (m_isKept = false) := by rw [b4, hk]; decide
      obtain ⟨j1, j2, j3, j4⟩ := b6 hk
      obtain ⟨u0, u1, u2, u3, -⟩ := z13 hk2
      have m32 := (i_fl u0 u1 u2 u3).2.2
      obtain ⟨l1, l2, l3⟩ := id j4
      rw [if_neg h, cp_e a8 a9 a10 a11 a12 a13 c8 c9 c10 c11 c12 c13] at f8
      rw [if_neg hk2] at f9
      obtain ⟨x1, x2, x3, x4, x5, x6, x7, x8, er, f9⟩ := mm_bd8s f9
      obtain ⟨⟨d1, d2⟩, d3, -, d5, -⟩ := co_e (by omega) (by omega) (by omega) (by omega) (by omega) z6 z7 z8 z9 z10 z11 er
      rw [y0, y5] at d5
      rw [y0] at d3
      have f8' : some (v_kept_folds, v_kept_rows, v_kept_cols, v_kept_high, v_kept_wide, v_kept_folds, v_kept_wrong, v_kept_more, v_kept_rowOf, v_kept_colOf, v_kept_below, v_kept_face, v_kept_worn, v_kept_last) = some (r8, p_now_rows, p_now_cols, p_now_high, p_now_wide, p_now_folds, p_now_wrong, p_now_more, p_now_rowOf, p_now_colOf, p_now_below, p_now_face, p_now_worn, p_now_last) := f8
      apply mm_sub14 f8'
      apply mm_sub13 f9
      rw [d1, d2]
      refine ⟨j3, j1, j2, j3, b4, ⟨?_, ?_, fun k hk3 => ?_⟩, fun _ => ⟨j1, j2, j3, lg_t j4 (by rw [← j1, ← j2]; exact m32) ?_ ?_ (fun j j0 j1 => d3 j (by omega) (by omega))⟩⟩
      · rw [ge_is _ _ _ _ (by omega), y0, if_pos rfl, ge_ig, y5]
        exact l1
      · rw [ge_is _ _ _ _ (by omega), y0, if_pos rfl, ge_ig, y5]
        exact l2
      · rw [← j1, ← j2] at hk3
        obtain ⟨u1, u2, u3, u4⟩ := d5 k (by omega)
        rw [j1, j2] at hk3
        obtain ⟨v1, v2, v3, v4⟩ := l3 k hk3
        exact ⟨by rw [u1]; exact v1, by rw [u2]; exact v2, by rw [u3]; exact v3, by rw [u4]; exact v4⟩
      · rw [ge_is _ _ _ _ (by omega), y0, if_neg (by decide)]
      · rw [ge_is _ _ _ _ (by omega), y0, if_neg (by decide)]
  obtain ⟨s1, s2, s3, s4⟩ := hr_1
  have X : rl_cr p_now_wrong p_now_worn p_now_last v_hasImage v_kept_wrong v_kept_worn v_kept_last q_wronged m_imageWronged q_worn q_lastBend := by
    have f8 := e8
    have f9 := e9
    unfold fX8_back at f8
    unfold fX9_back at f9
    by_cases h : v_hasImage = false
    · rw [if_pos h] at f8
      rw [if_pos (by rw [b4]; exact h)] at f9
      apply mm_sub14 f8
      apply mm_sub13 f9
      exact ⟨s1, s2, s3, s4⟩
    · have hk : v_hasImage = true := by
        cases hv : v_hasImage
        · exact absurd hv h
        · rfl
      have hk2 : ¬ (m_isKept = false) := by rw [b4, hk]; decide
      obtain ⟨j1, j2, j3⟩ := s4 hk
      rw [if_neg h, cp_e a8 a9 a10 a11 a12 a13 c8 c9 c10 c11 c12 c13] at f8
      rw [if_neg hk2] at f9
      obtain ⟨x1, x2, x3, x4, x5, x6, x7, x8, er, f9⟩ := mm_bd8s f9
      obtain ⟨-, -, d4, -, d6⟩ := co_e (by omega) (by omega) (by omega) (by omega) (by omega) z6 z7 z8 z9 z10 z11 er
      rw [y0, y5] at d6
      rw [y0] at d4
      have f8' : some (v_kept_folds, v_kept_rows, v_kept_cols, v_kept_high, v_kept_wide, v_kept_folds, v_kept_wrong, v_kept_more, v_kept_rowOf, v_kept_colOf, v_kept_below, v_kept_face, v_kept_worn, v_kept_last) = some (r8, p_now_rows, p_now_cols, p_now_high, p_now_wide, p_now_folds, p_now_wrong, p_now_more, p_now_rowOf, p_now_colOf, p_now_below, p_now_face, p_now_worn, p_now_last) := f8
      apply mm_sub14 f8'
      apply mm_sub13 f9
      exact ⟨j1, fun k hk => (d6 k hk).1.trans (j2 k hk), fun k hk => (d6 k hk).2.trans (j3 k hk), fun _ => ⟨j1, fun k hk => (d4 _ (by omega) (by omega)).1.trans (j2 k hk), fun k hk => (d4 _ (by omega) (by omega)).2.trans (j3 k hk)⟩⟩
  obtain ⟨er, R⟩ := RR
  subst er
  exact ⟨_, _, _, _, _, _, _, _, _, _, _, _, _, _, _, _, _, _, _, _, _, _, _, _, _, _, e8, e9, k8, k9, R, X⟩
end
