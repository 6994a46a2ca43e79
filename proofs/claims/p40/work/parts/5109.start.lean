/-! From the entry -/
set_option maxHeartbeats 8000000 in
set_option maxRecDepth 100000 in
theorem whole_start {p : Program} {e : Env} {s : State} {m : MethodId} {below : List Frame} {meth : Method} {c : Code} (l : Launch) (hflags : l.flags = flags0) {b L : Nat} {xs : Nat → Int32} (hL : L ≤ 3072) (C0 : lw_At p s m meth c b L xs) : W p l e room_1 s m #[Value.ref b] below meth c s.heap [] 0 0 (lw_Z below #[Value.ref b] s) (entryFrame m ([Value.ref b] : List Value).toArray 4) := by
  obtain ⟨D, cI, cL, cS, cH, C1, hO1, hO2⟩ := mm_start C0
  obtain ⟨hx, hb, hr, hml, hown, hts, hX, hbl, hlocks, hgv⟩ := id C0
  have hA : ∀ q : Nat, s.heap.size ≤ q → (fun q : Nat => s.heap.size ≤ q) q := fun _ h => h
  have hbA : ¬ (fun q : Nat => s.heap.size ≤ q) b := Nat.not_le.mpr hbl
  have hS : va_S (fun q : Nat => s.heap.size ≤ q) s.heap s.heap [] := va_S.rf
  have hP : va_P D mm_cl [] s.heap := fun k q h => by simp at h
  have hD : va_D (fun q : Nat => s.heap.size ≤ q) [] := ⟨fun i j p q h => by simp at h, fun k q h => by simp at h⟩
  have hl := lv_entry ([.ref b]) (n := 4) (Nat.le_of_ble_eq_true rfl)
  rw [lg_entry_eq]
  generalize (lg_sl ([.ref b]) ++ List.replicate (4 - (lg_sl ([.ref b])).length) Slot.unset).toArray = ls at hl ⊢
  have hl : lv_has ls 4 [(0, .ref b)] := hl
  refine mm_newo (ci := 8) (fs := [.null, .null, .null, .null, .null, .null, .null, .null, .null, .int 0]) C1 hP hD hA hS iw_X8 tyX8 tyX8_ok kl_L_7 kn_X8 ki_X8 rfl (by decide) (Nat.le_of_ble_eq_true rfl) (Nat.le_of_ble_eq_true rfl) dL_law_0 (fun q1 H hP hD hS => ?_)
  refine lv_dup hx hb dL_law_3 rfl ?_
  refine mm_callK (rest := [.ref q1]) C1 hO1 hO2 li_L_9 (cnX8 (o := q1)) (by decide) hl.1 rfl (mm_cat rfl) dL_law_4 (Nat.le_of_ble_eq_true rfl) (Nat.le_of_ble_eq_true rfl) hP hD hA hS (fun a H locs ha0 hPn hDn hSn => ?_)
  clear hP hD hS
  subst ha0
  have hP : va_P D mm_cl (wn_X8 cI cL cS cH a) H := hPn
  have hD : va_D (fun q : Nat => s.heap.size ≤ q) (wn_X8 cI cL cS cH a) := hDn
  have hS := hSn
  refine lv_astore_n (lv' := [(1, .ref (a 0)), (0, .ref b)]) hx hb dL_law_7 rfl hl (by decide) rfl (fun ls hl => ?_)
  refine mm_newo (ci := 9) (fs := [.null, .null, .null, .int 0, .int 0, .int 0, .int 0, .null, .null, .null, .null, .null, .null, .null, .null, .int 0, .int 0, .null, .int 0, .null, .int 0, .int 0, .int 0, .int 0, .int 0, .int 0, .null, .null, .int 0, .int 0, .int 0, .null, .null, .null, .null, .null, .int 0, .int 0, .int 0, .int 0, .int 0, .null, .null, .int 0, .int 0, .int 0, .int 0, .null, .null, .int 0, .int 0, .int 0, .int 0, .int 0, .int 0, .int 0, .int 0, .int 0, .int 0, .int 0, .null, .null, .int 0, .int 0, .int 0, .null, .null, .null, .null]) C1 hP hD hA hS iw_X9 tyX9 tyX9_ok kl_L_10 kn_X9 ki_X9 rfl (by decide) (Nat.le_of_ble_eq_true rfl) (Nat.le_of_ble_eq_true rfl) dL_law_8 (fun q2 H hP hD hS => ?_)
  refine lv_dup hx hb dL_law_11 rfl ?_
  refine mm_callK (rest := [.ref q2]) C1 hO1 hO2 li_L_12 (cnX9 (o := q2)) (by decide) hl.1 rfl (mm_cat rfl) dL_law_12 (Nat.le_of_ble_eq_true rfl) (Nat.le_of_ble_eq_true rfl) hP hD hA hS (fun bm H locs ha0 hPn hDn hSn => ?_)
  clear hP hD hS
  subst ha0
  have hP := hPn
  have hD := hDn
  have hS := hSn
  refine lv_astore_n (lv' := [(2, .ref (bm 0)), (1, .ref (a 0)), (0, .ref b)]) hx hb dL_law_15 rfl hl (by decide) rfl (fun ls hl => ?_)
  refine lv_iconst (v := 0) hx hb dL_law_16 (by decide) ?_
  refine lv_istore_n (lv' := [(3, .int 0), (2, .ref (bm 0)), (1, .ref (a 0)), (0, .ref b)]) hx hb dL_law_17 rfl hl (by decide) rfl (fun ls hl => ?_)
  exact law_loop C0 C1 hL (Nat.le_of_ble_eq_true rfl) (Nat.le_of_ble_eq_true rfl) 512 0 0 ls (by decide) (by omega) (lv_sub hl [3, 2, 1, 0] rfl) false 2 4 2 4 0 0 0 z5_rowOf z5_colOf (mm_zs 32) (mm_zs 32) (mm_zs 64) (mm_zs 64) (mm_zs 64) (mm_zs 32) 2 4 2 4 0 0 0 z5_rowOf z5_colOf (mm_zs 32) (mm_zs 32) (mm_zs 64) (mm_zs 64) (mm_zs 64) (mm_zs 32) 0 0 0 0 0 0 (mm_zs 120) (mm_zs 121) (mm_zs 121) (mm_zs 121) 0 2 4 2 4 0 0 0 z5_rowOf z5_colOf (mm_zs 32) (mm_zs 32) (mm_zs 64) (mm_zs 64) (mm_zs 64) (mm_zs 32) (mm_zs 12) (mm_zs 12) false 0 0 0 0 2 4 2 4 0 0 0 z5_rowOf z5_colOf (mm_zs 32) (mm_zs 32) (mm_zs 64) (mm_zs 64) (mm_zs 64) (mm_zs 32) 2 4 2 4 0 0 0 z5_rowOf z5_colOf (mm_zs 32) (mm_zs 32) (mm_zs 64) (mm_zs 64) (mm_zs 64) (mm_zs 32) 2 4 2 4 0 0 0 z5_rowOf z5_colOf (mm_zs 32) (mm_zs 32) (mm_zs 64) (mm_zs 64) (mm_zs 64) (mm_zs 32) 2 4 2 4 0 0 0 z5_rowOf z5_colOf (mm_zs 32) (mm_zs 32) (mm_zs 64) (mm_zs 64) (mm_zs 64) (mm_zs 32) (mm_zs 3) (mm_zs 3) (mm_zs 680) (mm_zs 8) (mm_zs 7) 20 0 0 (mm_zs 40) (mm_zs 40) 0 0 0 (mm_zs 50) (mm_zs 24) 0 0 0 0 (mm_zl 60) 0 0 0 0 (mm_zl 60) 0 0 0 0 (mm_zl 60) 0 0 0 0 (mm_zl 60) 0 0 0 0 (mm_zl 60) 0 0 0 0 (mm_zl 60) 0 0 2 4 0 0 0 (-1) 0 0 0 0 0 0 0 0 0 0 0 0 0 false 0 0 0 0 0 0 0 0 false 0 0 0 0 0 0 0 0 z9_limit (mm_zs 40) (mm_zs 40) z9_shapeRows z9_shapeColumns z9_row z9_column (mm_zs 192) (mm_zs 192) (mm_zs 384) (mm_zs 384) (mm_zs 120) (mm_zs 120) (mm_zs 6) (mm_zs 64) (mm_zs 32) (mm_zs 32) (mm_zs 64) (mm_zs 12) (mm_zs 12) (mm_zs 3) (mm_zs 3) (mm_zs 7) (mm_zs 7) (mm_zs 50) (mm_zs 24) z9_shelf (mm_zs 6) (mm_zl 360) (mm_zl 60) H locs nw_sh nw_ch nw_la nw_pl nw_sf nw_sf nw_sf nw_sf nw_sf nw_sf nw_sh nw_se nw_sh nw_sh nw_sh nw_sh nw_st nw_sh nw_fo nw_gm_ch nw_gm_sh nw_gm_tx nw_gm_pl nw_gm_se nw_gm_or nw_gm_bo nw_gm_sf nw_ch9 ⟨rfl, rfl⟩ ⟨rfl, rfl⟩ ⟨rfl, rfl⟩ ⟨rfl, rfl, rfl, fun h => absurd h (by decide)⟩ ⟨Or.inl ⟨rfl, by decide +kernel⟩, Or.inl ⟨rfl, by decide +kernel⟩, Or.inl ⟨rfl, by decide +kernel⟩, Or.inl ⟨rfl, by decide +kernel⟩, Or.inl ⟨rfl, by decide +kernel⟩, Or.inl ⟨rfl, by decide +kernel⟩⟩ nw_it ⟨rfl, rfl, rfl⟩ hP hD hS
