abbrev rm_X10_misread : Room := { frames := 1, cells := 0, slots := 0, locals := 21 }
def w_X10_misread (σ : eS) (x1 : Int32) (x2 : Int32) (post : Int32 → eS → Prop) : Prop := w_X10_isLetter σ x1 (fun r2 σ1 => ((r2 = 0 → post (-1 : Int32) σ1) ∧ (¬ (r2 = 0) → ((x2 < 0 → post (-1 : Int32) σ1) ∧ (¬ (x2 < 0) → ((x2 < (7 : Int32) → False) ∧ (¬ (x2 < (7 : Int32)) → post (-1 : Int32) σ1)))))))
set_option maxHeartbeats 4000000 in
set_option maxRecDepth 100000 in
theorem c_X10_misread {l : Launch} {D : va_G} {ρ : Nat → Nat} {κ : Nat → ClassId} {base : Nat} {σ : eS} {x1 : Int32} {x2 : Int32} {post : Int32 → eS → Prop} (h : w_X10_misread σ x1 x2 post) : gMi l yX10_misread wsX10_misread rm_X10_misread D ρ κ base [.ref (ρ (0)), .int (x1), .int (x2)] σ post := by
  refine e_ofWi (cc := cX10_misread) (maxL := 3) (ret := (some .int)) (by decide) rfl (Nat.le_of_ble_eq_true rfl) ?_
  intro p e s m below meth c ls C K G hl
  obtain ⟨hx, hb, hml, hown, hts, hr, hlocks⟩ := id C
  have hl : lv_has ls 3 [(0, .ref (ρ (0))), (1, .int (x1)), (2, .int (x2))] := hl
  unfold w_X10_misread at h
  refine lv_aload_n hx hb dX10_misread_0 rfl (lv_at hl 0 rfl) ?_
  refine lv_iload_n hx hb dX10_misread_1 rfl (lv_at hl 1 rfl) ?_
  refine e_callVi (As := [.int (x1)]) (rest := []) ⟨hx, hb, hml, hown, hts⟩ K G 0 (by decide) gl_0 rfl (c_X10_isLetter h) (cwV 1 hts gX10_misread_X10_isLetter rfl rfl rfl (by decide +kernel) ⟨Nat.le_of_ble_eq_true rfl, Nat.le_of_ble_eq_true rfl⟩) rfl hl.1 rfl (Nat.le_of_ble_eq_true rfl) dX10_misread_2 ⟨Nat.zero_le _, Nat.zero_le _⟩ (fun r2 σ1 H locs h G => ?_)
  refine lv_if_eq (tgt := 18) hx hb dX10_misread_5 (by decide) (fun c3 => ?_) (fun c3 => ?_)
  · have h := h.1 c3
    refine lv_iconst (v := (-1 : Int32)) hx hb dX10_misread_18 (by decide) ?_
    exact e_iret hx hb hr hlocks G h dX10_misread_19
  · have h := h.2 c3
    refine lv_iload_n hx hb dX10_misread_8 rfl (lv_at hl 2 rfl) ?_
    refine lv_if_lt (tgt := 18) hx hb dX10_misread_9 (by decide) (fun c4 => ?_) (fun c4 => ?_)
    · have h := h.1 c4
      refine lv_iconst (v := (-1 : Int32)) hx hb dX10_misread_18 (by decide) ?_
      exact e_iret hx hb hr hlocks G h dX10_misread_19
    · have h := h.2 c4
      refine lv_iload_n hx hb dX10_misread_12 rfl (lv_at hl 2 rfl) ?_
      refine lv_bipush (v := (7 : Int32)) hx hb dX10_misread_13 (by decide) ?_
      refine lv_icmp_lt (tgt := 20) hx hb dX10_misread_15 (by decide) (fun c5 => ?_) (fun c5 => ?_)
      · have h := h.1 c5
        refine lv_aload_n hx hb dX10_misread_20 rfl (lv_at hl 0 rfl) ?_
        refine lv_iload_n hx hb dX10_misread_21 rfl (lv_at hl 1 rfl) ?_
        refine lv_iload_n hx hb dX10_misread_22 rfl (lv_at hl 2 rfl) ?_
        exact h.elim
      · have h := h.2 c5
        refine lv_iconst (v := (-1 : Int32)) hx hb dX10_misread_18 (by decide) ?_
        exact e_iret hx hb hr hlocks G h dX10_misread_19
abbrev rm_X11_misread : Room := { frames := 2, cells := 0, slots := 0, locals := 46 }
theorem in_X11_misread_X11 : ∀ w ∈ wsX110, w ∈ wsX11_misread := fun w h => List.mem_cons_of_mem _ (List.mem_append_right _ h)
def w_X11_misread (σ : eS) (x1 : Int32) (x2 : Int32) (post : Int32 → eS → Prop) : Prop := ∀ σ1 : eS, σ1 = e_ui σ 97 18 (0 : Int32) → w_X11_isLetter σ1 x1 (fun r3 σ2 => ((r3 = 0 → post (-1 : Int32) σ2) ∧ (¬ (r3 = 0) → w_X11_in σ2 (x2.toInt64) (0 : Int64) (6 : Int64) (fun r6 σ5 => ((¬ r6 = 0 → w_X11_layOut σ5 x2 (fun σ8 => False)) ∧ (r6 = 0 → post (-1 : Int32) σ5))))))
set_option maxHeartbeats 4000000 in
set_option maxRecDepth 100000 in
theorem c_X11_misread {l : Launch} {D : va_G} {ρ : Nat → Nat} {κ : Nat → ClassId} {base : Nat} {σ : eS} {x1 : Int32} {x2 : Int32} {post : Int32 → eS → Prop} (h : w_X11_misread σ x1 x2 post) : gMi l yX11_misread wsX11_misread rm_X11_misread D ρ κ base [.ref (ρ (97)), .int (x1), .int (x2)] σ post := by
  refine e_ofWi (cc := cX11_misread) (maxL := 3) (ret := (some .int)) (by decide) rfl (Nat.le_of_ble_eq_true rfl) ?_
  intro p e s m below meth c ls C K G hl
  obtain ⟨hx, hb, hml, hown, hts, hr, hlocks⟩ := id C
  have hl : lv_has ls 3 [(0, .ref (ρ (97))), (1, .int (x1)), (2, .int (x2))] := hl
  unfold w_X11_misread at h
  refine lv_aload_n hx hb dX11_misread_0 rfl (lv_at hl 0 rfl) ?_
  refine lv_iconst (v := (0 : Int32)) hx hb dX11_misread_1 (by decide) ?_
  refine e_puti hx hb hts in_X11_misread_X11 tyX11 tyX11_ok nmX11 hown K G 97 (by decide) gl_97 rfl 18 (by decide) rfl (hts (.fieldLink RX11 98 "StreetsStepOnModel" "thrown" "I") (e_mem (n := 1) rfl)) rfl (tyX11_ok 18 (by decide)) rfl rfl dX11_misread_2 (fun H locs G => ?_)
  obtain ⟨σ1, eσ1⟩ : ∃ z : eS, z = e_ui σ 97 18 (0 : Int32) := ⟨_, rfl⟩
  rw [← eσ1] at G
  have h := h σ1 eσ1
  refine lv_aload_n hx hb dX11_misread_5 rfl (lv_at hl 0 rfl) ?_
  refine lv_iload_n hx hb dX11_misread_6 rfl (lv_at hl 1 rfl) ?_
  refine e_callVi (As := [.int (x1)]) (rest := []) ⟨hx, hb, hml, hown, hts⟩ K G 97 (by decide) gl_97 rfl (c_X11_isLetter h) (cwV 1 hts gX11_misread_X11_isLetter rfl rfl rfl (by decide +kernel) ⟨Nat.le_of_ble_eq_true rfl, Nat.le_of_ble_eq_true rfl⟩) rfl hl.1 rfl (Nat.le_of_ble_eq_true rfl) dX11_misread_7 ⟨Nat.zero_le _, Nat.zero_le _⟩ (fun r3 σ2 H locs h G => ?_)
  refine lv_if_eq (tgt := 25) hx hb dX11_misread_10 (by decide) (fun c4 => ?_) (fun c4 => ?_)
  · have h := h.1 c4
    refine lv_iconst (v := (-1 : Int32)) hx hb dX11_misread_25 (by decide) ?_
    exact e_iret hx hb hr hlocks G h dX11_misread_26
  · have h := h.2 c4
    refine lv_iload_n hx hb dX11_misread_13 rfl (lv_at hl 2 rfl) ?_
    refine lv_i2l hx hb dX11_misread_14 rfl ?_
    refine lv_lconst (v := (0 : Int64)) hx hb dX11_misread_15 (by decide) ?_
    refine lv_ldc2 (v := (6 : Int64)) hx hb hown (hts (.constantLong RX11 276 (6)) (e_mem (n := 2) rfl)) dX11_misread_16 ?_
    refine e_callSi (As := [.long (x2.toInt64), .long ((0 : Int64)), .long ((6 : Int64))]) (rest := []) ⟨hx, hb, hml, hown, hts⟩ K G (c_X11_in h) (va_cwS 3 hts gX11_misread_X11_in rfl rfl rfl (by decide +kernel) ⟨Nat.le_of_ble_eq_true rfl, Nat.le_of_ble_eq_true rfl⟩) rfl hl.1 rfl (Nat.le_of_ble_eq_true rfl) dX11_misread_19 ⟨Nat.zero_le _, Nat.zero_le _⟩ (fun r6 σ5 H locs h G => ?_)
    refine lv_if_ne (tgt := 27) hx hb dX11_misread_22 (by decide) (fun c7 => ?_) (fun c7 => ?_)
    · have h := h.1 c7
      refine lv_aload_n hx hb dX11_misread_27 rfl (lv_at hl 0 rfl) ?_
      refine lv_iload_n hx hb dX11_misread_28 rfl (lv_at hl 2 rfl) ?_
      refine e_callVv (As := [.int (x2)]) (rest := []) ⟨hx, hb, hml, hown, hts⟩ K G 97 (by decide) gl_97 rfl (c_X11_layOut h) (cwV 1 hts gX11_misread_X11_layOut rfl rfl rfl (by decide +kernel) ⟨Nat.le_of_ble_eq_true rfl, Nat.le_of_ble_eq_true rfl⟩) rfl hl.1 rfl (Nat.le_of_ble_eq_true rfl) dX11_misread_29 ⟨Nat.zero_le _, Nat.zero_le _⟩ (fun σ8 H locs h G => ?_)
      refine lv_aload_n hx hb dX11_misread_32 rfl (lv_at hl 0 rfl) ?_
      refine lv_iload_n hx hb dX11_misread_33 rfl (lv_at hl 1 rfl) ?_
      exact h.elim
    · have h := h.2 c7
      refine lv_iconst (v := (-1 : Int32)) hx hb dX11_misread_25 (by decide) ?_
      exact e_iret hx hb hr hlocks G h dX11_misread_26
abbrev rm_X10_shifts : Room := { frames := 1, cells := 0, slots := 0, locals := 21 }
def w_X10_shifts (σ : eS) (x1 : Int32) (post : Int32 → eS → Prop) : Prop := w_X10_isLetter σ x1 (fun r2 σ1 => ((¬ r2 = 0 → False) ∧ (r2 = 0 → post (-1 : Int32) σ1)))
set_option maxHeartbeats 4000000 in
set_option maxRecDepth 100000 in
theorem c_X10_shifts {l : Launch} {D : va_G} {ρ : Nat → Nat} {κ : Nat → ClassId} {base : Nat} {σ : eS} {x1 : Int32} {post : Int32 → eS → Prop} (h : w_X10_shifts σ x1 post) : gMi l yX10_shifts wsX10_shifts rm_X10_shifts D ρ κ base [.ref (ρ (0)), .int (x1)] σ post := by
  refine e_ofWi (cc := cX10_shifts) (maxL := 5) (ret := (some .int)) (by decide) rfl (Nat.le_of_ble_eq_true rfl) ?_
  intro p e s m below meth c ls C K G hl
  obtain ⟨hx, hb, hml, hown, hts, hr, hlocks⟩ := id C
  have hl : lv_has ls 5 [(0, .ref (ρ (0))), (1, .int (x1))] := hl
  unfold w_X10_shifts at h
  refine lv_aload_n hx hb dX10_shifts_0 rfl (lv_at hl 0 rfl) ?_
  refine lv_iload_n hx hb dX10_shifts_1 rfl (lv_at hl 1 rfl) ?_
  refine e_callVi (As := [.int (x1)]) (rest := []) ⟨hx, hb, hml, hown, hts⟩ K G 0 (by decide) gl_0 rfl (c_X10_isLetter h) (cwV 1 hts gX10_shifts_X10_isLetter rfl rfl rfl (by decide +kernel) ⟨Nat.le_of_ble_eq_true rfl, Nat.le_of_ble_eq_true rfl⟩) rfl hl.1 rfl (Nat.le_of_ble_eq_true rfl) dX10_shifts_2 ⟨Nat.zero_le _, Nat.zero_le _⟩ (fun r2 σ1 H locs h G => ?_)
  refine lv_if_ne (tgt := 10) hx hb dX10_shifts_5 (by decide) (fun c3 => ?_) (fun c3 => ?_)
  · have h := h.1 c3
    refine lv_aload_n hx hb dX10_shifts_10 rfl (lv_at hl 0 rfl) ?_
    refine lv_iload_n hx hb dX10_shifts_11 rfl (lv_at hl 1 rfl) ?_
    exact h.elim
  · have h := h.2 c3
    refine lv_iconst (v := (-1 : Int32)) hx hb dX10_shifts_8 (by decide) ?_
    exact e_iret hx hb hr hlocks G h dX10_shifts_9
abbrev rm_X11_shifts : Room := { frames := 2, cells := 0, slots := 0, locals := 46 }
theorem in_X11_shifts_X11 : ∀ w ∈ wsX110, w ∈ wsX11_shifts := fun w h => List.mem_cons_of_mem _ (List.mem_append_right _ h)
def w_X11_shifts (σ : eS) (x1 : Int32) (post : Int32 → eS → Prop) : Prop := ∀ σ1 : eS, σ1 = e_ui σ 97 18 (0 : Int32) → w_X11_isLetter σ1 x1 (fun r3 σ2 => ((¬ r3 = 0 → w_X11_layOut σ2 (0 : Int32) (fun σ5 => False)) ∧ (r3 = 0 → post (-1 : Int32) σ2)))
set_option maxHeartbeats 4000000 in
set_option maxRecDepth 100000 in
theorem c_X11_shifts {l : Launch} {D : va_G} {ρ : Nat → Nat} {κ : Nat → ClassId} {base : Nat} {σ : eS} {x1 : Int32} {post : Int32 → eS → Prop} (h : w_X11_shifts σ x1 post) : gMi l yX11_shifts wsX11_shifts rm_X11_shifts D ρ κ base [.ref (ρ (97)), .int (x1)] σ post := by
  refine e_ofWi (cc := cX11_shifts) (maxL := 5) (ret := (some .int)) (by decide) rfl (Nat.le_of_ble_eq_true rfl) ?_
  intro p e s m below meth c ls C K G hl
  obtain ⟨hx, hb, hml, hown, hts, hr, hlocks⟩ := id C
  have hl : lv_has ls 5 [(0, .ref (ρ (97))), (1, .int (x1))] := hl
  unfold w_X11_shifts at h
  refine lv_aload_n hx hb dX11_shifts_0 rfl (lv_at hl 0 rfl) ?_
  refine lv_iconst (v := (0 : Int32)) hx hb dX11_shifts_1 (by decide) ?_
  refine e_puti hx hb hts in_X11_shifts_X11 tyX11 tyX11_ok nmX11 hown K G 97 (by decide) gl_97 rfl 18 (by decide) rfl (hts (.fieldLink RX11 98 "StreetsStepOnModel" "thrown" "I") (e_mem (n := 1) rfl)) rfl (tyX11_ok 18 (by decide)) rfl rfl dX11_shifts_2 (fun H locs G => ?_)
  obtain ⟨σ1, eσ1⟩ : ∃ z : eS, z = e_ui σ 97 18 (0 : Int32) := ⟨_, rfl⟩
  rw [← eσ1] at G
  have h := h σ1 eσ1
  refine lv_aload_n hx hb dX11_shifts_5 rfl (lv_at hl 0 rfl) ?_
  refine lv_iload_n hx hb dX11_shifts_6 rfl (lv_at hl 1 rfl) ?_
  refine e_callVi (As := [.int (x1)]) (rest := []) ⟨hx, hb, hml, hown, hts⟩ K G 97 (by decide) gl_97 rfl (c_X11_isLetter h) (cwV 1 hts gX11_shifts_X11_isLetter rfl rfl rfl (by decide +kernel) ⟨Nat.le_of_ble_eq_true rfl, Nat.le_of_ble_eq_true rfl⟩) rfl hl.1 rfl (Nat.le_of_ble_eq_true rfl) dX11_shifts_7 ⟨Nat.zero_le _, Nat.zero_le _⟩ (fun r3 σ2 H locs h G => ?_)
  refine lv_if_ne (tgt := 15) hx hb dX11_shifts_10 (by decide) (fun c4 => ?_) (fun c4 => ?_)
  · have h := h.1 c4
    refine lv_aload_n hx hb dX11_shifts_15 rfl (lv_at hl 0 rfl) ?_
    refine lv_iconst (v := (0 : Int32)) hx hb dX11_shifts_16 (by decide) ?_
    refine e_callVv (As := [.int ((0 : Int32))]) (rest := []) ⟨hx, hb, hml, hown, hts⟩ K G 97 (by decide) gl_97 rfl (c_X11_layOut h) (cwV 1 hts gX11_shifts_X11_layOut rfl rfl rfl (by decide +kernel) ⟨Nat.le_of_ble_eq_true rfl, Nat.le_of_ble_eq_true rfl⟩) rfl hl.1 rfl (Nat.le_of_ble_eq_true rfl) dX11_shifts_17 ⟨Nat.zero_le _, Nat.zero_le _⟩ (fun σ5 H locs h G => ?_)
    refine lv_aload_n hx hb dX11_shifts_20 rfl (lv_at hl 0 rfl) ?_
    refine lv_iload_n hx hb dX11_shifts_21 rfl (lv_at hl 1 rfl) ?_
    exact h.elim
  · have h := h.2 c4
    refine lv_iconst (v := (-1 : Int32)) hx hb dX11_shifts_13 (by decide) ?_
    exact e_iret hx hb hr hlocks G h dX11_shifts_14
abbrev rm_X10_asks : Room := { frames := 2, cells := 0, slots := 0, locals := 45 }
theorem in_X10_asks_X1 : ∀ w ∈ wsX10, w ∈ wsX10_asks := fun w h => List.mem_cons_of_mem _ (List.mem_append_left _ (List.mem_append_left _ (List.mem_append_left _ (List.mem_append_right _ h))))
theorem in_X10_asks_X10 : ∀ w ∈ wsX100, w ∈ wsX10_asks := fun w h => List.mem_cons_of_mem _ (List.mem_append_left _ (List.mem_append_left _ (List.mem_append_left _ (List.mem_append_left _ (List.mem_append_right _ h)))))
def w_X10_asks (σ : eS) (x1 : Int32) (x2 : Int64) (x4 : Int64) (post : Int32 → eS → Prop) : Prop := w_X10_isStreet σ x1 (fun r2 σ1 => ((r2 = 0 → post (-1 : Int32) σ1) ∧ (¬ (r2 = 0) → w_X10_isSpan σ1 x2 x4 (60 : Int32) (fun r5 σ4 => ((¬ r5 = 0 → (((σ4.1 5 4) ≤ (6 : Int32) → False) ∧ (¬ ((σ4.1 5 4) ≤ (6 : Int32)) → post (-3 : Int32) σ4))) ∧ (r5 = 0 → post (-1 : Int32) σ4))))))
set_option maxHeartbeats 4000000 in
set_option maxRecDepth 100000 in
theorem c_X10_asks {l : Launch} {D : va_G} {ρ : Nat → Nat} {κ : Nat → ClassId} {base : Nat} {σ : eS} {x1 : Int32} {x2 : Int64} {x4 : Int64} {post : Int32 → eS → Prop} (h : w_X10_asks σ x1 x2 x4 post) : gMi l yX10_asks wsX10_asks rm_X10_asks D ρ κ base [.ref (ρ (0)), .int (x1), .long (x2), .long (x4)] σ post := by
  refine e_ofWi (cc := cX10_asks) (maxL := 7) (ret := (some .int)) (by decide) rfl (Nat.le_of_ble_eq_true rfl) ?_
  intro p e s m below meth c ls C K G hl
  obtain ⟨hx, hb, hml, hown, hts, hr, hlocks⟩ := id C
  have hl : lv_has ls 7 [(0, .ref (ρ (0))), (1, .int (x1)), (2, .long (x2)), (4, .long (x4))] := hl
  unfold w_X10_asks at h
  refine lv_aload_n hx hb dX10_asks_0 rfl (lv_at hl 0 rfl) ?_
  refine lv_iload_n hx hb dX10_asks_1 rfl (lv_at hl 1 rfl) ?_
  refine e_callVi (As := [.int (x1)]) (rest := []) ⟨hx, hb, hml, hown, hts⟩ K G 0 (by decide) gl_0 rfl (c_X10_isStreet h) (cwV 1 hts gX10_asks_X10_isStreet rfl rfl rfl (by decide +kernel) ⟨Nat.le_of_ble_eq_true rfl, Nat.le_of_ble_eq_true rfl⟩) rfl hl.1 rfl (Nat.le_of_ble_eq_true rfl) dX10_asks_2 ⟨Nat.zero_le _, Nat.zero_le _⟩ (fun r2 σ1 H locs h G => ?_)
  refine lv_if_eq (tgt := 19) hx hb dX10_asks_5 (by decide) (fun c3 => ?_) (fun c3 => ?_)
  · have h := h.1 c3
    refine lv_iconst (v := (-1 : Int32)) hx hb dX10_asks_19 (by decide) ?_
    exact e_iret hx hb hr hlocks G h dX10_asks_20
  · have h := h.2 c3
    refine lv_lload_n hx hb dX10_asks_8 rfl (lv_at hl 2 rfl) ?_
    refine lv_lload hx hb dX10_asks_9 (lv_at hl 3 rfl) ?_
    refine lv_bipush (v := (60 : Int32)) hx hb dX10_asks_11 (by decide) ?_
    refine e_callSi (As := [.long (x2), .long (x4), .int ((60 : Int32))]) (rest := []) ⟨hx, hb, hml, hown, hts⟩ K G (c_X10_isSpan h) (va_cwS 3 hts gX10_asks_X10_isSpan rfl rfl rfl (by decide +kernel) ⟨Nat.le_of_ble_eq_true rfl, Nat.le_of_ble_eq_true rfl⟩) rfl hl.1 rfl (Nat.le_of_ble_eq_true rfl) dX10_asks_13 ⟨Nat.zero_le _, Nat.zero_le _⟩ (fun r5 σ4 H locs h G => ?_)
    refine lv_if_ne (tgt := 21) hx hb dX10_asks_16 (by decide) (fun c6 => ?_) (fun c6 => ?_)
    · have h := h.1 c6
      refine lv_aload_n hx hb dX10_asks_21 rfl (lv_at hl 0 rfl) ?_
      refine e_getq hx hb hts in_X10_asks_X10 hown K G 0 (by decide) gl_0 rfl 2 (by decide) 5 rfl (hts (.fieldLink RX10 26 "StreetsStepOn" "book" "LStreetsStepOn$Book;") (e_mem (n := 1) rfl)) dX10_asks_22 ?_
      refine e_getiN hx hb hts in_X10_asks_X1 hown K G 5 (by decide) gl_5 rfl 4 (by decide) rfl (e_memq (n := 18) rfl) dX10_asks_25 ?_
      refine lv_bipush (v := (6 : Int32)) hx hb dX10_asks_28 (by decide) ?_
      refine lv_icmp_le (tgt := 36) hx hb dX10_asks_30 (by decide) (fun c7 => ?_) (fun c7 => ?_)
      · have h := h.1 c7
        refine lv_aload_n hx hb dX10_asks_36 rfl (lv_at hl 0 rfl) ?_
        refine e_getq hx hb hts in_X10_asks_X10 hown K G 0 (by decide) gl_0 rfl 9 (by decide) 47 rfl (hts (.fieldLink RX10 72 "StreetsStepOn" "inquiry" "LStreetsStepOn$Inquiry;") (e_mem (n := 2) rfl)) dX10_asks_37 ?_
        refine lv_aload_n hx hb dX10_asks_40 rfl (lv_at hl 0 rfl) ?_
        refine e_getq hx hb hts in_X10_asks_X10 hown K G 0 (by decide) gl_0 rfl 5 (by decide) 32 rfl (hts (.fieldLink RX10 44 "StreetsStepOn" "almanac" "LStreetsStepOn$Almanac;") (e_mem (n := 3) rfl)) dX10_asks_41 ?_
        refine lv_aload_n hx hb dX10_asks_44 rfl (lv_at hl 0 rfl) ?_
        refine e_getq hx hb hts in_X10_asks_X10 hown K G 0 (by decide) gl_0 rfl 2 (by decide) 5 rfl (hts (.fieldLink RX10 26 "StreetsStepOn" "book" "LStreetsStepOn$Book;") (e_mem (n := 1) rfl)) dX10_asks_45 ?_
        refine e_getiN hx hb hts in_X10_asks_X1 hown K G 5 (by decide) gl_5 rfl 4 (by decide) rfl (e_memq (n := 18) rfl) dX10_asks_48 ?_
        refine lv_iload_n hx hb dX10_asks_51 rfl (lv_at hl 1 rfl) ?_
        refine lv_lload_n hx hb dX10_asks_52 rfl (lv_at hl 2 rfl) ?_
        refine lv_lload hx hb dX10_asks_53 (lv_at hl 3 rfl) ?_
        refine lv_lload_n hx hb dX10_asks_55 rfl (lv_at hl 2 rfl) ?_
        refine lv_lsub hx hb dX10_asks_56 ?_
        refine lv_l2i hx hb dX10_asks_57 rfl ?_
        refine lv_iconst (v := (1 : Int32)) hx hb dX10_asks_58 (by decide) ?_
        refine lv_iadd hx hb dX10_asks_59 ?_
        exact h.elim
      · have h := h.2 c7
        refine lv_bipush (v := (-3 : Int32)) hx hb dX10_asks_33 (by decide) ?_
        exact e_iret hx hb hr hlocks G h dX10_asks_35
    · have h := h.2 c6
      refine lv_iconst (v := (-1 : Int32)) hx hb dX10_asks_19 (by decide) ?_
      exact e_iret hx hb hr hlocks G h dX10_asks_20
abbrev rm_X11_asks : Room := { frames := 3, cells := 0, slots := 0, locals := 70 }
theorem in_X11_asks_X11 : ∀ w ∈ wsX110, w ∈ wsX11_asks := fun w h => List.mem_cons_of_mem _ (List.mem_append_right _ h)
def b_X11_asks_139 (post : Int32 → eS → Prop) (K67 : eS → Int32 → Int64 → Int64 → Int64 → Int32 → Int64 → Prop) (σ : eS) (x1 : Int32) (x2 : Int64) (x4 : Int64) (x8 : Int32) (x9 : Int64) (y0 : Int64) (y1 : Int64) : Prop := ∀ v19 : Int64, v19 = (y1 ||| y0) → False
set_option maxHeartbeats 4000000 in
set_option maxRecDepth 100000 in
theorem l_X11_asks_139 {p : Program} {l : Launch} {e : Env} {s : State} {m : MethodId} {args : Array Value} {below : List Frame} {meth : Method} {c : Code} {D : va_G} {ρ : Nat → Nat} {κ : Nat → ClassId} {base : Nat} {post : Int32 → eS → Prop} (C : eCx p s m args meth c cX11_asks RX11 14 (some .int) wsX11_asks) (K : gK D ρ κ base s) {K67 : eS → Int32 → Int64 → Int64 → Int64 → Int32 → Int64 → Prop} (hK67 : ∀ (σ : eS) (x1 : Int32) (x2 : Int64) (x4 : Int64) (x6 : Int64) (x8 : Int32) (x9 : Int64) (H : Heap) (locs : List Loc) (ls : Array Slot), K67 σ x1 x2 x4 x6 x8 x9 → gG D ρ κ base s σ H locs → lv_has ls 14 [(0, .ref (ρ (97))), (1, .int (x1)), (2, .long (x2)), (4, .long (x4)), (6, .long (x6)), (8, .int (x8)), (9, .long (x9))] → W p l e rm_X11_asks s m args below meth c H locs 0 0 (gQi below args s D ρ κ base post) (F0 m 67 ls [])) : ∀ (σ : eS) (x1 : Int32) (x2 : Int64) (x4 : Int64) (x8 : Int32) (x9 : Int64) (y0 : Int64) (y1 : Int64) (H : Heap) (locs : List Loc) (ls : Array Slot), b_X11_asks_139 post K67 σ x1 x2 x4 x8 x9 y0 y1 → gG D ρ κ base s σ H locs → lv_has ls 14 [(0, .ref (ρ (97))), (1, .int (x1)), (2, .long (x2)), (4, .long (x4)), (8, .int (x8)), (9, .long (x9))] → W p l e rm_X11_asks s m args below meth c H locs 0 0 (gQi below args s D ρ κ base post) (F0 m 139 ls [.long (y0), .long (y1)]) := by
  obtain ⟨hx, hb, hml, hown, hts, hr, hlocks⟩ := id C
  intro σ x1 x2 x4 x8 x9 y0 y1 H locs ls h G hl
  unfold b_X11_asks_139 at h
  refine lv_lor hx hb dX11_asks_139 ?_
  refine lv_topl (fun v19 ev19 => ?_)
  have h := h v19 ev19
  refine lv_lstore (lv' := [(6, .long (v19)), (0, .ref (ρ (97))), (1, .int (x1)), (2, .long (x2)), (4, .long (x4)), (8, .int (x8)), (9, .long (x9))]) hx hb dX11_asks_140 hl (by decide) rfl (fun ls hl => ?_)
  refine lv_iload hx hb dX11_asks_142 (lv_at hl 5 rfl) ?_
  refine lv_iconst (v := (1 : Int32)) hx hb dX11_asks_144 (by decide) ?_
  refine lv_aload_n hx hb dX11_asks_145 rfl (lv_at hl 1 rfl) ?_
  refine lv_iload_n hx hb dX11_asks_146 rfl (lv_at hl 2 rfl) ?_
  refine lv_lload hx hb dX11_asks_147 (lv_at hl 6 rfl) ?_
  exact h.elim
def b_X11_asks_121 (post : Int32 → eS → Prop) (K67 : eS → Int32 → Int64 → Int64 → Int64 → Int32 → Int64 → Prop) (σ : eS) (x1 : Int32) (x2 : Int64) (x4 : Int64) (x6 : Int64) (x8 : Int32) (x9 : Int64) (x11 : Int32) : Prop := ((x11 = 0 → b_X11_asks_139 post K67 σ x1 x2 x4 x8 x9 (0 : Int64) x6) ∧ (¬ (x11 = 0) → b_X11_asks_139 post K67 σ x1 x2 x4 x8 x9 ((1 : Int64) <<< (((x9 - x2).toInt32).toInt64 &&& 63)) x6))
set_option maxHeartbeats 4000000 in
set_option maxRecDepth 100000 in
theorem l_X11_asks_121 {p : Program} {l : Launch} {e : Env} {s : State} {m : MethodId} {args : Array Value} {below : List Frame} {meth : Method} {c : Code} {D : va_G} {ρ : Nat → Nat} {κ : Nat → ClassId} {base : Nat} {post : Int32 → eS → Prop} (C : eCx p s m args meth c cX11_asks RX11 14 (some .int) wsX11_asks) (K : gK D ρ κ base s) {K67 : eS → Int32 → Int64 → Int64 → Int64 → Int32 → Int64 → Prop} (hK67 : ∀ (σ : eS) (x1 : Int32) (x2 : Int64) (x4 : Int64) (x6 : Int64) (x8 : Int32) (x9 : Int64) (H : Heap) (locs : List Loc) (ls : Array Slot), K67 σ x1 x2 x4 x6 x8 x9 → gG D ρ κ base s σ H locs → lv_has ls 14 [(0, .ref (ρ (97))), (1, .int (x1)), (2, .long (x2)), (4, .long (x4)), (6, .long (x6)), (8, .int (x8)), (9, .long (x9))] → W p l e rm_X11_asks s m args below meth c H locs 0 0 (gQi below args s D ρ κ base post) (F0 m 67 ls [])) : ∀ (σ : eS) (x1 : Int32) (x2 : Int64) (x4 : Int64) (x6 : Int64) (x8 : Int32) (x9 : Int64) (x11 : Int32) (H : Heap) (locs : List Loc) (ls : Array Slot), b_X11_asks_121 post K67 σ x1 x2 x4 x6 x8 x9 x11 → gG D ρ κ base s σ H locs → lv_has ls 14 [(0, .ref (ρ (97))), (1, .int (x1)), (2, .long (x2)), (4, .long (x4)), (6, .long (x6)), (8, .int (x8)), (9, .long (x9)), (11, .int (x11))] → W p l e rm_X11_asks s m args below meth c H locs 0 0 (gQi below args s D ρ κ base post) (F0 m 121 ls []) := by
  obtain ⟨hx, hb, hml, hown, hts, hr, hlocks⟩ := id C
  intro σ x1 x2 x4 x6 x8 x9 x11 H locs ls h G hl
  unfold b_X11_asks_121 at h
  refine lv_lload hx hb dX11_asks_121 (lv_at hl 4 rfl) ?_
  refine lv_iload hx hb dX11_asks_123 (lv_at hl 7 rfl) ?_
  refine lv_if_eq (tgt := 138) hx hb dX11_asks_125 (by decide) (fun c18 => ?_) (fun c18 => ?_)
  · have h := h.1 c18
    refine lv_lconst (v := (0 : Int64)) hx hb dX11_asks_138 (by decide) ?_
    exact l_X11_asks_139 C K (hK67 := hK67) σ x1 x2 x4 x8 x9 (0 : Int64) x6 _ _ _  h G (lv_sub hl [0, 1, 2, 3, 5, 6] rfl)
  · have h := h.2 c18
    refine lv_lconst (v := (1 : Int64)) hx hb dX11_asks_128 (by decide) ?_
    refine lv_lload hx hb dX11_asks_129 (lv_at hl 6 rfl) ?_
    refine lv_lload_n hx hb dX11_asks_131 rfl (lv_at hl 2 rfl) ?_
    refine lv_lsub hx hb dX11_asks_132 ?_
    refine lv_l2i hx hb dX11_asks_133 rfl ?_
    refine lv_lshl hx hb dX11_asks_134 rfl ?_
    refine lv_goto (tgt := 139) hx hb dX11_asks_135 (by decide) ?_
    exact l_X11_asks_139 C K (hK67 := hK67) σ x1 x2 x4 x8 x9 ((1 : Int64) <<< (((x9 - x2).toInt32).toInt64 &&& 63)) x6 _ _ _  h G (lv_sub hl [0, 1, 2, 3, 5, 6] rfl)
def b_X11_asks_81 (post : Int32 → eS → Prop) (K67 : eS → Int32 → Int64 → Int64 → Int64 → Int32 → Int64 → Prop) : Nat → eS → Int32 → Int64 → Int64 → Int64 → Int32 → Int64 → Int32 → Int64 → Prop
  | 0, _, _, _, _, _, _, _, _, _ => False
  | n + 1, σ, x1, x2, x4, x6, x8, x9, x11, x12 => ((0 ≤ (lg_cmp x12 x9) → b_X11_asks_121 post K67 σ x1 x2 x4 x6 x8 x9 x11) ∧ (¬ (0 ≤ (lg_cmp x12 x9)) → ((x11 = 0 → b_X11_asks_121 post K67 σ x1 x2 x4 x6 x8 x9 x11) ∧ (¬ (x11 = 0) → False))))
set_option maxHeartbeats 4000000 in
set_option maxRecDepth 100000 in
theorem l_X11_asks_81 {p : Program} {l : Launch} {e : Env} {s : State} {m : MethodId} {args : Array Value} {below : List Frame} {meth : Method} {c : Code} {D : va_G} {ρ : Nat → Nat} {κ : Nat → ClassId} {base : Nat} {post : Int32 → eS → Prop} (C : eCx p s m args meth c cX11_asks RX11 14 (some .int) wsX11_asks) (K : gK D ρ κ base s) {K67 : eS → Int32 → Int64 → Int64 → Int64 → Int32 → Int64 → Prop} (hK67 : ∀ (σ : eS) (x1 : Int32) (x2 : Int64) (x4 : Int64) (x6 : Int64) (x8 : Int32) (x9 : Int64) (H : Heap) (locs : List Loc) (ls : Array Slot), K67 σ x1 x2 x4 x6 x8 x9 → gG D ρ κ base s σ H locs → lv_has ls 14 [(0, .ref (ρ (97))), (1, .int (x1)), (2, .long (x2)), (4, .long (x4)), (6, .long (x6)), (8, .int (x8)), (9, .long (x9))] → W p l e rm_X11_asks s m args below meth c H locs 0 0 (gQi below args s D ρ κ base post) (F0 m 67 ls [])) : ∀ (n : Nat) (σ : eS) (x1 : Int32) (x2 : Int64) (x4 : Int64) (x6 : Int64) (x8 : Int32) (x9 : Int64) (x11 : Int32) (x12 : Int64) (H : Heap) (locs : List Loc) (ls : Array Slot), b_X11_asks_81 post K67 n σ x1 x2 x4 x6 x8 x9 x11 x12 → gG D ρ κ base s σ H locs → lv_has ls 14 [(0, .ref (ρ (97))), (1, .int (x1)), (2, .long (x2)), (4, .long (x4)), (6, .long (x6)), (8, .int (x8)), (9, .long (x9)), (11, .int (x11)), (12, .long (x12))] → W p l e rm_X11_asks s m args below meth c H locs 0 0 (gQi below args s D ρ κ base post) (F0 m 81 ls []) := by
  obtain ⟨hx, hb, hml, hown, hts, hr, hlocks⟩ := id C
  intro n
  induction n with
  | zero => intro σ x1 x2 x4 x6 x8 x9 x11 x12 H locs ls h G hl; exact False.elim h
  | succ n ih =>
    intro σ x1 x2 x4 x6 x8 x9 x11 x12 H locs ls h G hl
    rw [b_X11_asks_81] at h
    refine lv_lload hx hb dX11_asks_81 (lv_at hl 8 rfl) ?_
    refine lv_lload hx hb dX11_asks_83 (lv_at hl 6 rfl) ?_
    refine W.lcmp hx hb dX11_asks_85 ?_
    refine lv_if_ge (tgt := 121) hx hb dX11_asks_86 (by decide) (fun c17 => ?_) (fun c17 => ?_)
    · have h := h.1 c17
      exact l_X11_asks_121 C K (hK67 := hK67) σ x1 x2 x4 x6 x8 x9 x11 _ _ _  h G (lv_sub hl [0, 1, 2, 3, 4, 5, 6, 7] rfl)
    · have h := h.2 c17
      refine lv_iload hx hb dX11_asks_89 (lv_at hl 7 rfl) ?_
      refine lv_if_eq (tgt := 121) hx hb dX11_asks_91 (by decide) (fun c20 => ?_) (fun c20 => ?_)
      · have h := h.1 c20
        exact l_X11_asks_121 C K (hK67 := hK67) σ x1 x2 x4 x6 x8 x9 x11 _ _ _  h G (lv_sub hl [0, 1, 2, 3, 4, 5, 6, 7] rfl)
      · have h := h.2 c20
        refine lv_aload_n hx hb dX11_asks_94 rfl (lv_at hl 0 rfl) ?_
        refine lv_lload hx hb dX11_asks_95 (lv_at hl 8 rfl) ?_
        refine lv_lload hx hb dX11_asks_97 (lv_at hl 6 rfl) ?_
        exact h.elim
def b_X11_asks_67 (post : Int32 → eS → Prop) : Nat → eS → Int32 → Int64 → Int64 → Int64 → Int32 → Int64 → Prop
  | 0, _, _, _, _, _, _, _ => False
  | n + 1, σ, x1, x2, x4, x6, x8, x9 => ((0 < (lg_cmp x9 x4) → False) ∧ (¬ (0 < (lg_cmp x9 x4)) → ∀ v16 : Int32, v16 = (1 : Int32) → (∃ n21 : Nat, b_X11_asks_81 post (fun s x1 x2 x4 x6 x8 x9 => b_X11_asks_67 post n s x1 x2 x4 x6 x8 x9) n21 σ x1 x2 x4 x6 x8 x9 v16 x2)))
set_option maxHeartbeats 4000000 in
set_option maxRecDepth 100000 in
theorem l_X11_asks_67 {p : Program} {l : Launch} {e : Env} {s : State} {m : MethodId} {args : Array Value} {below : List Frame} {meth : Method} {c : Code} {D : va_G} {ρ : Nat → Nat} {κ : Nat → ClassId} {base : Nat} {post : Int32 → eS → Prop} (C : eCx p s m args meth c cX11_asks RX11 14 (some .int) wsX11_asks) (K : gK D ρ κ base s) : ∀ (n : Nat) (σ : eS) (x1 : Int32) (x2 : Int64) (x4 : Int64) (x6 : Int64) (x8 : Int32) (x9 : Int64) (H : Heap) (locs : List Loc) (ls : Array Slot), b_X11_asks_67 post n σ x1 x2 x4 x6 x8 x9 → gG D ρ κ base s σ H locs → lv_has ls 14 [(0, .ref (ρ (97))), (1, .int (x1)), (2, .long (x2)), (4, .long (x4)), (6, .long (x6)), (8, .int (x8)), (9, .long (x9))] → W p l e rm_X11_asks s m args below meth c H locs 0 0 (gQi below args s D ρ κ base post) (F0 m 67 ls []) := by
  obtain ⟨hx, hb, hml, hown, hts, hr, hlocks⟩ := id C
  intro n
  induction n with
  | zero => intro σ x1 x2 x4 x6 x8 x9 H locs ls h G hl; exact False.elim h
  | succ n ih =>
    intro σ x1 x2 x4 x6 x8 x9 H locs ls h G hl
    rw [b_X11_asks_67] at h
    refine lv_lload hx hb dX11_asks_67 (lv_at hl 6 rfl) ?_
    refine lv_lload hx hb dX11_asks_69 (lv_at hl 3 rfl) ?_
    refine W.lcmp hx hb dX11_asks_71 ?_
    refine lv_if_gt (tgt := 165) hx hb dX11_asks_72 (by decide) (fun c15 => ?_) (fun c15 => ?_)
    · have h := h.1 c15
      refine lv_aload_n hx hb dX11_asks_165 rfl (lv_at hl 0 rfl) ?_
      refine lv_lload hx hb dX11_asks_166 (lv_at hl 4 rfl) ?_
      refine lv_iconst (v := (0 : Int32)) hx hb dX11_asks_168 (by decide) ?_
      refine lv_iconst (v := (1 : Int32)) hx hb dX11_asks_169 (by decide) ?_
      exact h.elim
    · have h := h.2 c15
      refine lv_iconst (v := (1 : Int32)) hx hb dX11_asks_75 (by decide) ?_
      refine lv_topi (fun v16 ev16 => ?_)
      have h := h v16 ev16
      refine lv_istore (lv' := [(11, .int (v16)), (0, .ref (ρ (97))), (1, .int (x1)), (2, .long (x2)), (4, .long (x4)), (6, .long (x6)), (8, .int (x8)), (9, .long (x9))]) hx hb dX11_asks_76 hl (by decide) rfl (fun ls hl => ?_)
      refine lv_lload_n hx hb dX11_asks_78 rfl (lv_at hl 3 rfl) ?_
      refine lv_lstore (lv' := [(12, .long (x2)), (11, .int (v16)), (0, .ref (ρ (97))), (1, .int (x1)), (2, .long (x2)), (4, .long (x4)), (6, .long (x6)), (8, .int (x8)), (9, .long (x9))]) hx hb dX11_asks_79 hl (by decide) rfl (fun ls hl => ?_)
      obtain ⟨n21, h⟩ := h
      exact l_X11_asks_81 C K (hK67 := ih) n21 σ x1 x2 x4 x6 x8 x9 v16 x2 _ _ _  h G (lv_sub hl [2, 3, 4, 5, 6, 7, 8, 1, 0] rfl)
def w_X11_asks (σ : eS) (x1 : Int32) (x2 : Int64) (x4 : Int64) (post : Int32 → eS → Prop) : Prop := ∀ σ1 : eS, σ1 = e_ui σ 97 18 (0 : Int32) → w_X11_isStreet σ1 x1 (fun r3 σ2 => ((r3 = 0 → post (-1 : Int32) σ2) ∧ (¬ (r3 = 0) → w_X11_areDays σ2 x2 x4 (60 : Int32) (fun r6 σ5 => ((¬ r6 = 0 → (((σ5.1 97 0) ≤ (6 : Int32) → w_X11_layOut σ5 (0 : Int32) (fun σ9 => ∀ σ10 : eS, σ10 = e_ul σ9 97 28 x2 → ∀ σ11 : eS, σ11 = e_ui σ10 97 29 x1 → ∀ σ12 : eS, σ12 = e_ui σ11 97 30 (-1 : Int32) → ∀ v13 : Int64, v13 = (0 : Int64) → ∀ v14 : Int32, v14 = (0 : Int32) → (∃ n22 : Nat, b_X11_asks_67 post n22 σ12 x1 x2 x4 v13 v14 x2))) ∧ (¬ ((σ5.1 97 0) ≤ (6 : Int32)) → post (-3 : Int32) σ5))) ∧ (r6 = 0 → post (-1 : Int32) σ5))))))
set_option maxHeartbeats 4000000 in
set_option maxRecDepth 100000 in
theorem c_X11_asks {l : Launch} {D : va_G} {ρ : Nat → Nat} {κ : Nat → ClassId} {base : Nat} {σ : eS} {x1 : Int32} {x2 : Int64} {x4 : Int64} {post : Int32 → eS → Prop} (h : w_X11_asks σ x1 x2 x4 post) : gMi l yX11_asks wsX11_asks rm_X11_asks D ρ κ base [.ref (ρ (97)), .int (x1), .long (x2), .long (x4)] σ post := by
  refine e_ofWi (cc := cX11_asks) (maxL := 14) (ret := (some .int)) (by decide) rfl (Nat.le_of_ble_eq_true rfl) ?_
  intro p e s m below meth c ls C K G hl
  obtain ⟨hx, hb, hml, hown, hts, hr, hlocks⟩ := id C
  have hl : lv_has ls 14 [(0, .ref (ρ (97))), (1, .int (x1)), (2, .long (x2)), (4, .long (x4))] := hl
  unfold w_X11_asks at h
  refine lv_aload_n hx hb dX11_asks_0 rfl (lv_at hl 0 rfl) ?_
  refine lv_iconst (v := (0 : Int32)) hx hb dX11_asks_1 (by decide) ?_
  refine e_puti hx hb hts in_X11_asks_X11 tyX11 tyX11_ok nmX11 hown K G 97 (by decide) gl_97 rfl 18 (by decide) rfl (hts (.fieldLink RX11 98 "StreetsStepOnModel" "thrown" "I") (e_mem (n := 1) rfl)) rfl (tyX11_ok 18 (by decide)) rfl rfl dX11_asks_2 (fun H locs G => ?_)
  obtain ⟨σ1, eσ1⟩ : ∃ z : eS, z = e_ui σ 97 18 (0 : Int32) := ⟨_, rfl⟩
  rw [← eσ1] at G
  have h := h σ1 eσ1
  refine lv_aload_n hx hb dX11_asks_5 rfl (lv_at hl 0 rfl) ?_
  refine lv_iload_n hx hb dX11_asks_6 rfl (lv_at hl 1 rfl) ?_
  refine e_callVi (As := [.int (x1)]) (rest := []) ⟨hx, hb, hml, hown, hts⟩ K G 97 (by decide) gl_97 rfl (c_X11_isStreet h) (cwV 1 hts gX11_asks_X11_isStreet rfl rfl rfl (by decide +kernel) ⟨Nat.le_of_ble_eq_true rfl, Nat.le_of_ble_eq_true rfl⟩) rfl hl.1 rfl (Nat.le_of_ble_eq_true rfl) dX11_asks_7 ⟨Nat.zero_le _, Nat.zero_le _⟩ (fun r3 σ2 H locs h G => ?_)
  refine lv_if_eq (tgt := 24) hx hb dX11_asks_10 (by decide) (fun c4 => ?_) (fun c4 => ?_)
  · have h := h.1 c4
    refine lv_iconst (v := (-1 : Int32)) hx hb dX11_asks_24 (by decide) ?_
    exact e_iret hx hb hr hlocks G h dX11_asks_25
  · have h := h.2 c4
    refine lv_lload_n hx hb dX11_asks_13 rfl (lv_at hl 2 rfl) ?_
    refine lv_lload hx hb dX11_asks_14 (lv_at hl 3 rfl) ?_
    refine lv_bipush (v := (60 : Int32)) hx hb dX11_asks_16 (by decide) ?_
    refine e_callSi (As := [.long (x2), .long (x4), .int ((60 : Int32))]) (rest := []) ⟨hx, hb, hml, hown, hts⟩ K G (c_X11_areDays h) (va_cwS 3 hts gX11_asks_X11_areDays rfl rfl rfl (by decide +kernel) ⟨Nat.le_of_ble_eq_true rfl, Nat.le_of_ble_eq_true rfl⟩) rfl hl.1 rfl (Nat.le_of_ble_eq_true rfl) dX11_asks_18 ⟨Nat.zero_le _, Nat.zero_le _⟩ (fun r6 σ5 H locs h G => ?_)
    refine lv_if_ne (tgt := 26) hx hb dX11_asks_21 (by decide) (fun c7 => ?_) (fun c7 => ?_)
    · have h := h.1 c7
      refine lv_aload_n hx hb dX11_asks_26 rfl (lv_at hl 0 rfl) ?_
      refine e_geti hx hb hts in_X11_asks_X11 hown K G 97 (by decide) gl_97 rfl 0 (by decide) rfl (hts (.fieldLink RX11 104 "StreetsStepOnModel" "streets" "I") (e_mem (n := 2) rfl)) dX11_asks_27 ?_
      refine lv_bipush (v := (6 : Int32)) hx hb dX11_asks_30 (by decide) ?_
      refine lv_icmp_le (tgt := 38) hx hb dX11_asks_32 (by decide) (fun c8 => ?_) (fun c8 => ?_)
      · have h := h.1 c8
        refine lv_aload_n hx hb dX11_asks_38 rfl (lv_at hl 0 rfl) ?_
        refine lv_iconst (v := (0 : Int32)) hx hb dX11_asks_39 (by decide) ?_
        refine e_callVv (As := [.int ((0 : Int32))]) (rest := []) ⟨hx, hb, hml, hown, hts⟩ K G 97 (by decide) gl_97 rfl (c_X11_layOut h) (cwV 1 hts gX11_asks_X11_layOut rfl rfl rfl (by decide +kernel) ⟨Nat.le_of_ble_eq_true rfl, Nat.le_of_ble_eq_true rfl⟩) rfl hl.1 rfl (Nat.le_of_ble_eq_true rfl) dX11_asks_40 ⟨Nat.zero_le _, Nat.zero_le _⟩ (fun σ9 H locs h G => ?_)
        refine lv_aload_n hx hb dX11_asks_43 rfl (lv_at hl 0 rfl) ?_
        refine lv_lload_n hx hb dX11_asks_44 rfl (lv_at hl 2 rfl) ?_
        refine e_putl hx hb hts in_X11_asks_X11 tyX11 tyX11_ok nmX11 hown K G 97 (by decide) gl_97 rfl 28 (by decide) rfl (hts (.fieldLink RX11 281 "StreetsStepOnModel" "fromDay" "J") (e_mem (n := 3) rfl)) rfl rfl dX11_asks_45 (fun H locs G => ?_)
        obtain ⟨σ10, eσ10⟩ : ∃ z : eS, z = e_ul σ9 97 28 x2 := ⟨_, rfl⟩
        rw [← eσ10] at G
        have h := h σ10 eσ10
        refine lv_aload_n hx hb dX11_asks_48 rfl (lv_at hl 0 rfl) ?_
        refine lv_iload_n hx hb dX11_asks_49 rfl (lv_at hl 1 rfl) ?_
        refine e_puti hx hb hts in_X11_asks_X11 tyX11 tyX11_ok nmX11 hown K G 97 (by decide) gl_97 rfl 29 (by decide) rfl (hts (.fieldLink RX11 278 "StreetsStepOnModel" "askedName" "I") (e_mem (n := 4) rfl)) rfl (tyX11_ok 29 (by decide)) rfl rfl dX11_asks_50 (fun H locs G => ?_)
        obtain ⟨σ11, eσ11⟩ : ∃ z : eS, z = e_ui σ10 97 29 x1 := ⟨_, rfl⟩
        rw [← eσ11] at G
        have h := h σ11 eσ11
        refine lv_aload_n hx hb dX11_asks_53 rfl (lv_at hl 0 rfl) ?_
        refine lv_iconst (v := (-1 : Int32)) hx hb dX11_asks_54 (by decide) ?_
        refine e_puti hx hb hts in_X11_asks_X11 tyX11 tyX11_ok nmX11 hown K G 97 (by decide) gl_97 rfl 30 (by decide) rfl (hts (.fieldLink RX11 291 "StreetsStepOnModel" "firstAsked" "I") (e_mem (n := 5) rfl)) rfl (tyX11_ok 30 (by decide)) rfl rfl dX11_asks_55 (fun H locs G => ?_)
        obtain ⟨σ12, eσ12⟩ : ∃ z : eS, z = e_ui σ11 97 30 (-1 : Int32) := ⟨_, rfl⟩
        rw [← eσ12] at G
        have h := h σ12 eσ12
        refine lv_lconst (v := (0 : Int64)) hx hb dX11_asks_58 (by decide) ?_
        refine lv_topl (fun v13 ev13 => ?_)
        have h := h v13 ev13
        refine lv_lstore (lv' := [(6, .long (v13)), (0, .ref (ρ (97))), (1, .int (x1)), (2, .long (x2)), (4, .long (x4))]) hx hb dX11_asks_59 hl (by decide) rfl (fun ls hl => ?_)
        refine lv_iconst (v := (0 : Int32)) hx hb dX11_asks_61 (by decide) ?_
        refine lv_topi (fun v14 ev14 => ?_)
        have h := h v14 ev14
        refine lv_istore (lv' := [(8, .int (v14)), (6, .long (v13)), (0, .ref (ρ (97))), (1, .int (x1)), (2, .long (x2)), (4, .long (x4))]) hx hb dX11_asks_62 hl (by decide) rfl (fun ls hl => ?_)
        refine lv_lload_n hx hb dX11_asks_64 rfl (lv_at hl 4 rfl) ?_
        refine lv_lstore (lv' := [(9, .long (x2)), (8, .int (v14)), (6, .long (v13)), (0, .ref (ρ (97))), (1, .int (x1)), (2, .long (x2)), (4, .long (x4))]) hx hb dX11_asks_65 hl (by decide) rfl (fun ls hl => ?_)
        obtain ⟨n22, h⟩ := h
        exact l_X11_asks_67 C K n22 σ12 x1 x2 x4 v13 v14 x2 _ _ _  h G (lv_sub hl [3, 4, 5, 6, 2, 1, 0] rfl)
      · have h := h.2 c8
        refine lv_bipush (v := (-3 : Int32)) hx hb dX11_asks_35 (by decide) ?_
        exact e_iret hx hb hr hlocks G h dX11_asks_37
    · have h := h.2 c7
      refine lv_iconst (v := (-1 : Int32)) hx hb dX11_asks_24 (by decide) ?_
      exact e_iret hx hb hr hlocks G h dX11_asks_25
abbrev rm_X10_answer : Room := { frames := 1, cells := 0, slots := 0, locals := 21 }
theorem in_X10_answer_X1 : ∀ w ∈ wsX10, w ∈ wsX10_answer := fun w h => List.mem_cons_of_mem _ (List.mem_append_left _ (List.mem_append_right _ h))
theorem in_X10_answer_X10 : ∀ w ∈ wsX100, w ∈ wsX10_answer := fun w h => List.mem_cons_of_mem _ (List.mem_append_left _ (List.mem_append_left _ (List.mem_append_right _ h)))
def w_X10_answer (σ : eS) (x1 : Int32) (x2 : Int32) (post : Int32 → eS → Prop) : Prop := w_X10_isLetter σ x1 (fun r2 σ1 => ((r2 = 0 → post (-1 : Int32) σ1) ∧ (¬ (r2 = 0) → w_X10_isStreet σ1 x2 (fun r5 σ4 => ((¬ r5 = 0 → (vp_in x1 12) ∧ False) ∧ (r5 = 0 → post (-1 : Int32) σ4))))))
set_option maxHeartbeats 4000000 in
set_option maxRecDepth 100000 in
theorem c_X10_answer {l : Launch} {D : va_G} {ρ : Nat → Nat} {κ : Nat → ClassId} {base : Nat} {σ : eS} {x1 : Int32} {x2 : Int32} {post : Int32 → eS → Prop} (h : w_X10_answer σ x1 x2 post) : gMi l yX10_answer wsX10_answer rm_X10_answer D ρ κ base [.ref (ρ (0)), .int (x1), .int (x2)] σ post := by
  refine e_ofWi (cc := cX10_answer) (maxL := 3) (ret := (some .int)) (by decide) rfl (Nat.le_of_ble_eq_true rfl) ?_
  intro p e s m below meth c ls C K G hl
  obtain ⟨hx, hb, hml, hown, hts, hr, hlocks⟩ := id C
  have hl : lv_has ls 3 [(0, .ref (ρ (0))), (1, .int (x1)), (2, .int (x2))] := hl
  unfold w_X10_answer at h
  refine lv_aload_n hx hb dX10_answer_0 rfl (lv_at hl 0 rfl) ?_
  refine lv_iload_n hx hb dX10_answer_1 rfl (lv_at hl 1 rfl) ?_
  refine e_callVi (As := [.int (x1)]) (rest := []) ⟨hx, hb, hml, hown, hts⟩ K G 0 (by decide) gl_0 rfl (c_X10_isLetter h) (cwV 1 hts gX10_answer_X10_isLetter rfl rfl rfl (by decide +kernel) ⟨Nat.le_of_ble_eq_true rfl, Nat.le_of_ble_eq_true rfl⟩) rfl hl.1 rfl (Nat.le_of_ble_eq_true rfl) dX10_answer_2 ⟨Nat.zero_le _, Nat.zero_le _⟩ (fun r2 σ1 H locs h G => ?_)
  refine lv_if_eq (tgt := 16) hx hb dX10_answer_5 (by decide) (fun c3 => ?_) (fun c3 => ?_)
  · have h := h.1 c3
    refine lv_iconst (v := (-1 : Int32)) hx hb dX10_answer_16 (by decide) ?_
    exact e_iret hx hb hr hlocks G h dX10_answer_17
  · have h := h.2 c3
    refine lv_aload_n hx hb dX10_answer_8 rfl (lv_at hl 0 rfl) ?_
    refine lv_iload_n hx hb dX10_answer_9 rfl (lv_at hl 2 rfl) ?_
    refine e_callVi (As := [.int (x2)]) (rest := []) ⟨hx, hb, hml, hown, hts⟩ K G 0 (by decide) gl_0 rfl (c_X10_isStreet h) (cwV 1 hts gX10_answer_X10_isStreet rfl rfl rfl (by decide +kernel) ⟨Nat.le_of_ble_eq_true rfl, Nat.le_of_ble_eq_true rfl⟩) rfl hl.1 rfl (Nat.le_of_ble_eq_true rfl) dX10_answer_10 ⟨Nat.zero_le _, Nat.zero_le _⟩ (fun r5 σ4 H locs h G => ?_)
    refine lv_if_ne (tgt := 18) hx hb dX10_answer_13 (by decide) (fun c6 => ?_) (fun c6 => ?_)
    · have h := h.1 c6
      refine lv_aload_n hx hb dX10_answer_18 rfl (lv_at hl 0 rfl) ?_
      refine e_getq hx hb hts in_X10_answer_X10 hown K G 0 (by decide) gl_0 rfl 5 (by decide) 32 rfl (hts (.fieldLink RX10 44 "StreetsStepOn" "almanac" "LStreetsStepOn$Almanac;") (e_mem (n := 1) rfl)) dX10_answer_19 ?_
      refine lv_iload_n hx hb dX10_answer_22 rfl (lv_at hl 2 rfl) ?_
      refine lv_aload_n hx hb dX10_answer_23 rfl (lv_at hl 0 rfl) ?_
      refine e_getq hx hb hts in_X10_answer_X10 hown K G 0 (by decide) gl_0 rfl 2 (by decide) 5 rfl (hts (.fieldLink RX10 26 "StreetsStepOn" "book" "LStreetsStepOn$Book;") (e_mem (n := 2) rfl)) dX10_answer_24 ?_
      refine e_getqN hx hb hts in_X10_answer_X1 hown K G 5 (by decide) gl_5 rfl 3 (by decide) 16 rfl (e_memq (n := 13) rfl) dX10_answer_27 ?_
      refine lv_iload_n hx hb dX10_answer_30 rfl (lv_at hl 1 rfl) ?_
      have hi7 := h.1
      have h := h.2
      refine e_lald hx hb K G 16 1 1 12 (by decide) gl_16 rfl hi7 dX10_answer_31 ?_
      exact h.elim
    · have h := h.2 c6
      refine lv_iconst (v := (-1 : Int32)) hx hb dX10_answer_16 (by decide) ?_
      exact e_iret hx hb hr hlocks G h dX10_answer_17
abbrev rm_X11_answer : Room := { frames := 2, cells := 0, slots := 0, locals := 46 }
theorem in_X11_answer_X11 : ∀ w ∈ wsX110, w ∈ wsX11_answer := fun w h => List.mem_cons_of_mem _ (List.mem_append_right _ h)
def w_X11_answer (σ : eS) (x1 : Int32) (x2 : Int32) (post : Int32 → eS → Prop) : Prop := ∀ σ1 : eS, σ1 = e_ui σ 97 18 (0 : Int32) → w_X11_isLetter σ1 x1 (fun r3 σ2 => ((r3 = 0 → post (-1 : Int32) σ2) ∧ (¬ (r3 = 0) → w_X11_isStreet σ2 x2 (fun r6 σ5 => ((r6 = 0 → post (-1 : Int32) σ5) ∧ (¬ (r6 = 0) → (vp_in x1 12) ∧ False))))))
set_option maxHeartbeats 4000000 in
set_option maxRecDepth 100000 in
theorem c_X11_answer {l : Launch} {D : va_G} {ρ : Nat → Nat} {κ : Nat → ClassId} {base : Nat} {σ : eS} {x1 : Int32} {x2 : Int32} {post : Int32 → eS → Prop} (h : w_X11_answer σ x1 x2 post) : gMi l yX11_answer wsX11_answer rm_X11_answer D ρ κ base [.ref (ρ (97)), .int (x1), .int (x2)] σ post := by
  refine e_ofWi (cc := cX11_answer) (maxL := 3) (ret := (some .int)) (by decide) rfl (Nat.le_of_ble_eq_true rfl) ?_
  intro p e s m below meth c ls C K G hl
  obtain ⟨hx, hb, hml, hown, hts, hr, hlocks⟩ := id C
  have hl : lv_has ls 3 [(0, .ref (ρ (97))), (1, .int (x1)), (2, .int (x2))] := hl
  unfold w_X11_answer at h
  refine lv_aload_n hx hb dX11_answer_0 rfl (lv_at hl 0 rfl) ?_
  refine lv_iconst (v := (0 : Int32)) hx hb dX11_answer_1 (by decide) ?_
  refine e_puti hx hb hts in_X11_answer_X11 tyX11 tyX11_ok nmX11 hown K G 97 (by decide) gl_97 rfl 18 (by decide) rfl (hts (.fieldLink RX11 98 "StreetsStepOnModel" "thrown" "I") (e_mem (n := 1) rfl)) rfl (tyX11_ok 18 (by decide)) rfl rfl dX11_answer_2 (fun H locs G => ?_)
  obtain ⟨σ1, eσ1⟩ : ∃ z : eS, z = e_ui σ 97 18 (0 : Int32) := ⟨_, rfl⟩
  rw [← eσ1] at G
  have h := h σ1 eσ1
  refine lv_aload_n hx hb dX11_answer_5 rfl (lv_at hl 0 rfl) ?_
  refine lv_iload_n hx hb dX11_answer_6 rfl (lv_at hl 1 rfl) ?_
  refine e_callVi (As := [.int (x1)]) (rest := []) ⟨hx, hb, hml, hown, hts⟩ K G 97 (by decide) gl_97 rfl (c_X11_isLetter h) (cwV 1 hts gX11_answer_X11_isLetter rfl rfl rfl (by decide +kernel) ⟨Nat.le_of_ble_eq_true rfl, Nat.le_of_ble_eq_true rfl⟩) rfl hl.1 rfl (Nat.le_of_ble_eq_true rfl) dX11_answer_7 ⟨Nat.zero_le _, Nat.zero_le _⟩ (fun r3 σ2 H locs h G => ?_)
  refine lv_if_eq (tgt := 35) hx hb dX11_answer_10 (by decide) (fun c4 => ?_) (fun c4 => ?_)
  · have h := h.1 c4
    refine lv_iconst (v := (-1 : Int32)) hx hb dX11_answer_35 (by decide) ?_
    exact e_iret hx hb hr hlocks G h dX11_answer_36
  · have h := h.2 c4
    refine lv_aload_n hx hb dX11_answer_13 rfl (lv_at hl 0 rfl) ?_
    refine lv_iload_n hx hb dX11_answer_14 rfl (lv_at hl 2 rfl) ?_
    refine e_callVi (As := [.int (x2)]) (rest := []) ⟨hx, hb, hml, hown, hts⟩ K G 97 (by decide) gl_97 rfl (c_X11_isStreet h) (cwV 1 hts gX11_answer_X11_isStreet rfl rfl rfl (by decide +kernel) ⟨Nat.le_of_ble_eq_true rfl, Nat.le_of_ble_eq_true rfl⟩) rfl hl.1 rfl (Nat.le_of_ble_eq_true rfl) dX11_answer_15 ⟨Nat.zero_le _, Nat.zero_le _⟩ (fun r6 σ5 H locs h G => ?_)
    refine lv_if_eq (tgt := 35) hx hb dX11_answer_18 (by decide) (fun c7 => ?_) (fun c7 => ?_)
    · have h := h.1 c7
      refine lv_iconst (v := (-1 : Int32)) hx hb dX11_answer_35 (by decide) ?_
      exact e_iret hx hb hr hlocks G h dX11_answer_36
    · have h := h.2 c7
      refine lv_aload_n hx hb dX11_answer_21 rfl (lv_at hl 0 rfl) ?_
      refine lv_iload_n hx hb dX11_answer_22 rfl (lv_at hl 2 rfl) ?_
      refine lv_aload_n hx hb dX11_answer_23 rfl (lv_at hl 0 rfl) ?_
      refine e_getq hx hb hts in_X11_answer_X11 hown K G 97 (by decide) gl_97 rfl 9 (by decide) 103 rfl (hts (.fieldLink RX11 25 "StreetsStepOnModel" "letterDay" "[J") (e_mem (n := 2) rfl)) dX11_answer_24 ?_
      refine lv_iload_n hx hb dX11_answer_27 rfl (lv_at hl 1 rfl) ?_
      have hi8 := h.1
      have h := h.2
      refine e_lald hx hb K G 103 1 1 12 (by decide) gl_103 rfl hi8 dX11_answer_28 ?_
      exact h.elim
abbrev rm_J7_fill_53178 : Room := { frames := 0, cells := 0, slots := 0, locals := 0 }
def b_J7_fill_53178_5 (post : eS → Prop) : Nat → eS → Int32 → Int32 → Int32 → Prop
  | 0, _, _, _, _ => False
  | n + 1, σ, x1, x2, x3 => ((x3 ≤ x2 → post σ) ∧ (¬ (x3 ≤ x2) → (vp_in x2 12) ∧ ∀ σ4 : eS, σ4 = e_ui σ 71 x2.toNatClampNeg x1 → ∀ v5 : Int32, v5 = (x2 + (1 : Int32)) → b_J7_fill_53178_5 post n σ4 x1 v5 x3))
set_option maxHeartbeats 4000000 in
set_option maxRecDepth 100000 in
theorem l_J7_fill_53178_5 {p : Program} {l : Launch} {e : Env} {s : State} {m : MethodId} {args : Array Value} {below : List Frame} {meth : Method} {c : Code} {D : va_G} {ρ : Nat → Nat} {κ : Nat → ClassId} {base : Nat} {post : eS → Prop} (C : eCx p s m args meth c cJ7_fill_53178 RJ7 4 none wsJ7_fill_53178) (K : gK D ρ κ base s) : ∀ (n : Nat) (σ : eS) (x1 : Int32) (x2 : Int32) (x3 : Int32) (H : Heap) (locs : List Loc) (ls : Array Slot), b_J7_fill_53178_5 post n σ x1 x2 x3 → gG D ρ κ base s σ H locs → lv_has ls 4 [(0, .ref (ρ (71))), (1, .int (x1)), (2, .int (x2)), (3, .int (x3))] → W p l e rm_J7_fill_53178 s m args below meth c H locs 0 0 (gQv below args s D ρ κ base post) (F0 m 5 ls []) := by
  obtain ⟨hx, hb, hml, hown, hts, hr, hlocks⟩ := id C
  intro n
  induction n with
  | zero => intro σ x1 x2 x3 H locs ls h G hl; exact False.elim h
  | succ n ih =>
    intro σ x1 x2 x3 H locs ls h G hl
    rw [b_J7_fill_53178_5] at h
    refine lv_iload_n hx hb dJ7_fill_53178_5 rfl (lv_at hl 2 rfl) ?_
    refine lv_iload_n hx hb dJ7_fill_53178_6 rfl (lv_at hl 3 rfl) ?_
    refine lv_icmp_ge (tgt := 20) hx hb dJ7_fill_53178_7 (by decide) (fun c2 => ?_) (fun c2 => ?_)
    · have h := h.1 c2
      exact e_vret hx hb hr hlocks G h dJ7_fill_53178_20
    · have h := h.2 c2
      refine lv_aload_n hx hb dJ7_fill_53178_10 rfl (lv_at hl 0 rfl) ?_
      refine lv_iload_n hx hb dJ7_fill_53178_11 rfl (lv_at hl 2 rfl) ?_
      refine lv_iload_n hx hb dJ7_fill_53178_12 rfl (lv_at hl 1 rfl) ?_
      have hi3 := h.1
      have h := h.2
      refine e_iast hx hb K G 71 0 0 12 (by decide) gl_71 rfl hi3 dJ7_fill_53178_13 (fun H locs G => ?_)
      obtain ⟨σ4, eσ4⟩ : ∃ z : eS, z = e_ui σ 71 x2.toNatClampNeg x1 := ⟨_, rfl⟩
      rw [← eσ4] at G
      have h := h σ4 eσ4
      obtain ⟨v5, ev5⟩ : ∃ y : Int32, y = x2 + (1 : Int32) := ⟨_, rfl⟩
      have h := h v5 ev5
      refine lv_iinc (v := v5) (lv' := [(2, .int (v5)), (0, .ref (ρ (71))), (1, .int (x1)), (3, .int (x3))]) hx hb dJ7_fill_53178_14 hl (k := 2) rfl (by rw [ev5]; rfl) (by decide) rfl (fun ls hl => ?_)
      refine lv_goto (tgt := 5) hx hb dJ7_fill_53178_17 (by decide) ?_
      exact ih σ4 x1 v5 x3 _ _ _  h G (lv_sub hl [1, 2, 0, 3] rfl)
def w_J7_fill_53178 (σ : eS) (x1 : Int32) (post : eS → Prop) : Prop := ∀ v1 : Int32, v1 = (0 : Int32) → (∃ n6 : Nat, b_J7_fill_53178_5 post n6 σ x1 v1 12)
set_option maxHeartbeats 4000000 in
set_option maxRecDepth 100000 in
theorem c_J7_fill_53178 {l : Launch} {D : va_G} {ρ : Nat → Nat} {κ : Nat → ClassId} {base : Nat} {σ : eS} {x1 : Int32} {post : eS → Prop} (h : w_J7_fill_53178 σ x1 post) : gMv l yJ7_fill_53178 wsJ7_fill_53178 rm_J7_fill_53178 D ρ κ base [.ref (ρ (71)), .int (x1)] σ post := by
  refine e_ofWv (cc := cJ7_fill_53178) (maxL := 4) (ret := none) (by decide) rfl (Nat.le_of_ble_eq_true rfl) ?_
  intro p e s m below meth c ls C K G hl
  obtain ⟨hx, hb, hml, hown, hts, hr, hlocks⟩ := id C
  have hl : lv_has ls 4 [(0, .ref (ρ (71))), (1, .int (x1))] := hl
  unfold w_J7_fill_53178 at h
  refine lv_iconst (v := (0 : Int32)) hx hb dJ7_fill_53178_0 (by decide) ?_
  refine lv_topi (fun v1 ev1 => ?_)
  have h := h v1 ev1
  refine lv_istore_n (lv' := [(2, .int (v1)), (0, .ref (ρ (71))), (1, .int (x1))]) hx hb dJ7_fill_53178_1 rfl hl (by decide) rfl (fun ls hl => ?_)
  refine lv_aload_n hx hb dJ7_fill_53178_2 rfl (lv_at hl 1 rfl) ?_
  refine e_alen (v := 12) hx hb K G 71 0 0 12 (by decide) gl_71 rfl rfl dJ7_fill_53178_3 ?_
  refine lv_istore_n (lv' := [(3, .int (12)), (2, .int (v1)), (0, .ref (ρ (71))), (1, .int (x1))]) hx hb dJ7_fill_53178_4 rfl hl (by decide) rfl (fun ls hl => ?_)
  obtain ⟨n6, h⟩ := h
  exact l_J7_fill_53178_5 C K n6 σ x1 v1 12 _ _ _  h G (lv_sub hl [2, 3, 1, 0] rfl)
abbrev rm_X10_cycles : Room := { frames := 1, cells := 0, slots := 0, locals := 23 }
theorem in_X10_cycles_X1 : ∀ w ∈ wsX10, w ∈ wsX10_cycles := fun w h => List.mem_cons_of_mem _ (List.mem_append_left _ (List.mem_append_right _ h))
theorem in_X10_cycles_X10 : ∀ w ∈ wsX100, w ∈ wsX10_cycles := fun w h => List.mem_cons_of_mem _ (List.mem_append_left _ (List.mem_append_left _ (List.mem_append_right _ h)))
def b_X10_cycles_100 (post : Int32 → eS → Prop) : Nat → eS → Int32 → Int32 → Prop
  | 0, _, _, _ => False
  | n + 1, σ, x3, x4 => (((σ.1 5 4) ≤ x4 → post x3 σ) ∧ (¬ ((σ.1 5 4) ≤ x4) → (vp_in x4 12) ∧ w_X5_add σ ((σ.1 71 x4.toNatClampNeg).toInt64) (fun σ13 => ∀ v14 : Int32, v14 = (x4 + (1 : Int32)) → b_X10_cycles_100 post n σ13 x3 v14)))
set_option maxHeartbeats 4000000 in
set_option maxRecDepth 100000 in
theorem l_X10_cycles_100 {p : Program} {l : Launch} {e : Env} {s : State} {m : MethodId} {args : Array Value} {below : List Frame} {meth : Method} {c : Code} {D : va_G} {ρ : Nat → Nat} {κ : Nat → ClassId} {base : Nat} {post : Int32 → eS → Prop} (C : eCx p s m args meth c cX10_cycles RX10 6 (some .int) wsX10_cycles) (K : gK D ρ κ base s) : ∀ (n : Nat) (σ : eS) (x3 : Int32) (x4 : Int32) (H : Heap) (locs : List Loc) (ls : Array Slot), b_X10_cycles_100 post n σ x3 x4 → gG D ρ κ base s σ H locs → lv_has ls 6 [(0, .ref (ρ (0))), (3, .int (x3)), (4, .int (x4))] → W p l e rm_X10_cycles s m args below meth c H locs 0 0 (gQi below args s D ρ κ base post) (F0 m 100 ls []) := by
  obtain ⟨hx, hb, hml, hown, hts, hr, hlocks⟩ := id C
  intro n
  induction n with
  | zero => intro σ x3 x4 H locs ls h G hl; exact False.elim h
  | succ n ih =>
    intro σ x3 x4 H locs ls h G hl
    rw [b_X10_cycles_100] at h
    refine lv_iload hx hb dX10_cycles_100 (lv_at hl 2 rfl) ?_
    refine lv_aload_n hx hb dX10_cycles_102 rfl (lv_at hl 0 rfl) ?_
    refine e_getq hx hb hts in_X10_cycles_X10 hown K G 0 (by decide) gl_0 rfl 2 (by decide) 5 rfl (hts (.fieldLink RX10 26 "StreetsStepOn" "book" "LStreetsStepOn$Book;") (e_mem (n := 1) rfl)) dX10_cycles_103 ?_
    refine e_getiN hx hb hts in_X10_cycles_X1 hown K G 5 (by decide) gl_5 rfl 4 (by decide) rfl (e_memq (n := 18) rfl) dX10_cycles_106 ?_
    refine lv_icmp_ge (tgt := 133) hx hb dX10_cycles_109 (by decide) (fun c11 => ?_) (fun c11 => ?_)
    · have h := h.1 c11
      refine lv_iload_n hx hb dX10_cycles_133 rfl (lv_at hl 1 rfl) ?_
      exact e_iret hx hb hr hlocks G h dX10_cycles_134
    · have h := h.2 c11
      refine lv_aload_n hx hb dX10_cycles_112 rfl (lv_at hl 0 rfl) ?_
      refine e_getq hx hb hts in_X10_cycles_X10 hown K G 0 (by decide) gl_0 rfl 1 (by decide) 3 rfl (hts (.fieldLink RX10 19 "StreetsStepOn" "told" "LStreetsStepOn$Row;") (e_mem (n := 3) rfl)) dX10_cycles_113 ?_
      refine lv_aload_n hx hb dX10_cycles_116 rfl (lv_at hl 0 rfl) ?_
      refine e_getq hx hb hts in_X10_cycles_X10 hown K G 0 (by decide) gl_0 rfl 11 (by decide) 71 rfl (hts (.fieldLink RX10 83 "StreetsStepOn" "tally" "[I") (e_mem (n := 2) rfl)) dX10_cycles_117 ?_
      refine lv_iload hx hb dX10_cycles_120 (lv_at hl 2 rfl) ?_
      have hi12 := h.1
      have h := h.2
      refine e_iald hx hb K G 71 0 0 12 (by decide) gl_71 rfl hi12 dX10_cycles_122 ?_
      refine lv_i2l hx hb dX10_cycles_123 rfl ?_
      refine e_callVv (As := [.long ((σ.1 71 x4.toNatClampNeg).toInt64)]) (rest := []) ⟨hx, hb, hml, hown, hts⟩ K G 3 (by decide) gl_3 rfl (c_X5_add h) (cwV 1 hts gX10_cycles_X5_add rfl rfl rfl (by decide +kernel) ⟨Nat.le_of_ble_eq_true rfl, Nat.le_of_ble_eq_true rfl⟩) rfl hl.1 rfl (Nat.le_of_ble_eq_true rfl) dX10_cycles_124 ⟨Nat.zero_le _, Nat.zero_le _⟩ (fun σ13 H locs h G => ?_)
      obtain ⟨v14, ev14⟩ : ∃ y : Int32, y = x4 + (1 : Int32) := ⟨_, rfl⟩
      have h := h v14 ev14
      refine lv_iinc (v := v14) (lv' := [(4, .int (v14)), (0, .ref (ρ (0))), (3, .int (x3))]) hx hb dX10_cycles_127 hl (k := 2) rfl (by rw [ev14]; rfl) (by decide) rfl (fun ls hl => ?_)
      refine lv_goto (tgt := 100) hx hb dX10_cycles_130 (by decide) ?_
      exact ih σ13 x3 v14 _ _ _  h G (lv_sub hl [1, 2, 0] rfl)
def b_X10_cycles_57 (post : Int32 → eS → Prop) (K33 : eS → Nat → Int32 → Int32 → Prop) (σ : eS) (k2 : Nat) (x3 : Int32) (x4 : Int32) : Prop := False
set_option maxHeartbeats 4000000 in
set_option maxRecDepth 100000 in
theorem l_X10_cycles_57 {p : Program} {l : Launch} {e : Env} {s : State} {m : MethodId} {args : Array Value} {below : List Frame} {meth : Method} {c : Code} {D : va_G} {ρ : Nat → Nat} {κ : Nat → ClassId} {base : Nat} {post : Int32 → eS → Prop} (C : eCx p s m args meth c cX10_cycles RX10 6 (some .int) wsX10_cycles) (K : gK D ρ κ base s) {K33 : eS → Nat → Int32 → Int32 → Prop} (hK33 : ∀ (σ : eS) (k2 : Nat) (x3 : Int32) (x4 : Int32) (H : Heap) (locs : List Loc) (ls : Array Slot), k2 < NN → gL k2 = (1, 12, [0]) → K33 σ k2 x3 x4 → gG D ρ κ base s σ H locs → lv_has ls 6 [(0, .ref (ρ (0))), (2, .ref (ρ (k2))), (3, .int (x3)), (4, .int (x4))] → W p l e rm_X10_cycles s m args below meth c H locs 0 0 (gQi below args s D ρ κ base post) (F0 m 33 ls [])) : ∀ (σ : eS) (k2 : Nat) (x3 : Int32) (x4 : Int32) (H : Heap) (locs : List Loc) (ls : Array Slot), k2 < NN → gL k2 = (1, 12, [0]) → b_X10_cycles_57 post K33 σ k2 x3 x4 → gG D ρ κ base s σ H locs → lv_has ls 6 [(0, .ref (ρ (0))), (2, .ref (ρ (k2))), (3, .int (x3)), (4, .int (x4))] → W p l e rm_X10_cycles s m args below meth c H locs 0 0 (gQi below args s D ρ κ base post) (F0 m 57 ls []) := by
  obtain ⟨hx, hb, hml, hown, hts, hr, hlocks⟩ := id C
  intro σ k2 x3 x4 H locs ls hk2 hl2 h G hl
  unfold b_X10_cycles_57 at h
  refine lv_aload_n hx hb dX10_cycles_57 rfl (lv_at hl 0 rfl) ?_
  refine lv_aload_n hx hb dX10_cycles_58 rfl (lv_at hl 1 rfl) ?_
  refine lv_iload hx hb dX10_cycles_59 (lv_at hl 3 rfl) ?_
  exact h.elim
def b_X10_cycles_33 (post : Int32 → eS → Prop) : Nat → eS → Nat → Int32 → Int32 → Prop
  | 0, _, _, _, _ => False
  | n + 1, σ, k2, x3, x4 => (((σ.1 5 4) ≤ x4 → w_X5_clear σ (fun σ9 => ∀ v10 : Int32, v10 = (0 : Int32) → (∃ n15 : Nat, b_X10_cycles_100 post n15 σ9 x3 v10))) ∧ (¬ ((σ.1 5 4) ≤ x4) → (vp_in x4 12) ∧ (((σ.1 k2 x4.toNatClampNeg) = x4 → b_X10_cycles_57 post (fun s k2 x3 x4 => b_X10_cycles_33 post n s k2 x3 x4) σ k2 x3 x4) ∧ (¬ ((σ.1 k2 x4.toNatClampNeg) = x4) → ∀ v18 : Int32, v18 = (x3 + (1 : Int32)) → b_X10_cycles_57 post (fun s k2 x3 x4 => b_X10_cycles_33 post n s k2 x3 x4) σ k2 v18 x4))))
set_option maxHeartbeats 4000000 in
set_option maxRecDepth 100000 in
theorem l_X10_cycles_33 {p : Program} {l : Launch} {e : Env} {s : State} {m : MethodId} {args : Array Value} {below : List Frame} {meth : Method} {c : Code} {D : va_G} {ρ : Nat → Nat} {κ : Nat → ClassId} {base : Nat} {post : Int32 → eS → Prop} (C : eCx p s m args meth c cX10_cycles RX10 6 (some .int) wsX10_cycles) (K : gK D ρ κ base s) : ∀ (n : Nat) (σ : eS) (k2 : Nat) (x3 : Int32) (x4 : Int32) (H : Heap) (locs : List Loc) (ls : Array Slot), k2 < NN → gL k2 = (1, 12, [0]) → b_X10_cycles_33 post n σ k2 x3 x4 → gG D ρ κ base s σ H locs → lv_has ls 6 [(0, .ref (ρ (0))), (2, .ref (ρ (k2))), (3, .int (x3)), (4, .int (x4))] → W p l e rm_X10_cycles s m args below meth c H locs 0 0 (gQi below args s D ρ κ base post) (F0 m 33 ls []) := by
  obtain ⟨hx, hb, hml, hown, hts, hr, hlocks⟩ := id C
  intro n
  induction n with
  | zero => intro σ k2 x3 x4 H locs ls hk2 hl2 h G hl; exact False.elim h
  | succ n ih =>
    intro σ k2 x3 x4 H locs ls hk2 hl2 h G hl
    rw [b_X10_cycles_33] at h
    refine lv_iload hx hb dX10_cycles_33 (lv_at hl 3 rfl) ?_
    refine lv_aload_n hx hb dX10_cycles_35 rfl (lv_at hl 0 rfl) ?_
    refine e_getq hx hb hts in_X10_cycles_X10 hown K G 0 (by decide) gl_0 rfl 2 (by decide) 5 rfl (hts (.fieldLink RX10 26 "StreetsStepOn" "book" "LStreetsStepOn$Book;") (e_mem (n := 1) rfl)) dX10_cycles_36 ?_
    refine e_getiN hx hb hts in_X10_cycles_X1 hown K G 5 (by decide) gl_5 rfl 4 (by decide) rfl (e_memq (n := 18) rfl) dX10_cycles_39 ?_
    refine lv_icmp_ge (tgt := 90) hx hb dX10_cycles_42 (by decide) (fun c8 => ?_) (fun c8 => ?_)
    · have h := h.1 c8
      refine lv_aload_n hx hb dX10_cycles_90 rfl (lv_at hl 0 rfl) ?_
      refine e_getq hx hb hts in_X10_cycles_X10 hown K G 0 (by decide) gl_0 rfl 1 (by decide) 3 rfl (hts (.fieldLink RX10 19 "StreetsStepOn" "told" "LStreetsStepOn$Row;") (e_mem (n := 3) rfl)) dX10_cycles_91 ?_
      refine e_callVv (As := []) (rest := []) ⟨hx, hb, hml, hown, hts⟩ K G 3 (by decide) gl_3 rfl (c_X5_clear h) (cwV 0 hts gX10_cycles_X5_clear rfl rfl rfl (by decide +kernel) ⟨Nat.le_of_ble_eq_true rfl, Nat.le_of_ble_eq_true rfl⟩) rfl hl.1 rfl (Nat.le_of_ble_eq_true rfl) dX10_cycles_94 ⟨Nat.zero_le _, Nat.zero_le _⟩ (fun σ9 H locs h G => ?_)
      refine lv_iconst (v := (0 : Int32)) hx hb dX10_cycles_97 (by decide) ?_
      refine lv_topi (fun v10 ev10 => ?_)
      have h := h v10 ev10
      refine lv_istore (lv' := [(4, .int (v10)), (0, .ref (ρ (0))), (2, .ref (ρ (k2))), (3, .int (x3))]) hx hb dX10_cycles_98 hl (by decide) rfl (fun ls hl => ?_)
      obtain ⟨n15, h⟩ := h
      exact l_X10_cycles_100 C K n15 σ9 x3 v10 _ _ _  h G (lv_sub hl [1, 3, 0] rfl)
    · have h := h.2 c8
      refine lv_aload_n hx hb dX10_cycles_45 rfl (lv_at hl 1 rfl) ?_
      refine lv_iload hx hb dX10_cycles_46 (lv_at hl 3 rfl) ?_
      have hi16 := h.1
      have h := h.2
      refine e_iald hx hb K G k2 0 0 12 hk2 hl2 rfl hi16 dX10_cycles_48 ?_
      refine lv_iload hx hb dX10_cycles_49 (lv_at hl 3 rfl) ?_
      refine lv_icmp_eq (tgt := 57) hx hb dX10_cycles_51 (by decide) (fun c17 => ?_) (fun c17 => ?_)
      · have h := h.1 c17
        exact l_X10_cycles_57 C K (hK33 := ih) σ k2 x3 x4 _ _ _ hk2 hl2 h G (lv_sub hl [0, 1, 2, 3] rfl)
      · have h := h.2 c17
        obtain ⟨v18, ev18⟩ : ∃ y : Int32, y = x3 + (1 : Int32) := ⟨_, rfl⟩
        have h := h v18 ev18
        refine lv_iinc (v := v18) (lv' := [(3, .int (v18)), (0, .ref (ρ (0))), (2, .ref (ρ (k2))), (4, .int (x4))]) hx hb dX10_cycles_54 hl (k := 2) rfl (by rw [ev18]; rfl) (by decide) rfl (fun ls hl => ?_)
        exact l_X10_cycles_57 C K (hK33 := ih) σ k2 v18 x4 _ _ _ hk2 hl2 h G (lv_sub hl [1, 2, 0, 3] rfl)
def w_X10_cycles (σ : eS) (x1 : Int32) (post : Int32 → eS → Prop) : Prop := w_X10_isOrder σ x1 (fun r2 σ1 => ((¬ r2 = 0 → (vp_in x1 7) ∧ w_J7_fill_53178 σ1 (0 : Int32) (fun σ5 => ∀ v6 : Int32, v6 = (0 : Int32) → ∀ v7 : Int32, v7 = (0 : Int32) → (∃ n19 : Nat, b_X10_cycles_33 post n19 σ5 (7 + x1.toNatClampNeg) v6 v7))) ∧ (r2 = 0 → post (-1 : Int32) σ1)))
set_option maxHeartbeats 4000000 in
set_option maxRecDepth 100000 in
theorem c_X10_cycles {l : Launch} {D : va_G} {ρ : Nat → Nat} {κ : Nat → ClassId} {base : Nat} {σ : eS} {x1 : Int32} {post : Int32 → eS → Prop} (h : w_X10_cycles σ x1 post) : gMi l yX10_cycles wsX10_cycles rm_X10_cycles D ρ κ base [.ref (ρ (0)), .int (x1)] σ post := by
  refine e_ofWi (cc := cX10_cycles) (maxL := 6) (ret := (some .int)) (by decide) rfl (Nat.le_of_ble_eq_true rfl) ?_
  intro p e s m below meth c ls C K G hl
  obtain ⟨hx, hb, hml, hown, hts, hr, hlocks⟩ := id C
  have hl : lv_has ls 6 [(0, .ref (ρ (0))), (1, .int (x1))] := hl
  unfold w_X10_cycles at h
  refine lv_aload_n hx hb dX10_cycles_0 rfl (lv_at hl 0 rfl) ?_
  refine lv_iload_n hx hb dX10_cycles_1 rfl (lv_at hl 1 rfl) ?_
  refine e_callVi (As := [.int (x1)]) (rest := []) ⟨hx, hb, hml, hown, hts⟩ K G 0 (by decide) gl_0 rfl (c_X10_isOrder h) (cwV 1 hts gX10_cycles_X10_isOrder rfl rfl rfl (by decide +kernel) ⟨Nat.le_of_ble_eq_true rfl, Nat.le_of_ble_eq_true rfl⟩) rfl hl.1 rfl (Nat.le_of_ble_eq_true rfl) dX10_cycles_2 ⟨Nat.zero_le _, Nat.zero_le _⟩ (fun r2 σ1 H locs h G => ?_)
  refine lv_if_ne (tgt := 10) hx hb dX10_cycles_5 (by decide) (fun c3 => ?_) (fun c3 => ?_)
  · have h := h.1 c3
    refine lv_aload_n hx hb dX10_cycles_10 rfl (lv_at hl 0 rfl) ?_
    refine e_getq hx hb hts in_X10_cycles_X10 hown K G 0 (by decide) gl_0 rfl 2 (by decide) 5 rfl (hts (.fieldLink RX10 26 "StreetsStepOn" "book" "LStreetsStepOn$Book;") (e_mem (n := 1) rfl)) dX10_cycles_11 ?_
    refine e_getqN hx hb hts in_X10_cycles_X1 hown K G 5 (by decide) gl_5 rfl 0 (by decide) 6 rfl (e_memq (n := 7) rfl) dX10_cycles_14 ?_
    refine lv_iload_n hx hb dX10_cycles_17 rfl (lv_at hl 1 rfl) ?_
    have hi4 := h.1
    have h := h.2
    refine e_aald hx hb K G 6 5 5 7 (by decide) _ gl_6 rfl rfl hi4 (7 + x1.toNatClampNeg) (gr_6 _ (e_lt hi4)).1 dX10_cycles_18 ?_
    refine lv_astore_n (lv' := [(2, .ref (ρ (7 + x1.toNatClampNeg))), (0, .ref (ρ (0))), (1, .int (x1))]) hx hb dX10_cycles_19 rfl hl (by decide) rfl (fun ls hl => ?_)
    refine lv_aload_n hx hb dX10_cycles_20 rfl (lv_at hl 1 rfl) ?_
    refine e_getq hx hb hts in_X10_cycles_X10 hown K G 0 (by decide) gl_0 rfl 11 (by decide) 71 rfl (hts (.fieldLink RX10 83 "StreetsStepOn" "tally" "[I") (e_mem (n := 2) rfl)) dX10_cycles_21 ?_
    refine lv_iconst (v := (0 : Int32)) hx hb dX10_cycles_24 (by decide) ?_
    refine e_callSv (As := [.ref (ρ (71)), .int ((0 : Int32))]) (rest := []) ⟨hx, hb, hml, hown, hts⟩ K G (c_J7_fill_53178 h) (va_cwS 2 hts gX10_cycles_J7_fill_53178 rfl rfl rfl (by decide +kernel) ⟨Nat.le_of_ble_eq_true rfl, Nat.le_of_ble_eq_true rfl⟩) rfl hl.1 rfl (Nat.le_of_ble_eq_true rfl) dX10_cycles_25 ⟨Nat.zero_le _, Nat.zero_le _⟩ (fun σ5 H locs h G => ?_)
    refine lv_iconst (v := (0 : Int32)) hx hb dX10_cycles_28 (by decide) ?_
    refine lv_topi (fun v6 ev6 => ?_)
    have h := h v6 ev6
    refine lv_istore_n (lv' := [(3, .int (v6)), (2, .ref (ρ (7 + x1.toNatClampNeg))), (0, .ref (ρ (0))), (1, .int (x1))]) hx hb dX10_cycles_29 rfl hl (by decide) rfl (fun ls hl => ?_)
    refine lv_iconst (v := (0 : Int32)) hx hb dX10_cycles_30 (by decide) ?_
    refine lv_topi (fun v7 ev7 => ?_)
    have h := h v7 ev7
    refine lv_istore (lv' := [(4, .int (v7)), (3, .int (v6)), (2, .ref (ρ (7 + x1.toNatClampNeg))), (0, .ref (ρ (0))), (1, .int (x1))]) hx hb dX10_cycles_31 hl (by decide) rfl (fun ls hl => ?_)
    obtain ⟨n19, h⟩ := h
    exact l_X10_cycles_33 C K n19 σ5 (7 + x1.toNatClampNeg) v6 v7 _ _ _ (gr_6 _ (e_lt hi4)).2.2 (gr_6 _ (e_lt hi4)).2.1 h G (lv_sub hl [3, 2, 1, 0] rfl)
  · have h := h.2 c3
    refine lv_iconst (v := (-1 : Int32)) hx hb dX10_cycles_8 (by decide) ?_
    exact e_iret hx hb hr hlocks G h dX10_cycles_9
abbrev rm_X11_has : Room := { frames := 0, cells := 0, slots := 0, locals := 0 }
def w_X11_has (σ : eS) (x0 : Int32) (x1 : Int32) (post : Int32 → eS → Prop) : Prop := ((¬ ((x0 >>> (x1 &&& 31)) &&& (1 : Int32)) = (1 : Int32) → ((narrow .boolean (.int (0 : Int32)) = .int (0 : Int32)) ∧ post (0 : Int32) σ)) ∧ (((x0 >>> (x1 &&& 31)) &&& (1 : Int32)) = (1 : Int32) → ((narrow .boolean (.int (1 : Int32)) = .int (1 : Int32)) ∧ post (1 : Int32) σ)))
set_option maxHeartbeats 4000000 in
set_option maxRecDepth 100000 in
theorem c_X11_has {l : Launch} {D : va_G} {ρ : Nat → Nat} {κ : Nat → ClassId} {base : Nat} {σ : eS} {x0 : Int32} {x1 : Int32} {post : Int32 → eS → Prop} (h : w_X11_has σ x0 x1 post) : gMi l yX11_has wsX11_has rm_X11_has D ρ κ base [.int (x0), .int (x1)] σ post := by
  refine e_ofWi (cc := cX11_has) (maxL := 2) (ret := (some .boolean)) (by decide) rfl (Nat.le_of_ble_eq_true rfl) ?_
  intro p e s m below meth c ls C K G hl
  obtain ⟨hx, hb, hml, hown, hts, hr, hlocks⟩ := id C
  have hl : lv_has ls 2 [(0, .int (x0)), (1, .int (x1))] := hl
  unfold w_X11_has at h
  refine lv_iload_n hx hb dX11_has_0 rfl (lv_at hl 0 rfl) ?_
  refine lv_iload_n hx hb dX11_has_1 rfl (lv_at hl 1 rfl) ?_
  refine lv_ishr hx hb dX11_has_2 ?_
  refine lv_iconst (v := (1 : Int32)) hx hb dX11_has_3 (by decide) ?_
  refine lv_iand hx hb dX11_has_4 ?_
  refine lv_iconst (v := (1 : Int32)) hx hb dX11_has_5 (by decide) ?_
  refine lv_icmp_ne (tgt := 13) hx hb dX11_has_6 (by decide) (fun c1 => ?_) (fun c1 => ?_)
  · have h := h.1 c1
    refine lv_iconst (v := (0 : Int32)) hx hb dX11_has_13 (by decide) ?_
    exact e_zret hx hb hr hlocks G h.1 h.2 dX11_has_14
  · have h := h.2 c1
    refine lv_iconst (v := (1 : Int32)) hx hb dX11_has_9 (by decide) ?_
    refine lv_goto (tgt := 14) hx hb dX11_has_10 (by decide) ?_
    exact e_zret hx hb hr hlocks G h.1 h.2 dX11_has_14
abbrev rm_X11_findCycles : Room := { frames := 1, cells := 0, slots := 0, locals := 21 }
theorem in_X11_findCycles_X11 : ∀ w ∈ wsX110, w ∈ wsX11_findCycles := fun w h => List.mem_cons_of_mem _ (List.mem_append_right _ h)
def b_X11_findCycles_103 (post : Int32 → eS → Prop) (K29 : eS → Int32 → Int32 → Int32 → Int32 → Prop) (σ : eS) (x2 : Int32) (x3 : Int32) (x4 : Int32) (x5 : Int32) : Prop := ∀ v18 : Int32, v18 = (x5 + (1 : Int32)) → K29 σ x2 x3 x4 v18
set_option maxHeartbeats 4000000 in
set_option maxRecDepth 100000 in
theorem l_X11_findCycles_103 {p : Program} {l : Launch} {e : Env} {s : State} {m : MethodId} {args : Array Value} {below : List Frame} {meth : Method} {c : Code} {D : va_G} {ρ : Nat → Nat} {κ : Nat → ClassId} {base : Nat} {post : Int32 → eS → Prop} (C : eCx p s m args meth c cX11_findCycles RX11 8 (some .int) wsX11_findCycles) (K : gK D ρ κ base s) {K29 : eS → Int32 → Int32 → Int32 → Int32 → Prop} (hK29 : ∀ (σ : eS) (x2 : Int32) (x3 : Int32) (x4 : Int32) (x5 : Int32) (H : Heap) (locs : List Loc) (ls : Array Slot), K29 σ x2 x3 x4 x5 → gG D ρ κ base s σ H locs → lv_has ls 8 [(0, .ref (ρ (97))), (1, .ref (ρ (101))), (2, .int (x2)), (3, .int (x3)), (4, .int (x4)), (5, .int (x5))] → W p l e rm_X11_findCycles s m args below meth c H locs 0 0 (gQi below args s D ρ κ base post) (F0 m 29 ls [])) : ∀ (σ : eS) (x2 : Int32) (x3 : Int32) (x4 : Int32) (x5 : Int32) (H : Heap) (locs : List Loc) (ls : Array Slot), b_X11_findCycles_103 post K29 σ x2 x3 x4 x5 → gG D ρ κ base s σ H locs → lv_has ls 8 [(0, .ref (ρ (97))), (1, .ref (ρ (101))), (2, .int (x2)), (3, .int (x3)), (4, .int (x4)), (5, .int (x5))] → W p l e rm_X11_findCycles s m args below meth c H locs 0 0 (gQi below args s D ρ κ base post) (F0 m 103 ls []) := by
  obtain ⟨hx, hb, hml, hown, hts, hr, hlocks⟩ := id C
  intro σ x2 x3 x4 x5 H locs ls h G hl
  unfold b_X11_findCycles_103 at h
  obtain ⟨v18, ev18⟩ : ∃ y : Int32, y = x5 + (1 : Int32) := ⟨_, rfl⟩
  have h := h v18 ev18
  refine lv_iinc (v := v18) (lv' := [(5, .int (v18)), (0, .ref (ρ (97))), (1, .ref (ρ (101))), (2, .int (x2)), (3, .int (x3)), (4, .int (x4))]) hx hb dX11_findCycles_103 hl (k := 5) rfl (by rw [ev18]; rfl) (by decide) rfl (fun ls hl => ?_)
  refine lv_goto (tgt := 29) hx hb dX11_findCycles_106 (by decide) ?_
  exact hK29 σ x2 x3 x4 v18 _ _ _  h G (lv_sub hl [1, 2, 3, 4, 5, 0] rfl)
def b_X11_findCycles_57 (post : Int32 → eS → Prop) (K29 : eS → Int32 → Int32 → Int32 → Int32 → Prop) : Nat → eS → Int32 → Int32 → Int32 → Int32 → Int32 → Int32 → Prop
  | 0, _, _, _, _, _, _, _ => False
  | n + 1, σ, x2, x3, x4, x5, x6, x7 => w_X11_has σ x3 x7 (fun r12 σ11 => ((¬ r12 = 0 → (vp_in (x6 - (1 : Int32)) 12) ∧ (vp_in (x6 - (1 : Int32)) 12) ∧ ∀ σ16 : eS, σ16 = e_ui σ11 112 (x6 - (1 : Int32)).toNatClampNeg ((σ11.1 112 (x6 - (1 : Int32)).toNatClampNeg) + (1 : Int32)) → ∀ v17 : Int32, v17 = (x4 + (1 : Int32)) → b_X11_findCycles_103 post K29 σ16 x2 x3 v17 x5) ∧ (r12 = 0 → ∀ v19 : Int32, v19 = (x3 ||| ((1 : Int32) <<< (x7 &&& 31))) → ∀ v20 : Int32, v20 = (x6 + (1 : Int32)) → (vp_in (x2 + x7) 84) ∧ ∀ v22 : Int32, v22 = (σ11.1 101 (x2 + x7).toNatClampNeg) → b_X11_findCycles_57 post K29 n σ11 x2 v19 x4 x5 v20 v22)))
set_option maxHeartbeats 4000000 in
set_option maxRecDepth 100000 in
theorem l_X11_findCycles_57 {p : Program} {l : Launch} {e : Env} {s : State} {m : MethodId} {args : Array Value} {below : List Frame} {meth : Method} {c : Code} {D : va_G} {ρ : Nat → Nat} {κ : Nat → ClassId} {base : Nat} {post : Int32 → eS → Prop} (C : eCx p s m args meth c cX11_findCycles RX11 8 (some .int) wsX11_findCycles) (K : gK D ρ κ base s) {K29 : eS → Int32 → Int32 → Int32 → Int32 → Prop} (hK29 : ∀ (σ : eS) (x2 : Int32) (x3 : Int32) (x4 : Int32) (x5 : Int32) (H : Heap) (locs : List Loc) (ls : Array Slot), K29 σ x2 x3 x4 x5 → gG D ρ κ base s σ H locs → lv_has ls 8 [(0, .ref (ρ (97))), (1, .ref (ρ (101))), (2, .int (x2)), (3, .int (x3)), (4, .int (x4)), (5, .int (x5))] → W p l e rm_X11_findCycles s m args below meth c H locs 0 0 (gQi below args s D ρ κ base post) (F0 m 29 ls [])) : ∀ (n : Nat) (σ : eS) (x2 : Int32) (x3 : Int32) (x4 : Int32) (x5 : Int32) (x6 : Int32) (x7 : Int32) (H : Heap) (locs : List Loc) (ls : Array Slot), b_X11_findCycles_57 post K29 n σ x2 x3 x4 x5 x6 x7 → gG D ρ κ base s σ H locs → lv_has ls 8 [(0, .ref (ρ (97))), (1, .ref (ρ (101))), (2, .int (x2)), (3, .int (x3)), (4, .int (x4)), (5, .int (x5)), (6, .int (x6)), (7, .int (x7))] → W p l e rm_X11_findCycles s m args below meth c H locs 0 0 (gQi below args s D ρ κ base post) (F0 m 57 ls []) := by
  obtain ⟨hx, hb, hml, hown, hts, hr, hlocks⟩ := id C
  intro n
  induction n with
  | zero => intro σ x2 x3 x4 x5 x6 x7 H locs ls h G hl; exact False.elim h
  | succ n ih =>
    intro σ x2 x3 x4 x5 x6 x7 H locs ls h G hl
    rw [b_X11_findCycles_57] at h
    refine lv_iload_n hx hb dX11_findCycles_57 rfl (lv_at hl 3 rfl) ?_
    refine lv_iload hx hb dX11_findCycles_58 (lv_at hl 7 rfl) ?_
    refine e_callSi (As := [.int (x3), .int (x7)]) (rest := []) ⟨hx, hb, hml, hown, hts⟩ K G (c_X11_has h) (va_cwS 2 hts gX11_findCycles_X11_has rfl rfl rfl (by decide +kernel) ⟨Nat.le_of_ble_eq_true rfl, Nat.le_of_ble_eq_true rfl⟩) rfl hl.1 rfl (Nat.le_of_ble_eq_true rfl) dX11_findCycles_60 ⟨Nat.zero_le _, Nat.zero_le _⟩ (fun r12 σ11 H locs h G => ?_)
    refine lv_if_ne (tgt := 87) hx hb dX11_findCycles_63 (by decide) (fun c13 => ?_) (fun c13 => ?_)
    · have h := h.1 c13
      refine lv_aload_n hx hb dX11_findCycles_87 rfl (lv_at hl 0 rfl) ?_
      refine e_getq hx hb hts in_X11_findCycles_X11 hown K G 97 (by decide) gl_97 rfl 31 (by decide) 112 rfl (hts (.fieldLink RX11 54 "StreetsStepOnModel" "cycle" "[I") (e_mem (n := 1) rfl)) dX11_findCycles_88 ?_
      refine lv_iload hx hb dX11_findCycles_91 (lv_at hl 6 rfl) ?_
      refine lv_iconst (v := (1 : Int32)) hx hb dX11_findCycles_93 (by decide) ?_
      refine lv_isub hx hb dX11_findCycles_94 ?_
      refine lv_dup2_11 hx hb dX11_findCycles_95 rfl rfl ?_
      have hi14 := h.1
      have h := h.2
      refine e_iald hx hb K G 112 0 0 12 (by decide) gl_112 rfl hi14 dX11_findCycles_96 ?_
      refine lv_iconst (v := (1 : Int32)) hx hb dX11_findCycles_97 (by decide) ?_
      refine lv_iadd hx hb dX11_findCycles_98 ?_
      have hi15 := h.1
      have h := h.2
      refine e_iast hx hb K G 112 0 0 12 (by decide) gl_112 rfl hi15 dX11_findCycles_99 (fun H locs G => ?_)
      obtain ⟨σ16, eσ16⟩ : ∃ z : eS, z = e_ui σ11 112 (x6 - (1 : Int32)).toNatClampNeg ((σ11.1 112 (x6 - (1 : Int32)).toNatClampNeg) + (1 : Int32)) := ⟨_, rfl⟩
      rw [← eσ16] at G
      have h := h σ16 eσ16
      obtain ⟨v17, ev17⟩ : ∃ y : Int32, y = x4 + (1 : Int32) := ⟨_, rfl⟩
      have h := h v17 ev17
      refine lv_iinc (v := v17) (lv' := [(4, .int (v17)), (0, .ref (ρ (97))), (1, .ref (ρ (101))), (2, .int (x2)), (3, .int (x3)), (5, .int (x5)), (6, .int (x6)), (7, .int (x7))]) hx hb dX11_findCycles_100 hl (k := 4) rfl (by rw [ev17]; rfl) (by decide) rfl (fun ls hl => ?_)
      exact l_X11_findCycles_103 C K (hK29 := hK29) σ16 x2 x3 v17 x5 _ _ _  h G (lv_sub hl [1, 2, 3, 4, 0, 5] rfl)
    · have h := h.2 c13
      refine lv_iload_n hx hb dX11_findCycles_66 rfl (lv_at hl 3 rfl) ?_
      refine lv_iconst (v := (1 : Int32)) hx hb dX11_findCycles_67 (by decide) ?_
      refine lv_iload hx hb dX11_findCycles_68 (lv_at hl 7 rfl) ?_
      refine lv_ishl hx hb dX11_findCycles_70 ?_
      refine lv_ior hx hb dX11_findCycles_71 ?_
      refine lv_topi (fun v19 ev19 => ?_)
      have h := h v19 ev19
      refine lv_istore_n (lv' := [(3, .int (v19)), (0, .ref (ρ (97))), (1, .ref (ρ (101))), (2, .int (x2)), (4, .int (x4)), (5, .int (x5)), (6, .int (x6)), (7, .int (x7))]) hx hb dX11_findCycles_72 rfl hl (by decide) rfl (fun ls hl => ?_)
      obtain ⟨v20, ev20⟩ : ∃ y : Int32, y = x6 + (1 : Int32) := ⟨_, rfl⟩
      have h := h v20 ev20
      refine lv_iinc (v := v20) (lv' := [(6, .int (v20)), (3, .int (v19)), (0, .ref (ρ (97))), (1, .ref (ρ (101))), (2, .int (x2)), (4, .int (x4)), (5, .int (x5)), (7, .int (x7))]) hx hb dX11_findCycles_73 hl (k := 6) rfl (by rw [ev20]; rfl) (by decide) rfl (fun ls hl => ?_)
      refine lv_aload_n hx hb dX11_findCycles_76 rfl (lv_at hl 3 rfl) ?_
      refine lv_iload_n hx hb dX11_findCycles_77 rfl (lv_at hl 4 rfl) ?_
      refine lv_iload hx hb dX11_findCycles_78 (lv_at hl 7 rfl) ?_
      refine lv_iadd hx hb dX11_findCycles_80 ?_
      have hi21 := h.1
      have h := h.2
      refine e_iald hx hb K G 101 0 0 84 (by decide) gl_101 rfl hi21 dX11_findCycles_81 ?_
      refine lv_topi (fun v22 ev22 => ?_)
      have h := h v22 ev22
      refine lv_istore (lv' := [(7, .int (v22)), (6, .int (v20)), (3, .int (v19)), (0, .ref (ρ (97))), (1, .ref (ρ (101))), (2, .int (x2)), (4, .int (x4)), (5, .int (x5))]) hx hb dX11_findCycles_82 hl (by decide) rfl (fun ls hl => ?_)
      refine lv_goto (tgt := 57) hx hb dX11_findCycles_84 (by decide) ?_
      exact ih σ11 x2 v19 x4 x5 v20 v22 _ _ _  h G (lv_sub hl [3, 4, 5, 2, 6, 7, 1, 0] rfl)
def b_X11_findCycles_29 (post : Int32 → eS → Prop) : Nat → eS → Int32 → Int32 → Int32 → Int32 → Prop
  | 0, _, _, _, _, _ => False
  | n + 1, σ, x2, x3, x4, x5 => (((σ.1 97 0) ≤ x5 → post x4 σ) ∧ (¬ ((σ.1 97 0) ≤ x5) → w_X11_has σ x3 x5 (fun r8 σ7 => ((r8 = 0 → ∀ v10 : Int32, v10 = (0 : Int32) → (∃ n23 : Nat, b_X11_findCycles_57 post (fun s x2 x3 x4 x5 => b_X11_findCycles_29 post n s x2 x3 x4 x5) n23 σ7 x2 x3 x4 x5 v10 x5)) ∧ (¬ (r8 = 0) → b_X11_findCycles_103 post (fun s x2 x3 x4 x5 => b_X11_findCycles_29 post n s x2 x3 x4 x5) σ7 x2 x3 x4 x5)))))
set_option maxHeartbeats 4000000 in
set_option maxRecDepth 100000 in
theorem l_X11_findCycles_29 {p : Program} {l : Launch} {e : Env} {s : State} {m : MethodId} {args : Array Value} {below : List Frame} {meth : Method} {c : Code} {D : va_G} {ρ : Nat → Nat} {κ : Nat → ClassId} {base : Nat} {post : Int32 → eS → Prop} (C : eCx p s m args meth c cX11_findCycles RX11 8 (some .int) wsX11_findCycles) (K : gK D ρ κ base s) : ∀ (n : Nat) (σ : eS) (x2 : Int32) (x3 : Int32) (x4 : Int32) (x5 : Int32) (H : Heap) (locs : List Loc) (ls : Array Slot), b_X11_findCycles_29 post n σ x2 x3 x4 x5 → gG D ρ κ base s σ H locs → lv_has ls 8 [(0, .ref (ρ (97))), (1, .ref (ρ (101))), (2, .int (x2)), (3, .int (x3)), (4, .int (x4)), (5, .int (x5))] → W p l e rm_X11_findCycles s m args below meth c H locs 0 0 (gQi below args s D ρ κ base post) (F0 m 29 ls []) := by
  obtain ⟨hx, hb, hml, hown, hts, hr, hlocks⟩ := id C
  intro n
  induction n with
  | zero => intro σ x2 x3 x4 x5 H locs ls h G hl; exact False.elim h
  | succ n ih =>
    intro σ x2 x3 x4 x5 H locs ls h G hl
    rw [b_X11_findCycles_29] at h
    refine lv_iload hx hb dX11_findCycles_29 (lv_at hl 5 rfl) ?_
    refine lv_aload_n hx hb dX11_findCycles_31 rfl (lv_at hl 0 rfl) ?_
    refine e_geti hx hb hts in_X11_findCycles_X11 hown K G 97 (by decide) gl_97 rfl 0 (by decide) rfl (hts (.fieldLink RX11 104 "StreetsStepOnModel" "streets" "I") (e_mem (n := 2) rfl)) dX11_findCycles_32 ?_
    refine lv_icmp_ge (tgt := 109) hx hb dX11_findCycles_35 (by decide) (fun c6 => ?_) (fun c6 => ?_)
    · have h := h.1 c6
      refine lv_iload hx hb dX11_findCycles_109 (lv_at hl 4 rfl) ?_
      exact e_iret hx hb hr hlocks G h dX11_findCycles_111
    · have h := h.2 c6
      refine lv_iload_n hx hb dX11_findCycles_38 rfl (lv_at hl 3 rfl) ?_
      refine lv_iload hx hb dX11_findCycles_39 (lv_at hl 5 rfl) ?_
      refine e_callSi (As := [.int (x3), .int (x5)]) (rest := []) ⟨hx, hb, hml, hown, hts⟩ K G (c_X11_has h) (va_cwS 2 hts gX11_findCycles_X11_has rfl rfl rfl (by decide +kernel) ⟨Nat.le_of_ble_eq_true rfl, Nat.le_of_ble_eq_true rfl⟩) rfl hl.1 rfl (Nat.le_of_ble_eq_true rfl) dX11_findCycles_41 ⟨Nat.zero_le _, Nat.zero_le _⟩ (fun r8 σ7 H locs h G => ?_)
      refine lv_if_eq (tgt := 50) hx hb dX11_findCycles_44 (by decide) (fun c9 => ?_) (fun c9 => ?_)
      · have h := h.1 c9
        refine lv_iconst (v := (0 : Int32)) hx hb dX11_findCycles_50 (by decide) ?_
        refine lv_topi (fun v10 ev10 => ?_)
        have h := h v10 ev10
        refine lv_istore (lv' := [(6, .int (v10)), (0, .ref (ρ (97))), (1, .ref (ρ (101))), (2, .int (x2)), (3, .int (x3)), (4, .int (x4)), (5, .int (x5))]) hx hb dX11_findCycles_51 hl (by decide) rfl (fun ls hl => ?_)
        refine lv_iload hx hb dX11_findCycles_53 (lv_at hl 6 rfl) ?_
        refine lv_istore (lv' := [(7, .int (x5)), (6, .int (v10)), (0, .ref (ρ (97))), (1, .ref (ρ (101))), (2, .int (x2)), (3, .int (x3)), (4, .int (x4)), (5, .int (x5))]) hx hb dX11_findCycles_55 hl (by decide) rfl (fun ls hl => ?_)
        obtain ⟨n23, h⟩ := h
        exact l_X11_findCycles_57 C K (hK29 := ih) n23 σ7 x2 x3 x4 x5 v10 x5 _ _ _  h G (lv_sub hl [2, 3, 4, 5, 6, 7, 1, 0] rfl)
      · have h := h.2 c9
        refine lv_goto (tgt := 103) hx hb dX11_findCycles_47 (by decide) ?_
        exact l_X11_findCycles_103 C K (hK29 := ih) σ7 x2 x3 x4 x5 _ _ _  h G (lv_sub hl [0, 1, 2, 3, 4, 5] rfl)
def b_X11_findCycles_2 (post : Int32 → eS → Prop) : Nat → eS → Int32 → Int32 → Prop
  | 0, _, _, _ => False
  | n + 1, σ, x2, x3 => (((12 : Int32) ≤ x3 → ∀ v3 : Int32, v3 = (0 : Int32) → ∀ v4 : Int32, v4 = (0 : Int32) → ∀ v5 : Int32, v5 = (0 : Int32) → (∃ n24 : Nat, b_X11_findCycles_29 post n24 σ x2 v3 v4 v5)) ∧ (¬ ((12 : Int32) ≤ x3) → (vp_in x3 12) ∧ ∀ σ26 : eS, σ26 = e_ui σ 112 x3.toNatClampNeg (0 : Int32) → ∀ v27 : Int32, v27 = (x3 + (1 : Int32)) → b_X11_findCycles_2 post n σ26 x2 v27))
set_option maxHeartbeats 4000000 in
set_option maxRecDepth 100000 in
theorem l_X11_findCycles_2 {p : Program} {l : Launch} {e : Env} {s : State} {m : MethodId} {args : Array Value} {below : List Frame} {meth : Method} {c : Code} {D : va_G} {ρ : Nat → Nat} {κ : Nat → ClassId} {base : Nat} {post : Int32 → eS → Prop} (C : eCx p s m args meth c cX11_findCycles RX11 8 (some .int) wsX11_findCycles) (K : gK D ρ κ base s) : ∀ (n : Nat) (σ : eS) (x2 : Int32) (x3 : Int32) (H : Heap) (locs : List Loc) (ls : Array Slot), b_X11_findCycles_2 post n σ x2 x3 → gG D ρ κ base s σ H locs → lv_has ls 8 [(0, .ref (ρ (97))), (1, .ref (ρ (101))), (2, .int (x2)), (3, .int (x3))] → W p l e rm_X11_findCycles s m args below meth c H locs 0 0 (gQi below args s D ρ κ base post) (F0 m 2 ls []) := by
  obtain ⟨hx, hb, hml, hown, hts, hr, hlocks⟩ := id C
  intro n
  induction n with
  | zero => intro σ x2 x3 H locs ls h G hl; exact False.elim h
  | succ n ih =>
    intro σ x2 x3 H locs ls h G hl
    rw [b_X11_findCycles_2] at h
    refine lv_iload_n hx hb dX11_findCycles_2 rfl (lv_at hl 3 rfl) ?_
    refine lv_bipush (v := (12 : Int32)) hx hb dX11_findCycles_3 (by decide) ?_
    refine lv_icmp_ge (tgt := 21) hx hb dX11_findCycles_5 (by decide) (fun c2 => ?_) (fun c2 => ?_)
    · have h := h.1 c2
      refine lv_iconst (v := (0 : Int32)) hx hb dX11_findCycles_21 (by decide) ?_
      refine lv_topi (fun v3 ev3 => ?_)
      have h := h v3 ev3
      refine lv_istore_n (lv' := [(3, .int (v3)), (0, .ref (ρ (97))), (1, .ref (ρ (101))), (2, .int (x2))]) hx hb dX11_findCycles_22 rfl hl (by decide) rfl (fun ls hl => ?_)
      refine lv_iconst (v := (0 : Int32)) hx hb dX11_findCycles_23 (by decide) ?_
      refine lv_topi (fun v4 ev4 => ?_)
      have h := h v4 ev4
      refine lv_istore (lv' := [(4, .int (v4)), (3, .int (v3)), (0, .ref (ρ (97))), (1, .ref (ρ (101))), (2, .int (x2))]) hx hb dX11_findCycles_24 hl (by decide) rfl (fun ls hl => ?_)
      refine lv_iconst (v := (0 : Int32)) hx hb dX11_findCycles_26 (by decide) ?_
      refine lv_topi (fun v5 ev5 => ?_)
      have h := h v5 ev5
      refine lv_istore (lv' := [(5, .int (v5)), (4, .int (v4)), (3, .int (v3)), (0, .ref (ρ (97))), (1, .ref (ρ (101))), (2, .int (x2))]) hx hb dX11_findCycles_27 hl (by decide) rfl (fun ls hl => ?_)
      obtain ⟨n24, h⟩ := h
      exact l_X11_findCycles_29 C K n24 σ x2 v3 v4 v5 _ _ _  h G (lv_sub hl [3, 4, 5, 2, 1, 0] rfl)
    · have h := h.2 c2
      refine lv_aload_n hx hb dX11_findCycles_8 rfl (lv_at hl 0 rfl) ?_
      refine e_getq hx hb hts in_X11_findCycles_X11 hown K G 97 (by decide) gl_97 rfl 31 (by decide) 112 rfl (hts (.fieldLink RX11 54 "StreetsStepOnModel" "cycle" "[I") (e_mem (n := 1) rfl)) dX11_findCycles_9 ?_
      refine lv_iload_n hx hb dX11_findCycles_12 rfl (lv_at hl 3 rfl) ?_
      refine lv_iconst (v := (0 : Int32)) hx hb dX11_findCycles_13 (by decide) ?_
      have hi25 := h.1
      have h := h.2
      refine e_iast hx hb K G 112 0 0 12 (by decide) gl_112 rfl hi25 dX11_findCycles_14 (fun H locs G => ?_)
      obtain ⟨σ26, eσ26⟩ : ∃ z : eS, z = e_ui σ 112 x3.toNatClampNeg (0 : Int32) := ⟨_, rfl⟩
      rw [← eσ26] at G
      have h := h σ26 eσ26
      obtain ⟨v27, ev27⟩ : ∃ y : Int32, y = x3 + (1 : Int32) := ⟨_, rfl⟩
      have h := h v27 ev27
      refine lv_iinc (v := v27) (lv' := [(3, .int (v27)), (0, .ref (ρ (97))), (1, .ref (ρ (101))), (2, .int (x2))]) hx hb dX11_findCycles_15 hl (k := 3) rfl (by rw [ev27]; rfl) (by decide) rfl (fun ls hl => ?_)
      refine lv_goto (tgt := 2) hx hb dX11_findCycles_18 (by decide) ?_
      exact ih σ26 x2 v27 _ _ _  h G (lv_sub hl [1, 2, 3, 0] rfl)
def w_X11_findCycles (σ : eS) (x2 : Int32) (post : Int32 → eS → Prop) : Prop := ∀ v1 : Int32, v1 = (0 : Int32) → (∃ n28 : Nat, b_X11_findCycles_2 post n28 σ x2 v1)
set_option maxHeartbeats 4000000 in
set_option maxRecDepth 100000 in
theorem c_X11_findCycles {l : Launch} {D : va_G} {ρ : Nat → Nat} {κ : Nat → ClassId} {base : Nat} {σ : eS} {x2 : Int32} {post : Int32 → eS → Prop} (h : w_X11_findCycles σ x2 post) : gMi l yX11_findCycles wsX11_findCycles rm_X11_findCycles D ρ κ base [.ref (ρ (97)), .ref (ρ (101)), .int (x2)] σ post := by
  refine e_ofWi (cc := cX11_findCycles) (maxL := 8) (ret := (some .int)) (by decide) rfl (Nat.le_of_ble_eq_true rfl) ?_
  intro p e s m below meth c ls C K G hl
  obtain ⟨hx, hb, hml, hown, hts, hr, hlocks⟩ := id C
  have hl : lv_has ls 8 [(0, .ref (ρ (97))), (1, .ref (ρ (101))), (2, .int (x2))] := hl
  unfold w_X11_findCycles at h
  refine lv_iconst (v := (0 : Int32)) hx hb dX11_findCycles_0 (by decide) ?_
  refine lv_topi (fun v1 ev1 => ?_)
  have h := h v1 ev1
  refine lv_istore_n (lv' := [(3, .int (v1)), (0, .ref (ρ (97))), (1, .ref (ρ (101))), (2, .int (x2))]) hx hb dX11_findCycles_1 rfl hl (by decide) rfl (fun ls hl => ?_)
  obtain ⟨n28, h⟩ := h
  exact l_X11_findCycles_2 C K n28 σ x2 v1 _ _ _  h G (lv_sub hl [1, 2, 3, 0] rfl)
abbrev rm_X11_cycles : Room := { frames := 2, cells := 0, slots := 0, locals := 48 }
theorem in_X11_cycles_X11 : ∀ w ∈ wsX110, w ∈ wsX11_cycles := fun w h => List.mem_cons_of_mem _ (List.mem_append_right _ h)
def b_X11_cycles_35 (post : Int32 → eS → Prop) : Nat → eS → Int32 → Prop
  | 0, _, _ => False
  | n + 1, σ, x2 => (((σ.1 97 0) ≤ x2 → (vp_in (0 : Int32) 12) ∧ post ((σ.1 97 0) - (σ.1 112 ((0 : Int32)).toNatClampNeg)) σ) ∧ (¬ ((σ.1 97 0) ≤ x2) → (vp_in x2 12) ∧ w_X11_tell σ ((σ.1 112 x2.toNatClampNeg).toInt64) (fun σ12 => ∀ v13 : Int32, v13 = (x2 + (1 : Int32)) → b_X11_cycles_35 post n σ12 v13)))
set_option maxHeartbeats 4000000 in
set_option maxRecDepth 100000 in
theorem l_X11_cycles_35 {p : Program} {l : Launch} {e : Env} {s : State} {m : MethodId} {args : Array Value} {below : List Frame} {meth : Method} {c : Code} {D : va_G} {ρ : Nat → Nat} {κ : Nat → ClassId} {base : Nat} {post : Int32 → eS → Prop} (C : eCx p s m args meth c cX11_cycles RX11 3 (some .int) wsX11_cycles) (K : gK D ρ κ base s) : ∀ (n : Nat) (σ : eS) (x2 : Int32) (H : Heap) (locs : List Loc) (ls : Array Slot), b_X11_cycles_35 post n σ x2 → gG D ρ κ base s σ H locs → lv_has ls 3 [(0, .ref (ρ (97))), (2, .int (x2))] → W p l e rm_X11_cycles s m args below meth c H locs 0 0 (gQi below args s D ρ κ base post) (F0 m 35 ls []) := by
  obtain ⟨hx, hb, hml, hown, hts, hr, hlocks⟩ := id C
  intro n
  induction n with
  | zero => intro σ x2 H locs ls h G hl; exact False.elim h
  | succ n ih =>
    intro σ x2 H locs ls h G hl
    rw [b_X11_cycles_35] at h
    refine lv_iload_n hx hb dX11_cycles_35 rfl (lv_at hl 1 rfl) ?_
    refine lv_aload_n hx hb dX11_cycles_36 rfl (lv_at hl 0 rfl) ?_
    refine e_geti hx hb hts in_X11_cycles_X11 hown K G 97 (by decide) gl_97 rfl 0 (by decide) rfl (hts (.fieldLink RX11 104 "StreetsStepOnModel" "streets" "I") (e_mem (n := 4) rfl)) dX11_cycles_37 ?_
    refine lv_icmp_ge (tgt := 60) hx hb dX11_cycles_40 (by decide) (fun c9 => ?_) (fun c9 => ?_)
    · have h := h.1 c9
      refine lv_aload_n hx hb dX11_cycles_60 rfl (lv_at hl 0 rfl) ?_
      refine e_geti hx hb hts in_X11_cycles_X11 hown K G 97 (by decide) gl_97 rfl 0 (by decide) rfl (hts (.fieldLink RX11 104 "StreetsStepOnModel" "streets" "I") (e_mem (n := 4) rfl)) dX11_cycles_61 ?_
      refine lv_aload_n hx hb dX11_cycles_64 rfl (lv_at hl 0 rfl) ?_
      refine e_getq hx hb hts in_X11_cycles_X11 hown K G 97 (by decide) gl_97 rfl 31 (by decide) 112 rfl (hts (.fieldLink RX11 54 "StreetsStepOnModel" "cycle" "[I") (e_mem (n := 5) rfl)) dX11_cycles_65 ?_
      refine lv_iconst (v := (0 : Int32)) hx hb dX11_cycles_68 (by decide) ?_
      have hi10 := h.1
      have h := h.2
      refine e_iald hx hb K G 112 0 0 12 (by decide) gl_112 rfl hi10 dX11_cycles_69 ?_
      refine lv_isub hx hb dX11_cycles_70 ?_
      exact e_iret hx hb hr hlocks G h dX11_cycles_71
    · have h := h.2 c9
      refine lv_aload_n hx hb dX11_cycles_43 rfl (lv_at hl 0 rfl) ?_
      refine lv_aload_n hx hb dX11_cycles_44 rfl (lv_at hl 0 rfl) ?_
      refine e_getq hx hb hts in_X11_cycles_X11 hown K G 97 (by decide) gl_97 rfl 31 (by decide) 112 rfl (hts (.fieldLink RX11 54 "StreetsStepOnModel" "cycle" "[I") (e_mem (n := 5) rfl)) dX11_cycles_45 ?_
      refine lv_iload_n hx hb dX11_cycles_48 rfl (lv_at hl 1 rfl) ?_
      have hi11 := h.1
      have h := h.2
      refine e_iald hx hb K G 112 0 0 12 (by decide) gl_112 rfl hi11 dX11_cycles_49 ?_
      refine lv_i2l hx hb dX11_cycles_50 rfl ?_
      refine e_callVv (As := [.long ((σ.1 112 x2.toNatClampNeg).toInt64)]) (rest := []) ⟨hx, hb, hml, hown, hts⟩ K G 97 (by decide) gl_97 rfl (c_X11_tell h) (cwV 1 hts gX11_cycles_X11_tell rfl rfl rfl (by decide +kernel) ⟨Nat.le_of_ble_eq_true rfl, Nat.le_of_ble_eq_true rfl⟩) rfl hl.1 rfl (Nat.le_of_ble_eq_true rfl) dX11_cycles_51 ⟨Nat.zero_le _, Nat.zero_le _⟩ (fun σ12 H locs h G => ?_)
      obtain ⟨v13, ev13⟩ : ∃ y : Int32, y = x2 + (1 : Int32) := ⟨_, rfl⟩
      have h := h v13 ev13
      refine lv_iinc (v := v13) (lv' := [(2, .int (v13)), (0, .ref (ρ (97)))]) hx hb dX11_cycles_54 hl (k := 1) rfl (by rw [ev13]; rfl) (by decide) rfl (fun ls hl => ?_)
      refine lv_goto (tgt := 35) hx hb dX11_cycles_57 (by decide) ?_
      exact ih σ12 v13 _ _ _  h G (lv_sub hl [1, 0] rfl)
def w_X11_cycles (σ : eS) (x1 : Int32) (post : Int32 → eS → Prop) : Prop := ∀ σ1 : eS, σ1 = e_ui σ 97 18 (0 : Int32) → w_X11_isOrder σ1 x1 (fun r3 σ2 => ((¬ r3 = 0 → w_X11_findCycles σ2 ((12 : Int32) * x1) (fun r6 σ5 => ∀ σ7 : eS, σ7 = e_ui σ5 97 17 (0 : Int32) → ∀ v8 : Int32, v8 = (0 : Int32) → (∃ n14 : Nat, b_X11_cycles_35 post n14 σ7 v8))) ∧ (r3 = 0 → post (-1 : Int32) σ2)))
set_option maxHeartbeats 4000000 in
set_option maxRecDepth 100000 in
theorem c_X11_cycles {l : Launch} {D : va_G} {ρ : Nat → Nat} {κ : Nat → ClassId} {base : Nat} {σ : eS} {x1 : Int32} {post : Int32 → eS → Prop} (h : w_X11_cycles σ x1 post) : gMi l yX11_cycles wsX11_cycles rm_X11_cycles D ρ κ base [.ref (ρ (97)), .int (x1)] σ post := by
  refine e_ofWi (cc := cX11_cycles) (maxL := 3) (ret := (some .int)) (by decide) rfl (Nat.le_of_ble_eq_true rfl) ?_
  intro p e s m below meth c ls C K G hl
  obtain ⟨hx, hb, hml, hown, hts, hr, hlocks⟩ := id C
  have hl : lv_has ls 3 [(0, .ref (ρ (97))), (1, .int (x1))] := hl
  unfold w_X11_cycles at h
  refine lv_aload_n hx hb dX11_cycles_0 rfl (lv_at hl 0 rfl) ?_
  refine lv_iconst (v := (0 : Int32)) hx hb dX11_cycles_1 (by decide) ?_
  refine e_puti hx hb hts in_X11_cycles_X11 tyX11 tyX11_ok nmX11 hown K G 97 (by decide) gl_97 rfl 18 (by decide) rfl (hts (.fieldLink RX11 98 "StreetsStepOnModel" "thrown" "I") (e_mem (n := 1) rfl)) rfl (tyX11_ok 18 (by decide)) rfl rfl dX11_cycles_2 (fun H locs G => ?_)
  obtain ⟨σ1, eσ1⟩ : ∃ z : eS, z = e_ui σ 97 18 (0 : Int32) := ⟨_, rfl⟩
  rw [← eσ1] at G
  have h := h σ1 eσ1
  refine lv_aload_n hx hb dX11_cycles_5 rfl (lv_at hl 0 rfl) ?_
  refine lv_iload_n hx hb dX11_cycles_6 rfl (lv_at hl 1 rfl) ?_
  refine e_callVi (As := [.int (x1)]) (rest := []) ⟨hx, hb, hml, hown, hts⟩ K G 97 (by decide) gl_97 rfl (c_X11_isOrder h) (cwV 1 hts gX11_cycles_X11_isOrder rfl rfl rfl (by decide +kernel) ⟨Nat.le_of_ble_eq_true rfl, Nat.le_of_ble_eq_true rfl⟩) rfl hl.1 rfl (Nat.le_of_ble_eq_true rfl) dX11_cycles_7 ⟨Nat.zero_le _, Nat.zero_le _⟩ (fun r3 σ2 H locs h G => ?_)
  refine lv_if_ne (tgt := 15) hx hb dX11_cycles_10 (by decide) (fun c4 => ?_) (fun c4 => ?_)
  · have h := h.1 c4
    refine lv_aload_n hx hb dX11_cycles_15 rfl (lv_at hl 0 rfl) ?_
    refine lv_aload_n hx hb dX11_cycles_16 rfl (lv_at hl 0 rfl) ?_
    refine e_getq hx hb hts in_X11_cycles_X11 hown K G 97 (by decide) gl_97 rfl 5 (by decide) 101 rfl (hts (.fieldLink RX11 19 "StreetsStepOnModel" "nexts" "[I") (e_mem (n := 2) rfl)) dX11_cycles_17 ?_
    refine lv_bipush (v := (12 : Int32)) hx hb dX11_cycles_20 (by decide) ?_
    refine lv_iload_n hx hb dX11_cycles_22 rfl (lv_at hl 1 rfl) ?_
    refine lv_imul hx hb dX11_cycles_23 ?_
    refine e_callVi (As := [.ref (ρ (101)), .int ((12 : Int32) * x1)]) (rest := []) ⟨hx, hb, hml, hown, hts⟩ K G 97 (by decide) gl_97 rfl (c_X11_findCycles h) (cwV 2 hts gX11_cycles_X11_findCycles rfl rfl rfl (by decide +kernel) ⟨Nat.le_of_ble_eq_true rfl, Nat.le_of_ble_eq_true rfl⟩) rfl hl.1 rfl (Nat.le_of_ble_eq_true rfl) dX11_cycles_24 ⟨Nat.zero_le _, Nat.zero_le _⟩ (fun r6 σ5 H locs h G => ?_)
    refine lv_pop hx hb dX11_cycles_27 rfl ?_
    refine lv_aload_n hx hb dX11_cycles_28 rfl (lv_at hl 0 rfl) ?_
    refine lv_iconst (v := (0 : Int32)) hx hb dX11_cycles_29 (by decide) ?_
    refine e_puti hx hb hts in_X11_cycles_X11 tyX11 tyX11_ok nmX11 hown K G 97 (by decide) gl_97 rfl 17 (by decide) rfl (hts (.fieldLink RX11 101 "StreetsStepOnModel" "rowMany" "I") (e_mem (n := 3) rfl)) rfl (tyX11_ok 17 (by decide)) rfl rfl dX11_cycles_30 (fun H locs G => ?_)
    obtain ⟨σ7, eσ7⟩ : ∃ z : eS, z = e_ui σ5 97 17 (0 : Int32) := ⟨_, rfl⟩
    rw [← eσ7] at G
    have h := h σ7 eσ7
    refine lv_iconst (v := (0 : Int32)) hx hb dX11_cycles_33 (by decide) ?_
    refine lv_topi (fun v8 ev8 => ?_)
    have h := h v8 ev8
    refine lv_istore_n (lv' := [(2, .int (v8)), (0, .ref (ρ (97))), (1, .int (x1))]) hx hb dX11_cycles_34 rfl hl (by decide) rfl (fun ls hl => ?_)
    obtain ⟨n14, h⟩ := h
    exact l_X11_cycles_35 C K n14 σ7 v8 _ _ _  h G (lv_sub hl [1, 0] rfl)
  · have h := h.2 c4
    refine lv_iconst (v := (-1 : Int32)) hx hb dX11_cycles_13 (by decide) ?_
    exact e_iret hx hb hr hlocks G h dX11_cycles_14
abbrev rm_X10_roots : Room := { frames := 1, cells := 0, slots := 0, locals := 21 }
theorem in_X10_roots_X1 : ∀ w ∈ wsX10, w ∈ wsX10_roots := fun w h => List.mem_cons_of_mem _ (List.mem_append_left _ (List.mem_append_left _ (List.mem_append_right _ h)))
theorem in_X10_roots_X10 : ∀ w ∈ wsX100, w ∈ wsX10_roots := fun w h => List.mem_cons_of_mem _ (List.mem_append_left _ (List.mem_append_left _ (List.mem_append_left _ (List.mem_append_right _ h))))
def w_X10_roots (σ : eS) (x1 : Int32) (x2 : Int32) (post : Int32 → eS → Prop) : Prop := w_X10_isOrder σ x1 (fun r2 σ1 => ((r2 = 0 → post (-1 : Int32) σ1) ∧ (¬ (r2 = 0) → ((x2 < (1 : Int32) → post (-1 : Int32) σ1) ∧ (¬ (x2 < (1 : Int32)) → ((x2 ≤ (12 : Int32) → (((σ1.1 5 4) ≤ (6 : Int32) → False) ∧ (¬ ((σ1.1 5 4) ≤ (6 : Int32)) → post (-3 : Int32) σ1))) ∧ (¬ (x2 ≤ (12 : Int32)) → post (-1 : Int32) σ1)))))))
set_option maxHeartbeats 4000000 in
set_option maxRecDepth 100000 in
theorem c_X10_roots {l : Launch} {D : va_G} {ρ : Nat → Nat} {κ : Nat → ClassId} {base : Nat} {σ : eS} {x1 : Int32} {x2 : Int32} {post : Int32 → eS → Prop} (h : w_X10_roots σ x1 x2 post) : gMi l yX10_roots wsX10_roots rm_X10_roots D ρ κ base [.ref (ρ (0)), .int (x1), .int (x2)] σ post := by
  refine e_ofWi (cc := cX10_roots) (maxL := 4) (ret := (some .int)) (by decide) rfl (Nat.le_of_ble_eq_true rfl) ?_
  intro p e s m below meth c ls C K G hl
  obtain ⟨hx, hb, hml, hown, hts, hr, hlocks⟩ := id C
  have hl : lv_has ls 4 [(0, .ref (ρ (0))), (1, .int (x1)), (2, .int (x2))] := hl
  unfold w_X10_roots at h
  refine lv_aload_n hx hb dX10_roots_0 rfl (lv_at hl 0 rfl) ?_
  refine lv_iload_n hx hb dX10_roots_1 rfl (lv_at hl 1 rfl) ?_
  refine e_callVi (As := [.int (x1)]) (rest := []) ⟨hx, hb, hml, hown, hts⟩ K G 0 (by decide) gl_0 rfl (c_X10_isOrder h) (cwV 1 hts gX10_roots_X10_isOrder rfl rfl rfl (by decide +kernel) ⟨Nat.le_of_ble_eq_true rfl, Nat.le_of_ble_eq_true rfl⟩) rfl hl.1 rfl (Nat.le_of_ble_eq_true rfl) dX10_roots_2 ⟨Nat.zero_le _, Nat.zero_le _⟩ (fun r2 σ1 H locs h G => ?_)
  refine lv_if_eq (tgt := 19) hx hb dX10_roots_5 (by decide) (fun c3 => ?_) (fun c3 => ?_)
  · have h := h.1 c3
    refine lv_iconst (v := (-1 : Int32)) hx hb dX10_roots_19 (by decide) ?_
    exact e_iret hx hb hr hlocks G h dX10_roots_20
  · have h := h.2 c3
    refine lv_iload_n hx hb dX10_roots_8 rfl (lv_at hl 2 rfl) ?_
    refine lv_iconst (v := (1 : Int32)) hx hb dX10_roots_9 (by decide) ?_
    refine lv_icmp_lt (tgt := 19) hx hb dX10_roots_10 (by decide) (fun c4 => ?_) (fun c4 => ?_)
    · have h := h.1 c4
      refine lv_iconst (v := (-1 : Int32)) hx hb dX10_roots_19 (by decide) ?_
      exact e_iret hx hb hr hlocks G h dX10_roots_20
    · have h := h.2 c4
      refine lv_iload_n hx hb dX10_roots_13 rfl (lv_at hl 2 rfl) ?_
      refine lv_bipush (v := (12 : Int32)) hx hb dX10_roots_14 (by decide) ?_
      refine lv_icmp_le (tgt := 21) hx hb dX10_roots_16 (by decide) (fun c5 => ?_) (fun c5 => ?_)
      · have h := h.1 c5
        refine lv_aload_n hx hb dX10_roots_21 rfl (lv_at hl 0 rfl) ?_
        refine e_getq hx hb hts in_X10_roots_X10 hown K G 0 (by decide) gl_0 rfl 2 (by decide) 5 rfl (hts (.fieldLink RX10 26 "StreetsStepOn" "book" "LStreetsStepOn$Book;") (e_mem (n := 1) rfl)) dX10_roots_22 ?_
        refine e_getiN hx hb hts in_X10_roots_X1 hown K G 5 (by decide) gl_5 rfl 4 (by decide) rfl (e_memq (n := 18) rfl) dX10_roots_25 ?_
        refine lv_bipush (v := (6 : Int32)) hx hb dX10_roots_28 (by decide) ?_
        refine lv_icmp_le (tgt := 36) hx hb dX10_roots_30 (by decide) (fun c6 => ?_) (fun c6 => ?_)
        · have h := h.1 c6
          refine lv_aload_n hx hb dX10_roots_36 rfl (lv_at hl 0 rfl) ?_
          refine e_getq hx hb hts in_X10_roots_X10 hown K G 0 (by decide) gl_0 rfl 8 (by decide) 41 rfl (hts (.fieldLink RX10 65 "StreetsStepOn" "council" "LStreetsStepOn$Council;") (e_mem (n := 2) rfl)) dX10_roots_37 ?_
          refine lv_aload_n hx hb dX10_roots_40 rfl (lv_at hl 0 rfl) ?_
          refine e_getq hx hb hts in_X10_roots_X10 hown K G 0 (by decide) gl_0 rfl 2 (by decide) 5 rfl (hts (.fieldLink RX10 26 "StreetsStepOn" "book" "LStreetsStepOn$Book;") (e_mem (n := 1) rfl)) dX10_roots_41 ?_
          refine lv_iload_n hx hb dX10_roots_44 rfl (lv_at hl 1 rfl) ?_
          refine lv_iload_n hx hb dX10_roots_45 rfl (lv_at hl 2 rfl) ?_
          exact h.elim
        · have h := h.2 c6
          refine lv_bipush (v := (-3 : Int32)) hx hb dX10_roots_33 (by decide) ?_
          exact e_iret hx hb hr hlocks G h dX10_roots_35
      · have h := h.2 c5
        refine lv_iconst (v := (-1 : Int32)) hx hb dX10_roots_19 (by decide) ?_
        exact e_iret hx hb hr hlocks G h dX10_roots_20
abbrev rm_X11_findWays : Room := { frames := 1, cells := 0, slots := 0, locals := 21 }
theorem in_X11_findWays_X11 : ∀ w ∈ wsX110, w ∈ wsX11_findWays := fun w h => List.mem_cons_of_mem _ (List.mem_append_right _ h)
def b_X11_findWays_95 (post : eS → Prop) (K57 : eS → Int32 → Int32 → Int32 → Prop) (σ : eS) (x1 : Int32) (x2 : Int32) (x3 : Int32) : Prop := ∀ v9 : Int32, v9 = (x3 + (1 : Int32)) → K57 σ x1 x2 v9
set_option maxHeartbeats 4000000 in
set_option maxRecDepth 100000 in
theorem l_X11_findWays_95 {p : Program} {l : Launch} {e : Env} {s : State} {m : MethodId} {args : Array Value} {below : List Frame} {meth : Method} {c : Code} {D : va_G} {ρ : Nat → Nat} {κ : Nat → ClassId} {base : Nat} {post : eS → Prop} (C : eCx p s m args meth c cX11_findWays RX11 4 none wsX11_findWays) (K : gK D ρ κ base s) {K57 : eS → Int32 → Int32 → Int32 → Prop} (hK57 : ∀ (σ : eS) (x1 : Int32) (x2 : Int32) (x3 : Int32) (H : Heap) (locs : List Loc) (ls : Array Slot), K57 σ x1 x2 x3 → gG D ρ κ base s σ H locs → lv_has ls 4 [(0, .ref (ρ (97))), (1, .int (x1)), (2, .int (x2)), (3, .int (x3))] → W p l e rm_X11_findWays s m args below meth c H locs 0 0 (gQv below args s D ρ κ base post) (F0 m 57 ls [])) : ∀ (σ : eS) (x1 : Int32) (x2 : Int32) (x3 : Int32) (H : Heap) (locs : List Loc) (ls : Array Slot), b_X11_findWays_95 post K57 σ x1 x2 x3 → gG D ρ κ base s σ H locs → lv_has ls 4 [(0, .ref (ρ (97))), (1, .int (x1)), (2, .int (x2)), (3, .int (x3))] → W p l e rm_X11_findWays s m args below meth c H locs 0 0 (gQv below args s D ρ κ base post) (F0 m 95 ls []) := by
  obtain ⟨hx, hb, hml, hown, hts, hr, hlocks⟩ := id C
  intro σ x1 x2 x3 H locs ls h G hl
  unfold b_X11_findWays_95 at h
  obtain ⟨v9, ev9⟩ : ∃ y : Int32, y = x3 + (1 : Int32) := ⟨_, rfl⟩
  have h := h v9 ev9
  refine lv_iinc (v := v9) (lv' := [(3, .int (v9)), (0, .ref (ρ (97))), (1, .int (x1)), (2, .int (x2))]) hx hb dX11_findWays_95 hl (k := 3) rfl (by rw [ev9]; rfl) (by decide) rfl (fun ls hl => ?_)
  refine lv_goto (tgt := 57) hx hb dX11_findWays_98 (by decide) ?_
  exact hK57 σ x1 x2 v9 _ _ _  h G (lv_sub hl [1, 2, 3, 0] rfl)
def b_X11_findWays_57 (post : eS → Prop) : Nat → eS → Int32 → Int32 → Int32 → Prop
  | 0, _, _, _, _ => False
  | n + 1, σ, x1, x2, x3 => (((σ.1 97 0) ≤ x3 → post σ) ∧ (¬ ((σ.1 97 0) ≤ x3) → w_X11_has σ x2 x3 (fun r5 σ4 => ((r5 = 0 → (vp_in x1 6) ∧ ∀ σ8 : eS, σ8 = e_ui σ4 114 x1.toNatClampNeg x3 → False) ∧ (¬ (r5 = 0) → b_X11_findWays_95 post (fun s x1 x2 x3 => b_X11_findWays_57 post n s x1 x2 x3) σ4 x1 x2 x3)))))
set_option maxHeartbeats 4000000 in
set_option maxRecDepth 100000 in
theorem l_X11_findWays_57 {p : Program} {l : Launch} {e : Env} {s : State} {m : MethodId} {args : Array Value} {below : List Frame} {meth : Method} {c : Code} {D : va_G} {ρ : Nat → Nat} {κ : Nat → ClassId} {base : Nat} {post : eS → Prop} (C : eCx p s m args meth c cX11_findWays RX11 4 none wsX11_findWays) (K : gK D ρ κ base s) : ∀ (n : Nat) (σ : eS) (x1 : Int32) (x2 : Int32) (x3 : Int32) (H : Heap) (locs : List Loc) (ls : Array Slot), b_X11_findWays_57 post n σ x1 x2 x3 → gG D ρ κ base s σ H locs → lv_has ls 4 [(0, .ref (ρ (97))), (1, .int (x1)), (2, .int (x2)), (3, .int (x3))] → W p l e rm_X11_findWays s m args below meth c H locs 0 0 (gQv below args s D ρ κ base post) (F0 m 57 ls []) := by
  obtain ⟨hx, hb, hml, hown, hts, hr, hlocks⟩ := id C
  intro n
  induction n with
  | zero => intro σ x1 x2 x3 H locs ls h G hl; exact False.elim h
  | succ n ih =>
    intro σ x1 x2 x3 H locs ls h G hl
    rw [b_X11_findWays_57] at h
    refine lv_iload_n hx hb dX11_findWays_57 rfl (lv_at hl 3 rfl) ?_
    refine lv_aload_n hx hb dX11_findWays_58 rfl (lv_at hl 0 rfl) ?_
    refine e_geti hx hb hts in_X11_findWays_X11 hown K G 97 (by decide) gl_97 rfl 0 (by decide) rfl (hts (.fieldLink RX11 104 "StreetsStepOnModel" "streets" "I") (e_mem (n := 1) rfl)) dX11_findWays_59 ?_
    refine lv_icmp_ge (tgt := 101) hx hb dX11_findWays_62 (by decide) (fun c3 => ?_) (fun c3 => ?_)
    · have h := h.1 c3
      exact e_vret hx hb hr hlocks G h dX11_findWays_101
    · have h := h.2 c3
      refine lv_iload_n hx hb dX11_findWays_65 rfl (lv_at hl 2 rfl) ?_
      refine lv_iload_n hx hb dX11_findWays_66 rfl (lv_at hl 3 rfl) ?_
      refine e_callSi (As := [.int (x2), .int (x3)]) (rest := []) ⟨hx, hb, hml, hown, hts⟩ K G (c_X11_has h) (va_cwS 2 hts gX11_findWays_X11_has rfl rfl rfl (by decide +kernel) ⟨Nat.le_of_ble_eq_true rfl, Nat.le_of_ble_eq_true rfl⟩) rfl hl.1 rfl (Nat.le_of_ble_eq_true rfl) dX11_findWays_67 ⟨Nat.zero_le _, Nat.zero_le _⟩ (fun r5 σ4 H locs h G => ?_)
      refine lv_if_eq (tgt := 76) hx hb dX11_findWays_70 (by decide) (fun c6 => ?_) (fun c6 => ?_)
      · have h := h.1 c6
        refine lv_aload_n hx hb dX11_findWays_76 rfl (lv_at hl 0 rfl) ?_
        refine e_getq hx hb hts in_X11_findWays_X11 hown K G 97 (by decide) gl_97 rfl 34 (by decide) 114 rfl (hts (.fieldLink RX11 60 "StreetsStepOnModel" "way" "[I") (e_mem (n := 4) rfl)) dX11_findWays_77 ?_
        refine lv_iload_n hx hb dX11_findWays_80 rfl (lv_at hl 1 rfl) ?_
        refine lv_iload_n hx hb dX11_findWays_81 rfl (lv_at hl 3 rfl) ?_
        have hi7 := h.1
        have h := h.2
        refine e_iast hx hb K G 114 0 0 6 (by decide) gl_114 rfl hi7 dX11_findWays_82 (fun H locs G => ?_)
        obtain ⟨σ8, eσ8⟩ : ∃ z : eS, z = e_ui σ4 114 x1.toNatClampNeg x3 := ⟨_, rfl⟩
        rw [← eσ8] at G
        have h := h σ8 eσ8
        refine lv_aload_n hx hb dX11_findWays_83 rfl (lv_at hl 0 rfl) ?_
        refine lv_iload_n hx hb dX11_findWays_84 rfl (lv_at hl 1 rfl) ?_
        refine lv_iconst (v := (1 : Int32)) hx hb dX11_findWays_85 (by decide) ?_
        refine lv_iadd hx hb dX11_findWays_86 ?_
        refine lv_iload_n hx hb dX11_findWays_87 rfl (lv_at hl 2 rfl) ?_
        refine lv_iconst (v := (1 : Int32)) hx hb dX11_findWays_88 (by decide) ?_
        refine lv_iload_n hx hb dX11_findWays_89 rfl (lv_at hl 3 rfl) ?_
        refine lv_ishl hx hb dX11_findWays_90 ?_
        refine lv_ior hx hb dX11_findWays_91 ?_
        exact h.elim
      · have h := h.2 c6
        refine lv_goto (tgt := 95) hx hb dX11_findWays_73 (by decide) ?_
        exact l_X11_findWays_95 C K (hK57 := ih) σ4 x1 x2 x3 _ _ _  h G (lv_sub hl [0, 1, 2, 3] rfl)
def b_X11_findWays_10 (post : eS → Prop) : Nat → eS → Int32 → Prop
  | 0, _, _ => False
  | n + 1, σ, x3 => (((σ.1 97 0) ≤ x3 → ∀ σ13 : eS, σ13 = e_ui σ 97 33 ((σ.1 97 33) + (1 : Int32)) → post σ13) ∧ (¬ ((σ.1 97 0) ≤ x3) → (vp_in x3 6) ∧ (vp_in (((6 : Int32) * (σ.1 97 33)) + x3) 4320) ∧ ∀ σ16 : eS, σ16 = e_ui σ 113 (((6 : Int32) * (σ.1 97 33)) + x3).toNatClampNeg (σ.1 114 x3.toNatClampNeg) → ∀ v17 : Int32, v17 = (x3 + (1 : Int32)) → b_X11_findWays_10 post n σ16 v17))
set_option maxHeartbeats 4000000 in
set_option maxRecDepth 100000 in
theorem l_X11_findWays_10 {p : Program} {l : Launch} {e : Env} {s : State} {m : MethodId} {args : Array Value} {below : List Frame} {meth : Method} {c : Code} {D : va_G} {ρ : Nat → Nat} {κ : Nat → ClassId} {base : Nat} {post : eS → Prop} (C : eCx p s m args meth c cX11_findWays RX11 4 none wsX11_findWays) (K : gK D ρ κ base s) : ∀ (n : Nat) (σ : eS) (x3 : Int32) (H : Heap) (locs : List Loc) (ls : Array Slot), b_X11_findWays_10 post n σ x3 → gG D ρ κ base s σ H locs → lv_has ls 4 [(0, .ref (ρ (97))), (3, .int (x3))] → W p l e rm_X11_findWays s m args below meth c H locs 0 0 (gQv below args s D ρ κ base post) (F0 m 10 ls []) := by
  obtain ⟨hx, hb, hml, hown, hts, hr, hlocks⟩ := id C
  intro n
  induction n with
  | zero => intro σ x3 H locs ls h G hl; exact False.elim h
  | succ n ih =>
    intro σ x3 H locs ls h G hl
    rw [b_X11_findWays_10] at h
    refine lv_iload_n hx hb dX11_findWays_10 rfl (lv_at hl 1 rfl) ?_
    refine lv_aload_n hx hb dX11_findWays_11 rfl (lv_at hl 0 rfl) ?_
    refine e_geti hx hb hts in_X11_findWays_X11 hown K G 97 (by decide) gl_97 rfl 0 (by decide) rfl (hts (.fieldLink RX11 104 "StreetsStepOnModel" "streets" "I") (e_mem (n := 1) rfl)) dX11_findWays_12 ?_
    refine lv_icmp_ge (tgt := 44) hx hb dX11_findWays_15 (by decide) (fun c12 => ?_) (fun c12 => ?_)
    · have h := h.1 c12
      refine lv_aload_n hx hb dX11_findWays_44 rfl (lv_at hl 0 rfl) ?_
      refine lv_dup hx hb dX11_findWays_45 rfl ?_
      refine e_geti hx hb hts in_X11_findWays_X11 hown K G 97 (by decide) gl_97 rfl 33 (by decide) rfl (hts (.fieldLink RX11 302 "StreetsStepOnModel" "wayMany" "I") (e_mem (n := 3) rfl)) dX11_findWays_46 ?_
      refine lv_iconst (v := (1 : Int32)) hx hb dX11_findWays_49 (by decide) ?_
      refine lv_iadd hx hb dX11_findWays_50 ?_
      refine e_puti hx hb hts in_X11_findWays_X11 tyX11 tyX11_ok nmX11 hown K G 97 (by decide) gl_97 rfl 33 (by decide) rfl (hts (.fieldLink RX11 302 "StreetsStepOnModel" "wayMany" "I") (e_mem (n := 3) rfl)) rfl (tyX11_ok 33 (by decide)) rfl rfl dX11_findWays_51 (fun H locs G => ?_)
      obtain ⟨σ13, eσ13⟩ : ∃ z : eS, z = e_ui σ 97 33 ((σ.1 97 33) + (1 : Int32)) := ⟨_, rfl⟩
      rw [← eσ13] at G
      have h := h σ13 eσ13
      exact e_vret hx hb hr hlocks G h dX11_findWays_54
    · have h := h.2 c12
      refine lv_aload_n hx hb dX11_findWays_18 rfl (lv_at hl 0 rfl) ?_
      refine e_getq hx hb hts in_X11_findWays_X11 hown K G 97 (by decide) gl_97 rfl 32 (by decide) 113 rfl (hts (.fieldLink RX11 57 "StreetsStepOnModel" "ways" "[I") (e_mem (n := 2) rfl)) dX11_findWays_19 ?_
      refine lv_bipush (v := (6 : Int32)) hx hb dX11_findWays_22 (by decide) ?_
      refine lv_aload_n hx hb dX11_findWays_24 rfl (lv_at hl 0 rfl) ?_
      refine e_geti hx hb hts in_X11_findWays_X11 hown K G 97 (by decide) gl_97 rfl 33 (by decide) rfl (hts (.fieldLink RX11 302 "StreetsStepOnModel" "wayMany" "I") (e_mem (n := 3) rfl)) dX11_findWays_25 ?_
      refine lv_imul hx hb dX11_findWays_28 ?_
      refine lv_iload_n hx hb dX11_findWays_29 rfl (lv_at hl 1 rfl) ?_
      refine lv_iadd hx hb dX11_findWays_30 ?_
      refine lv_aload_n hx hb dX11_findWays_31 rfl (lv_at hl 0 rfl) ?_
      refine e_getq hx hb hts in_X11_findWays_X11 hown K G 97 (by decide) gl_97 rfl 34 (by decide) 114 rfl (hts (.fieldLink RX11 60 "StreetsStepOnModel" "way" "[I") (e_mem (n := 4) rfl)) dX11_findWays_32 ?_
      refine lv_iload_n hx hb dX11_findWays_35 rfl (lv_at hl 1 rfl) ?_
      have hi14 := h.1
      have h := h.2
      refine e_iald hx hb K G 114 0 0 6 (by decide) gl_114 rfl hi14 dX11_findWays_36 ?_
      have hi15 := h.1
      have h := h.2
      refine e_iast hx hb K G 113 0 0 4320 (by decide) gl_113 rfl hi15 dX11_findWays_37 (fun H locs G => ?_)
      obtain ⟨σ16, eσ16⟩ : ∃ z : eS, z = e_ui σ 113 (((6 : Int32) * (σ.1 97 33)) + x3).toNatClampNeg (σ.1 114 x3.toNatClampNeg) := ⟨_, rfl⟩
      rw [← eσ16] at G
      have h := h σ16 eσ16
      obtain ⟨v17, ev17⟩ : ∃ y : Int32, y = x3 + (1 : Int32) := ⟨_, rfl⟩
      have h := h v17 ev17
      refine lv_iinc (v := v17) (lv' := [(3, .int (v17)), (0, .ref (ρ (97)))]) hx hb dX11_findWays_38 hl (k := 1) rfl (by rw [ev17]; rfl) (by decide) rfl (fun ls hl => ?_)
      refine lv_goto (tgt := 10) hx hb dX11_findWays_41 (by decide) ?_
      exact ih σ16 v17 _ _ _  h G (lv_sub hl [1, 0] rfl)
def w_X11_findWays (σ : eS) (x1 : Int32) (x2 : Int32) (post : eS → Prop) : Prop := ((¬ x1 = (σ.1 97 0) → ∀ v2 : Int32, v2 = (0 : Int32) → (∃ n10 : Nat, b_X11_findWays_57 post n10 σ x1 x2 v2)) ∧ (x1 = (σ.1 97 0) → ∀ v11 : Int32, v11 = (0 : Int32) → (∃ n18 : Nat, b_X11_findWays_10 post n18 σ v11)))
set_option maxHeartbeats 4000000 in
set_option maxRecDepth 100000 in
theorem c_X11_findWays {l : Launch} {D : va_G} {ρ : Nat → Nat} {κ : Nat → ClassId} {base : Nat} {σ : eS} {x1 : Int32} {x2 : Int32} {post : eS → Prop} (h : w_X11_findWays σ x1 x2 post) : gMv l yX11_findWays wsX11_findWays rm_X11_findWays D ρ κ base [.ref (ρ (97)), .int (x1), .int (x2)] σ post := by
  refine e_ofWv (cc := cX11_findWays) (maxL := 4) (ret := none) (by decide) rfl (Nat.le_of_ble_eq_true rfl) ?_
  intro p e s m below meth c ls C K G hl
  obtain ⟨hx, hb, hml, hown, hts, hr, hlocks⟩ := id C
  have hl : lv_has ls 4 [(0, .ref (ρ (97))), (1, .int (x1)), (2, .int (x2))] := hl
  unfold w_X11_findWays at h
  refine lv_iload_n hx hb dX11_findWays_0 rfl (lv_at hl 1 rfl) ?_
  refine lv_aload_n hx hb dX11_findWays_1 rfl (lv_at hl 0 rfl) ?_
  refine e_geti hx hb hts in_X11_findWays_X11 hown K G 97 (by decide) gl_97 rfl 0 (by decide) rfl (hts (.fieldLink RX11 104 "StreetsStepOnModel" "streets" "I") (e_mem (n := 1) rfl)) dX11_findWays_2 ?_
  refine lv_icmp_ne (tgt := 55) hx hb dX11_findWays_5 (by decide) (fun c1 => ?_) (fun c1 => ?_)
  · have h := h.1 c1
    refine lv_iconst (v := (0 : Int32)) hx hb dX11_findWays_55 (by decide) ?_
    refine lv_topi (fun v2 ev2 => ?_)
    have h := h v2 ev2
    refine lv_istore_n (lv' := [(3, .int (v2)), (0, .ref (ρ (97))), (1, .int (x1)), (2, .int (x2))]) hx hb dX11_findWays_56 rfl hl (by decide) rfl (fun ls hl => ?_)
    obtain ⟨n10, h⟩ := h
    exact l_X11_findWays_57 C K n10 σ x1 x2 v2 _ _ _  h G (lv_sub hl [1, 2, 3, 0] rfl)
  · have h := h.2 c1
    refine lv_iconst (v := (0 : Int32)) hx hb dX11_findWays_8 (by decide) ?_
    refine lv_topi (fun v11 ev11 => ?_)
    have h := h v11 ev11
    refine lv_istore_n (lv' := [(3, .int (v11)), (0, .ref (ρ (97))), (1, .int (x1)), (2, .int (x2))]) hx hb dX11_findWays_9 rfl hl (by decide) rfl (fun ls hl => ?_)
    obtain ⟨n18, h⟩ := h
    exact l_X11_findWays_10 C K n18 σ v11 _ _ _  h G (lv_sub hl [1, 0] rfl)
abbrev rm_X11_tellWay : Room := { frames := 1, cells := 0, slots := 0, locals := 22 }
theorem in_X11_tellWay_X11 : ∀ w ∈ wsX110, w ∈ wsX11_tellWay := fun w h => List.mem_cons_of_mem _ (List.mem_append_right _ h)
def b_X11_tellWay_2 (post : eS → Prop) : Nat → eS → Int32 → Int32 → Prop
  | 0, _, _, _ => False
  | n + 1, σ, x1, x2 => (((σ.1 97 0) ≤ x2 → post σ) ∧ (¬ ((σ.1 97 0) ≤ x2) → (vp_in (((6 : Int32) * x1) + x2) 4320) ∧ w_X11_tell σ ((σ.1 113 (((6 : Int32) * x1) + x2).toNatClampNeg).toInt64) (fun σ4 => ∀ v5 : Int32, v5 = (x2 + (1 : Int32)) → b_X11_tellWay_2 post n σ4 x1 v5)))
set_option maxHeartbeats 4000000 in
set_option maxRecDepth 100000 in
theorem l_X11_tellWay_2 {p : Program} {l : Launch} {e : Env} {s : State} {m : MethodId} {args : Array Value} {below : List Frame} {meth : Method} {c : Code} {D : va_G} {ρ : Nat → Nat} {κ : Nat → ClassId} {base : Nat} {post : eS → Prop} (C : eCx p s m args meth c cX11_tellWay RX11 3 none wsX11_tellWay) (K : gK D ρ κ base s) : ∀ (n : Nat) (σ : eS) (x1 : Int32) (x2 : Int32) (H : Heap) (locs : List Loc) (ls : Array Slot), b_X11_tellWay_2 post n σ x1 x2 → gG D ρ κ base s σ H locs → lv_has ls 3 [(0, .ref (ρ (97))), (1, .int (x1)), (2, .int (x2))] → W p l e rm_X11_tellWay s m args below meth c H locs 0 0 (gQv below args s D ρ κ base post) (F0 m 2 ls []) := by
  obtain ⟨hx, hb, hml, hown, hts, hr, hlocks⟩ := id C
  intro n
  induction n with
  | zero => intro σ x1 x2 H locs ls h G hl; exact False.elim h
  | succ n ih =>
    intro σ x1 x2 H locs ls h G hl
    rw [b_X11_tellWay_2] at h
    refine lv_iload_n hx hb dX11_tellWay_2 rfl (lv_at hl 2 rfl) ?_
    refine lv_aload_n hx hb dX11_tellWay_3 rfl (lv_at hl 0 rfl) ?_
    refine e_geti hx hb hts in_X11_tellWay_X11 hown K G 97 (by decide) gl_97 rfl 0 (by decide) rfl (hts (.fieldLink RX11 104 "StreetsStepOnModel" "streets" "I") (e_mem (n := 1) rfl)) dX11_tellWay_4 ?_
    refine lv_icmp_ge (tgt := 32) hx hb dX11_tellWay_7 (by decide) (fun c2 => ?_) (fun c2 => ?_)
    · have h := h.1 c2
      exact e_vret hx hb hr hlocks G h dX11_tellWay_32
    · have h := h.2 c2
      refine lv_aload_n hx hb dX11_tellWay_10 rfl (lv_at hl 0 rfl) ?_
      refine lv_aload_n hx hb dX11_tellWay_11 rfl (lv_at hl 0 rfl) ?_
      refine e_getq hx hb hts in_X11_tellWay_X11 hown K G 97 (by decide) gl_97 rfl 32 (by decide) 113 rfl (hts (.fieldLink RX11 57 "StreetsStepOnModel" "ways" "[I") (e_mem (n := 2) rfl)) dX11_tellWay_12 ?_
      refine lv_bipush (v := (6 : Int32)) hx hb dX11_tellWay_15 (by decide) ?_
      refine lv_iload_n hx hb dX11_tellWay_17 rfl (lv_at hl 1 rfl) ?_
      refine lv_imul hx hb dX11_tellWay_18 ?_
      refine lv_iload_n hx hb dX11_tellWay_19 rfl (lv_at hl 2 rfl) ?_
      refine lv_iadd hx hb dX11_tellWay_20 ?_
      have hi3 := h.1
      have h := h.2
      refine e_iald hx hb K G 113 0 0 4320 (by decide) gl_113 rfl hi3 dX11_tellWay_21 ?_
      refine lv_i2l hx hb dX11_tellWay_22 rfl ?_
      refine e_callVv (As := [.long ((σ.1 113 (((6 : Int32) * x1) + x2).toNatClampNeg).toInt64)]) (rest := []) ⟨hx, hb, hml, hown, hts⟩ K G 97 (by decide) gl_97 rfl (c_X11_tell h) (cwV 1 hts gX11_tellWay_X11_tell rfl rfl rfl (by decide +kernel) ⟨Nat.le_of_ble_eq_true rfl, Nat.le_of_ble_eq_true rfl⟩) rfl hl.1 rfl (Nat.le_of_ble_eq_true rfl) dX11_tellWay_23 ⟨Nat.zero_le _, Nat.zero_le _⟩ (fun σ4 H locs h G => ?_)
      obtain ⟨v5, ev5⟩ : ∃ y : Int32, y = x2 + (1 : Int32) := ⟨_, rfl⟩
      have h := h v5 ev5
      refine lv_iinc (v := v5) (lv' := [(2, .int (v5)), (0, .ref (ρ (97))), (1, .int (x1))]) hx hb dX11_tellWay_26 hl (k := 2) rfl (by rw [ev5]; rfl) (by decide) rfl (fun ls hl => ?_)
      refine lv_goto (tgt := 2) hx hb dX11_tellWay_29 (by decide) ?_
      exact ih σ4 x1 v5 _ _ _  h G (lv_sub hl [1, 2, 0] rfl)
def w_X11_tellWay (σ : eS) (x1 : Int32) (post : eS → Prop) : Prop := ∀ v1 : Int32, v1 = (0 : Int32) → (∃ n6 : Nat, b_X11_tellWay_2 post n6 σ x1 v1)
set_option maxHeartbeats 4000000 in
set_option maxRecDepth 100000 in
theorem c_X11_tellWay {l : Launch} {D : va_G} {ρ : Nat → Nat} {κ : Nat → ClassId} {base : Nat} {σ : eS} {x1 : Int32} {post : eS → Prop} (h : w_X11_tellWay σ x1 post) : gMv l yX11_tellWay wsX11_tellWay rm_X11_tellWay D ρ κ base [.ref (ρ (97)), .int (x1)] σ post := by
  refine e_ofWv (cc := cX11_tellWay) (maxL := 3) (ret := none) (by decide) rfl (Nat.le_of_ble_eq_true rfl) ?_
  intro p e s m below meth c ls C K G hl
  obtain ⟨hx, hb, hml, hown, hts, hr, hlocks⟩ := id C
  have hl : lv_has ls 3 [(0, .ref (ρ (97))), (1, .int (x1))] := hl
  unfold w_X11_tellWay at h
  refine lv_iconst (v := (0 : Int32)) hx hb dX11_tellWay_0 (by decide) ?_
  refine lv_topi (fun v1 ev1 => ?_)
  have h := h v1 ev1
  refine lv_istore_n (lv' := [(2, .int (v1)), (0, .ref (ρ (97))), (1, .int (x1))]) hx hb dX11_tellWay_1 rfl hl (by decide) rfl (fun ls hl => ?_)
  obtain ⟨n6, h⟩ := h
  exact l_X11_tellWay_2 C K n6 σ x1 v1 _ _ _  h G (lv_sub hl [1, 2, 0] rfl)
abbrev rm_X11_roots : Room := { frames := 2, cells := 0, slots := 0, locals := 46 }
theorem in_X11_roots_X11 : ∀ w ∈ wsX110, w ∈ wsX11_roots := fun w h => List.mem_cons_of_mem _ (List.mem_append_right _ h)
def b_X11_roots_147 (post : Int32 → eS → Prop) (K60 : eS → Int32 → Int32 → Int32 → Int32 → Prop) (σ : eS) (x1 : Int32) (x2 : Int32) (x3 : Int32) (x4 : Int32) : Prop := ∀ v21 : Int32, v21 = (x4 + (1 : Int32)) → K60 σ x1 x2 x3 v21
set_option maxHeartbeats 4000000 in
set_option maxRecDepth 100000 in
theorem l_X11_roots_147 {p : Program} {l : Launch} {e : Env} {s : State} {m : MethodId} {args : Array Value} {below : List Frame} {meth : Method} {c : Code} {D : va_G} {ρ : Nat → Nat} {κ : Nat → ClassId} {base : Nat} {post : Int32 → eS → Prop} (C : eCx p s m args meth c cX11_roots RX11 7 (some .int) wsX11_roots) (K : gK D ρ κ base s) {K60 : eS → Int32 → Int32 → Int32 → Int32 → Prop} (hK60 : ∀ (σ : eS) (x1 : Int32) (x2 : Int32) (x3 : Int32) (x4 : Int32) (H : Heap) (locs : List Loc) (ls : Array Slot), K60 σ x1 x2 x3 x4 → gG D ρ κ base s σ H locs → lv_has ls 7 [(0, .ref (ρ (97))), (1, .int (x1)), (2, .int (x2)), (3, .int (x3)), (4, .int (x4))] → W p l e rm_X11_roots s m args below meth c H locs 0 0 (gQi below args s D ρ κ base post) (F0 m 60 ls [])) : ∀ (σ : eS) (x1 : Int32) (x2 : Int32) (x3 : Int32) (x4 : Int32) (H : Heap) (locs : List Loc) (ls : Array Slot), b_X11_roots_147 post K60 σ x1 x2 x3 x4 → gG D ρ κ base s σ H locs → lv_has ls 7 [(0, .ref (ρ (97))), (1, .int (x1)), (2, .int (x2)), (3, .int (x3)), (4, .int (x4))] → W p l e rm_X11_roots s m args below meth c H locs 0 0 (gQi below args s D ρ κ base post) (F0 m 147 ls []) := by
  obtain ⟨hx, hb, hml, hown, hts, hr, hlocks⟩ := id C
  intro σ x1 x2 x3 x4 H locs ls h G hl
  unfold b_X11_roots_147 at h
  obtain ⟨v21, ev21⟩ : ∃ y : Int32, y = x4 + (1 : Int32) := ⟨_, rfl⟩
  have h := h v21 ev21
  refine lv_iinc (v := v21) (lv' := [(4, .int (v21)), (0, .ref (ρ (97))), (1, .int (x1)), (2, .int (x2)), (3, .int (x3))]) hx hb dX11_roots_147 hl (k := 4) rfl (by rw [ev21]; rfl) (by decide) rfl (fun ls hl => ?_)
  refine lv_goto (tgt := 60) hx hb dX11_roots_150 (by decide) ?_
  exact hK60 σ x1 x2 x3 v21 _ _ _  h G (lv_sub hl [1, 2, 3, 4, 0] rfl)
def b_X11_roots_144 (post : Int32 → eS → Prop) (K60 : eS → Int32 → Int32 → Int32 → Int32 → Prop) (σ : eS) (x1 : Int32) (x2 : Int32) (x3 : Int32) (x4 : Int32) : Prop := ∀ v20 : Int32, v20 = (x3 + (1 : Int32)) → b_X11_roots_147 post K60 σ x1 x2 v20 x4
set_option maxHeartbeats 4000000 in
set_option maxRecDepth 100000 in
theorem l_X11_roots_144 {p : Program} {l : Launch} {e : Env} {s : State} {m : MethodId} {args : Array Value} {below : List Frame} {meth : Method} {c : Code} {D : va_G} {ρ : Nat → Nat} {κ : Nat → ClassId} {base : Nat} {post : Int32 → eS → Prop} (C : eCx p s m args meth c cX11_roots RX11 7 (some .int) wsX11_roots) (K : gK D ρ κ base s) {K60 : eS → Int32 → Int32 → Int32 → Int32 → Prop} (hK60 : ∀ (σ : eS) (x1 : Int32) (x2 : Int32) (x3 : Int32) (x4 : Int32) (H : Heap) (locs : List Loc) (ls : Array Slot), K60 σ x1 x2 x3 x4 → gG D ρ κ base s σ H locs → lv_has ls 7 [(0, .ref (ρ (97))), (1, .int (x1)), (2, .int (x2)), (3, .int (x3)), (4, .int (x4))] → W p l e rm_X11_roots s m args below meth c H locs 0 0 (gQi below args s D ρ κ base post) (F0 m 60 ls [])) : ∀ (σ : eS) (x1 : Int32) (x2 : Int32) (x3 : Int32) (x4 : Int32) (H : Heap) (locs : List Loc) (ls : Array Slot), b_X11_roots_144 post K60 σ x1 x2 x3 x4 → gG D ρ κ base s σ H locs → lv_has ls 7 [(0, .ref (ρ (97))), (1, .int (x1)), (2, .int (x2)), (3, .int (x3)), (4, .int (x4))] → W p l e rm_X11_roots s m args below meth c H locs 0 0 (gQi below args s D ρ κ base post) (F0 m 144 ls []) := by
  obtain ⟨hx, hb, hml, hown, hts, hr, hlocks⟩ := id C
  intro σ x1 x2 x3 x4 H locs ls h G hl
  unfold b_X11_roots_144 at h
  obtain ⟨v20, ev20⟩ : ∃ y : Int32, y = x3 + (1 : Int32) := ⟨_, rfl⟩
  have h := h v20 ev20
  refine lv_iinc (v := v20) (lv' := [(3, .int (v20)), (0, .ref (ρ (97))), (1, .int (x1)), (2, .int (x2)), (4, .int (x4))]) hx hb dX11_roots_144 hl (k := 3) rfl (by rw [ev20]; rfl) (by decide) rfl (fun ls hl => ?_)
  exact l_X11_roots_147 C K (hK60 := hK60) σ x1 x2 v20 x4 _ _ _  h G (lv_sub hl [1, 2, 3, 0, 4] rfl)
def b_X11_roots_126 (post : Int32 → eS → Prop) (K60 : eS → Int32 → Int32 → Int32 → Int32 → Prop) (σ : eS) (x1 : Int32) (x2 : Int32) (x3 : Int32) (x4 : Int32) (x5 : Int32) : Prop := ((¬ x5 = 0 → ((¬ x3 = 0 → b_X11_roots_144 post K60 σ x1 x2 x3 x4) ∧ (x3 = 0 → w_X11_tellWay σ x4 (fun σ22 => b_X11_roots_144 post K60 σ22 x1 x2 x3 x4)))) ∧ (x5 = 0 → b_X11_roots_147 post K60 σ x1 x2 x3 x4))
set_option maxHeartbeats 4000000 in
set_option maxRecDepth 100000 in
theorem l_X11_roots_126 {p : Program} {l : Launch} {e : Env} {s : State} {m : MethodId} {args : Array Value} {below : List Frame} {meth : Method} {c : Code} {D : va_G} {ρ : Nat → Nat} {κ : Nat → ClassId} {base : Nat} {post : Int32 → eS → Prop} (C : eCx p s m args meth c cX11_roots RX11 7 (some .int) wsX11_roots) (K : gK D ρ κ base s) {K60 : eS → Int32 → Int32 → Int32 → Int32 → Prop} (hK60 : ∀ (σ : eS) (x1 : Int32) (x2 : Int32) (x3 : Int32) (x4 : Int32) (H : Heap) (locs : List Loc) (ls : Array Slot), K60 σ x1 x2 x3 x4 → gG D ρ κ base s σ H locs → lv_has ls 7 [(0, .ref (ρ (97))), (1, .int (x1)), (2, .int (x2)), (3, .int (x3)), (4, .int (x4))] → W p l e rm_X11_roots s m args below meth c H locs 0 0 (gQi below args s D ρ κ base post) (F0 m 60 ls [])) : ∀ (σ : eS) (x1 : Int32) (x2 : Int32) (x3 : Int32) (x4 : Int32) (x5 : Int32) (H : Heap) (locs : List Loc) (ls : Array Slot), b_X11_roots_126 post K60 σ x1 x2 x3 x4 x5 → gG D ρ κ base s σ H locs → lv_has ls 7 [(0, .ref (ρ (97))), (1, .int (x1)), (2, .int (x2)), (3, .int (x3)), (4, .int (x4)), (5, .int (x5))] → W p l e rm_X11_roots s m args below meth c H locs 0 0 (gQi below args s D ρ κ base post) (F0 m 126 ls []) := by
  obtain ⟨hx, hb, hml, hown, hts, hr, hlocks⟩ := id C
  intro σ x1 x2 x3 x4 x5 H locs ls h G hl
  unfold b_X11_roots_126 at h
  refine lv_iload hx hb dX11_roots_126 (lv_at hl 5 rfl) ?_
  refine lv_if_ne (tgt := 134) hx hb dX11_roots_128 (by decide) (fun c18 => ?_) (fun c18 => ?_)
  · have h := h.1 c18
    refine lv_iload_n hx hb dX11_roots_134 rfl (lv_at hl 3 rfl) ?_
    refine lv_if_ne (tgt := 144) hx hb dX11_roots_135 (by decide) (fun c19 => ?_) (fun c19 => ?_)
    · have h := h.1 c19
      exact l_X11_roots_144 C K (hK60 := hK60) σ x1 x2 x3 x4 _ _ _  h G (lv_sub hl [0, 1, 2, 3, 4] rfl)
    · have h := h.2 c19
      refine lv_aload_n hx hb dX11_roots_138 rfl (lv_at hl 0 rfl) ?_
      refine lv_iload hx hb dX11_roots_139 (lv_at hl 4 rfl) ?_
      refine e_callVv (As := [.int (x4)]) (rest := []) ⟨hx, hb, hml, hown, hts⟩ K G 97 (by decide) gl_97 rfl (c_X11_tellWay h) (cwV 1 hts gX11_roots_X11_tellWay rfl rfl rfl (by decide +kernel) ⟨Nat.le_of_ble_eq_true rfl, Nat.le_of_ble_eq_true rfl⟩) rfl hl.1 rfl (Nat.le_of_ble_eq_true rfl) dX11_roots_141 ⟨Nat.zero_le _, Nat.zero_le _⟩ (fun σ22 H locs h G => ?_)
      exact l_X11_roots_144 C K (hK60 := hK60) σ22 x1 x2 x3 x4 _ _ _  h G (lv_sub hl [0, 1, 2, 3, 4] rfl)
  · have h := h.2 c18
    refine lv_goto (tgt := 147) hx hb dX11_roots_131 (by decide) ?_
    exact l_X11_roots_147 C K (hK60 := hK60) σ x1 x2 x3 x4 _ _ _  h G (lv_sub hl [0, 1, 2, 3, 4] rfl)
def b_X11_roots_75 (post : Int32 → eS → Prop) (K60 : eS → Int32 → Int32 → Int32 → Int32 → Prop) : Nat → eS → Int32 → Int32 → Int32 → Int32 → Int32 → Int32 → Prop
  | 0, _, _, _, _, _, _, _ => False
  | n + 1, σ, x1, x2, x3, x4, x5, x6 => (((σ.1 97 0) ≤ x6 → b_X11_roots_126 post K60 σ x1 x2 x3 x4 x5) ∧ (¬ ((σ.1 97 0) ≤ x6) → ((x5 = 0 → b_X11_roots_126 post K60 σ x1 x2 x3 x4 x5) ∧ (¬ (x5 = 0) → False))))
set_option maxHeartbeats 4000000 in
set_option maxRecDepth 100000 in
theorem l_X11_roots_75 {p : Program} {l : Launch} {e : Env} {s : State} {m : MethodId} {args : Array Value} {below : List Frame} {meth : Method} {c : Code} {D : va_G} {ρ : Nat → Nat} {κ : Nat → ClassId} {base : Nat} {post : Int32 → eS → Prop} (C : eCx p s m args meth c cX11_roots RX11 7 (some .int) wsX11_roots) (K : gK D ρ κ base s) {K60 : eS → Int32 → Int32 → Int32 → Int32 → Prop} (hK60 : ∀ (σ : eS) (x1 : Int32) (x2 : Int32) (x3 : Int32) (x4 : Int32) (H : Heap) (locs : List Loc) (ls : Array Slot), K60 σ x1 x2 x3 x4 → gG D ρ κ base s σ H locs → lv_has ls 7 [(0, .ref (ρ (97))), (1, .int (x1)), (2, .int (x2)), (3, .int (x3)), (4, .int (x4))] → W p l e rm_X11_roots s m args below meth c H locs 0 0 (gQi below args s D ρ κ base post) (F0 m 60 ls [])) : ∀ (n : Nat) (σ : eS) (x1 : Int32) (x2 : Int32) (x3 : Int32) (x4 : Int32) (x5 : Int32) (x6 : Int32) (H : Heap) (locs : List Loc) (ls : Array Slot), b_X11_roots_75 post K60 n σ x1 x2 x3 x4 x5 x6 → gG D ρ κ base s σ H locs → lv_has ls 7 [(0, .ref (ρ (97))), (1, .int (x1)), (2, .int (x2)), (3, .int (x3)), (4, .int (x4)), (5, .int (x5)), (6, .int (x6))] → W p l e rm_X11_roots s m args below meth c H locs 0 0 (gQi below args s D ρ κ base post) (F0 m 75 ls []) := by
  obtain ⟨hx, hb, hml, hown, hts, hr, hlocks⟩ := id C
  intro n
  induction n with
  | zero => intro σ x1 x2 x3 x4 x5 x6 H locs ls h G hl; exact False.elim h
  | succ n ih =>
    intro σ x1 x2 x3 x4 x5 x6 H locs ls h G hl
    rw [b_X11_roots_75] at h
    refine lv_iload hx hb dX11_roots_75 (lv_at hl 6 rfl) ?_
    refine lv_aload_n hx hb dX11_roots_77 rfl (lv_at hl 0 rfl) ?_
    refine e_geti hx hb hts in_X11_roots_X11 hown K G 97 (by decide) gl_97 rfl 0 (by decide) rfl (hts (.fieldLink RX11 104 "StreetsStepOnModel" "streets" "I") (e_mem (n := 3) rfl)) dX11_roots_78 ?_
    refine lv_icmp_ge (tgt := 126) hx hb dX11_roots_81 (by decide) (fun c17 => ?_) (fun c17 => ?_)
    · have h := h.1 c17
      exact l_X11_roots_126 C K (hK60 := hK60) σ x1 x2 x3 x4 x5 _ _ _  h G (lv_sub hl [0, 1, 2, 3, 4, 5] rfl)
    · have h := h.2 c17
      refine lv_iload hx hb dX11_roots_84 (lv_at hl 5 rfl) ?_
      refine lv_if_eq (tgt := 126) hx hb dX11_roots_86 (by decide) (fun c23 => ?_) (fun c23 => ?_)
      · have h := h.1 c23
        exact l_X11_roots_126 C K (hK60 := hK60) σ x1 x2 x3 x4 x5 _ _ _  h G (lv_sub hl [0, 1, 2, 3, 4, 5] rfl)
      · have h := h.2 c23
        refine lv_aload_n hx hb dX11_roots_89 rfl (lv_at hl 0 rfl) ?_
        refine lv_iload hx hb dX11_roots_90 (lv_at hl 4 rfl) ?_
        refine lv_iload hx hb dX11_roots_92 (lv_at hl 6 rfl) ?_
        refine lv_iload_n hx hb dX11_roots_94 rfl (lv_at hl 2 rfl) ?_
        exact h.elim
def b_X11_roots_60 (post : Int32 → eS → Prop) : Nat → eS → Int32 → Int32 → Int32 → Int32 → Prop
  | 0, _, _, _, _, _ => False
  | n + 1, σ, x1, x2, x3, x4 => (((σ.1 97 33) ≤ x4 → post x3 σ) ∧ (¬ ((σ.1 97 33) ≤ x4) → ∀ v15 : Int32, v15 = (1 : Int32) → ∀ v16 : Int32, v16 = (0 : Int32) → (∃ n24 : Nat, b_X11_roots_75 post (fun s x1 x2 x3 x4 => b_X11_roots_60 post n s x1 x2 x3 x4) n24 σ x1 x2 x3 x4 v15 v16)))
set_option maxHeartbeats 4000000 in
set_option maxRecDepth 100000 in
theorem l_X11_roots_60 {p : Program} {l : Launch} {e : Env} {s : State} {m : MethodId} {args : Array Value} {below : List Frame} {meth : Method} {c : Code} {D : va_G} {ρ : Nat → Nat} {κ : Nat → ClassId} {base : Nat} {post : Int32 → eS → Prop} (C : eCx p s m args meth c cX11_roots RX11 7 (some .int) wsX11_roots) (K : gK D ρ κ base s) : ∀ (n : Nat) (σ : eS) (x1 : Int32) (x2 : Int32) (x3 : Int32) (x4 : Int32) (H : Heap) (locs : List Loc) (ls : Array Slot), b_X11_roots_60 post n σ x1 x2 x3 x4 → gG D ρ κ base s σ H locs → lv_has ls 7 [(0, .ref (ρ (97))), (1, .int (x1)), (2, .int (x2)), (3, .int (x3)), (4, .int (x4))] → W p l e rm_X11_roots s m args below meth c H locs 0 0 (gQi below args s D ρ κ base post) (F0 m 60 ls []) := by
  obtain ⟨hx, hb, hml, hown, hts, hr, hlocks⟩ := id C
  intro n
  induction n with
  | zero => intro σ x1 x2 x3 x4 H locs ls h G hl; exact False.elim h
  | succ n ih =>
    intro σ x1 x2 x3 x4 H locs ls h G hl
    rw [b_X11_roots_60] at h
    refine lv_iload hx hb dX11_roots_60 (lv_at hl 4 rfl) ?_
    refine lv_aload_n hx hb dX11_roots_62 rfl (lv_at hl 0 rfl) ?_
    refine e_geti hx hb hts in_X11_roots_X11 hown K G 97 (by decide) gl_97 rfl 33 (by decide) rfl (hts (.fieldLink RX11 302 "StreetsStepOnModel" "wayMany" "I") (e_mem (n := 4) rfl)) dX11_roots_63 ?_
    refine lv_icmp_ge (tgt := 153) hx hb dX11_roots_66 (by decide) (fun c14 => ?_) (fun c14 => ?_)
    · have h := h.1 c14
      refine lv_iload_n hx hb dX11_roots_153 rfl (lv_at hl 3 rfl) ?_
      exact e_iret hx hb hr hlocks G h dX11_roots_154
    · have h := h.2 c14
      refine lv_iconst (v := (1 : Int32)) hx hb dX11_roots_69 (by decide) ?_
      refine lv_topi (fun v15 ev15 => ?_)
      have h := h v15 ev15
      refine lv_istore (lv' := [(5, .int (v15)), (0, .ref (ρ (97))), (1, .int (x1)), (2, .int (x2)), (3, .int (x3)), (4, .int (x4))]) hx hb dX11_roots_70 hl (by decide) rfl (fun ls hl => ?_)
      refine lv_iconst (v := (0 : Int32)) hx hb dX11_roots_72 (by decide) ?_
      refine lv_topi (fun v16 ev16 => ?_)
      have h := h v16 ev16
      refine lv_istore (lv' := [(6, .int (v16)), (5, .int (v15)), (0, .ref (ρ (97))), (1, .int (x1)), (2, .int (x2)), (3, .int (x3)), (4, .int (x4))]) hx hb dX11_roots_73 hl (by decide) rfl (fun ls hl => ?_)
      obtain ⟨n24, h⟩ := h
      exact l_X11_roots_75 C K (hK60 := ih) n24 σ x1 x2 x3 x4 v15 v16 _ _ _  h G (lv_sub hl [2, 3, 4, 5, 6, 1, 0] rfl)
def w_X11_roots (σ : eS) (x1 : Int32) (x2 : Int32) (post : Int32 → eS → Prop) : Prop := ∀ σ1 : eS, σ1 = e_ui σ 97 18 (0 : Int32) → w_X11_isOrder σ1 x1 (fun r3 σ2 => ((r3 = 0 → post (-1 : Int32) σ2) ∧ (¬ (r3 = 0) → w_X11_in σ2 (x2.toInt64) (1 : Int64) (12 : Int64) (fun r6 σ5 => ((¬ r6 = 0 → (((σ5.1 97 0) ≤ (6 : Int32) → ∀ σ9 : eS, σ9 = e_ui σ5 97 33 (0 : Int32) → w_X11_findWays σ9 (0 : Int32) (0 : Int32) (fun σ10 => ∀ v11 : Int32, v11 = (0 : Int32) → ∀ σ12 : eS, σ12 = e_ui σ10 97 17 (0 : Int32) → ∀ v13 : Int32, v13 = (0 : Int32) → (∃ n25 : Nat, b_X11_roots_60 post n25 σ12 x1 x2 v11 v13))) ∧ (¬ ((σ5.1 97 0) ≤ (6 : Int32)) → post (-3 : Int32) σ5))) ∧ (r6 = 0 → post (-1 : Int32) σ5))))))
set_option maxHeartbeats 4000000 in
set_option maxRecDepth 100000 in
theorem c_X11_roots {l : Launch} {D : va_G} {ρ : Nat → Nat} {κ : Nat → ClassId} {base : Nat} {σ : eS} {x1 : Int32} {x2 : Int32} {post : Int32 → eS → Prop} (h : w_X11_roots σ x1 x2 post) : gMi l yX11_roots wsX11_roots rm_X11_roots D ρ κ base [.ref (ρ (97)), .int (x1), .int (x2)] σ post := by
  refine e_ofWi (cc := cX11_roots) (maxL := 7) (ret := (some .int)) (by decide) rfl (Nat.le_of_ble_eq_true rfl) ?_
  intro p e s m below meth c ls C K G hl
  obtain ⟨hx, hb, hml, hown, hts, hr, hlocks⟩ := id C
  have hl : lv_has ls 7 [(0, .ref (ρ (97))), (1, .int (x1)), (2, .int (x2))] := hl
  unfold w_X11_roots at h
  refine lv_aload_n hx hb dX11_roots_0 rfl (lv_at hl 0 rfl) ?_
  refine lv_iconst (v := (0 : Int32)) hx hb dX11_roots_1 (by decide) ?_
  refine e_puti hx hb hts in_X11_roots_X11 tyX11 tyX11_ok nmX11 hown K G 97 (by decide) gl_97 rfl 18 (by decide) rfl (hts (.fieldLink RX11 98 "StreetsStepOnModel" "thrown" "I") (e_mem (n := 1) rfl)) rfl (tyX11_ok 18 (by decide)) rfl rfl dX11_roots_2 (fun H locs G => ?_)
  obtain ⟨σ1, eσ1⟩ : ∃ z : eS, z = e_ui σ 97 18 (0 : Int32) := ⟨_, rfl⟩
  rw [← eσ1] at G
  have h := h σ1 eσ1
  refine lv_aload_n hx hb dX11_roots_5 rfl (lv_at hl 0 rfl) ?_
  refine lv_iload_n hx hb dX11_roots_6 rfl (lv_at hl 1 rfl) ?_
  refine e_callVi (As := [.int (x1)]) (rest := []) ⟨hx, hb, hml, hown, hts⟩ K G 97 (by decide) gl_97 rfl (c_X11_isOrder h) (cwV 1 hts gX11_roots_X11_isOrder rfl rfl rfl (by decide +kernel) ⟨Nat.le_of_ble_eq_true rfl, Nat.le_of_ble_eq_true rfl⟩) rfl hl.1 rfl (Nat.le_of_ble_eq_true rfl) dX11_roots_7 ⟨Nat.zero_le _, Nat.zero_le _⟩ (fun r3 σ2 H locs h G => ?_)
  refine lv_if_eq (tgt := 25) hx hb dX11_roots_10 (by decide) (fun c4 => ?_) (fun c4 => ?_)
  · have h := h.1 c4
    refine lv_iconst (v := (-1 : Int32)) hx hb dX11_roots_25 (by decide) ?_
    exact e_iret hx hb hr hlocks G h dX11_roots_26
  · have h := h.2 c4
    refine lv_iload_n hx hb dX11_roots_13 rfl (lv_at hl 2 rfl) ?_
    refine lv_i2l hx hb dX11_roots_14 rfl ?_
    refine lv_lconst (v := (1 : Int64)) hx hb dX11_roots_15 (by decide) ?_
    refine lv_ldc2 (v := (12 : Int64)) hx hb hown (hts (.constantLong RX11 309 (12)) (e_mem (n := 2) rfl)) dX11_roots_16 ?_
    refine e_callSi (As := [.long (x2.toInt64), .long ((1 : Int64)), .long ((12 : Int64))]) (rest := []) ⟨hx, hb, hml, hown, hts⟩ K G (c_X11_in h) (va_cwS 3 hts gX11_roots_X11_in rfl rfl rfl (by decide +kernel) ⟨Nat.le_of_ble_eq_true rfl, Nat.le_of_ble_eq_true rfl⟩) rfl hl.1 rfl (Nat.le_of_ble_eq_true rfl) dX11_roots_19 ⟨Nat.zero_le _, Nat.zero_le _⟩ (fun r6 σ5 H locs h G => ?_)
    refine lv_if_ne (tgt := 27) hx hb dX11_roots_22 (by decide) (fun c7 => ?_) (fun c7 => ?_)
    · have h := h.1 c7
      refine lv_aload_n hx hb dX11_roots_27 rfl (lv_at hl 0 rfl) ?_
      refine e_geti hx hb hts in_X11_roots_X11 hown K G 97 (by decide) gl_97 rfl 0 (by decide) rfl (hts (.fieldLink RX11 104 "StreetsStepOnModel" "streets" "I") (e_mem (n := 3) rfl)) dX11_roots_28 ?_
      refine lv_bipush (v := (6 : Int32)) hx hb dX11_roots_31 (by decide) ?_
      refine lv_icmp_le (tgt := 39) hx hb dX11_roots_33 (by decide) (fun c8 => ?_) (fun c8 => ?_)
      · have h := h.1 c8
        refine lv_aload_n hx hb dX11_roots_39 rfl (lv_at hl 0 rfl) ?_
        refine lv_iconst (v := (0 : Int32)) hx hb dX11_roots_40 (by decide) ?_
        refine e_puti hx hb hts in_X11_roots_X11 tyX11 tyX11_ok nmX11 hown K G 97 (by decide) gl_97 rfl 33 (by decide) rfl (hts (.fieldLink RX11 302 "StreetsStepOnModel" "wayMany" "I") (e_mem (n := 4) rfl)) rfl (tyX11_ok 33 (by decide)) rfl rfl dX11_roots_41 (fun H locs G => ?_)
        obtain ⟨σ9, eσ9⟩ : ∃ z : eS, z = e_ui σ5 97 33 (0 : Int32) := ⟨_, rfl⟩
        rw [← eσ9] at G
        have h := h σ9 eσ9
        refine lv_aload_n hx hb dX11_roots_44 rfl (lv_at hl 0 rfl) ?_
        refine lv_iconst (v := (0 : Int32)) hx hb dX11_roots_45 (by decide) ?_
        refine lv_iconst (v := (0 : Int32)) hx hb dX11_roots_46 (by decide) ?_
        refine e_callVv (As := [.int ((0 : Int32)), .int ((0 : Int32))]) (rest := []) ⟨hx, hb, hml, hown, hts⟩ K G 97 (by decide) gl_97 rfl (c_X11_findWays h) (cwV 2 hts gX11_roots_X11_findWays rfl rfl rfl (by decide +kernel) ⟨Nat.le_of_ble_eq_true rfl, Nat.le_of_ble_eq_true rfl⟩) rfl hl.1 rfl (Nat.le_of_ble_eq_true rfl) dX11_roots_47 ⟨Nat.zero_le _, Nat.zero_le _⟩ (fun σ10 H locs h G => ?_)
        refine lv_iconst (v := (0 : Int32)) hx hb dX11_roots_50 (by decide) ?_
        refine lv_topi (fun v11 ev11 => ?_)
        have h := h v11 ev11
        refine lv_istore_n (lv' := [(3, .int (v11)), (0, .ref (ρ (97))), (1, .int (x1)), (2, .int (x2))]) hx hb dX11_roots_51 rfl hl (by decide) rfl (fun ls hl => ?_)
        refine lv_aload_n hx hb dX11_roots_52 rfl (lv_at hl 1 rfl) ?_
        refine lv_iconst (v := (0 : Int32)) hx hb dX11_roots_53 (by decide) ?_
        refine e_puti hx hb hts in_X11_roots_X11 tyX11 tyX11_ok nmX11 hown K G 97 (by decide) gl_97 rfl 17 (by decide) rfl (hts (.fieldLink RX11 101 "StreetsStepOnModel" "rowMany" "I") (e_mem (n := 5) rfl)) rfl (tyX11_ok 17 (by decide)) rfl rfl dX11_roots_54 (fun H locs G => ?_)
        obtain ⟨σ12, eσ12⟩ : ∃ z : eS, z = e_ui σ10 97 17 (0 : Int32) := ⟨_, rfl⟩
        rw [← eσ12] at G
        have h := h σ12 eσ12
        refine lv_iconst (v := (0 : Int32)) hx hb dX11_roots_57 (by decide) ?_
        refine lv_topi (fun v13 ev13 => ?_)
        have h := h v13 ev13
        refine lv_istore (lv' := [(4, .int (v13)), (3, .int (v11)), (0, .ref (ρ (97))), (1, .int (x1)), (2, .int (x2))]) hx hb dX11_roots_58 hl (by decide) rfl (fun ls hl => ?_)
        obtain ⟨n25, h⟩ := h
        exact l_X11_roots_60 C K n25 σ12 x1 x2 v11 v13 _ _ _  h G (lv_sub hl [2, 3, 4, 1, 0] rfl)
      · have h := h.2 c8
        refine lv_bipush (v := (-3 : Int32)) hx hb dX11_roots_36 (by decide) ?_
        exact e_iret hx hb hr hlocks G h dX11_roots_38
    · have h := h.2 c7
      refine lv_iconst (v := (-1 : Int32)) hx hb dX11_roots_25 (by decide) ?_
      exact e_iret hx hb hr hlocks G h dX11_roots_26
abbrev rm_X10_mends : Room := { frames := 1, cells := 0, slots := 0, locals := 21 }
theorem in_X10_mends_X1 : ∀ w ∈ wsX10, w ∈ wsX10_mends := fun w h => List.mem_cons_of_mem _ (List.mem_append_left _ (List.mem_append_left _ (List.mem_append_right _ h)))
theorem in_X10_mends_X10 : ∀ w ∈ wsX100, w ∈ wsX10_mends := fun w h => List.mem_cons_of_mem _ (List.mem_append_left _ (List.mem_append_left _ (List.mem_append_left _ (List.mem_append_right _ h))))
def b_X10_mends_65 (post : Int32 → eS → Prop) : Nat → eS → Int64 → Int32 → Int32 → Int32 → Prop
  | 0, _, _, _, _, _ => False
  | n + 1, σ, x1, x3, x4, x5 => ((x5 < 0 → w_X5_clear σ (fun σ10 => ((x4 < 0 → post x3 σ10) ∧ (¬ (x4 < 0) → False)))) ∧ (¬ (x5 < 0) → False))
set_option maxHeartbeats 4000000 in
set_option maxRecDepth 100000 in
theorem l_X10_mends_65 {p : Program} {l : Launch} {e : Env} {s : State} {m : MethodId} {args : Array Value} {below : List Frame} {meth : Method} {c : Code} {D : va_G} {ρ : Nat → Nat} {κ : Nat → ClassId} {base : Nat} {post : Int32 → eS → Prop} (C : eCx p s m args meth c cX10_mends RX10 6 (some .int) wsX10_mends) (K : gK D ρ κ base s) : ∀ (n : Nat) (σ : eS) (x1 : Int64) (x3 : Int32) (x4 : Int32) (x5 : Int32) (H : Heap) (locs : List Loc) (ls : Array Slot), b_X10_mends_65 post n σ x1 x3 x4 x5 → gG D ρ κ base s σ H locs → lv_has ls 6 [(0, .ref (ρ (0))), (1, .long (x1)), (3, .int (x3)), (4, .int (x4)), (5, .int (x5))] → W p l e rm_X10_mends s m args below meth c H locs 0 0 (gQi below args s D ρ κ base post) (F0 m 65 ls []) := by
  obtain ⟨hx, hb, hml, hown, hts, hr, hlocks⟩ := id C
  intro n
  induction n with
  | zero => intro σ x1 x3 x4 x5 H locs ls h G hl; exact False.elim h
  | succ n ih =>
    intro σ x1 x3 x4 x5 H locs ls h G hl
    rw [b_X10_mends_65] at h
    refine lv_iload hx hb dX10_mends_65 (lv_at hl 4 rfl) ?_
    refine lv_if_lt (tgt := 108) hx hb dX10_mends_67 (by decide) (fun c9 => ?_) (fun c9 => ?_)
    · have h := h.1 c9
      refine lv_aload_n hx hb dX10_mends_108 rfl (lv_at hl 0 rfl) ?_
      refine e_getq hx hb hts in_X10_mends_X10 hown K G 0 (by decide) gl_0 rfl 1 (by decide) 3 rfl (hts (.fieldLink RX10 19 "StreetsStepOn" "told" "LStreetsStepOn$Row;") (e_mem (n := 4) rfl)) dX10_mends_109 ?_
      refine e_callVv (As := []) (rest := []) ⟨hx, hb, hml, hown, hts⟩ K G 3 (by decide) gl_3 rfl (c_X5_clear h) (cwV 0 hts gX10_mends_X5_clear rfl rfl rfl (by decide +kernel) ⟨Nat.le_of_ble_eq_true rfl, Nat.le_of_ble_eq_true rfl⟩) rfl hl.1 rfl (Nat.le_of_ble_eq_true rfl) dX10_mends_112 ⟨Nat.zero_le _, Nat.zero_le _⟩ (fun σ10 H locs h G => ?_)
      refine lv_iload hx hb dX10_mends_115 (lv_at hl 3 rfl) ?_
      refine lv_if_lt (tgt := 141) hx hb dX10_mends_117 (by decide) (fun c11 => ?_) (fun c11 => ?_)
      · have h := h.1 c11
        refine lv_iload_n hx hb dX10_mends_141 rfl (lv_at hl 2 rfl) ?_
        exact e_iret hx hb hr hlocks G h dX10_mends_142
      · have h := h.2 c11
        refine lv_aload_n hx hb dX10_mends_120 rfl (lv_at hl 0 rfl) ?_
        refine e_getq hx hb hts in_X10_mends_X10 hown K G 0 (by decide) gl_0 rfl 1 (by decide) 3 rfl (hts (.fieldLink RX10 19 "StreetsStepOn" "told" "LStreetsStepOn$Row;") (e_mem (n := 4) rfl)) dX10_mends_121 ?_
        refine lv_iload hx hb dX10_mends_124 (lv_at hl 3 rfl) ?_
        refine lv_i2l hx hb dX10_mends_126 rfl ?_
        refine lv_aload_n hx hb dX10_mends_127 rfl (lv_at hl 0 rfl) ?_
        refine e_getq hx hb hts in_X10_mends_X10 hown K G 0 (by decide) gl_0 rfl 5 (by decide) 32 rfl (hts (.fieldLink RX10 44 "StreetsStepOn" "almanac" "LStreetsStepOn$Almanac;") (e_mem (n := 3) rfl)) dX10_mends_128 ?_
        refine lv_iload hx hb dX10_mends_131 (lv_at hl 3 rfl) ?_
        refine lv_lload_n hx hb dX10_mends_133 rfl (lv_at hl 1 rfl) ?_
        exact h.elim
    · have h := h.2 c9
      refine lv_aload_n hx hb dX10_mends_70 rfl (lv_at hl 0 rfl) ?_
      refine lv_aload_n hx hb dX10_mends_71 rfl (lv_at hl 0 rfl) ?_
      refine e_getq hx hb hts in_X10_mends_X10 hown K G 0 (by decide) gl_0 rfl 11 (by decide) 71 rfl (hts (.fieldLink RX10 83 "StreetsStepOn" "tally" "[I") (e_mem (n := 2) rfl)) dX10_mends_72 ?_
      refine lv_iload hx hb dX10_mends_75 (lv_at hl 4 rfl) ?_
      exact h.elim
def b_X10_mends_11 (post : Int32 → eS → Prop) : Nat → eS → Int64 → Int32 → Prop
  | 0, _, _, _ => False
  | n + 1, σ, x1, x3 => (((σ.1 5 4) ≤ x3 → ∀ v6 : Int32, v6 = (σ.1 5 4) → ∀ v7 : Int32, v7 = (-1 : Int32) → ∀ v8 : Int32, v8 = ((σ.1 5 4) - (1 : Int32)) → (∃ n12 : Nat, b_X10_mends_65 post n12 σ x1 v6 v7 v8)) ∧ (¬ ((σ.1 5 4) ≤ x3) → False))
set_option maxHeartbeats 4000000 in
set_option maxRecDepth 100000 in
theorem l_X10_mends_11 {p : Program} {l : Launch} {e : Env} {s : State} {m : MethodId} {args : Array Value} {below : List Frame} {meth : Method} {c : Code} {D : va_G} {ρ : Nat → Nat} {κ : Nat → ClassId} {base : Nat} {post : Int32 → eS → Prop} (C : eCx p s m args meth c cX10_mends RX10 6 (some .int) wsX10_mends) (K : gK D ρ κ base s) : ∀ (n : Nat) (σ : eS) (x1 : Int64) (x3 : Int32) (H : Heap) (locs : List Loc) (ls : Array Slot), b_X10_mends_11 post n σ x1 x3 → gG D ρ κ base s σ H locs → lv_has ls 6 [(0, .ref (ρ (0))), (1, .long (x1)), (3, .int (x3))] → W p l e rm_X10_mends s m args below meth c H locs 0 0 (gQi below args s D ρ κ base post) (F0 m 11 ls []) := by
  obtain ⟨hx, hb, hml, hown, hts, hr, hlocks⟩ := id C
  intro n
  induction n with
  | zero => intro σ x1 x3 H locs ls h G hl; exact False.elim h
  | succ n ih =>
    intro σ x1 x3 H locs ls h G hl
    rw [b_X10_mends_11] at h
    refine lv_iload_n hx hb dX10_mends_11 rfl (lv_at hl 2 rfl) ?_
    refine lv_aload_n hx hb dX10_mends_12 rfl (lv_at hl 0 rfl) ?_
    refine e_getq hx hb hts in_X10_mends_X10 hown K G 0 (by decide) gl_0 rfl 2 (by decide) 5 rfl (hts (.fieldLink RX10 26 "StreetsStepOn" "book" "LStreetsStepOn$Book;") (e_mem (n := 1) rfl)) dX10_mends_13 ?_
    refine e_getiN hx hb hts in_X10_mends_X1 hown K G 5 (by decide) gl_5 rfl 4 (by decide) rfl (e_memq (n := 18) rfl) dX10_mends_16 ?_
    refine lv_icmp_ge (tgt := 43) hx hb dX10_mends_19 (by decide) (fun c5 => ?_) (fun c5 => ?_)
    · have h := h.1 c5
      refine lv_aload_n hx hb dX10_mends_43 rfl (lv_at hl 0 rfl) ?_
      refine e_getq hx hb hts in_X10_mends_X10 hown K G 0 (by decide) gl_0 rfl 2 (by decide) 5 rfl (hts (.fieldLink RX10 26 "StreetsStepOn" "book" "LStreetsStepOn$Book;") (e_mem (n := 1) rfl)) dX10_mends_44 ?_
      refine e_getiN hx hb hts in_X10_mends_X1 hown K G 5 (by decide) gl_5 rfl 4 (by decide) rfl (e_memq (n := 18) rfl) dX10_mends_47 ?_
      refine lv_topi (fun v6 ev6 => ?_)
      have h := h v6 ev6
      refine lv_istore_n (lv' := [(3, .int (v6)), (0, .ref (ρ (0))), (1, .long (x1))]) hx hb dX10_mends_50 rfl hl (by decide) rfl (fun ls hl => ?_)
      refine lv_iconst (v := (-1 : Int32)) hx hb dX10_mends_51 (by decide) ?_
      refine lv_topi (fun v7 ev7 => ?_)
      have h := h v7 ev7
      refine lv_istore (lv' := [(4, .int (v7)), (3, .int (v6)), (0, .ref (ρ (0))), (1, .long (x1))]) hx hb dX10_mends_52 hl (by decide) rfl (fun ls hl => ?_)
      refine lv_aload_n hx hb dX10_mends_54 rfl (lv_at hl 2 rfl) ?_
      refine e_getq hx hb hts in_X10_mends_X10 hown K G 0 (by decide) gl_0 rfl 2 (by decide) 5 rfl (hts (.fieldLink RX10 26 "StreetsStepOn" "book" "LStreetsStepOn$Book;") (e_mem (n := 1) rfl)) dX10_mends_55 ?_
      refine e_getiN hx hb hts in_X10_mends_X1 hown K G 5 (by decide) gl_5 rfl 4 (by decide) rfl (e_memq (n := 18) rfl) dX10_mends_58 ?_
      refine lv_iconst (v := (1 : Int32)) hx hb dX10_mends_61 (by decide) ?_
      refine lv_isub hx hb dX10_mends_62 ?_
      refine lv_topi (fun v8 ev8 => ?_)
      have h := h v8 ev8
      refine lv_istore (lv' := [(5, .int (v8)), (4, .int (v7)), (3, .int (v6)), (0, .ref (ρ (0))), (1, .long (x1))]) hx hb dX10_mends_63 hl (by decide) rfl (fun ls hl => ?_)
      obtain ⟨n12, h⟩ := h
      exact l_X10_mends_65 C K n12 σ x1 v6 v7 v8 _ _ _  h G (lv_sub hl [3, 4, 2, 1, 0] rfl)
    · have h := h.2 c5
      refine lv_aload_n hx hb dX10_mends_22 rfl (lv_at hl 0 rfl) ?_
      refine e_getq hx hb hts in_X10_mends_X10 hown K G 0 (by decide) gl_0 rfl 11 (by decide) 71 rfl (hts (.fieldLink RX10 83 "StreetsStepOn" "tally" "[I") (e_mem (n := 2) rfl)) dX10_mends_23 ?_
      refine lv_iload_n hx hb dX10_mends_26 rfl (lv_at hl 2 rfl) ?_
      refine lv_aload_n hx hb dX10_mends_27 rfl (lv_at hl 0 rfl) ?_
      refine e_getq hx hb hts in_X10_mends_X10 hown K G 0 (by decide) gl_0 rfl 5 (by decide) 32 rfl (hts (.fieldLink RX10 44 "StreetsStepOn" "almanac" "LStreetsStepOn$Almanac;") (e_mem (n := 3) rfl)) dX10_mends_28 ?_
      refine lv_iload_n hx hb dX10_mends_31 rfl (lv_at hl 2 rfl) ?_
      refine lv_lload_n hx hb dX10_mends_32 rfl (lv_at hl 1 rfl) ?_
      exact h.elim
def w_X10_mends (σ : eS) (x1 : Int64) (post : Int32 → eS → Prop) : Prop := w_X10_isDay σ x1 (fun r2 σ1 => ((¬ r2 = 0 → ∀ v4 : Int32, v4 = (0 : Int32) → (∃ n13 : Nat, b_X10_mends_11 post n13 σ1 x1 v4)) ∧ (r2 = 0 → post (-1 : Int32) σ1)))
set_option maxHeartbeats 4000000 in
set_option maxRecDepth 100000 in
theorem c_X10_mends {l : Launch} {D : va_G} {ρ : Nat → Nat} {κ : Nat → ClassId} {base : Nat} {σ : eS} {x1 : Int64} {post : Int32 → eS → Prop} (h : w_X10_mends σ x1 post) : gMi l yX10_mends wsX10_mends rm_X10_mends D ρ κ base [.ref (ρ (0)), .long (x1)] σ post := by
  refine e_ofWi (cc := cX10_mends) (maxL := 6) (ret := (some .int)) (by decide) rfl (Nat.le_of_ble_eq_true rfl) ?_
  intro p e s m below meth c ls C K G hl
  obtain ⟨hx, hb, hml, hown, hts, hr, hlocks⟩ := id C
  have hl : lv_has ls 6 [(0, .ref (ρ (0))), (1, .long (x1))] := hl
  unfold w_X10_mends at h
  refine lv_lload_n hx hb dX10_mends_0 rfl (lv_at hl 1 rfl) ?_
  refine e_callSi (As := [.long (x1)]) (rest := []) ⟨hx, hb, hml, hown, hts⟩ K G (c_X10_isDay h) (va_cwS 1 hts gX10_mends_X10_isDay rfl rfl rfl (by decide +kernel) ⟨Nat.le_of_ble_eq_true rfl, Nat.le_of_ble_eq_true rfl⟩) rfl hl.1 rfl (Nat.le_of_ble_eq_true rfl) dX10_mends_1 ⟨Nat.zero_le _, Nat.zero_le _⟩ (fun r2 σ1 H locs h G => ?_)
  refine lv_if_ne (tgt := 9) hx hb dX10_mends_4 (by decide) (fun c3 => ?_) (fun c3 => ?_)
  · have h := h.1 c3
    refine lv_iconst (v := (0 : Int32)) hx hb dX10_mends_9 (by decide) ?_
    refine lv_topi (fun v4 ev4 => ?_)
    have h := h v4 ev4
    refine lv_istore_n (lv' := [(3, .int (v4)), (0, .ref (ρ (0))), (1, .long (x1))]) hx hb dX10_mends_10 rfl hl (by decide) rfl (fun ls hl => ?_)
    obtain ⟨n13, h⟩ := h
    exact l_X10_mends_11 C K n13 σ1 x1 v4 _ _ _  h G (lv_sub hl [1, 2, 0] rfl)
  · have h := h.2 c3
    refine lv_iconst (v := (-1 : Int32)) hx hb dX10_mends_7 (by decide) ?_
    exact e_iret hx hb hr hlocks G h dX10_mends_8
abbrev rm_X11_findCycles_v1 : Room := { frames := 1, cells := 0, slots := 0, locals := 21 }
theorem in_X11_findCycles_v1_X11 : ∀ w ∈ wsX110, w ∈ wsX11_findCycles := fun w h => List.mem_cons_of_mem _ (List.mem_append_right _ h)
def b_X11_findCycles_v1_103 (post : Int32 → eS → Prop) (K29 : eS → Int32 → Int32 → Int32 → Int32 → Prop) (σ : eS) (x2 : Int32) (x3 : Int32) (x4 : Int32) (x5 : Int32) : Prop := ∀ v18 : Int32, v18 = (x5 + (1 : Int32)) → K29 σ x2 x3 x4 v18
set_option maxHeartbeats 4000000 in
set_option maxRecDepth 100000 in
theorem l_X11_findCycles_v1_103 {p : Program} {l : Launch} {e : Env} {s : State} {m : MethodId} {args : Array Value} {below : List Frame} {meth : Method} {c : Code} {D : va_G} {ρ : Nat → Nat} {κ : Nat → ClassId} {base : Nat} {post : Int32 → eS → Prop} (C : eCx p s m args meth c cX11_findCycles RX11 8 (some .int) wsX11_findCycles) (K : gK D ρ κ base s) {K29 : eS → Int32 → Int32 → Int32 → Int32 → Prop} (hK29 : ∀ (σ : eS) (x2 : Int32) (x3 : Int32) (x4 : Int32) (x5 : Int32) (H : Heap) (locs : List Loc) (ls : Array Slot), K29 σ x2 x3 x4 x5 → gG D ρ κ base s σ H locs → lv_has ls 8 [(0, .ref (ρ (97))), (1, .ref (ρ (115))), (2, .int (x2)), (3, .int (x3)), (4, .int (x4)), (5, .int (x5))] → W p l e rm_X11_findCycles_v1 s m args below meth c H locs 0 0 (gQi below args s D ρ κ base post) (F0 m 29 ls [])) : ∀ (σ : eS) (x2 : Int32) (x3 : Int32) (x4 : Int32) (x5 : Int32) (H : Heap) (locs : List Loc) (ls : Array Slot), b_X11_findCycles_v1_103 post K29 σ x2 x3 x4 x5 → gG D ρ κ base s σ H locs → lv_has ls 8 [(0, .ref (ρ (97))), (1, .ref (ρ (115))), (2, .int (x2)), (3, .int (x3)), (4, .int (x4)), (5, .int (x5))] → W p l e rm_X11_findCycles_v1 s m args below meth c H locs 0 0 (gQi below args s D ρ κ base post) (F0 m 103 ls []) := by
  obtain ⟨hx, hb, hml, hown, hts, hr, hlocks⟩ := id C
  intro σ x2 x3 x4 x5 H locs ls h G hl
  unfold b_X11_findCycles_v1_103 at h
  obtain ⟨v18, ev18⟩ : ∃ y : Int32, y = x5 + (1 : Int32) := ⟨_, rfl⟩
  have h := h v18 ev18
  refine lv_iinc (v := v18) (lv' := [(5, .int (v18)), (0, .ref (ρ (97))), (1, .ref (ρ (115))), (2, .int (x2)), (3, .int (x3)), (4, .int (x4))]) hx hb dX11_findCycles_103 hl (k := 5) rfl (by rw [ev18]; rfl) (by decide) rfl (fun ls hl => ?_)
  refine lv_goto (tgt := 29) hx hb dX11_findCycles_106 (by decide) ?_
  exact hK29 σ x2 x3 x4 v18 _ _ _  h G (lv_sub hl [1, 2, 3, 4, 5, 0] rfl)
def b_X11_findCycles_v1_57 (post : Int32 → eS → Prop) (K29 : eS → Int32 → Int32 → Int32 → Int32 → Prop) : Nat → eS → Int32 → Int32 → Int32 → Int32 → Int32 → Int32 → Prop
  | 0, _, _, _, _, _, _, _ => False
  | n + 1, σ, x2, x3, x4, x5, x6, x7 => w_X11_has σ x3 x7 (fun r12 σ11 => ((¬ r12 = 0 → (vp_in (x6 - (1 : Int32)) 12) ∧ (vp_in (x6 - (1 : Int32)) 12) ∧ ∀ σ16 : eS, σ16 = e_ui σ11 112 (x6 - (1 : Int32)).toNatClampNeg ((σ11.1 112 (x6 - (1 : Int32)).toNatClampNeg) + (1 : Int32)) → ∀ v17 : Int32, v17 = (x4 + (1 : Int32)) → b_X11_findCycles_v1_103 post K29 σ16 x2 x3 v17 x5) ∧ (r12 = 0 → ∀ v19 : Int32, v19 = (x3 ||| ((1 : Int32) <<< (x7 &&& 31))) → ∀ v20 : Int32, v20 = (x6 + (1 : Int32)) → (vp_in (x2 + x7) 12) ∧ ∀ v22 : Int32, v22 = (σ11.1 115 (x2 + x7).toNatClampNeg) → b_X11_findCycles_v1_57 post K29 n σ11 x2 v19 x4 x5 v20 v22)))
set_option maxHeartbeats 4000000 in
set_option maxRecDepth 100000 in
theorem l_X11_findCycles_v1_57 {p : Program} {l : Launch} {e : Env} {s : State} {m : MethodId} {args : Array Value} {below : List Frame} {meth : Method} {c : Code} {D : va_G} {ρ : Nat → Nat} {κ : Nat → ClassId} {base : Nat} {post : Int32 → eS → Prop} (C : eCx p s m args meth c cX11_findCycles RX11 8 (some .int) wsX11_findCycles) (K : gK D ρ κ base s) {K29 : eS → Int32 → Int32 → Int32 → Int32 → Prop} (hK29 : ∀ (σ : eS) (x2 : Int32) (x3 : Int32) (x4 : Int32) (x5 : Int32) (H : Heap) (locs : List Loc) (ls : Array Slot), K29 σ x2 x3 x4 x5 → gG D ρ κ base s σ H locs → lv_has ls 8 [(0, .ref (ρ (97))), (1, .ref (ρ (115))), (2, .int (x2)), (3, .int (x3)), (4, .int (x4)), (5, .int (x5))] → W p l e rm_X11_findCycles_v1 s m args below meth c H locs 0 0 (gQi below args s D ρ κ base post) (F0 m 29 ls [])) : ∀ (n : Nat) (σ : eS) (x2 : Int32) (x3 : Int32) (x4 : Int32) (x5 : Int32) (x6 : Int32) (x7 : Int32) (H : Heap) (locs : List Loc) (ls : Array Slot), b_X11_findCycles_v1_57 post K29 n σ x2 x3 x4 x5 x6 x7 → gG D ρ κ base s σ H locs → lv_has ls 8 [(0, .ref (ρ (97))), (1, .ref (ρ (115))), (2, .int (x2)), (3, .int (x3)), (4, .int (x4)), (5, .int (x5)), (6, .int (x6)), (7, .int (x7))] → W p l e rm_X11_findCycles_v1 s m args below meth c H locs 0 0 (gQi below args s D ρ κ base post) (F0 m 57 ls []) := by
  obtain ⟨hx, hb, hml, hown, hts, hr, hlocks⟩ := id C
  intro n
  induction n with
  | zero => intro σ x2 x3 x4 x5 x6 x7 H locs ls h G hl; exact False.elim h
  | succ n ih =>
    intro σ x2 x3 x4 x5 x6 x7 H locs ls h G hl
    rw [b_X11_findCycles_v1_57] at h
    refine lv_iload_n hx hb dX11_findCycles_57 rfl (lv_at hl 3 rfl) ?_
    refine lv_iload hx hb dX11_findCycles_58 (lv_at hl 7 rfl) ?_
    refine e_callSi (As := [.int (x3), .int (x7)]) (rest := []) ⟨hx, hb, hml, hown, hts⟩ K G (c_X11_has h) (va_cwS 2 hts gX11_findCycles_X11_has rfl rfl rfl (by decide +kernel) ⟨Nat.le_of_ble_eq_true rfl, Nat.le_of_ble_eq_true rfl⟩) rfl hl.1 rfl (Nat.le_of_ble_eq_true rfl) dX11_findCycles_60 ⟨Nat.zero_le _, Nat.zero_le _⟩ (fun r12 σ11 H locs h G => ?_)
    refine lv_if_ne (tgt := 87) hx hb dX11_findCycles_63 (by decide) (fun c13 => ?_) (fun c13 => ?_)
    · have h := h.1 c13
      refine lv_aload_n hx hb dX11_findCycles_87 rfl (lv_at hl 0 rfl) ?_
      refine e_getq hx hb hts in_X11_findCycles_v1_X11 hown K G 97 (by decide) gl_97 rfl 31 (by decide) 112 rfl (hts (.fieldLink RX11 54 "StreetsStepOnModel" "cycle" "[I") (e_mem (n := 1) rfl)) dX11_findCycles_88 ?_
      refine lv_iload hx hb dX11_findCycles_91 (lv_at hl 6 rfl) ?_
      refine lv_iconst (v := (1 : Int32)) hx hb dX11_findCycles_93 (by decide) ?_
      refine lv_isub hx hb dX11_findCycles_94 ?_
      refine lv_dup2_11 hx hb dX11_findCycles_95 rfl rfl ?_
      have hi14 := h.1
      have h := h.2
      refine e_iald hx hb K G 112 0 0 12 (by decide) gl_112 rfl hi14 dX11_findCycles_96 ?_
      refine lv_iconst (v := (1 : Int32)) hx hb dX11_findCycles_97 (by decide) ?_
      refine lv_iadd hx hb dX11_findCycles_98 ?_
      have hi15 := h.1
      have h := h.2
      refine e_iast hx hb K G 112 0 0 12 (by decide) gl_112 rfl hi15 dX11_findCycles_99 (fun H locs G => ?_)
      obtain ⟨σ16, eσ16⟩ : ∃ z : eS, z = e_ui σ11 112 (x6 - (1 : Int32)).toNatClampNeg ((σ11.1 112 (x6 - (1 : Int32)).toNatClampNeg) + (1 : Int32)) := ⟨_, rfl⟩
      rw [← eσ16] at G
      have h := h σ16 eσ16
      obtain ⟨v17, ev17⟩ : ∃ y : Int32, y = x4 + (1 : Int32) := ⟨_, rfl⟩
      have h := h v17 ev17
      refine lv_iinc (v := v17) (lv' := [(4, .int (v17)), (0, .ref (ρ (97))), (1, .ref (ρ (115))), (2, .int (x2)), (3, .int (x3)), (5, .int (x5)), (6, .int (x6)), (7, .int (x7))]) hx hb dX11_findCycles_100 hl (k := 4) rfl (by rw [ev17]; rfl) (by decide) rfl (fun ls hl => ?_)
      exact l_X11_findCycles_v1_103 C K (hK29 := hK29) σ16 x2 x3 v17 x5 _ _ _  h G (lv_sub hl [1, 2, 3, 4, 0, 5] rfl)
    · have h := h.2 c13
      refine lv_iload_n hx hb dX11_findCycles_66 rfl (lv_at hl 3 rfl) ?_
      refine lv_iconst (v := (1 : Int32)) hx hb dX11_findCycles_67 (by decide) ?_
      refine lv_iload hx hb dX11_findCycles_68 (lv_at hl 7 rfl) ?_
      refine lv_ishl hx hb dX11_findCycles_70 ?_
      refine lv_ior hx hb dX11_findCycles_71 ?_
      refine lv_topi (fun v19 ev19 => ?_)
      have h := h v19 ev19
      refine lv_istore_n (lv' := [(3, .int (v19)), (0, .ref (ρ (97))), (1, .ref (ρ (115))), (2, .int (x2)), (4, .int (x4)), (5, .int (x5)), (6, .int (x6)), (7, .int (x7))]) hx hb dX11_findCycles_72 rfl hl (by decide) rfl (fun ls hl => ?_)
      obtain ⟨v20, ev20⟩ : ∃ y : Int32, y = x6 + (1 : Int32) := ⟨_, rfl⟩
      have h := h v20 ev20
      refine lv_iinc (v := v20) (lv' := [(6, .int (v20)), (3, .int (v19)), (0, .ref (ρ (97))), (1, .ref (ρ (115))), (2, .int (x2)), (4, .int (x4)), (5, .int (x5)), (7, .int (x7))]) hx hb dX11_findCycles_73 hl (k := 6) rfl (by rw [ev20]; rfl) (by decide) rfl (fun ls hl => ?_)
      refine lv_aload_n hx hb dX11_findCycles_76 rfl (lv_at hl 3 rfl) ?_
      refine lv_iload_n hx hb dX11_findCycles_77 rfl (lv_at hl 4 rfl) ?_
      refine lv_iload hx hb dX11_findCycles_78 (lv_at hl 7 rfl) ?_
      refine lv_iadd hx hb dX11_findCycles_80 ?_
      have hi21 := h.1
      have h := h.2
      refine e_iald hx hb K G 115 0 0 12 (by decide) gl_115 rfl hi21 dX11_findCycles_81 ?_
      refine lv_topi (fun v22 ev22 => ?_)
      have h := h v22 ev22
      refine lv_istore (lv' := [(7, .int (v22)), (6, .int (v20)), (3, .int (v19)), (0, .ref (ρ (97))), (1, .ref (ρ (115))), (2, .int (x2)), (4, .int (x4)), (5, .int (x5))]) hx hb dX11_findCycles_82 hl (by decide) rfl (fun ls hl => ?_)
      refine lv_goto (tgt := 57) hx hb dX11_findCycles_84 (by decide) ?_
      exact ih σ11 x2 v19 x4 x5 v20 v22 _ _ _  h G (lv_sub hl [3, 4, 5, 2, 6, 7, 1, 0] rfl)
def b_X11_findCycles_v1_29 (post : Int32 → eS → Prop) : Nat → eS → Int32 → Int32 → Int32 → Int32 → Prop
  | 0, _, _, _, _, _ => False
  | n + 1, σ, x2, x3, x4, x5 => (((σ.1 97 0) ≤ x5 → post x4 σ) ∧ (¬ ((σ.1 97 0) ≤ x5) → w_X11_has σ x3 x5 (fun r8 σ7 => ((r8 = 0 → ∀ v10 : Int32, v10 = (0 : Int32) → (∃ n23 : Nat, b_X11_findCycles_v1_57 post (fun s x2 x3 x4 x5 => b_X11_findCycles_v1_29 post n s x2 x3 x4 x5) n23 σ7 x2 x3 x4 x5 v10 x5)) ∧ (¬ (r8 = 0) → b_X11_findCycles_v1_103 post (fun s x2 x3 x4 x5 => b_X11_findCycles_v1_29 post n s x2 x3 x4 x5) σ7 x2 x3 x4 x5)))))
set_option maxHeartbeats 4000000 in
set_option maxRecDepth 100000 in
theorem l_X11_findCycles_v1_29 {p : Program} {l : Launch} {e : Env} {s : State} {m : MethodId} {args : Array Value} {below : List Frame} {meth : Method} {c : Code} {D : va_G} {ρ : Nat → Nat} {κ : Nat → ClassId} {base : Nat} {post : Int32 → eS → Prop} (C : eCx p s m args meth c cX11_findCycles RX11 8 (some .int) wsX11_findCycles) (K : gK D ρ κ base s) : ∀ (n : Nat) (σ : eS) (x2 : Int32) (x3 : Int32) (x4 : Int32) (x5 : Int32) (H : Heap) (locs : List Loc) (ls : Array Slot), b_X11_findCycles_v1_29 post n σ x2 x3 x4 x5 → gG D ρ κ base s σ H locs → lv_has ls 8 [(0, .ref (ρ (97))), (1, .ref (ρ (115))), (2, .int (x2)), (3, .int (x3)), (4, .int (x4)), (5, .int (x5))] → W p l e rm_X11_findCycles_v1 s m args below meth c H locs 0 0 (gQi below args s D ρ κ base post) (F0 m 29 ls []) := by
  obtain ⟨hx, hb, hml, hown, hts, hr, hlocks⟩ := id C
  intro n
  induction n with
  | zero => intro σ x2 x3 x4 x5 H locs ls h G hl; exact False.elim h
  | succ n ih =>
    intro σ x2 x3 x4 x5 H locs ls h G hl
    rw [b_X11_findCycles_v1_29] at h
    refine lv_iload hx hb dX11_findCycles_29 (lv_at hl 5 rfl) ?_
    refine lv_aload_n hx hb dX11_findCycles_31 rfl (lv_at hl 0 rfl) ?_
    refine e_geti hx hb hts in_X11_findCycles_v1_X11 hown K G 97 (by decide) gl_97 rfl 0 (by decide) rfl (hts (.fieldLink RX11 104 "StreetsStepOnModel" "streets" "I") (e_mem (n := 2) rfl)) dX11_findCycles_32 ?_
    refine lv_icmp_ge (tgt := 109) hx hb dX11_findCycles_35 (by decide) (fun c6 => ?_) (fun c6 => ?_)
    · have h := h.1 c6
      refine lv_iload hx hb dX11_findCycles_109 (lv_at hl 4 rfl) ?_
      exact e_iret hx hb hr hlocks G h dX11_findCycles_111
    · have h := h.2 c6
      refine lv_iload_n hx hb dX11_findCycles_38 rfl (lv_at hl 3 rfl) ?_
      refine lv_iload hx hb dX11_findCycles_39 (lv_at hl 5 rfl) ?_
      refine e_callSi (As := [.int (x3), .int (x5)]) (rest := []) ⟨hx, hb, hml, hown, hts⟩ K G (c_X11_has h) (va_cwS 2 hts gX11_findCycles_X11_has rfl rfl rfl (by decide +kernel) ⟨Nat.le_of_ble_eq_true rfl, Nat.le_of_ble_eq_true rfl⟩) rfl hl.1 rfl (Nat.le_of_ble_eq_true rfl) dX11_findCycles_41 ⟨Nat.zero_le _, Nat.zero_le _⟩ (fun r8 σ7 H locs h G => ?_)
      refine lv_if_eq (tgt := 50) hx hb dX11_findCycles_44 (by decide) (fun c9 => ?_) (fun c9 => ?_)
      · have h := h.1 c9
        refine lv_iconst (v := (0 : Int32)) hx hb dX11_findCycles_50 (by decide) ?_
        refine lv_topi (fun v10 ev10 => ?_)
        have h := h v10 ev10
        refine lv_istore (lv' := [(6, .int (v10)), (0, .ref (ρ (97))), (1, .ref (ρ (115))), (2, .int (x2)), (3, .int (x3)), (4, .int (x4)), (5, .int (x5))]) hx hb dX11_findCycles_51 hl (by decide) rfl (fun ls hl => ?_)
        refine lv_iload hx hb dX11_findCycles_53 (lv_at hl 6 rfl) ?_
        refine lv_istore (lv' := [(7, .int (x5)), (6, .int (v10)), (0, .ref (ρ (97))), (1, .ref (ρ (115))), (2, .int (x2)), (3, .int (x3)), (4, .int (x4)), (5, .int (x5))]) hx hb dX11_findCycles_55 hl (by decide) rfl (fun ls hl => ?_)
        obtain ⟨n23, h⟩ := h
        exact l_X11_findCycles_v1_57 C K (hK29 := ih) n23 σ7 x2 x3 x4 x5 v10 x5 _ _ _  h G (lv_sub hl [2, 3, 4, 5, 6, 7, 1, 0] rfl)
      · have h := h.2 c9
        refine lv_goto (tgt := 103) hx hb dX11_findCycles_47 (by decide) ?_
        exact l_X11_findCycles_v1_103 C K (hK29 := ih) σ7 x2 x3 x4 x5 _ _ _  h G (lv_sub hl [0, 1, 2, 3, 4, 5] rfl)
def b_X11_findCycles_v1_2 (post : Int32 → eS → Prop) : Nat → eS → Int32 → Int32 → Prop
  | 0, _, _, _ => False
  | n + 1, σ, x2, x3 => (((12 : Int32) ≤ x3 → ∀ v3 : Int32, v3 = (0 : Int32) → ∀ v4 : Int32, v4 = (0 : Int32) → ∀ v5 : Int32, v5 = (0 : Int32) → (∃ n24 : Nat, b_X11_findCycles_v1_29 post n24 σ x2 v3 v4 v5)) ∧ (¬ ((12 : Int32) ≤ x3) → (vp_in x3 12) ∧ ∀ σ26 : eS, σ26 = e_ui σ 112 x3.toNatClampNeg (0 : Int32) → ∀ v27 : Int32, v27 = (x3 + (1 : Int32)) → b_X11_findCycles_v1_2 post n σ26 x2 v27))
set_option maxHeartbeats 4000000 in
set_option maxRecDepth 100000 in
theorem l_X11_findCycles_v1_2 {p : Program} {l : Launch} {e : Env} {s : State} {m : MethodId} {args : Array Value} {below : List Frame} {meth : Method} {c : Code} {D : va_G} {ρ : Nat → Nat} {κ : Nat → ClassId} {base : Nat} {post : Int32 → eS → Prop} (C : eCx p s m args meth c cX11_findCycles RX11 8 (some .int) wsX11_findCycles) (K : gK D ρ κ base s) : ∀ (n : Nat) (σ : eS) (x2 : Int32) (x3 : Int32) (H : Heap) (locs : List Loc) (ls : Array Slot), b_X11_findCycles_v1_2 post n σ x2 x3 → gG D ρ κ base s σ H locs → lv_has ls 8 [(0, .ref (ρ (97))), (1, .ref (ρ (115))), (2, .int (x2)), (3, .int (x3))] → W p l e rm_X11_findCycles_v1 s m args below meth c H locs 0 0 (gQi below args s D ρ κ base post) (F0 m 2 ls []) := by
  obtain ⟨hx, hb, hml, hown, hts, hr, hlocks⟩ := id C
  intro n
  induction n with
  | zero => intro σ x2 x3 H locs ls h G hl; exact False.elim h
  | succ n ih =>
    intro σ x2 x3 H locs ls h G hl
    rw [b_X11_findCycles_v1_2] at h
    refine lv_iload_n hx hb dX11_findCycles_2 rfl (lv_at hl 3 rfl) ?_
    refine lv_bipush (v := (12 : Int32)) hx hb dX11_findCycles_3 (by decide) ?_
    refine lv_icmp_ge (tgt := 21) hx hb dX11_findCycles_5 (by decide) (fun c2 => ?_) (fun c2 => ?_)
    · have h := h.1 c2
      refine lv_iconst (v := (0 : Int32)) hx hb dX11_findCycles_21 (by decide) ?_
      refine lv_topi (fun v3 ev3 => ?_)
      have h := h v3 ev3
      refine lv_istore_n (lv' := [(3, .int (v3)), (0, .ref (ρ (97))), (1, .ref (ρ (115))), (2, .int (x2))]) hx hb dX11_findCycles_22 rfl hl (by decide) rfl (fun ls hl => ?_)
      refine lv_iconst (v := (0 : Int32)) hx hb dX11_findCycles_23 (by decide) ?_
      refine lv_topi (fun v4 ev4 => ?_)
      have h := h v4 ev4
      refine lv_istore (lv' := [(4, .int (v4)), (3, .int (v3)), (0, .ref (ρ (97))), (1, .ref (ρ (115))), (2, .int (x2))]) hx hb dX11_findCycles_24 hl (by decide) rfl (fun ls hl => ?_)
      refine lv_iconst (v := (0 : Int32)) hx hb dX11_findCycles_26 (by decide) ?_
      refine lv_topi (fun v5 ev5 => ?_)
      have h := h v5 ev5
      refine lv_istore (lv' := [(5, .int (v5)), (4, .int (v4)), (3, .int (v3)), (0, .ref (ρ (97))), (1, .ref (ρ (115))), (2, .int (x2))]) hx hb dX11_findCycles_27 hl (by decide) rfl (fun ls hl => ?_)
      obtain ⟨n24, h⟩ := h
      exact l_X11_findCycles_v1_29 C K n24 σ x2 v3 v4 v5 _ _ _  h G (lv_sub hl [3, 4, 5, 2, 1, 0] rfl)
    · have h := h.2 c2
      refine lv_aload_n hx hb dX11_findCycles_8 rfl (lv_at hl 0 rfl) ?_
      refine e_getq hx hb hts in_X11_findCycles_v1_X11 hown K G 97 (by decide) gl_97 rfl 31 (by decide) 112 rfl (hts (.fieldLink RX11 54 "StreetsStepOnModel" "cycle" "[I") (e_mem (n := 1) rfl)) dX11_findCycles_9 ?_
      refine lv_iload_n hx hb dX11_findCycles_12 rfl (lv_at hl 3 rfl) ?_
      refine lv_iconst (v := (0 : Int32)) hx hb dX11_findCycles_13 (by decide) ?_
      have hi25 := h.1
      have h := h.2
      refine e_iast hx hb K G 112 0 0 12 (by decide) gl_112 rfl hi25 dX11_findCycles_14 (fun H locs G => ?_)
      obtain ⟨σ26, eσ26⟩ : ∃ z : eS, z = e_ui σ 112 x3.toNatClampNeg (0 : Int32) := ⟨_, rfl⟩
      rw [← eσ26] at G
      have h := h σ26 eσ26
      obtain ⟨v27, ev27⟩ : ∃ y : Int32, y = x3 + (1 : Int32) := ⟨_, rfl⟩
      have h := h v27 ev27
      refine lv_iinc (v := v27) (lv' := [(3, .int (v27)), (0, .ref (ρ (97))), (1, .ref (ρ (115))), (2, .int (x2))]) hx hb dX11_findCycles_15 hl (k := 3) rfl (by rw [ev27]; rfl) (by decide) rfl (fun ls hl => ?_)
      refine lv_goto (tgt := 2) hx hb dX11_findCycles_18 (by decide) ?_
      exact ih σ26 x2 v27 _ _ _  h G (lv_sub hl [1, 2, 3, 0] rfl)
def w_X11_findCycles_v1 (σ : eS) (x2 : Int32) (post : Int32 → eS → Prop) : Prop := ∀ v1 : Int32, v1 = (0 : Int32) → (∃ n28 : Nat, b_X11_findCycles_v1_2 post n28 σ x2 v1)
set_option maxHeartbeats 4000000 in
set_option maxRecDepth 100000 in
theorem c_X11_findCycles_v1 {l : Launch} {D : va_G} {ρ : Nat → Nat} {κ : Nat → ClassId} {base : Nat} {σ : eS} {x2 : Int32} {post : Int32 → eS → Prop} (h : w_X11_findCycles_v1 σ x2 post) : gMi l yX11_findCycles wsX11_findCycles rm_X11_findCycles_v1 D ρ κ base [.ref (ρ (97)), .ref (ρ (115)), .int (x2)] σ post := by
  refine e_ofWi (cc := cX11_findCycles) (maxL := 8) (ret := (some .int)) (by decide) rfl (Nat.le_of_ble_eq_true rfl) ?_
  intro p e s m below meth c ls C K G hl
  obtain ⟨hx, hb, hml, hown, hts, hr, hlocks⟩ := id C
  have hl : lv_has ls 8 [(0, .ref (ρ (97))), (1, .ref (ρ (115))), (2, .int (x2))] := hl
  unfold w_X11_findCycles_v1 at h
  refine lv_iconst (v := (0 : Int32)) hx hb dX11_findCycles_0 (by decide) ?_
  refine lv_topi (fun v1 ev1 => ?_)
  have h := h v1 ev1
  refine lv_istore_n (lv' := [(3, .int (v1)), (0, .ref (ρ (97))), (1, .ref (ρ (115))), (2, .int (x2))]) hx hb dX11_findCycles_1 rfl hl (by decide) rfl (fun ls hl => ?_)
  obtain ⟨n28, h⟩ := h
  exact l_X11_findCycles_v1_2 C K n28 σ x2 v1 _ _ _  h G (lv_sub hl [1, 2, 3, 0] rfl)
abbrev rm_X11_mends : Room := { frames := 2, cells := 0, slots := 0, locals := 48 }
theorem in_X11_mends_X11 : ∀ w ∈ wsX110, w ∈ wsX11_mends := fun w h => List.mem_cons_of_mem _ (List.mem_append_right _ h)
def b_X11_mends_100 (post : Int32 → eS → Prop) (σ : eS) : Prop := w_X11_findCycles_v1 σ (0 : Int32) (fun r12 σ11 => post ((σ.1 97 0) - r12) σ11)
set_option maxHeartbeats 4000000 in
set_option maxRecDepth 100000 in
theorem l_X11_mends_100 {p : Program} {l : Launch} {e : Env} {s : State} {m : MethodId} {args : Array Value} {below : List Frame} {meth : Method} {c : Code} {D : va_G} {ρ : Nat → Nat} {κ : Nat → ClassId} {base : Nat} {post : Int32 → eS → Prop} (C : eCx p s m args meth c cX11_mends RX11 5 (some .int) wsX11_mends) (K : gK D ρ κ base s) : ∀ (σ : eS) (H : Heap) (locs : List Loc) (ls : Array Slot), b_X11_mends_100 post σ → gG D ρ κ base s σ H locs → lv_has ls 5 [(0, .ref (ρ (97)))] → W p l e rm_X11_mends s m args below meth c H locs 0 0 (gQi below args s D ρ κ base post) (F0 m 100 ls []) := by
  obtain ⟨hx, hb, hml, hown, hts, hr, hlocks⟩ := id C
  intro σ H locs ls h G hl
  unfold b_X11_mends_100 at h
  refine lv_aload_n hx hb dX11_mends_100 rfl (lv_at hl 0 rfl) ?_
  refine e_geti hx hb hts in_X11_mends_X11 hown K G 97 (by decide) gl_97 rfl 0 (by decide) rfl (hts (.fieldLink RX11 104 "StreetsStepOnModel" "streets" "I") (e_mem (n := 2) rfl)) dX11_mends_101 ?_
  refine lv_aload_n hx hb dX11_mends_104 rfl (lv_at hl 0 rfl) ?_
  refine lv_aload_n hx hb dX11_mends_105 rfl (lv_at hl 0 rfl) ?_
  refine e_getq hx hb hts in_X11_mends_X11 hown K G 97 (by decide) gl_97 rfl 35 (by decide) 115 rfl (hts (.fieldLink RX11 63 "StreetsStepOnModel" "today0" "[I") (e_mem (n := 3) rfl)) dX11_mends_106 ?_
  refine lv_iconst (v := (0 : Int32)) hx hb dX11_mends_109 (by decide) ?_
  refine e_callVi (As := [.ref (ρ (115)), .int ((0 : Int32))]) (rest := [.int (σ.1 97 0)]) ⟨hx, hb, hml, hown, hts⟩ K G 97 (by decide) gl_97 rfl (c_X11_findCycles_v1 h) (cwV 2 hts gX11_mends_X11_findCycles rfl rfl rfl (by decide +kernel) ⟨Nat.le_of_ble_eq_true rfl, Nat.le_of_ble_eq_true rfl⟩) rfl hl.1 rfl (Nat.le_of_ble_eq_true rfl) dX11_mends_110 ⟨Nat.zero_le _, Nat.zero_le _⟩ (fun r12 σ11 H locs h G => ?_)
  refine lv_isub hx hb dX11_mends_113 ?_
  exact e_iret hx hb hr hlocks G h dX11_mends_114
def b_X11_mends_29 (post : Int32 → eS → Prop) : Nat → eS → Int64 → Int32 → Int32 → Prop
  | 0, _, _, _, _ => False
  | n + 1, σ, x1, x3, x4 => ((x4 < 0 → ∀ σ9 : eS, σ9 = e_ui σ 97 17 (0 : Int32) → ((x3 = (-1 : Int32) → b_X11_mends_100 post σ9) ∧ (¬ (x3 = (-1 : Int32)) → w_X11_tell σ9 (x3.toInt64) (fun σ13 => False)))) ∧ (¬ (x4 < 0) → False))
set_option maxHeartbeats 4000000 in
set_option maxRecDepth 100000 in
theorem l_X11_mends_29 {p : Program} {l : Launch} {e : Env} {s : State} {m : MethodId} {args : Array Value} {below : List Frame} {meth : Method} {c : Code} {D : va_G} {ρ : Nat → Nat} {κ : Nat → ClassId} {base : Nat} {post : Int32 → eS → Prop} (C : eCx p s m args meth c cX11_mends RX11 5 (some .int) wsX11_mends) (K : gK D ρ κ base s) : ∀ (n : Nat) (σ : eS) (x1 : Int64) (x3 : Int32) (x4 : Int32) (H : Heap) (locs : List Loc) (ls : Array Slot), b_X11_mends_29 post n σ x1 x3 x4 → gG D ρ κ base s σ H locs → lv_has ls 5 [(0, .ref (ρ (97))), (1, .long (x1)), (3, .int (x3)), (4, .int (x4))] → W p l e rm_X11_mends s m args below meth c H locs 0 0 (gQi below args s D ρ κ base post) (F0 m 29 ls []) := by
  obtain ⟨hx, hb, hml, hown, hts, hr, hlocks⟩ := id C
  intro n
  induction n with
  | zero => intro σ x1 x3 x4 H locs ls h G hl; exact False.elim h
  | succ n ih =>
    intro σ x1 x3 x4 H locs ls h G hl
    rw [b_X11_mends_29] at h
    refine lv_iload hx hb dX11_mends_29 (lv_at hl 3 rfl) ?_
    refine lv_if_lt (tgt := 73) hx hb dX11_mends_31 (by decide) (fun c8 => ?_) (fun c8 => ?_)
    · have h := h.1 c8
      refine lv_aload_n hx hb dX11_mends_73 rfl (lv_at hl 0 rfl) ?_
      refine lv_iconst (v := (0 : Int32)) hx hb dX11_mends_74 (by decide) ?_
      refine e_puti hx hb hts in_X11_mends_X11 tyX11 tyX11_ok nmX11 hown K G 97 (by decide) gl_97 rfl 17 (by decide) rfl (hts (.fieldLink RX11 101 "StreetsStepOnModel" "rowMany" "I") (e_mem (n := 4) rfl)) rfl (tyX11_ok 17 (by decide)) rfl rfl dX11_mends_75 (fun H locs G => ?_)
      obtain ⟨σ9, eσ9⟩ : ∃ z : eS, z = e_ui σ 97 17 (0 : Int32) := ⟨_, rfl⟩
      rw [← eσ9] at G
      have h := h σ9 eσ9
      refine lv_iload_n hx hb dX11_mends_78 rfl (lv_at hl 2 rfl) ?_
      refine lv_iconst (v := (-1 : Int32)) hx hb dX11_mends_79 (by decide) ?_
      refine lv_icmp_eq (tgt := 100) hx hb dX11_mends_80 (by decide) (fun c10 => ?_) (fun c10 => ?_)
      · have h := h.1 c10
        exact l_X11_mends_100 C K σ9 _ _ _  h G (lv_sub hl [0] rfl)
      · have h := h.2 c10
        refine lv_aload_n hx hb dX11_mends_83 rfl (lv_at hl 0 rfl) ?_
        refine lv_iload_n hx hb dX11_mends_84 rfl (lv_at hl 2 rfl) ?_
        refine lv_i2l hx hb dX11_mends_85 rfl ?_
        refine e_callVv (As := [.long (x3.toInt64)]) (rest := []) ⟨hx, hb, hml, hown, hts⟩ K G 97 (by decide) gl_97 rfl (c_X11_tell h) (cwV 1 hts gX11_mends_X11_tell rfl rfl rfl (by decide +kernel) ⟨Nat.le_of_ble_eq_true rfl, Nat.le_of_ble_eq_true rfl⟩) rfl hl.1 rfl (Nat.le_of_ble_eq_true rfl) dX11_mends_86 ⟨Nat.zero_le _, Nat.zero_le _⟩ (fun σ13 H locs h G => ?_)
        refine lv_aload_n hx hb dX11_mends_89 rfl (lv_at hl 0 rfl) ?_
        refine lv_aload_n hx hb dX11_mends_90 rfl (lv_at hl 0 rfl) ?_
        refine lv_iload_n hx hb dX11_mends_91 rfl (lv_at hl 2 rfl) ?_
        refine lv_lload_n hx hb dX11_mends_92 rfl (lv_at hl 1 rfl) ?_
        exact h.elim
    · have h := h.2 c8
      refine lv_aload_n hx hb dX11_mends_34 rfl (lv_at hl 0 rfl) ?_
      refine e_getq hx hb hts in_X11_mends_X11 hown K G 97 (by decide) gl_97 rfl 35 (by decide) 115 rfl (hts (.fieldLink RX11 63 "StreetsStepOnModel" "today0" "[I") (e_mem (n := 3) rfl)) dX11_mends_35 ?_
      refine lv_iload hx hb dX11_mends_38 (lv_at hl 3 rfl) ?_
      refine lv_aload_n hx hb dX11_mends_40 rfl (lv_at hl 0 rfl) ?_
      refine lv_iload hx hb dX11_mends_41 (lv_at hl 3 rfl) ?_
      refine lv_lload_n hx hb dX11_mends_43 rfl (lv_at hl 1 rfl) ?_
      exact h.elim
def w_X11_mends (σ : eS) (x1 : Int64) (post : Int32 → eS → Prop) : Prop := ∀ σ1 : eS, σ1 = e_ui σ 97 18 (0 : Int32) → w_X11_isDay σ1 x1 (fun r3 σ2 => ((¬ r3 = 0 → w_X11_layOut σ2 (0 : Int32) (fun σ5 => ∀ v6 : Int32, v6 = (-1 : Int32) → ∀ v7 : Int32, v7 = ((σ5.1 97 0) - (1 : Int32)) → (∃ n14 : Nat, b_X11_mends_29 post n14 σ5 x1 v6 v7))) ∧ (r3 = 0 → post (-1 : Int32) σ2)))
set_option maxHeartbeats 4000000 in
set_option maxRecDepth 100000 in
theorem c_X11_mends {l : Launch} {D : va_G} {ρ : Nat → Nat} {κ : Nat → ClassId} {base : Nat} {σ : eS} {x1 : Int64} {post : Int32 → eS → Prop} (h : w_X11_mends σ x1 post) : gMi l yX11_mends wsX11_mends rm_X11_mends D ρ κ base [.ref (ρ (97)), .long (x1)] σ post := by
  refine e_ofWi (cc := cX11_mends) (maxL := 5) (ret := (some .int)) (by decide) rfl (Nat.le_of_ble_eq_true rfl) ?_
  intro p e s m below meth c ls C K G hl
  obtain ⟨hx, hb, hml, hown, hts, hr, hlocks⟩ := id C
  have hl : lv_has ls 5 [(0, .ref (ρ (97))), (1, .long (x1))] := hl
  unfold w_X11_mends at h
  refine lv_aload_n hx hb dX11_mends_0 rfl (lv_at hl 0 rfl) ?_
  refine lv_iconst (v := (0 : Int32)) hx hb dX11_mends_1 (by decide) ?_
  refine e_puti hx hb hts in_X11_mends_X11 tyX11 tyX11_ok nmX11 hown K G 97 (by decide) gl_97 rfl 18 (by decide) rfl (hts (.fieldLink RX11 98 "StreetsStepOnModel" "thrown" "I") (e_mem (n := 1) rfl)) rfl (tyX11_ok 18 (by decide)) rfl rfl dX11_mends_2 (fun H locs G => ?_)
  obtain ⟨σ1, eσ1⟩ : ∃ z : eS, z = e_ui σ 97 18 (0 : Int32) := ⟨_, rfl⟩
  rw [← eσ1] at G
  have h := h σ1 eσ1
  refine lv_lload_n hx hb dX11_mends_5 rfl (lv_at hl 1 rfl) ?_
  refine e_callSi (As := [.long (x1)]) (rest := []) ⟨hx, hb, hml, hown, hts⟩ K G (c_X11_isDay h) (va_cwS 1 hts gX11_mends_X11_isDay rfl rfl rfl (by decide +kernel) ⟨Nat.le_of_ble_eq_true rfl, Nat.le_of_ble_eq_true rfl⟩) rfl hl.1 rfl (Nat.le_of_ble_eq_true rfl) dX11_mends_6 ⟨Nat.zero_le _, Nat.zero_le _⟩ (fun r3 σ2 H locs h G => ?_)
  refine lv_if_ne (tgt := 14) hx hb dX11_mends_9 (by decide) (fun c4 => ?_) (fun c4 => ?_)
  · have h := h.1 c4
    refine lv_aload_n hx hb dX11_mends_14 rfl (lv_at hl 0 rfl) ?_
    refine lv_iconst (v := (0 : Int32)) hx hb dX11_mends_15 (by decide) ?_
    refine e_callVv (As := [.int ((0 : Int32))]) (rest := []) ⟨hx, hb, hml, hown, hts⟩ K G 97 (by decide) gl_97 rfl (c_X11_layOut h) (cwV 1 hts gX11_mends_X11_layOut rfl rfl rfl (by decide +kernel) ⟨Nat.le_of_ble_eq_true rfl, Nat.le_of_ble_eq_true rfl⟩) rfl hl.1 rfl (Nat.le_of_ble_eq_true rfl) dX11_mends_16 ⟨Nat.zero_le _, Nat.zero_le _⟩ (fun σ5 H locs h G => ?_)
    refine lv_iconst (v := (-1 : Int32)) hx hb dX11_mends_19 (by decide) ?_
    refine lv_topi (fun v6 ev6 => ?_)
    have h := h v6 ev6
    refine lv_istore_n (lv' := [(3, .int (v6)), (0, .ref (ρ (97))), (1, .long (x1))]) hx hb dX11_mends_20 rfl hl (by decide) rfl (fun ls hl => ?_)
    refine lv_aload_n hx hb dX11_mends_21 rfl (lv_at hl 1 rfl) ?_
    refine e_geti hx hb hts in_X11_mends_X11 hown K G 97 (by decide) gl_97 rfl 0 (by decide) rfl (hts (.fieldLink RX11 104 "StreetsStepOnModel" "streets" "I") (e_mem (n := 2) rfl)) dX11_mends_22 ?_
    refine lv_iconst (v := (1 : Int32)) hx hb dX11_mends_25 (by decide) ?_
    refine lv_isub hx hb dX11_mends_26 ?_
    refine lv_topi (fun v7 ev7 => ?_)
    have h := h v7 ev7
    refine lv_istore (lv' := [(4, .int (v7)), (3, .int (v6)), (0, .ref (ρ (97))), (1, .long (x1))]) hx hb dX11_mends_27 hl (by decide) rfl (fun ls hl => ?_)
    obtain ⟨n14, h⟩ := h
    exact l_X11_mends_29 C K n14 σ5 x1 v6 v7 _ _ _  h G (lv_sub hl [2, 3, 1, 0] rfl)
  · have h := h.2 c4
    refine lv_iconst (v := (-1 : Int32)) hx hb dX11_mends_12 (by decide) ?_
    exact e_iret hx hb hr hlocks G h dX11_mends_13
abbrev rm_X10_isLate : Room := { frames := 0, cells := 0, slots := 0, locals := 0 }
def w_X10_isLate (σ : eS) (x0 : Int32) (post : Int32 → eS → Prop) : Prop := ((x0 < 0 → ((narrow .boolean (.int (0 : Int32)) = .int (0 : Int32)) ∧ post (0 : Int32) σ)) ∧ (¬ (x0 < 0) → (((99 : Int32) < x0 → ((narrow .boolean (.int (0 : Int32)) = .int (0 : Int32)) ∧ post (0 : Int32) σ)) ∧ (¬ ((99 : Int32) < x0) → ((narrow .boolean (.int (1 : Int32)) = .int (1 : Int32)) ∧ post (1 : Int32) σ)))))
set_option maxHeartbeats 4000000 in
set_option maxRecDepth 100000 in
theorem c_X10_isLate {l : Launch} {D : va_G} {ρ : Nat → Nat} {κ : Nat → ClassId} {base : Nat} {σ : eS} {x0 : Int32} {post : Int32 → eS → Prop} (h : w_X10_isLate σ x0 post) : gMi l yX10_isLate wsX10_isLate rm_X10_isLate D ρ κ base [.int (x0)] σ post := by
  refine e_ofWi (cc := cX10_isLate) (maxL := 1) (ret := (some .boolean)) (by decide) rfl (Nat.le_of_ble_eq_true rfl) ?_
  intro p e s m below meth c ls C K G hl
  obtain ⟨hx, hb, hml, hown, hts, hr, hlocks⟩ := id C
  have hl : lv_has ls 1 [(0, .int (x0))] := hl
  unfold w_X10_isLate at h
  refine lv_iload_n hx hb dX10_isLate_0 rfl (lv_at hl 0 rfl) ?_
  refine lv_if_lt (tgt := 14) hx hb dX10_isLate_1 (by decide) (fun c1 => ?_) (fun c1 => ?_)
  · have h := h.1 c1
    refine lv_iconst (v := (0 : Int32)) hx hb dX10_isLate_14 (by decide) ?_
    exact e_zret hx hb hr hlocks G h.1 h.2 dX10_isLate_15
  · have h := h.2 c1
    refine lv_iload_n hx hb dX10_isLate_4 rfl (lv_at hl 0 rfl) ?_
    refine lv_bipush (v := (99 : Int32)) hx hb dX10_isLate_5 (by decide) ?_
    refine lv_icmp_gt (tgt := 14) hx hb dX10_isLate_7 (by decide) (fun c2 => ?_) (fun c2 => ?_)
    · have h := h.1 c2
      refine lv_iconst (v := (0 : Int32)) hx hb dX10_isLate_14 (by decide) ?_
      exact e_zret hx hb hr hlocks G h.1 h.2 dX10_isLate_15
    · have h := h.2 c2
      refine lv_iconst (v := (1 : Int32)) hx hb dX10_isLate_10 (by decide) ?_
      refine lv_goto (tgt := 15) hx hb dX10_isLate_11 (by decide) ?_
      exact e_zret hx hb hr hlocks G h.1 h.2 dX10_isLate_15
abbrev rm_X10_carries : Room := { frames := 1, cells := 0, slots := 0, locals := 21 }
def w_X10_carries (σ : eS) (x1 : Int32) (x2 : Int32) (post : Int32 → eS → Prop) : Prop := w_X10_isLetter σ x1 (fun r2 σ1 => ((r2 = 0 → post (-1 : Int32) σ1) ∧ (¬ (r2 = 0) → w_X10_isLate σ1 x2 (fun r5 σ4 => ((¬ r5 = 0 → False) ∧ (r5 = 0 → post (-1 : Int32) σ4))))))
set_option maxHeartbeats 4000000 in
set_option maxRecDepth 100000 in
theorem c_X10_carries {l : Launch} {D : va_G} {ρ : Nat → Nat} {κ : Nat → ClassId} {base : Nat} {σ : eS} {x1 : Int32} {x2 : Int32} {post : Int32 → eS → Prop} (h : w_X10_carries σ x1 x2 post) : gMi l yX10_carries wsX10_carries rm_X10_carries D ρ κ base [.ref (ρ (0)), .int (x1), .int (x2)] σ post := by
  refine e_ofWi (cc := cX10_carries) (maxL := 5) (ret := (some .int)) (by decide) rfl (Nat.le_of_ble_eq_true rfl) ?_
  intro p e s m below meth c ls C K G hl
  obtain ⟨hx, hb, hml, hown, hts, hr, hlocks⟩ := id C
  have hl : lv_has ls 5 [(0, .ref (ρ (0))), (1, .int (x1)), (2, .int (x2))] := hl
  unfold w_X10_carries at h
  refine lv_aload_n hx hb dX10_carries_0 rfl (lv_at hl 0 rfl) ?_
  refine lv_iload_n hx hb dX10_carries_1 rfl (lv_at hl 1 rfl) ?_
  refine e_callVi (As := [.int (x1)]) (rest := []) ⟨hx, hb, hml, hown, hts⟩ K G 0 (by decide) gl_0 rfl (c_X10_isLetter h) (cwV 1 hts gX10_carries_X10_isLetter rfl rfl rfl (by decide +kernel) ⟨Nat.le_of_ble_eq_true rfl, Nat.le_of_ble_eq_true rfl⟩) rfl hl.1 rfl (Nat.le_of_ble_eq_true rfl) dX10_carries_2 ⟨Nat.zero_le _, Nat.zero_le _⟩ (fun r2 σ1 H locs h G => ?_)
  refine lv_if_eq (tgt := 15) hx hb dX10_carries_5 (by decide) (fun c3 => ?_) (fun c3 => ?_)
  · have h := h.1 c3
    refine lv_iconst (v := (-1 : Int32)) hx hb dX10_carries_15 (by decide) ?_
    exact e_iret hx hb hr hlocks G h dX10_carries_16
  · have h := h.2 c3
    refine lv_iload_n hx hb dX10_carries_8 rfl (lv_at hl 2 rfl) ?_
    refine e_callSi (As := [.int (x2)]) (rest := []) ⟨hx, hb, hml, hown, hts⟩ K G (c_X10_isLate h) (va_cwS 1 hts gX10_carries_X10_isLate rfl rfl rfl (by decide +kernel) ⟨Nat.le_of_ble_eq_true rfl, Nat.le_of_ble_eq_true rfl⟩) rfl hl.1 rfl (Nat.le_of_ble_eq_true rfl) dX10_carries_9 ⟨Nat.zero_le _, Nat.zero_le _⟩ (fun r5 σ4 H locs h G => ?_)
    refine lv_if_ne (tgt := 17) hx hb dX10_carries_12 (by decide) (fun c6 => ?_) (fun c6 => ?_)
    · have h := h.1 c6
      refine lv_aload_n hx hb dX10_carries_17 rfl (lv_at hl 0 rfl) ?_
      refine lv_iload_n hx hb dX10_carries_18 rfl (lv_at hl 1 rfl) ?_
      exact h.elim
    · have h := h.2 c6
      refine lv_iconst (v := (-1 : Int32)) hx hb dX10_carries_15 (by decide) ?_
      exact e_iret hx hb hr hlocks G h dX10_carries_16
abbrev rm_X11_isLate : Room := { frames := 1, cells := 0, slots := 0, locals := 25 }
def w_X11_isLate (σ : eS) (x0 : Int32) (post : Int32 → eS → Prop) : Prop := w_X11_in σ (x0.toInt64) (0 : Int64) (99 : Int64) (fun r2 σ1 => ((narrow .boolean (.int r2) = .int r2) ∧ post r2 σ1))
set_option maxHeartbeats 4000000 in
set_option maxRecDepth 100000 in
theorem c_X11_isLate {l : Launch} {D : va_G} {ρ : Nat → Nat} {κ : Nat → ClassId} {base : Nat} {σ : eS} {x0 : Int32} {post : Int32 → eS → Prop} (h : w_X11_isLate σ x0 post) : gMi l yX11_isLate wsX11_isLate rm_X11_isLate D ρ κ base [.int (x0)] σ post := by
  refine e_ofWi (cc := cX11_isLate) (maxL := 1) (ret := (some .boolean)) (by decide) rfl (Nat.le_of_ble_eq_true rfl) ?_
  intro p e s m below meth c ls C K G hl
  obtain ⟨hx, hb, hml, hown, hts, hr, hlocks⟩ := id C
  have hl : lv_has ls 1 [(0, .int (x0))] := hl
  unfold w_X11_isLate at h
  refine lv_iload_n hx hb dX11_isLate_0 rfl (lv_at hl 0 rfl) ?_
  refine lv_i2l hx hb dX11_isLate_1 rfl ?_
  refine lv_lconst (v := (0 : Int64)) hx hb dX11_isLate_2 (by decide) ?_
  refine lv_ldc2 (v := (99 : Int64)) hx hb hown (hts (.constantLong RX11 324 (99)) (e_mem (n := 1) rfl)) dX11_isLate_3 ?_
  refine e_callSi (As := [.long (x0.toInt64), .long ((0 : Int64)), .long ((99 : Int64))]) (rest := []) ⟨hx, hb, hml, hown, hts⟩ K G (c_X11_in h) (va_cwS 3 hts gX11_isLate_X11_in rfl rfl rfl (by decide +kernel) ⟨Nat.le_of_ble_eq_true rfl, Nat.le_of_ble_eq_true rfl⟩) rfl hl.1 rfl (Nat.le_of_ble_eq_true rfl) dX11_isLate_6 ⟨Nat.zero_le _, Nat.zero_le _⟩ (fun r2 σ1 H locs h G => ?_)
  exact e_zret hx hb hr hlocks G h.1 h.2 dX11_isLate_9
abbrev rm_X11_carries : Room := { frames := 2, cells := 0, slots := 0, locals := 46 }
theorem in_X11_carries_X11 : ∀ w ∈ wsX110, w ∈ wsX11_carries := fun w h => List.mem_cons_of_mem _ (List.mem_append_right _ h)
def w_X11_carries (σ : eS) (x1 : Int32) (x2 : Int32) (post : Int32 → eS → Prop) : Prop := ∀ σ1 : eS, σ1 = e_ui σ 97 18 (0 : Int32) → w_X11_isLetter σ1 x1 (fun r3 σ2 => ((r3 = 0 → post (-1 : Int32) σ2) ∧ (¬ (r3 = 0) → w_X11_isLate σ2 x2 (fun r6 σ5 => ((¬ r6 = 0 → w_X11_layOut σ5 (0 : Int32) (fun σ8 => w_X11_findFar σ8 (fun σ9 => False))) ∧ (r6 = 0 → post (-1 : Int32) σ5))))))
set_option maxHeartbeats 4000000 in
set_option maxRecDepth 100000 in
theorem c_X11_carries {l : Launch} {D : va_G} {ρ : Nat → Nat} {κ : Nat → ClassId} {base : Nat} {σ : eS} {x1 : Int32} {x2 : Int32} {post : Int32 → eS → Prop} (h : w_X11_carries σ x1 x2 post) : gMi l yX11_carries wsX11_carries rm_X11_carries D ρ κ base [.ref (ρ (97)), .int (x1), .int (x2)] σ post := by
  refine e_ofWi (cc := cX11_carries) (maxL := 4) (ret := (some .int)) (by decide) rfl (Nat.le_of_ble_eq_true rfl) ?_
  intro p e s m below meth c ls C K G hl
  obtain ⟨hx, hb, hml, hown, hts, hr, hlocks⟩ := id C
  have hl : lv_has ls 4 [(0, .ref (ρ (97))), (1, .int (x1)), (2, .int (x2))] := hl
  unfold w_X11_carries at h
  refine lv_aload_n hx hb dX11_carries_0 rfl (lv_at hl 0 rfl) ?_
  refine lv_iconst (v := (0 : Int32)) hx hb dX11_carries_1 (by decide) ?_
  refine e_puti hx hb hts in_X11_carries_X11 tyX11 tyX11_ok nmX11 hown K G 97 (by decide) gl_97 rfl 18 (by decide) rfl (hts (.fieldLink RX11 98 "StreetsStepOnModel" "thrown" "I") (e_mem (n := 1) rfl)) rfl (tyX11_ok 18 (by decide)) rfl rfl dX11_carries_2 (fun H locs G => ?_)
  obtain ⟨σ1, eσ1⟩ : ∃ z : eS, z = e_ui σ 97 18 (0 : Int32) := ⟨_, rfl⟩
  rw [← eσ1] at G
  have h := h σ1 eσ1
  refine lv_aload_n hx hb dX11_carries_5 rfl (lv_at hl 0 rfl) ?_
  refine lv_iload_n hx hb dX11_carries_6 rfl (lv_at hl 1 rfl) ?_
  refine e_callVi (As := [.int (x1)]) (rest := []) ⟨hx, hb, hml, hown, hts⟩ K G 97 (by decide) gl_97 rfl (c_X11_isLetter h) (cwV 1 hts gX11_carries_X11_isLetter rfl rfl rfl (by decide +kernel) ⟨Nat.le_of_ble_eq_true rfl, Nat.le_of_ble_eq_true rfl⟩) rfl hl.1 rfl (Nat.le_of_ble_eq_true rfl) dX11_carries_7 ⟨Nat.zero_le _, Nat.zero_le _⟩ (fun r3 σ2 H locs h G => ?_)
  refine lv_if_eq (tgt := 20) hx hb dX11_carries_10 (by decide) (fun c4 => ?_) (fun c4 => ?_)
  · have h := h.1 c4
    refine lv_iconst (v := (-1 : Int32)) hx hb dX11_carries_20 (by decide) ?_
    exact e_iret hx hb hr hlocks G h dX11_carries_21
  · have h := h.2 c4
    refine lv_iload_n hx hb dX11_carries_13 rfl (lv_at hl 2 rfl) ?_
    refine e_callSi (As := [.int (x2)]) (rest := []) ⟨hx, hb, hml, hown, hts⟩ K G (c_X11_isLate h) (va_cwS 1 hts gX11_carries_X11_isLate rfl rfl rfl (by decide +kernel) ⟨Nat.le_of_ble_eq_true rfl, Nat.le_of_ble_eq_true rfl⟩) rfl hl.1 rfl (Nat.le_of_ble_eq_true rfl) dX11_carries_14 ⟨Nat.zero_le _, Nat.zero_le _⟩ (fun r6 σ5 H locs h G => ?_)
    refine lv_if_ne (tgt := 22) hx hb dX11_carries_17 (by decide) (fun c7 => ?_) (fun c7 => ?_)
    · have h := h.1 c7
      refine lv_aload_n hx hb dX11_carries_22 rfl (lv_at hl 0 rfl) ?_
      refine lv_iconst (v := (0 : Int32)) hx hb dX11_carries_23 (by decide) ?_
      refine e_callVv (As := [.int ((0 : Int32))]) (rest := []) ⟨hx, hb, hml, hown, hts⟩ K G 97 (by decide) gl_97 rfl (c_X11_layOut h) (cwV 1 hts gX11_carries_X11_layOut rfl rfl rfl (by decide +kernel) ⟨Nat.le_of_ble_eq_true rfl, Nat.le_of_ble_eq_true rfl⟩) rfl hl.1 rfl (Nat.le_of_ble_eq_true rfl) dX11_carries_24 ⟨Nat.zero_le _, Nat.zero_le _⟩ (fun σ8 H locs h G => ?_)
      refine lv_aload_n hx hb dX11_carries_27 rfl (lv_at hl 0 rfl) ?_
      refine e_callVv (As := []) (rest := []) ⟨hx, hb, hml, hown, hts⟩ K G 97 (by decide) gl_97 rfl (c_X11_findFar h) (cwV 0 hts gX11_carries_X11_findFar rfl rfl rfl (by decide +kernel) ⟨Nat.le_of_ble_eq_true rfl, Nat.le_of_ble_eq_true rfl⟩) rfl hl.1 rfl (Nat.le_of_ble_eq_true rfl) dX11_carries_28 ⟨Nat.zero_le _, Nat.zero_le _⟩ (fun σ9 H locs h G => ?_)
      refine lv_aload_n hx hb dX11_carries_31 rfl (lv_at hl 0 rfl) ?_
      refine lv_iload_n hx hb dX11_carries_32 rfl (lv_at hl 1 rfl) ?_
      refine lv_aload_n hx hb dX11_carries_33 rfl (lv_at hl 0 rfl) ?_
      refine e_getl hx hb hts in_X11_carries_X11 hown K G 97 (by decide) gl_97 rfl 6 (by decide) rfl (hts (.fieldLink RX11 197 "StreetsStepOnModel" "today" "J") (e_mem (n := 2) rfl)) dX11_carries_34 ?_
      refine lv_iload_n hx hb dX11_carries_37 rfl (lv_at hl 2 rfl) ?_
      exact h.elim
    · have h := h.2 c7
      refine lv_iconst (v := (-1 : Int32)) hx hb dX11_carries_20 (by decide) ?_
      exact e_iret hx hb hr hlocks G h dX11_carries_21
abbrev rm_X10_best : Room := { frames := 1, cells := 0, slots := 0, locals := 21 }
def w_X10_best (σ : eS) (x1 : Int32) (post : Int32 → eS → Prop) : Prop := w_X10_isLetter σ x1 (fun r2 σ1 => ((¬ r2 = 0 → False) ∧ (r2 = 0 → post (-1 : Int32) σ1)))
set_option maxHeartbeats 4000000 in
set_option maxRecDepth 100000 in
theorem c_X10_best {l : Launch} {D : va_G} {ρ : Nat → Nat} {κ : Nat → ClassId} {base : Nat} {σ : eS} {x1 : Int32} {post : Int32 → eS → Prop} (h : w_X10_best σ x1 post) : gMi l yX10_best wsX10_best rm_X10_best D ρ κ base [.ref (ρ (0)), .int (x1)] σ post := by
  refine e_ofWi (cc := cX10_best) (maxL := 4) (ret := (some .int)) (by decide) rfl (Nat.le_of_ble_eq_true rfl) ?_
  intro p e s m below meth c ls C K G hl
  obtain ⟨hx, hb, hml, hown, hts, hr, hlocks⟩ := id C
  have hl : lv_has ls 4 [(0, .ref (ρ (0))), (1, .int (x1))] := hl
  unfold w_X10_best at h
  refine lv_aload_n hx hb dX10_best_0 rfl (lv_at hl 0 rfl) ?_
  refine lv_iload_n hx hb dX10_best_1 rfl (lv_at hl 1 rfl) ?_
  refine e_callVi (As := [.int (x1)]) (rest := []) ⟨hx, hb, hml, hown, hts⟩ K G 0 (by decide) gl_0 rfl (c_X10_isLetter h) (cwV 1 hts gX10_best_X10_isLetter rfl rfl rfl (by decide +kernel) ⟨Nat.le_of_ble_eq_true rfl, Nat.le_of_ble_eq_true rfl⟩) rfl hl.1 rfl (Nat.le_of_ble_eq_true rfl) dX10_best_2 ⟨Nat.zero_le _, Nat.zero_le _⟩ (fun r2 σ1 H locs h G => ?_)
  refine lv_if_ne (tgt := 10) hx hb dX10_best_5 (by decide) (fun c3 => ?_) (fun c3 => ?_)
  · have h := h.1 c3
    refine lv_aload_n hx hb dX10_best_10 rfl (lv_at hl 0 rfl) ?_
    refine lv_iload_n hx hb dX10_best_11 rfl (lv_at hl 1 rfl) ?_
    exact h.elim
  · have h := h.2 c3
    refine lv_iconst (v := (-1 : Int32)) hx hb dX10_best_8 (by decide) ?_
    exact e_iret hx hb hr hlocks G h dX10_best_9
abbrev rm_X11_best : Room := { frames := 2, cells := 0, slots := 0, locals := 46 }
theorem in_X11_best_X11 : ∀ w ∈ wsX110, w ∈ wsX11_best := fun w h => List.mem_cons_of_mem _ (List.mem_append_right _ h)
def b_X11_best_22 (post : Int32 → eS → Prop) : Nat → eS → Int32 → Int32 → Prop
  | 0, _, _, _ => False
  | n + 1, σ, x1, x2 => (((99 : Int32) < x2 → post (-2 : Int32) σ) ∧ (¬ ((99 : Int32) < x2) → False))
set_option maxHeartbeats 4000000 in
set_option maxRecDepth 100000 in
theorem l_X11_best_22 {p : Program} {l : Launch} {e : Env} {s : State} {m : MethodId} {args : Array Value} {below : List Frame} {meth : Method} {c : Code} {D : va_G} {ρ : Nat → Nat} {κ : Nat → ClassId} {base : Nat} {post : Int32 → eS → Prop} (C : eCx p s m args meth c cX11_best RX11 3 (some .int) wsX11_best) (K : gK D ρ κ base s) : ∀ (n : Nat) (σ : eS) (x1 : Int32) (x2 : Int32) (H : Heap) (locs : List Loc) (ls : Array Slot), b_X11_best_22 post n σ x1 x2 → gG D ρ κ base s σ H locs → lv_has ls 3 [(0, .ref (ρ (97))), (1, .int (x1)), (2, .int (x2))] → W p l e rm_X11_best s m args below meth c H locs 0 0 (gQi below args s D ρ κ base post) (F0 m 22 ls []) := by
  obtain ⟨hx, hb, hml, hown, hts, hr, hlocks⟩ := id C
  intro n
  induction n with
  | zero => intro σ x1 x2 H locs ls h G hl; exact False.elim h
  | succ n ih =>
    intro σ x1 x2 H locs ls h G hl
    rw [b_X11_best_22] at h
    refine lv_iload_n hx hb dX11_best_22 rfl (lv_at hl 2 rfl) ?_
    refine lv_bipush (v := (99 : Int32)) hx hb dX11_best_23 (by decide) ?_
    refine lv_icmp_gt (tgt := 54) hx hb dX11_best_25 (by decide) (fun c7 => ?_) (fun c7 => ?_)
    · have h := h.1 c7
      refine lv_bipush (v := (-2 : Int32)) hx hb dX11_best_54 (by decide) ?_
      exact e_iret hx hb hr hlocks G h dX11_best_56
    · have h := h.2 c7
      refine lv_aload_n hx hb dX11_best_28 rfl (lv_at hl 0 rfl) ?_
      refine lv_iload_n hx hb dX11_best_29 rfl (lv_at hl 1 rfl) ?_
      refine lv_aload_n hx hb dX11_best_30 rfl (lv_at hl 0 rfl) ?_
      refine e_getl hx hb hts in_X11_best_X11 hown K G 97 (by decide) gl_97 rfl 6 (by decide) rfl (hts (.fieldLink RX11 197 "StreetsStepOnModel" "today" "J") (e_mem (n := 2) rfl)) dX11_best_31 ?_
      refine lv_iload_n hx hb dX11_best_34 rfl (lv_at hl 2 rfl) ?_
      exact h.elim
def w_X11_best (σ : eS) (x1 : Int32) (post : Int32 → eS → Prop) : Prop := ∀ σ1 : eS, σ1 = e_ui σ 97 18 (0 : Int32) → w_X11_isLetter σ1 x1 (fun r3 σ2 => ((¬ r3 = 0 → w_X11_layOut σ2 (0 : Int32) (fun σ5 => ∀ v6 : Int32, v6 = (0 : Int32) → (∃ n8 : Nat, b_X11_best_22 post n8 σ5 x1 v6))) ∧ (r3 = 0 → post (-1 : Int32) σ2)))
set_option maxHeartbeats 4000000 in
set_option maxRecDepth 100000 in
theorem c_X11_best {l : Launch} {D : va_G} {ρ : Nat → Nat} {κ : Nat → ClassId} {base : Nat} {σ : eS} {x1 : Int32} {post : Int32 → eS → Prop} (h : w_X11_best σ x1 post) : gMi l yX11_best wsX11_best rm_X11_best D ρ κ base [.ref (ρ (97)), .int (x1)] σ post := by
  refine e_ofWi (cc := cX11_best) (maxL := 3) (ret := (some .int)) (by decide) rfl (Nat.le_of_ble_eq_true rfl) ?_
  intro p e s m below meth c ls C K G hl
  obtain ⟨hx, hb, hml, hown, hts, hr, hlocks⟩ := id C
  have hl : lv_has ls 3 [(0, .ref (ρ (97))), (1, .int (x1))] := hl
  unfold w_X11_best at h
  refine lv_aload_n hx hb dX11_best_0 rfl (lv_at hl 0 rfl) ?_
  refine lv_iconst (v := (0 : Int32)) hx hb dX11_best_1 (by decide) ?_
  refine e_puti hx hb hts in_X11_best_X11 tyX11 tyX11_ok nmX11 hown K G 97 (by decide) gl_97 rfl 18 (by decide) rfl (hts (.fieldLink RX11 98 "StreetsStepOnModel" "thrown" "I") (e_mem (n := 1) rfl)) rfl (tyX11_ok 18 (by decide)) rfl rfl dX11_best_2 (fun H locs G => ?_)
  obtain ⟨σ1, eσ1⟩ : ∃ z : eS, z = e_ui σ 97 18 (0 : Int32) := ⟨_, rfl⟩
  rw [← eσ1] at G
  have h := h σ1 eσ1
  refine lv_aload_n hx hb dX11_best_5 rfl (lv_at hl 0 rfl) ?_
  refine lv_iload_n hx hb dX11_best_6 rfl (lv_at hl 1 rfl) ?_
  refine e_callVi (As := [.int (x1)]) (rest := []) ⟨hx, hb, hml, hown, hts⟩ K G 97 (by decide) gl_97 rfl (c_X11_isLetter h) (cwV 1 hts gX11_best_X11_isLetter rfl rfl rfl (by decide +kernel) ⟨Nat.le_of_ble_eq_true rfl, Nat.le_of_ble_eq_true rfl⟩) rfl hl.1 rfl (Nat.le_of_ble_eq_true rfl) dX11_best_7 ⟨Nat.zero_le _, Nat.zero_le _⟩ (fun r3 σ2 H locs h G => ?_)
  refine lv_if_ne (tgt := 15) hx hb dX11_best_10 (by decide) (fun c4 => ?_) (fun c4 => ?_)
  · have h := h.1 c4
    refine lv_aload_n hx hb dX11_best_15 rfl (lv_at hl 0 rfl) ?_
    refine lv_iconst (v := (0 : Int32)) hx hb dX11_best_16 (by decide) ?_
    refine e_callVv (As := [.int ((0 : Int32))]) (rest := []) ⟨hx, hb, hml, hown, hts⟩ K G 97 (by decide) gl_97 rfl (c_X11_layOut h) (cwV 1 hts gX11_best_X11_layOut rfl rfl rfl (by decide +kernel) ⟨Nat.le_of_ble_eq_true rfl, Nat.le_of_ble_eq_true rfl⟩) rfl hl.1 rfl (Nat.le_of_ble_eq_true rfl) dX11_best_17 ⟨Nat.zero_le _, Nat.zero_le _⟩ (fun σ5 H locs h G => ?_)
    refine lv_iconst (v := (0 : Int32)) hx hb dX11_best_20 (by decide) ?_
    refine lv_topi (fun v6 ev6 => ?_)
    have h := h v6 ev6
    refine lv_istore_n (lv' := [(2, .int (v6)), (0, .ref (ρ (97))), (1, .int (x1))]) hx hb dX11_best_21 rfl hl (by decide) rfl (fun ls hl => ?_)
    obtain ⟨n8, h⟩ := h
    exact l_X11_best_22 C K n8 σ5 x1 v6 _ _ _  h G (lv_sub hl [1, 2, 0] rfl)
  · have h := h.2 c4
    refine lv_iconst (v := (-1 : Int32)) hx hb dX11_best_13 (by decide) ?_
    exact e_iret hx hb hr hlocks G h dX11_best_14
abbrev rm_X10_days : Room := { frames := 1, cells := 0, slots := 0, locals := 21 }
def w_X10_days (σ : eS) (x1 : Int32) (x2 : Int32) (x3 : Int32) (post : Int32 → eS → Prop) : Prop := w_X10_isLetter σ x1 (fun r2 σ1 => ((r2 = 0 → post (-1 : Int32) σ1) ∧ (¬ (r2 = 0) → w_X10_isLate σ1 x2 (fun r5 σ4 => ((r5 = 0 → post (-1 : Int32) σ4) ∧ (¬ (r5 = 0) → ((x3 < (1 : Int32) → post (-1 : Int32) σ4) ∧ (¬ (x3 < (1 : Int32)) → ((x3 ≤ (1000 : Int32) → False) ∧ (¬ (x3 ≤ (1000 : Int32)) → post (-1 : Int32) σ4))))))))))
set_option maxHeartbeats 4000000 in
set_option maxRecDepth 100000 in
theorem c_X10_days {l : Launch} {D : va_G} {ρ : Nat → Nat} {κ : Nat → ClassId} {base : Nat} {σ : eS} {x1 : Int32} {x2 : Int32} {x3 : Int32} {post : Int32 → eS → Prop} (h : w_X10_days σ x1 x2 x3 post) : gMi l yX10_days wsX10_days rm_X10_days D ρ κ base [.ref (ρ (0)), .int (x1), .int (x2), .int (x3)] σ post := by
  refine e_ofWi (cc := cX10_days) (maxL := 9) (ret := (some .int)) (by decide) rfl (Nat.le_of_ble_eq_true rfl) ?_
  intro p e s m below meth c ls C K G hl
  obtain ⟨hx, hb, hml, hown, hts, hr, hlocks⟩ := id C
  have hl : lv_has ls 9 [(0, .ref (ρ (0))), (1, .int (x1)), (2, .int (x2)), (3, .int (x3))] := hl
  unfold w_X10_days at h
  refine lv_aload_n hx hb dX10_days_0 rfl (lv_at hl 0 rfl) ?_
  refine lv_iload_n hx hb dX10_days_1 rfl (lv_at hl 1 rfl) ?_
  refine e_callVi (As := [.int (x1)]) (rest := []) ⟨hx, hb, hml, hown, hts⟩ K G 0 (by decide) gl_0 rfl (c_X10_isLetter h) (cwV 1 hts gX10_days_X10_isLetter rfl rfl rfl (by decide +kernel) ⟨Nat.le_of_ble_eq_true rfl, Nat.le_of_ble_eq_true rfl⟩) rfl hl.1 rfl (Nat.le_of_ble_eq_true rfl) dX10_days_2 ⟨Nat.zero_le _, Nat.zero_le _⟩ (fun r2 σ1 H locs h G => ?_)
  refine lv_if_eq (tgt := 27) hx hb dX10_days_5 (by decide) (fun c3 => ?_) (fun c3 => ?_)
  · have h := h.1 c3
    refine lv_iconst (v := (-1 : Int32)) hx hb dX10_days_27 (by decide) ?_
    exact e_iret hx hb hr hlocks G h dX10_days_28
  · have h := h.2 c3
    refine lv_iload_n hx hb dX10_days_8 rfl (lv_at hl 2 rfl) ?_
    refine e_callSi (As := [.int (x2)]) (rest := []) ⟨hx, hb, hml, hown, hts⟩ K G (c_X10_isLate h) (va_cwS 1 hts gX10_days_X10_isLate rfl rfl rfl (by decide +kernel) ⟨Nat.le_of_ble_eq_true rfl, Nat.le_of_ble_eq_true rfl⟩) rfl hl.1 rfl (Nat.le_of_ble_eq_true rfl) dX10_days_9 ⟨Nat.zero_le _, Nat.zero_le _⟩ (fun r5 σ4 H locs h G => ?_)
    refine lv_if_eq (tgt := 27) hx hb dX10_days_12 (by decide) (fun c6 => ?_) (fun c6 => ?_)
    · have h := h.1 c6
      refine lv_iconst (v := (-1 : Int32)) hx hb dX10_days_27 (by decide) ?_
      exact e_iret hx hb hr hlocks G h dX10_days_28
    · have h := h.2 c6
      refine lv_iload_n hx hb dX10_days_15 rfl (lv_at hl 3 rfl) ?_
      refine lv_iconst (v := (1 : Int32)) hx hb dX10_days_16 (by decide) ?_
      refine lv_icmp_lt (tgt := 27) hx hb dX10_days_17 (by decide) (fun c7 => ?_) (fun c7 => ?_)
      · have h := h.1 c7
        refine lv_iconst (v := (-1 : Int32)) hx hb dX10_days_27 (by decide) ?_
        exact e_iret hx hb hr hlocks G h dX10_days_28
      · have h := h.2 c7
        refine lv_iload_n hx hb dX10_days_20 rfl (lv_at hl 3 rfl) ?_
        refine lv_sipush (v := (1000 : Int32)) hx hb dX10_days_21 (by decide) ?_
        refine lv_icmp_le (tgt := 29) hx hb dX10_days_24 (by decide) (fun c8 => ?_) (fun c8 => ?_)
        · have h := h.1 c8
          refine lv_aload_n hx hb dX10_days_29 rfl (lv_at hl 0 rfl) ?_
          refine lv_iload_n hx hb dX10_days_30 rfl (lv_at hl 1 rfl) ?_
          exact h.elim
        · have h := h.2 c8
          refine lv_iconst (v := (-1 : Int32)) hx hb dX10_days_27 (by decide) ?_
          exact e_iret hx hb hr hlocks G h dX10_days_28
abbrev rm_X11_days : Room := { frames := 2, cells := 0, slots := 0, locals := 46 }
theorem in_X11_days_X11 : ∀ w ∈ wsX110, w ∈ wsX11_days := fun w h => List.mem_cons_of_mem _ (List.mem_append_right _ h)
def w_X11_days (σ : eS) (x1 : Int32) (x2 : Int32) (x3 : Int32) (post : Int32 → eS → Prop) : Prop := ∀ σ1 : eS, σ1 = e_ui σ 97 18 (0 : Int32) → w_X11_isLetter σ1 x1 (fun r3 σ2 => ((r3 = 0 → post (-1 : Int32) σ2) ∧ (¬ (r3 = 0) → w_X11_isLate σ2 x2 (fun r6 σ5 => ((r6 = 0 → post (-1 : Int32) σ5) ∧ (¬ (r6 = 0) → w_X11_in σ5 (x3.toInt64) (1 : Int64) (1000 : Int64) (fun r9 σ8 => ((¬ r9 = 0 → w_X11_layOut σ8 (0 : Int32) (fun σ11 => False)) ∧ (r9 = 0 → post (-1 : Int32) σ8)))))))))
set_option maxHeartbeats 4000000 in
set_option maxRecDepth 100000 in
theorem c_X11_days {l : Launch} {D : va_G} {ρ : Nat → Nat} {κ : Nat → ClassId} {base : Nat} {σ : eS} {x1 : Int32} {x2 : Int32} {x3 : Int32} {post : Int32 → eS → Prop} (h : w_X11_days σ x1 x2 x3 post) : gMi l yX11_days wsX11_days rm_X11_days D ρ κ base [.ref (ρ (97)), .int (x1), .int (x2), .int (x3)] σ post := by
  refine e_ofWi (cc := cX11_days) (maxL := 9) (ret := (some .int)) (by decide) rfl (Nat.le_of_ble_eq_true rfl) ?_
  intro p e s m below meth c ls C K G hl
  obtain ⟨hx, hb, hml, hown, hts, hr, hlocks⟩ := id C
  have hl : lv_has ls 9 [(0, .ref (ρ (97))), (1, .int (x1)), (2, .int (x2)), (3, .int (x3))] := hl
  unfold w_X11_days at h
  refine lv_aload_n hx hb dX11_days_0 rfl (lv_at hl 0 rfl) ?_
  refine lv_iconst (v := (0 : Int32)) hx hb dX11_days_1 (by decide) ?_
  refine e_puti hx hb hts in_X11_days_X11 tyX11 tyX11_ok nmX11 hown K G 97 (by decide) gl_97 rfl 18 (by decide) rfl (hts (.fieldLink RX11 98 "StreetsStepOnModel" "thrown" "I") (e_mem (n := 1) rfl)) rfl (tyX11_ok 18 (by decide)) rfl rfl dX11_days_2 (fun H locs G => ?_)
  obtain ⟨σ1, eσ1⟩ : ∃ z : eS, z = e_ui σ 97 18 (0 : Int32) := ⟨_, rfl⟩
  rw [← eσ1] at G
  have h := h σ1 eσ1
  refine lv_aload_n hx hb dX11_days_5 rfl (lv_at hl 0 rfl) ?_
  refine lv_iload_n hx hb dX11_days_6 rfl (lv_at hl 1 rfl) ?_
  refine e_callVi (As := [.int (x1)]) (rest := []) ⟨hx, hb, hml, hown, hts⟩ K G 97 (by decide) gl_97 rfl (c_X11_isLetter h) (cwV 1 hts gX11_days_X11_isLetter rfl rfl rfl (by decide +kernel) ⟨Nat.le_of_ble_eq_true rfl, Nat.le_of_ble_eq_true rfl⟩) rfl hl.1 rfl (Nat.le_of_ble_eq_true rfl) dX11_days_7 ⟨Nat.zero_le _, Nat.zero_le _⟩ (fun r3 σ2 H locs h G => ?_)
  refine lv_if_eq (tgt := 32) hx hb dX11_days_10 (by decide) (fun c4 => ?_) (fun c4 => ?_)
  · have h := h.1 c4
    refine lv_iconst (v := (-1 : Int32)) hx hb dX11_days_32 (by decide) ?_
    exact e_iret hx hb hr hlocks G h dX11_days_33
  · have h := h.2 c4
    refine lv_iload_n hx hb dX11_days_13 rfl (lv_at hl 2 rfl) ?_
    refine e_callSi (As := [.int (x2)]) (rest := []) ⟨hx, hb, hml, hown, hts⟩ K G (c_X11_isLate h) (va_cwS 1 hts gX11_days_X11_isLate rfl rfl rfl (by decide +kernel) ⟨Nat.le_of_ble_eq_true rfl, Nat.le_of_ble_eq_true rfl⟩) rfl hl.1 rfl (Nat.le_of_ble_eq_true rfl) dX11_days_14 ⟨Nat.zero_le _, Nat.zero_le _⟩ (fun r6 σ5 H locs h G => ?_)
    refine lv_if_eq (tgt := 32) hx hb dX11_days_17 (by decide) (fun c7 => ?_) (fun c7 => ?_)
    · have h := h.1 c7
      refine lv_iconst (v := (-1 : Int32)) hx hb dX11_days_32 (by decide) ?_
      exact e_iret hx hb hr hlocks G h dX11_days_33
    · have h := h.2 c7
      refine lv_iload_n hx hb dX11_days_20 rfl (lv_at hl 3 rfl) ?_
      refine lv_i2l hx hb dX11_days_21 rfl ?_
      refine lv_lconst (v := (1 : Int64)) hx hb dX11_days_22 (by decide) ?_
      refine lv_ldc2 (v := (1000 : Int64)) hx hb hown (hts (.constantLong RX11 336 (1000)) (e_mem (n := 2) rfl)) dX11_days_23 ?_
      refine e_callSi (As := [.long (x3.toInt64), .long ((1 : Int64)), .long ((1000 : Int64))]) (rest := []) ⟨hx, hb, hml, hown, hts⟩ K G (c_X11_in h) (va_cwS 3 hts gX11_days_X11_in rfl rfl rfl (by decide +kernel) ⟨Nat.le_of_ble_eq_true rfl, Nat.le_of_ble_eq_true rfl⟩) rfl hl.1 rfl (Nat.le_of_ble_eq_true rfl) dX11_days_26 ⟨Nat.zero_le _, Nat.zero_le _⟩ (fun r9 σ8 H locs h G => ?_)
      refine lv_if_ne (tgt := 34) hx hb dX11_days_29 (by decide) (fun c10 => ?_) (fun c10 => ?_)
      · have h := h.1 c10
        refine lv_aload_n hx hb dX11_days_34 rfl (lv_at hl 0 rfl) ?_
        refine lv_iconst (v := (0 : Int32)) hx hb dX11_days_35 (by decide) ?_
        refine e_callVv (As := [.int ((0 : Int32))]) (rest := []) ⟨hx, hb, hml, hown, hts⟩ K G 97 (by decide) gl_97 rfl (c_X11_layOut h) (cwV 1 hts gX11_days_X11_layOut rfl rfl rfl (by decide +kernel) ⟨Nat.le_of_ble_eq_true rfl, Nat.le_of_ble_eq_true rfl⟩) rfl hl.1 rfl (Nat.le_of_ble_eq_true rfl) dX11_days_36 ⟨Nat.zero_le _, Nat.zero_le _⟩ (fun σ11 H locs h G => ?_)
        refine lv_aload_n hx hb dX11_days_39 rfl (lv_at hl 0 rfl) ?_
        refine lv_iload_n hx hb dX11_days_40 rfl (lv_at hl 1 rfl) ?_
        exact h.elim
      · have h := h.2 c10
        refine lv_iconst (v := (-1 : Int32)) hx hb dX11_days_32 (by decide) ?_
        exact e_iret hx hb hr hlocks G h dX11_days_33
abbrev rm_X10_postman : Room := { frames := 0, cells := 0, slots := 0, locals := 0 }
theorem in_X10_postman_X1 : ∀ w ∈ wsX10, w ∈ wsX10_postman := fun w h => List.mem_cons_of_mem _ (List.mem_append_left _ (List.mem_append_left _ (List.mem_append_right _ h)))
theorem in_X10_postman_X10 : ∀ w ∈ wsX100, w ∈ wsX10_postman := fun w h => List.mem_cons_of_mem _ (List.mem_append_left _ (List.mem_append_left _ (List.mem_append_left _ (List.mem_append_right _ h))))
def w_X10_postman (σ : eS) (x1 : Int32) (post : Int32 → eS → Prop) : Prop := ((x1 < (1 : Int32) → post (-1 : Int32) σ) ∧ (¬ (x1 < (1 : Int32)) → (((30 : Int32) < x1 → post (-1 : Int32) σ) ∧ (¬ ((30 : Int32) < x1) → (((1 : Int32) ≤ (σ.1 5 6) → False) ∧ (¬ ((1 : Int32) ≤ (σ.1 5 6)) → post (-1 : Int32) σ))))))
set_option maxHeartbeats 4000000 in
set_option maxRecDepth 100000 in
theorem c_X10_postman {l : Launch} {D : va_G} {ρ : Nat → Nat} {κ : Nat → ClassId} {base : Nat} {σ : eS} {x1 : Int32} {post : Int32 → eS → Prop} (h : w_X10_postman σ x1 post) : gMi l yX10_postman wsX10_postman rm_X10_postman D ρ κ base [.ref (ρ (0)), .int (x1)] σ post := by
  refine e_ofWi (cc := cX10_postman) (maxL := 7) (ret := (some .int)) (by decide) rfl (Nat.le_of_ble_eq_true rfl) ?_
  intro p e s m below meth c ls C K G hl
  obtain ⟨hx, hb, hml, hown, hts, hr, hlocks⟩ := id C
  have hl : lv_has ls 7 [(0, .ref (ρ (0))), (1, .int (x1))] := hl
  unfold w_X10_postman at h
  refine lv_iload_n hx hb dX10_postman_0 rfl (lv_at hl 1 rfl) ?_
  refine lv_iconst (v := (1 : Int32)) hx hb dX10_postman_1 (by decide) ?_
  refine lv_icmp_lt (tgt := 22) hx hb dX10_postman_2 (by decide) (fun c1 => ?_) (fun c1 => ?_)
  · have h := h.1 c1
    refine lv_iconst (v := (-1 : Int32)) hx hb dX10_postman_22 (by decide) ?_
    exact e_iret hx hb hr hlocks G h dX10_postman_23
  · have h := h.2 c1
    refine lv_iload_n hx hb dX10_postman_5 rfl (lv_at hl 1 rfl) ?_
    refine lv_bipush (v := (30 : Int32)) hx hb dX10_postman_6 (by decide) ?_
    refine lv_icmp_gt (tgt := 22) hx hb dX10_postman_8 (by decide) (fun c2 => ?_) (fun c2 => ?_)
    · have h := h.1 c2
      refine lv_iconst (v := (-1 : Int32)) hx hb dX10_postman_22 (by decide) ?_
      exact e_iret hx hb hr hlocks G h dX10_postman_23
    · have h := h.2 c2
      refine lv_aload_n hx hb dX10_postman_11 rfl (lv_at hl 0 rfl) ?_
      refine e_getq hx hb hts in_X10_postman_X10 hown K G 0 (by decide) gl_0 rfl 2 (by decide) 5 rfl (hts (.fieldLink RX10 26 "StreetsStepOn" "book" "LStreetsStepOn$Book;") (e_mem (n := 1) rfl)) dX10_postman_12 ?_
      refine e_getiN hx hb hts in_X10_postman_X1 hown K G 5 (by decide) gl_5 rfl 6 (by decide) rfl (e_memq (n := 23) rfl) dX10_postman_15 ?_
      refine lv_iconst (v := (1 : Int32)) hx hb dX10_postman_18 (by decide) ?_
      refine lv_icmp_ge (tgt := 24) hx hb dX10_postman_19 (by decide) (fun c3 => ?_) (fun c3 => ?_)
      · have h := h.1 c3
        refine lv_aload_n hx hb dX10_postman_24 rfl (lv_at hl 0 rfl) ?_
        refine lv_iload_n hx hb dX10_postman_25 rfl (lv_at hl 1 rfl) ?_
        exact h.elim
      · have h := h.2 c3
        refine lv_iconst (v := (-1 : Int32)) hx hb dX10_postman_22 (by decide) ?_
        exact e_iret hx hb hr hlocks G h dX10_postman_23
abbrev rm_X11_postman : Room := { frames := 1, cells := 0, slots := 0, locals := 25 }
theorem in_X11_postman_X11 : ∀ w ∈ wsX110, w ∈ wsX11_postman := fun w h => List.mem_cons_of_mem _ (List.mem_append_right _ h)
def b_X11_postman_148 (post : Int32 → eS → Prop) (K41 : eS → Int32 → Int32 → Int32 → Int32 → Int32 → Prop) (σ : eS) (x1 : Int32) (x2 : Int32) (x3 : Int32) (x4 : Int32) (x5 : Int32) : Prop := ∀ v20 : Int32, v20 = (x5 + (1 : Int32)) → K41 σ x1 x2 x3 x4 v20
set_option maxHeartbeats 4000000 in
set_option maxRecDepth 100000 in
theorem l_X11_postman_148 {p : Program} {l : Launch} {e : Env} {s : State} {m : MethodId} {args : Array Value} {below : List Frame} {meth : Method} {c : Code} {D : va_G} {ρ : Nat → Nat} {κ : Nat → ClassId} {base : Nat} {post : Int32 → eS → Prop} (C : eCx p s m args meth c cX11_postman RX11 9 (some .int) wsX11_postman) (K : gK D ρ κ base s) {K41 : eS → Int32 → Int32 → Int32 → Int32 → Int32 → Prop} (hK41 : ∀ (σ : eS) (x1 : Int32) (x2 : Int32) (x3 : Int32) (x4 : Int32) (x5 : Int32) (H : Heap) (locs : List Loc) (ls : Array Slot), K41 σ x1 x2 x3 x4 x5 → gG D ρ κ base s σ H locs → lv_has ls 9 [(0, .ref (ρ (97))), (1, .int (x1)), (2, .int (x2)), (3, .int (x3)), (4, .int (x4)), (5, .int (x5))] → W p l e rm_X11_postman s m args below meth c H locs 0 0 (gQi below args s D ρ κ base post) (F0 m 41 ls [])) : ∀ (σ : eS) (x1 : Int32) (x2 : Int32) (x3 : Int32) (x4 : Int32) (x5 : Int32) (H : Heap) (locs : List Loc) (ls : Array Slot), b_X11_postman_148 post K41 σ x1 x2 x3 x4 x5 → gG D ρ κ base s σ H locs → lv_has ls 9 [(0, .ref (ρ (97))), (1, .int (x1)), (2, .int (x2)), (3, .int (x3)), (4, .int (x4)), (5, .int (x5))] → W p l e rm_X11_postman s m args below meth c H locs 0 0 (gQi below args s D ρ κ base post) (F0 m 148 ls []) := by
  obtain ⟨hx, hb, hml, hown, hts, hr, hlocks⟩ := id C
  intro σ x1 x2 x3 x4 x5 H locs ls h G hl
  unfold b_X11_postman_148 at h
  obtain ⟨v20, ev20⟩ : ∃ y : Int32, y = x5 + (1 : Int32) := ⟨_, rfl⟩
  have h := h v20 ev20
  refine lv_iinc (v := v20) (lv' := [(5, .int (v20)), (0, .ref (ρ (97))), (1, .int (x1)), (2, .int (x2)), (3, .int (x3)), (4, .int (x4))]) hx hb dX11_postman_148 hl (k := 5) rfl (by rw [ev20]; rfl) (by decide) rfl (fun ls hl => ?_)
  refine lv_goto (tgt := 41) hx hb dX11_postman_151 (by decide) ?_
  exact hK41 σ x1 x2 x3 x4 v20 _ _ _  h G (lv_sub hl [1, 2, 3, 4, 5, 0] rfl)
def b_X11_postman_131 (post : Int32 → eS → Prop) (K41 : eS → Int32 → Int32 → Int32 → Int32 → Int32 → Prop) (σ : eS) (x1 : Int32) (x2 : Int32) (x3 : Int32) (x5 : Int32) (x6 : Int32) (y0 : Int32) : Prop := ((x3 < x6 → b_X11_postman_148 post K41 σ x1 x5 x6 y0 x5) ∧ (¬ (x3 < x6) → b_X11_postman_148 post K41 σ x1 x2 x3 y0 x5))
set_option maxHeartbeats 4000000 in
set_option maxRecDepth 100000 in
theorem l_X11_postman_131 {p : Program} {l : Launch} {e : Env} {s : State} {m : MethodId} {args : Array Value} {below : List Frame} {meth : Method} {c : Code} {D : va_G} {ρ : Nat → Nat} {κ : Nat → ClassId} {base : Nat} {post : Int32 → eS → Prop} (C : eCx p s m args meth c cX11_postman RX11 9 (some .int) wsX11_postman) (K : gK D ρ κ base s) {K41 : eS → Int32 → Int32 → Int32 → Int32 → Int32 → Prop} (hK41 : ∀ (σ : eS) (x1 : Int32) (x2 : Int32) (x3 : Int32) (x4 : Int32) (x5 : Int32) (H : Heap) (locs : List Loc) (ls : Array Slot), K41 σ x1 x2 x3 x4 x5 → gG D ρ κ base s σ H locs → lv_has ls 9 [(0, .ref (ρ (97))), (1, .int (x1)), (2, .int (x2)), (3, .int (x3)), (4, .int (x4)), (5, .int (x5))] → W p l e rm_X11_postman s m args below meth c H locs 0 0 (gQi below args s D ρ κ base post) (F0 m 41 ls [])) : ∀ (σ : eS) (x1 : Int32) (x2 : Int32) (x3 : Int32) (x5 : Int32) (x6 : Int32) (y0 : Int32) (H : Heap) (locs : List Loc) (ls : Array Slot), b_X11_postman_131 post K41 σ x1 x2 x3 x5 x6 y0 → gG D ρ κ base s σ H locs → lv_has ls 9 [(0, .ref (ρ (97))), (1, .int (x1)), (2, .int (x2)), (3, .int (x3)), (5, .int (x5)), (6, .int (x6))] → W p l e rm_X11_postman s m args below meth c H locs 0 0 (gQi below args s D ρ κ base post) (F0 m 131 ls [.int (y0)]) := by
  obtain ⟨hx, hb, hml, hown, hts, hr, hlocks⟩ := id C
  intro σ x1 x2 x3 x5 x6 y0 H locs ls h G hl
  unfold b_X11_postman_131 at h
  refine lv_istore (lv' := [(4, .int (y0)), (0, .ref (ρ (97))), (1, .int (x1)), (2, .int (x2)), (3, .int (x3)), (5, .int (x5)), (6, .int (x6))]) hx hb dX11_postman_131 hl (by decide) rfl (fun ls hl => ?_)
  refine lv_iload hx hb dX11_postman_133 (lv_at hl 6 rfl) ?_
  refine lv_iload_n hx hb dX11_postman_135 rfl (lv_at hl 4 rfl) ?_
  refine lv_icmp_gt (tgt := 142) hx hb dX11_postman_136 (by decide) (fun c19 => ?_) (fun c19 => ?_)
  · have h := h.1 c19
    refine lv_iload hx hb dX11_postman_142 (lv_at hl 6 rfl) ?_
    refine lv_istore_n (lv' := [(3, .int (x6)), (4, .int (y0)), (0, .ref (ρ (97))), (1, .int (x1)), (2, .int (x2)), (5, .int (x5)), (6, .int (x6))]) hx hb dX11_postman_144 rfl hl (by decide) rfl (fun ls hl => ?_)
    refine lv_iload hx hb dX11_postman_145 (lv_at hl 5 rfl) ?_
    refine lv_istore_n (lv' := [(2, .int (x5)), (3, .int (x6)), (4, .int (y0)), (0, .ref (ρ (97))), (1, .int (x1)), (5, .int (x5)), (6, .int (x6))]) hx hb dX11_postman_147 rfl hl (by decide) rfl (fun ls hl => ?_)
    exact l_X11_postman_148 C K (hK41 := hK41) σ x1 x5 x6 y0 x5 _ _ _  h G (lv_sub hl [3, 4, 0, 1, 2, 5] rfl)
  · have h := h.2 c19
    refine lv_goto (tgt := 148) hx hb dX11_postman_139 (by decide) ?_
    exact l_X11_postman_148 C K (hK41 := hK41) σ x1 x2 x3 y0 x5 _ _ _  h G (lv_sub hl [1, 2, 3, 4, 0, 5] rfl)
def b_X11_postman_66 (post : Int32 → eS → Prop) (K41 : eS → Int32 → Int32 → Int32 → Int32 → Int32 → Prop) (K54 : eS → Int32 → Int32 → Int32 → Int32 → Int32 → Int32 → Int32 → Prop) : Nat → eS → Int32 → Int32 → Int32 → Int32 → Int32 → Int32 → Int32 → Int32 → Prop
  | 0, _, _, _, _, _, _, _, _, _ => False
  | n + 1, σ, x1, x2, x3, x4, x5, x6, x7, x8 => ((x1 ≤ x8 → ∀ v23 : Int32, v23 = (x7 + (1 : Int32)) → K54 σ x1 x2 x3 x4 x5 x6 v23) ∧ (¬ (x1 ≤ x8) → False))
set_option maxHeartbeats 4000000 in
set_option maxRecDepth 100000 in
theorem l_X11_postman_66 {p : Program} {l : Launch} {e : Env} {s : State} {m : MethodId} {args : Array Value} {below : List Frame} {meth : Method} {c : Code} {D : va_G} {ρ : Nat → Nat} {κ : Nat → ClassId} {base : Nat} {post : Int32 → eS → Prop} (C : eCx p s m args meth c cX11_postman RX11 9 (some .int) wsX11_postman) (K : gK D ρ κ base s) {K41 : eS → Int32 → Int32 → Int32 → Int32 → Int32 → Prop} (hK41 : ∀ (σ : eS) (x1 : Int32) (x2 : Int32) (x3 : Int32) (x4 : Int32) (x5 : Int32) (H : Heap) (locs : List Loc) (ls : Array Slot), K41 σ x1 x2 x3 x4 x5 → gG D ρ κ base s σ H locs → lv_has ls 9 [(0, .ref (ρ (97))), (1, .int (x1)), (2, .int (x2)), (3, .int (x3)), (4, .int (x4)), (5, .int (x5))] → W p l e rm_X11_postman s m args below meth c H locs 0 0 (gQi below args s D ρ κ base post) (F0 m 41 ls [])) {K54 : eS → Int32 → Int32 → Int32 → Int32 → Int32 → Int32 → Int32 → Prop} (hK54 : ∀ (σ : eS) (x1 : Int32) (x2 : Int32) (x3 : Int32) (x4 : Int32) (x5 : Int32) (x6 : Int32) (x7 : Int32) (H : Heap) (locs : List Loc) (ls : Array Slot), K54 σ x1 x2 x3 x4 x5 x6 x7 → gG D ρ κ base s σ H locs → lv_has ls 9 [(0, .ref (ρ (97))), (1, .int (x1)), (2, .int (x2)), (3, .int (x3)), (4, .int (x4)), (5, .int (x5)), (6, .int (x6)), (7, .int (x7))] → W p l e rm_X11_postman s m args below meth c H locs 0 0 (gQi below args s D ρ κ base post) (F0 m 54 ls [])) : ∀ (n : Nat) (σ : eS) (x1 : Int32) (x2 : Int32) (x3 : Int32) (x4 : Int32) (x5 : Int32) (x6 : Int32) (x7 : Int32) (x8 : Int32) (H : Heap) (locs : List Loc) (ls : Array Slot), b_X11_postman_66 post K41 K54 n σ x1 x2 x3 x4 x5 x6 x7 x8 → gG D ρ κ base s σ H locs → lv_has ls 9 [(0, .ref (ρ (97))), (1, .int (x1)), (2, .int (x2)), (3, .int (x3)), (4, .int (x4)), (5, .int (x5)), (6, .int (x6)), (7, .int (x7)), (8, .int (x8))] → W p l e rm_X11_postman s m args below meth c H locs 0 0 (gQi below args s D ρ κ base post) (F0 m 66 ls []) := by
  obtain ⟨hx, hb, hml, hown, hts, hr, hlocks⟩ := id C
  intro n
  induction n with
  | zero => intro σ x1 x2 x3 x4 x5 x6 x7 x8 H locs ls h G hl; exact False.elim h
  | succ n ih =>
    intro σ x1 x2 x3 x4 x5 x6 x7 x8 H locs ls h G hl
    rw [b_X11_postman_66] at h
    refine lv_iload hx hb dX11_postman_66 (lv_at hl 8 rfl) ?_
    refine lv_iload_n hx hb dX11_postman_68 rfl (lv_at hl 1 rfl) ?_
    refine lv_icmp_ge (tgt := 113) hx hb dX11_postman_69 (by decide) (fun c22 => ?_) (fun c22 => ?_)
    · have h := h.1 c22
      obtain ⟨v23, ev23⟩ : ∃ y : Int32, y = x7 + (1 : Int32) := ⟨_, rfl⟩
      have h := h v23 ev23
      refine lv_iinc (v := v23) (lv' := [(7, .int (v23)), (0, .ref (ρ (97))), (1, .int (x1)), (2, .int (x2)), (3, .int (x3)), (4, .int (x4)), (5, .int (x5)), (6, .int (x6)), (8, .int (x8))]) hx hb dX11_postman_113 hl (k := 7) rfl (by rw [ev23]; rfl) (by decide) rfl (fun ls hl => ?_)
      refine lv_goto (tgt := 54) hx hb dX11_postman_116 (by decide) ?_
      exact hK54 σ x1 x2 x3 x4 x5 x6 v23 _ _ _  h G (lv_sub hl [1, 2, 3, 4, 5, 6, 7, 0] rfl)
    · have h := h.2 c22
      refine lv_iload hx hb dX11_postman_72 (lv_at hl 6 rfl) ?_
      refine lv_aload_n hx hb dX11_postman_74 rfl (lv_at hl 0 rfl) ?_
      refine lv_iload hx hb dX11_postman_75 (lv_at hl 7 rfl) ?_
      refine lv_aload_n hx hb dX11_postman_77 rfl (lv_at hl 0 rfl) ?_
      refine e_getl hx hb hts in_X11_postman_X11 hown K G 97 (by decide) gl_97 rfl 6 (by decide) rfl (hts (.fieldLink RX11 197 "StreetsStepOnModel" "today" "J") (e_mem (n := 4) rfl)) dX11_postman_78 ?_
      refine lv_iload hx hb dX11_postman_81 (lv_at hl 8 rfl) ?_
      refine lv_i2l hx hb dX11_postman_83 rfl ?_
      refine lv_ladd hx hb dX11_postman_84 ?_
      refine lv_iload hx hb dX11_postman_85 (lv_at hl 5 rfl) ?_
      exact h.elim
def b_X11_postman_54 (post : Int32 → eS → Prop) (K41 : eS → Int32 → Int32 → Int32 → Int32 → Int32 → Prop) : Nat → eS → Int32 → Int32 → Int32 → Int32 → Int32 → Int32 → Int32 → Prop
  | 0, _, _, _, _, _, _, _, _ => False
  | n + 1, σ, x1, x2, x3, x4, x5, x6, x7 => (((σ.1 97 7) ≤ x7 → ((¬ x5 = 0 → b_X11_postman_131 post K41 σ x1 x2 x3 x5 x6 x4) ∧ (x5 = 0 → b_X11_postman_131 post K41 σ x1 x2 x3 x5 x6 x6))) ∧ (¬ ((σ.1 97 7) ≤ x7) → ∀ v21 : Int32, v21 = (0 : Int32) → (∃ n24 : Nat, b_X11_postman_66 post K41 (fun s x1 x2 x3 x4 x5 x6 x7 => b_X11_postman_54 post K41 n s x1 x2 x3 x4 x5 x6 x7) n24 σ x1 x2 x3 x4 x5 x6 x7 v21)))
set_option maxHeartbeats 4000000 in
set_option maxRecDepth 100000 in
theorem l_X11_postman_54 {p : Program} {l : Launch} {e : Env} {s : State} {m : MethodId} {args : Array Value} {below : List Frame} {meth : Method} {c : Code} {D : va_G} {ρ : Nat → Nat} {κ : Nat → ClassId} {base : Nat} {post : Int32 → eS → Prop} (C : eCx p s m args meth c cX11_postman RX11 9 (some .int) wsX11_postman) (K : gK D ρ κ base s) {K41 : eS → Int32 → Int32 → Int32 → Int32 → Int32 → Prop} (hK41 : ∀ (σ : eS) (x1 : Int32) (x2 : Int32) (x3 : Int32) (x4 : Int32) (x5 : Int32) (H : Heap) (locs : List Loc) (ls : Array Slot), K41 σ x1 x2 x3 x4 x5 → gG D ρ κ base s σ H locs → lv_has ls 9 [(0, .ref (ρ (97))), (1, .int (x1)), (2, .int (x2)), (3, .int (x3)), (4, .int (x4)), (5, .int (x5))] → W p l e rm_X11_postman s m args below meth c H locs 0 0 (gQi below args s D ρ κ base post) (F0 m 41 ls [])) : ∀ (n : Nat) (σ : eS) (x1 : Int32) (x2 : Int32) (x3 : Int32) (x4 : Int32) (x5 : Int32) (x6 : Int32) (x7 : Int32) (H : Heap) (locs : List Loc) (ls : Array Slot), b_X11_postman_54 post K41 n σ x1 x2 x3 x4 x5 x6 x7 → gG D ρ κ base s σ H locs → lv_has ls 9 [(0, .ref (ρ (97))), (1, .int (x1)), (2, .int (x2)), (3, .int (x3)), (4, .int (x4)), (5, .int (x5)), (6, .int (x6)), (7, .int (x7))] → W p l e rm_X11_postman s m args below meth c H locs 0 0 (gQi below args s D ρ κ base post) (F0 m 54 ls []) := by
  obtain ⟨hx, hb, hml, hown, hts, hr, hlocks⟩ := id C
  intro n
  induction n with
  | zero => intro σ x1 x2 x3 x4 x5 x6 x7 H locs ls h G hl; exact False.elim h
  | succ n ih =>
    intro σ x1 x2 x3 x4 x5 x6 x7 H locs ls h G hl
    rw [b_X11_postman_54] at h
    refine lv_iload hx hb dX11_postman_54 (lv_at hl 7 rfl) ?_
    refine lv_aload_n hx hb dX11_postman_56 rfl (lv_at hl 0 rfl) ?_
    refine e_geti hx hb hts in_X11_postman_X11 hown K G 97 (by decide) gl_97 rfl 7 (by decide) rfl (hts (.fieldLink RX11 114 "StreetsStepOnModel" "letters" "I") (e_mem (n := 2) rfl)) dX11_postman_57 ?_
    refine lv_icmp_ge (tgt := 119) hx hb dX11_postman_60 (by decide) (fun c17 => ?_) (fun c17 => ?_)
    · have h := h.1 c17
      refine lv_iload hx hb dX11_postman_119 (lv_at hl 5 rfl) ?_
      refine lv_if_ne (tgt := 129) hx hb dX11_postman_121 (by decide) (fun c18 => ?_) (fun c18 => ?_)
      · have h := h.1 c18
        refine lv_iload hx hb dX11_postman_129 (lv_at hl 4 rfl) ?_
        exact l_X11_postman_131 C K (hK41 := hK41) σ x1 x2 x3 x5 x6 x4 _ _ _  h G (lv_sub hl [0, 1, 2, 3, 5, 6] rfl)
      · have h := h.2 c18
        refine lv_iload hx hb dX11_postman_124 (lv_at hl 6 rfl) ?_
        refine lv_goto (tgt := 131) hx hb dX11_postman_126 (by decide) ?_
        exact l_X11_postman_131 C K (hK41 := hK41) σ x1 x2 x3 x5 x6 x6 _ _ _  h G (lv_sub hl [0, 1, 2, 3, 5, 6] rfl)
    · have h := h.2 c17
      refine lv_iconst (v := (0 : Int32)) hx hb dX11_postman_63 (by decide) ?_
      refine lv_topi (fun v21 ev21 => ?_)
      have h := h v21 ev21
      refine lv_istore (lv' := [(8, .int (v21)), (0, .ref (ρ (97))), (1, .int (x1)), (2, .int (x2)), (3, .int (x3)), (4, .int (x4)), (5, .int (x5)), (6, .int (x6)), (7, .int (x7))]) hx hb dX11_postman_64 hl (by decide) rfl (fun ls hl => ?_)
      obtain ⟨n24, h⟩ := h
      exact l_X11_postman_66 C K (hK41 := hK41) (hK54 := ih) n24 σ x1 x2 x3 x4 x5 x6 x7 v21 _ _ _  h G (lv_sub hl [1, 2, 3, 4, 5, 6, 7, 8, 0] rfl)
def b_X11_postman_41 (post : Int32 → eS → Prop) : Nat → eS → Int32 → Int32 → Int32 → Int32 → Int32 → Prop
  | 0, _, _, _, _, _, _ => False
  | n + 1, σ, x1, x2, x3, x4, x5 => (((99 : Int32) < x5 → ∀ σ12 : eS, σ12 = e_ui σ 97 17 (0 : Int32) → w_X11_tell σ12 (x3.toInt64) (fun σ13 => w_X11_tell σ13 (x4.toInt64) (fun σ14 => post x2 σ14))) ∧ (¬ ((99 : Int32) < x5) → ∀ v15 : Int32, v15 = (0 : Int32) → ∀ v16 : Int32, v16 = (0 : Int32) → (∃ n25 : Nat, b_X11_postman_54 post (fun s x1 x2 x3 x4 x5 => b_X11_postman_41 post n s x1 x2 x3 x4 x5) n25 σ x1 x2 x3 x4 x5 v15 v16)))
set_option maxHeartbeats 4000000 in
set_option maxRecDepth 100000 in
theorem l_X11_postman_41 {p : Program} {l : Launch} {e : Env} {s : State} {m : MethodId} {args : Array Value} {below : List Frame} {meth : Method} {c : Code} {D : va_G} {ρ : Nat → Nat} {κ : Nat → ClassId} {base : Nat} {post : Int32 → eS → Prop} (C : eCx p s m args meth c cX11_postman RX11 9 (some .int) wsX11_postman) (K : gK D ρ κ base s) : ∀ (n : Nat) (σ : eS) (x1 : Int32) (x2 : Int32) (x3 : Int32) (x4 : Int32) (x5 : Int32) (H : Heap) (locs : List Loc) (ls : Array Slot), b_X11_postman_41 post n σ x1 x2 x3 x4 x5 → gG D ρ κ base s σ H locs → lv_has ls 9 [(0, .ref (ρ (97))), (1, .int (x1)), (2, .int (x2)), (3, .int (x3)), (4, .int (x4)), (5, .int (x5))] → W p l e rm_X11_postman s m args below meth c H locs 0 0 (gQi below args s D ρ κ base post) (F0 m 41 ls []) := by
  obtain ⟨hx, hb, hml, hown, hts, hr, hlocks⟩ := id C
  intro n
  induction n with
  | zero => intro σ x1 x2 x3 x4 x5 H locs ls h G hl; exact False.elim h
  | succ n ih =>
    intro σ x1 x2 x3 x4 x5 H locs ls h G hl
    rw [b_X11_postman_41] at h
    refine lv_iload hx hb dX11_postman_41 (lv_at hl 5 rfl) ?_
    refine lv_bipush (v := (99 : Int32)) hx hb dX11_postman_43 (by decide) ?_
    refine lv_icmp_gt (tgt := 154) hx hb dX11_postman_45 (by decide) (fun c11 => ?_) (fun c11 => ?_)
    · have h := h.1 c11
      refine lv_aload_n hx hb dX11_postman_154 rfl (lv_at hl 0 rfl) ?_
      refine lv_iconst (v := (0 : Int32)) hx hb dX11_postman_155 (by decide) ?_
      refine e_puti hx hb hts in_X11_postman_X11 tyX11 tyX11_ok nmX11 hown K G 97 (by decide) gl_97 rfl 17 (by decide) rfl (hts (.fieldLink RX11 101 "StreetsStepOnModel" "rowMany" "I") (e_mem (n := 5) rfl)) rfl (tyX11_ok 17 (by decide)) rfl rfl dX11_postman_156 (fun H locs G => ?_)
      obtain ⟨σ12, eσ12⟩ : ∃ z : eS, z = e_ui σ 97 17 (0 : Int32) := ⟨_, rfl⟩
      rw [← eσ12] at G
      have h := h σ12 eσ12
      refine lv_aload_n hx hb dX11_postman_159 rfl (lv_at hl 0 rfl) ?_
      refine lv_iload_n hx hb dX11_postman_160 rfl (lv_at hl 3 rfl) ?_
      refine lv_i2l hx hb dX11_postman_161 rfl ?_
      refine e_callVv (As := [.long (x3.toInt64)]) (rest := []) ⟨hx, hb, hml, hown, hts⟩ K G 97 (by decide) gl_97 rfl (c_X11_tell h) (cwV 1 hts gX11_postman_X11_tell rfl rfl rfl (by decide +kernel) ⟨Nat.le_of_ble_eq_true rfl, Nat.le_of_ble_eq_true rfl⟩) rfl hl.1 rfl (Nat.le_of_ble_eq_true rfl) dX11_postman_162 ⟨Nat.zero_le _, Nat.zero_le _⟩ (fun σ13 H locs h G => ?_)
      refine lv_aload_n hx hb dX11_postman_165 rfl (lv_at hl 0 rfl) ?_
      refine lv_iload hx hb dX11_postman_166 (lv_at hl 4 rfl) ?_
      refine lv_i2l hx hb dX11_postman_168 rfl ?_
      refine e_callVv (As := [.long (x4.toInt64)]) (rest := []) ⟨hx, hb, hml, hown, hts⟩ K G 97 (by decide) gl_97 rfl (c_X11_tell h) (cwV 1 hts gX11_postman_X11_tell rfl rfl rfl (by decide +kernel) ⟨Nat.le_of_ble_eq_true rfl, Nat.le_of_ble_eq_true rfl⟩) rfl hl.1 rfl (Nat.le_of_ble_eq_true rfl) dX11_postman_169 ⟨Nat.zero_le _, Nat.zero_le _⟩ (fun σ14 H locs h G => ?_)
      refine lv_iload_n hx hb dX11_postman_172 rfl (lv_at hl 2 rfl) ?_
      exact e_iret hx hb hr hlocks G h dX11_postman_173
    · have h := h.2 c11
      refine lv_iconst (v := (0 : Int32)) hx hb dX11_postman_48 (by decide) ?_
      refine lv_topi (fun v15 ev15 => ?_)
      have h := h v15 ev15
      refine lv_istore (lv' := [(6, .int (v15)), (0, .ref (ρ (97))), (1, .int (x1)), (2, .int (x2)), (3, .int (x3)), (4, .int (x4)), (5, .int (x5))]) hx hb dX11_postman_49 hl (by decide) rfl (fun ls hl => ?_)
      refine lv_iconst (v := (0 : Int32)) hx hb dX11_postman_51 (by decide) ?_
      refine lv_topi (fun v16 ev16 => ?_)
      have h := h v16 ev16
      refine lv_istore (lv' := [(7, .int (v16)), (6, .int (v15)), (0, .ref (ρ (97))), (1, .int (x1)), (2, .int (x2)), (3, .int (x3)), (4, .int (x4)), (5, .int (x5))]) hx hb dX11_postman_52 hl (by decide) rfl (fun ls hl => ?_)
      obtain ⟨n25, h⟩ := h
      exact l_X11_postman_54 C K (hK41 := ih) n25 σ x1 x2 x3 x4 x5 v15 v16 _ _ _  h G (lv_sub hl [2, 3, 4, 5, 6, 7, 1, 0] rfl)
def w_X11_postman (σ : eS) (x1 : Int32) (post : Int32 → eS → Prop) : Prop := ∀ σ1 : eS, σ1 = e_ui σ 97 18 (0 : Int32) → (((σ1.1 97 7) = 0 → post (-1 : Int32) σ1) ∧ (¬ ((σ1.1 97 7) = 0) → w_X11_in σ1 (x1.toInt64) (1 : Int64) (30 : Int64) (fun r4 σ3 => ((¬ r4 = 0 → w_X11_layOut σ3 (0 : Int32) (fun σ6 => ∀ v7 : Int32, v7 = (0 : Int32) → ∀ v8 : Int32, v8 = (-1 : Int32) → ∀ v9 : Int32, v9 = (0 : Int32) → ∀ v10 : Int32, v10 = (0 : Int32) → (∃ n26 : Nat, b_X11_postman_41 post n26 σ6 x1 v7 v8 v9 v10))) ∧ (r4 = 0 → post (-1 : Int32) σ3)))))
set_option maxHeartbeats 4000000 in
set_option maxRecDepth 100000 in
theorem c_X11_postman {l : Launch} {D : va_G} {ρ : Nat → Nat} {κ : Nat → ClassId} {base : Nat} {σ : eS} {x1 : Int32} {post : Int32 → eS → Prop} (h : w_X11_postman σ x1 post) : gMi l yX11_postman wsX11_postman rm_X11_postman D ρ κ base [.ref (ρ (97)), .int (x1)] σ post := by
  refine e_ofWi (cc := cX11_postman) (maxL := 9) (ret := (some .int)) (by decide) rfl (Nat.le_of_ble_eq_true rfl) ?_
  intro p e s m below meth c ls C K G hl
  obtain ⟨hx, hb, hml, hown, hts, hr, hlocks⟩ := id C
  have hl : lv_has ls 9 [(0, .ref (ρ (97))), (1, .int (x1))] := hl
  unfold w_X11_postman at h
  refine lv_aload_n hx hb dX11_postman_0 rfl (lv_at hl 0 rfl) ?_
  refine lv_iconst (v := (0 : Int32)) hx hb dX11_postman_1 (by decide) ?_
  refine e_puti hx hb hts in_X11_postman_X11 tyX11 tyX11_ok nmX11 hown K G 97 (by decide) gl_97 rfl 18 (by decide) rfl (hts (.fieldLink RX11 98 "StreetsStepOnModel" "thrown" "I") (e_mem (n := 1) rfl)) rfl (tyX11_ok 18 (by decide)) rfl rfl dX11_postman_2 (fun H locs G => ?_)
  obtain ⟨σ1, eσ1⟩ : ∃ z : eS, z = e_ui σ 97 18 (0 : Int32) := ⟨_, rfl⟩
  rw [← eσ1] at G
  have h := h σ1 eσ1
  refine lv_aload_n hx hb dX11_postman_5 rfl (lv_at hl 0 rfl) ?_
  refine e_geti hx hb hts in_X11_postman_X11 hown K G 97 (by decide) gl_97 rfl 7 (by decide) rfl (hts (.fieldLink RX11 114 "StreetsStepOnModel" "letters" "I") (e_mem (n := 2) rfl)) dX11_postman_6 ?_
  refine lv_if_eq (tgt := 24) hx hb dX11_postman_9 (by decide) (fun c2 => ?_) (fun c2 => ?_)
  · have h := h.1 c2
    refine lv_iconst (v := (-1 : Int32)) hx hb dX11_postman_24 (by decide) ?_
    exact e_iret hx hb hr hlocks G h dX11_postman_25
  · have h := h.2 c2
    refine lv_iload_n hx hb dX11_postman_12 rfl (lv_at hl 1 rfl) ?_
    refine lv_i2l hx hb dX11_postman_13 rfl ?_
    refine lv_lconst (v := (1 : Int64)) hx hb dX11_postman_14 (by decide) ?_
    refine lv_ldc2 (v := (30 : Int64)) hx hb hown (hts (.constantLong RX11 342 (30)) (e_mem (n := 3) rfl)) dX11_postman_15 ?_
    refine e_callSi (As := [.long (x1.toInt64), .long ((1 : Int64)), .long ((30 : Int64))]) (rest := []) ⟨hx, hb, hml, hown, hts⟩ K G (c_X11_in h) (va_cwS 3 hts gX11_postman_X11_in rfl rfl rfl (by decide +kernel) ⟨Nat.le_of_ble_eq_true rfl, Nat.le_of_ble_eq_true rfl⟩) rfl hl.1 rfl (Nat.le_of_ble_eq_true rfl) dX11_postman_18 ⟨Nat.zero_le _, Nat.zero_le _⟩ (fun r4 σ3 H locs h G => ?_)
    refine lv_if_ne (tgt := 26) hx hb dX11_postman_21 (by decide) (fun c5 => ?_) (fun c5 => ?_)
    · have h := h.1 c5
      refine lv_aload_n hx hb dX11_postman_26 rfl (lv_at hl 0 rfl) ?_
      refine lv_iconst (v := (0 : Int32)) hx hb dX11_postman_27 (by decide) ?_
      refine e_callVv (As := [.int ((0 : Int32))]) (rest := []) ⟨hx, hb, hml, hown, hts⟩ K G 97 (by decide) gl_97 rfl (c_X11_layOut h) (cwV 1 hts gX11_postman_X11_layOut rfl rfl rfl (by decide +kernel) ⟨Nat.le_of_ble_eq_true rfl, Nat.le_of_ble_eq_true rfl⟩) rfl hl.1 rfl (Nat.le_of_ble_eq_true rfl) dX11_postman_28 ⟨Nat.zero_le _, Nat.zero_le _⟩ (fun σ6 H locs h G => ?_)
      refine lv_iconst (v := (0 : Int32)) hx hb dX11_postman_31 (by decide) ?_
      refine lv_topi (fun v7 ev7 => ?_)
      have h := h v7 ev7
      refine lv_istore_n (lv' := [(2, .int (v7)), (0, .ref (ρ (97))), (1, .int (x1))]) hx hb dX11_postman_32 rfl hl (by decide) rfl (fun ls hl => ?_)
      refine lv_iconst (v := (-1 : Int32)) hx hb dX11_postman_33 (by decide) ?_
      refine lv_topi (fun v8 ev8 => ?_)
      have h := h v8 ev8
      refine lv_istore_n (lv' := [(3, .int (v8)), (2, .int (v7)), (0, .ref (ρ (97))), (1, .int (x1))]) hx hb dX11_postman_34 rfl hl (by decide) rfl (fun ls hl => ?_)
      refine lv_iconst (v := (0 : Int32)) hx hb dX11_postman_35 (by decide) ?_
      refine lv_topi (fun v9 ev9 => ?_)
      have h := h v9 ev9
      refine lv_istore (lv' := [(4, .int (v9)), (3, .int (v8)), (2, .int (v7)), (0, .ref (ρ (97))), (1, .int (x1))]) hx hb dX11_postman_36 hl (by decide) rfl (fun ls hl => ?_)
      refine lv_iconst (v := (0 : Int32)) hx hb dX11_postman_38 (by decide) ?_
      refine lv_topi (fun v10 ev10 => ?_)
      have h := h v10 ev10
      refine lv_istore (lv' := [(5, .int (v10)), (4, .int (v9)), (3, .int (v8)), (2, .int (v7)), (0, .ref (ρ (97))), (1, .int (x1))]) hx hb dX11_postman_39 hl (by decide) rfl (fun ls hl => ?_)
      obtain ⟨n26, h⟩ := h
      exact l_X11_postman_41 C K n26 σ6 x1 v7 v8 v9 v10 _ _ _  h G (lv_sub hl [4, 5, 3, 2, 1, 0] rfl)
    · have h := h.2 c5
      refine lv_iconst (v := (-1 : Int32)) hx hb dX11_postman_24 (by decide) ?_
      exact e_iret hx hb hr hlocks G h dX11_postman_25
abbrev rm_X10_travels : Room := { frames := 1, cells := 0, slots := 0, locals := 21 }
def w_X10_travels (σ : eS) (x1 : Int32) (x2 : Int32) (post : Int32 → eS → Prop) : Prop := w_X10_isLetter σ x1 (fun r2 σ1 => ((r2 = 0 → post (-1 : Int32) σ1) ∧ (¬ (r2 = 0) → w_X10_isLate σ1 x2 (fun r5 σ4 => ((¬ r5 = 0 → False) ∧ (r5 = 0 → post (-1 : Int32) σ4))))))
set_option maxHeartbeats 4000000 in
set_option maxRecDepth 100000 in
theorem c_X10_travels {l : Launch} {D : va_G} {ρ : Nat → Nat} {κ : Nat → ClassId} {base : Nat} {σ : eS} {x1 : Int32} {x2 : Int32} {post : Int32 → eS → Prop} (h : w_X10_travels σ x1 x2 post) : gMi l yX10_travels wsX10_travels rm_X10_travels D ρ κ base [.ref (ρ (0)), .int (x1), .int (x2)] σ post := by
  refine e_ofWi (cc := cX10_travels) (maxL := 3) (ret := (some .int)) (by decide) rfl (Nat.le_of_ble_eq_true rfl) ?_
  intro p e s m below meth c ls C K G hl
  obtain ⟨hx, hb, hml, hown, hts, hr, hlocks⟩ := id C
  have hl : lv_has ls 3 [(0, .ref (ρ (0))), (1, .int (x1)), (2, .int (x2))] := hl
  unfold w_X10_travels at h
  refine lv_aload_n hx hb dX10_travels_0 rfl (lv_at hl 0 rfl) ?_
  refine lv_iload_n hx hb dX10_travels_1 rfl (lv_at hl 1 rfl) ?_
  refine e_callVi (As := [.int (x1)]) (rest := []) ⟨hx, hb, hml, hown, hts⟩ K G 0 (by decide) gl_0 rfl (c_X10_isLetter h) (cwV 1 hts gX10_travels_X10_isLetter rfl rfl rfl (by decide +kernel) ⟨Nat.le_of_ble_eq_true rfl, Nat.le_of_ble_eq_true rfl⟩) rfl hl.1 rfl (Nat.le_of_ble_eq_true rfl) dX10_travels_2 ⟨Nat.zero_le _, Nat.zero_le _⟩ (fun r2 σ1 H locs h G => ?_)
  refine lv_if_eq (tgt := 15) hx hb dX10_travels_5 (by decide) (fun c3 => ?_) (fun c3 => ?_)
  · have h := h.1 c3
    refine lv_iconst (v := (-1 : Int32)) hx hb dX10_travels_15 (by decide) ?_
    exact e_iret hx hb hr hlocks G h dX10_travels_16
  · have h := h.2 c3
    refine lv_iload_n hx hb dX10_travels_8 rfl (lv_at hl 2 rfl) ?_
    refine e_callSi (As := [.int (x2)]) (rest := []) ⟨hx, hb, hml, hown, hts⟩ K G (c_X10_isLate h) (va_cwS 1 hts gX10_travels_X10_isLate rfl rfl rfl (by decide +kernel) ⟨Nat.le_of_ble_eq_true rfl, Nat.le_of_ble_eq_true rfl⟩) rfl hl.1 rfl (Nat.le_of_ble_eq_true rfl) dX10_travels_9 ⟨Nat.zero_le _, Nat.zero_le _⟩ (fun r5 σ4 H locs h G => ?_)
    refine lv_if_ne (tgt := 17) hx hb dX10_travels_12 (by decide) (fun c6 => ?_) (fun c6 => ?_)
    · have h := h.1 c6
      refine lv_aload_n hx hb dX10_travels_17 rfl (lv_at hl 0 rfl) ?_
      refine lv_iload_n hx hb dX10_travels_18 rfl (lv_at hl 1 rfl) ?_
      refine lv_iload_n hx hb dX10_travels_19 rfl (lv_at hl 2 rfl) ?_
      refine lv_iconst (v := (0 : Int32)) hx hb dX10_travels_20 (by decide) ?_
      exact h.elim
    · have h := h.2 c6
      refine lv_iconst (v := (-1 : Int32)) hx hb dX10_travels_15 (by decide) ?_
      exact e_iret hx hb hr hlocks G h dX10_travels_16
abbrev rm_X11_travels : Room := { frames := 2, cells := 0, slots := 0, locals := 46 }
theorem in_X11_travels_X11 : ∀ w ∈ wsX110, w ∈ wsX11_travels := fun w h => List.mem_cons_of_mem _ (List.mem_append_right _ h)
def w_X11_travels (σ : eS) (x1 : Int32) (x2 : Int32) (post : Int32 → eS → Prop) : Prop := ∀ σ1 : eS, σ1 = e_ui σ 97 18 (0 : Int32) → w_X11_isLetter σ1 x1 (fun r3 σ2 => ((r3 = 0 → post (-1 : Int32) σ2) ∧ (¬ (r3 = 0) → w_X11_isLate σ2 x2 (fun r6 σ5 => ((r6 = 0 → post (-1 : Int32) σ5) ∧ (¬ (r6 = 0) → False))))))
set_option maxHeartbeats 4000000 in
set_option maxRecDepth 100000 in
theorem c_X11_travels {l : Launch} {D : va_G} {ρ : Nat → Nat} {κ : Nat → ClassId} {base : Nat} {σ : eS} {x1 : Int32} {x2 : Int32} {post : Int32 → eS → Prop} (h : w_X11_travels σ x1 x2 post) : gMi l yX11_travels wsX11_travels rm_X11_travels D ρ κ base [.ref (ρ (97)), .int (x1), .int (x2)] σ post := by
  refine e_ofWi (cc := cX11_travels) (maxL := 3) (ret := (some .int)) (by decide) rfl (Nat.le_of_ble_eq_true rfl) ?_
  intro p e s m below meth c ls C K G hl
  obtain ⟨hx, hb, hml, hown, hts, hr, hlocks⟩ := id C
  have hl : lv_has ls 3 [(0, .ref (ρ (97))), (1, .int (x1)), (2, .int (x2))] := hl
  unfold w_X11_travels at h
  refine lv_aload_n hx hb dX11_travels_0 rfl (lv_at hl 0 rfl) ?_
  refine lv_iconst (v := (0 : Int32)) hx hb dX11_travels_1 (by decide) ?_
  refine e_puti hx hb hts in_X11_travels_X11 tyX11 tyX11_ok nmX11 hown K G 97 (by decide) gl_97 rfl 18 (by decide) rfl (hts (.fieldLink RX11 98 "StreetsStepOnModel" "thrown" "I") (e_mem (n := 1) rfl)) rfl (tyX11_ok 18 (by decide)) rfl rfl dX11_travels_2 (fun H locs G => ?_)
  obtain ⟨σ1, eσ1⟩ : ∃ z : eS, z = e_ui σ 97 18 (0 : Int32) := ⟨_, rfl⟩
  rw [← eσ1] at G
  have h := h σ1 eσ1
  refine lv_aload_n hx hb dX11_travels_5 rfl (lv_at hl 0 rfl) ?_
  refine lv_iload_n hx hb dX11_travels_6 rfl (lv_at hl 1 rfl) ?_
  refine e_callVi (As := [.int (x1)]) (rest := []) ⟨hx, hb, hml, hown, hts⟩ K G 97 (by decide) gl_97 rfl (c_X11_isLetter h) (cwV 1 hts gX11_travels_X11_isLetter rfl rfl rfl (by decide +kernel) ⟨Nat.le_of_ble_eq_true rfl, Nat.le_of_ble_eq_true rfl⟩) rfl hl.1 rfl (Nat.le_of_ble_eq_true rfl) dX11_travels_7 ⟨Nat.zero_le _, Nat.zero_le _⟩ (fun r3 σ2 H locs h G => ?_)
  refine lv_if_eq (tgt := 29) hx hb dX11_travels_10 (by decide) (fun c4 => ?_) (fun c4 => ?_)
  · have h := h.1 c4
    refine lv_iconst (v := (-1 : Int32)) hx hb dX11_travels_29 (by decide) ?_
    exact e_iret hx hb hr hlocks G h dX11_travels_30
  · have h := h.2 c4
    refine lv_iload_n hx hb dX11_travels_13 rfl (lv_at hl 2 rfl) ?_
    refine e_callSi (As := [.int (x2)]) (rest := []) ⟨hx, hb, hml, hown, hts⟩ K G (c_X11_isLate h) (va_cwS 1 hts gX11_travels_X11_isLate rfl rfl rfl (by decide +kernel) ⟨Nat.le_of_ble_eq_true rfl, Nat.le_of_ble_eq_true rfl⟩) rfl hl.1 rfl (Nat.le_of_ble_eq_true rfl) dX11_travels_14 ⟨Nat.zero_le _, Nat.zero_le _⟩ (fun r6 σ5 H locs h G => ?_)
    refine lv_if_eq (tgt := 29) hx hb dX11_travels_17 (by decide) (fun c7 => ?_) (fun c7 => ?_)
    · have h := h.1 c7
      refine lv_iconst (v := (-1 : Int32)) hx hb dX11_travels_29 (by decide) ?_
      exact e_iret hx hb hr hlocks G h dX11_travels_30
    · have h := h.2 c7
      refine lv_aload_n hx hb dX11_travels_20 rfl (lv_at hl 0 rfl) ?_
      refine lv_iload_n hx hb dX11_travels_21 rfl (lv_at hl 1 rfl) ?_
      refine lv_iload_n hx hb dX11_travels_22 rfl (lv_at hl 2 rfl) ?_
      exact h.elim
abbrev rm_X10_isChoice : Room := { frames := 1, cells := 0, slots := 0, locals := 20 }
def w_X10_isChoice (σ : eS) (x0 : Int32) (x1 : Int32) (x2 : Int32) (post : Int32 → eS → Prop) : Prop := ((x0 ≤ 0 → ((narrow .boolean (.int (0 : Int32)) = .int (0 : Int32)) ∧ post (0 : Int32) σ)) ∧ (¬ (x0 ≤ 0) → ((¬ ((x0.toUInt32 >>> (x1.toUInt32 &&& Int32.toUInt32 31)).toInt32) = 0 → ((narrow .boolean (.int (0 : Int32)) = .int (0 : Int32)) ∧ post (0 : Int32) σ)) ∧ (((x0.toUInt32 >>> (x1.toUInt32 &&& Int32.toUInt32 31)).toInt32) = 0 → w_J6_bitCount_0f7a4 σ x0 (fun r4 σ3 => ((x2 < r4 → ((narrow .boolean (.int (0 : Int32)) = .int (0 : Int32)) ∧ post (0 : Int32) σ3)) ∧ (¬ (x2 < r4) → ((narrow .boolean (.int (1 : Int32)) = .int (1 : Int32)) ∧ post (1 : Int32) σ3))))))))
set_option maxHeartbeats 4000000 in
set_option maxRecDepth 100000 in
theorem c_X10_isChoice {l : Launch} {D : va_G} {ρ : Nat → Nat} {κ : Nat → ClassId} {base : Nat} {σ : eS} {x0 : Int32} {x1 : Int32} {x2 : Int32} {post : Int32 → eS → Prop} (h : w_X10_isChoice σ x0 x1 x2 post) : gMi l yX10_isChoice wsX10_isChoice rm_X10_isChoice D ρ κ base [.int (x0), .int (x1), .int (x2)] σ post := by
  refine e_ofWi (cc := cX10_isChoice) (maxL := 3) (ret := (some .boolean)) (by decide) rfl (Nat.le_of_ble_eq_true rfl) ?_
  intro p e s m below meth c ls C K G hl
  obtain ⟨hx, hb, hml, hown, hts, hr, hlocks⟩ := id C
  have hl : lv_has ls 3 [(0, .int (x0)), (1, .int (x1)), (2, .int (x2))] := hl
  unfold w_X10_isChoice at h
  refine lv_iload_n hx hb dX10_isChoice_0 rfl (lv_at hl 0 rfl) ?_
  refine lv_if_le (tgt := 22) hx hb dX10_isChoice_1 (by decide) (fun c1 => ?_) (fun c1 => ?_)
  · have h := h.1 c1
    refine lv_iconst (v := (0 : Int32)) hx hb dX10_isChoice_22 (by decide) ?_
    exact e_zret hx hb hr hlocks G h.1 h.2 dX10_isChoice_23
  · have h := h.2 c1
    refine lv_iload_n hx hb dX10_isChoice_4 rfl (lv_at hl 0 rfl) ?_
    refine lv_iload_n hx hb dX10_isChoice_5 rfl (lv_at hl 1 rfl) ?_
    refine lv_iushr hx hb dX10_isChoice_6 rfl ?_
    refine lv_if_ne (tgt := 22) hx hb dX10_isChoice_7 (by decide) (fun c2 => ?_) (fun c2 => ?_)
    · have h := h.1 c2
      refine lv_iconst (v := (0 : Int32)) hx hb dX10_isChoice_22 (by decide) ?_
      exact e_zret hx hb hr hlocks G h.1 h.2 dX10_isChoice_23
    · have h := h.2 c2
      refine lv_iload_n hx hb dX10_isChoice_10 rfl (lv_at hl 0 rfl) ?_
      refine e_callSi (As := [.int (x0)]) (rest := []) ⟨hx, hb, hml, hown, hts⟩ K G (c_J6_bitCount_0f7a4 h) (va_cwS 1 hts gX10_isChoice_J6_bitCount_0f7a4 rfl rfl rfl (by decide +kernel) ⟨Nat.le_of_ble_eq_true rfl, Nat.le_of_ble_eq_true rfl⟩) rfl hl.1 rfl (Nat.le_of_ble_eq_true rfl) dX10_isChoice_11 ⟨Nat.zero_le _, Nat.zero_le _⟩ (fun r4 σ3 H locs h G => ?_)
      refine lv_iload_n hx hb dX10_isChoice_14 rfl (lv_at hl 2 rfl) ?_
      refine lv_icmp_gt (tgt := 22) hx hb dX10_isChoice_15 (by decide) (fun c5 => ?_) (fun c5 => ?_)
      · have h := h.1 c5
        refine lv_iconst (v := (0 : Int32)) hx hb dX10_isChoice_22 (by decide) ?_
        exact e_zret hx hb hr hlocks G h.1 h.2 dX10_isChoice_23
      · have h := h.2 c5
        refine lv_iconst (v := (1 : Int32)) hx hb dX10_isChoice_18 (by decide) ?_
        refine lv_goto (tgt := 23) hx hb dX10_isChoice_19 (by decide) ?_
        exact e_zret hx hb hr hlocks G h.1 h.2 dX10_isChoice_23
abbrev rm_X10_round : Room := { frames := 2, cells := 0, slots := 0, locals := 42 }
theorem in_X10_round_X1 : ∀ w ∈ wsX10, w ∈ wsX10_round := fun w h => List.mem_cons_of_mem _ (List.mem_append_left _ (List.mem_append_left _ (List.mem_append_left _ (List.mem_append_left _ (List.mem_append_right _ h)))))
theorem in_X10_round_X10 : ∀ w ∈ wsX100, w ∈ wsX10_round := fun w h => List.mem_cons_of_mem _ (List.mem_append_left _ (List.mem_append_left _ (List.mem_append_left _ (List.mem_append_left _ (List.mem_append_left _ (List.mem_append_right _ h))))))
def w_X10_round (σ : eS) (x1 : Int32) (x2 : Int32) (x3 : Int32) (post : Int32 → eS → Prop) : Prop := w_X10_isPlace σ x1 (fun r2 σ1 => ((r2 = 0 → post (-1 : Int32) σ1) ∧ (¬ (r2 = 0) → w_X10_isChoice σ1 x2 (σ1.1 5 6) (6 : Int32) (fun r5 σ4 => ((r5 = 0 → post (-1 : Int32) σ4) ∧ (¬ (r5 = 0) → ((x3 < (1 : Int32) → post (-1 : Int32) σ4) ∧ (¬ (x3 < (1 : Int32)) → ((x3 ≤ (999 : Int32) → False) ∧ (¬ (x3 ≤ (999 : Int32)) → post (-1 : Int32) σ4))))))))))
set_option maxHeartbeats 4000000 in
set_option maxRecDepth 100000 in
theorem c_X10_round {l : Launch} {D : va_G} {ρ : Nat → Nat} {κ : Nat → ClassId} {base : Nat} {σ : eS} {x1 : Int32} {x2 : Int32} {x3 : Int32} {post : Int32 → eS → Prop} (h : w_X10_round σ x1 x2 x3 post) : gMi l yX10_round wsX10_round rm_X10_round D ρ κ base [.ref (ρ (0)), .int (x1), .int (x2), .int (x3)] σ post := by
  refine e_ofWi (cc := cX10_round) (maxL := 7) (ret := (some .int)) (by decide) rfl (Nat.le_of_ble_eq_true rfl) ?_
  intro p e s m below meth c ls C K G hl
  obtain ⟨hx, hb, hml, hown, hts, hr, hlocks⟩ := id C
  have hl : lv_has ls 7 [(0, .ref (ρ (0))), (1, .int (x1)), (2, .int (x2)), (3, .int (x3))] := hl
  unfold w_X10_round at h
  refine lv_iload_n hx hb dX10_round_0 rfl (lv_at hl 1 rfl) ?_
  refine e_callSi (As := [.int (x1)]) (rest := []) ⟨hx, hb, hml, hown, hts⟩ K G (c_X10_isPlace h) (va_cwS 1 hts gX10_round_X10_isPlace rfl rfl rfl (by decide +kernel) ⟨Nat.le_of_ble_eq_true rfl, Nat.le_of_ble_eq_true rfl⟩) rfl hl.1 rfl (Nat.le_of_ble_eq_true rfl) dX10_round_1 ⟨Nat.zero_le _, Nat.zero_le _⟩ (fun r2 σ1 H locs h G => ?_)
  refine lv_if_eq (tgt := 35) hx hb dX10_round_4 (by decide) (fun c3 => ?_) (fun c3 => ?_)
  · have h := h.1 c3
    refine lv_iconst (v := (-1 : Int32)) hx hb dX10_round_35 (by decide) ?_
    exact e_iret hx hb hr hlocks G h dX10_round_36
  · have h := h.2 c3
    refine lv_iload_n hx hb dX10_round_7 rfl (lv_at hl 2 rfl) ?_
    refine lv_aload_n hx hb dX10_round_8 rfl (lv_at hl 0 rfl) ?_
    refine e_getq hx hb hts in_X10_round_X10 hown K G 0 (by decide) gl_0 rfl 2 (by decide) 5 rfl (hts (.fieldLink RX10 26 "StreetsStepOn" "book" "LStreetsStepOn$Book;") (e_mem (n := 1) rfl)) dX10_round_9 ?_
    refine e_getiN hx hb hts in_X10_round_X1 hown K G 5 (by decide) gl_5 rfl 6 (by decide) rfl (e_memq (n := 23) rfl) dX10_round_12 ?_
    refine lv_bipush (v := (6 : Int32)) hx hb dX10_round_15 (by decide) ?_
    refine e_callSi (As := [.int (x2), .int (σ1.1 5 6), .int ((6 : Int32))]) (rest := []) ⟨hx, hb, hml, hown, hts⟩ K G (c_X10_isChoice h) (va_cwS 3 hts gX10_round_X10_isChoice rfl rfl rfl (by decide +kernel) ⟨Nat.le_of_ble_eq_true rfl, Nat.le_of_ble_eq_true rfl⟩) rfl hl.1 rfl (Nat.le_of_ble_eq_true rfl) dX10_round_17 ⟨Nat.zero_le _, Nat.zero_le _⟩ (fun r5 σ4 H locs h G => ?_)
    refine lv_if_eq (tgt := 35) hx hb dX10_round_20 (by decide) (fun c6 => ?_) (fun c6 => ?_)
    · have h := h.1 c6
      refine lv_iconst (v := (-1 : Int32)) hx hb dX10_round_35 (by decide) ?_
      exact e_iret hx hb hr hlocks G h dX10_round_36
    · have h := h.2 c6
      refine lv_iload_n hx hb dX10_round_23 rfl (lv_at hl 3 rfl) ?_
      refine lv_iconst (v := (1 : Int32)) hx hb dX10_round_24 (by decide) ?_
      refine lv_icmp_lt (tgt := 35) hx hb dX10_round_25 (by decide) (fun c7 => ?_) (fun c7 => ?_)
      · have h := h.1 c7
        refine lv_iconst (v := (-1 : Int32)) hx hb dX10_round_35 (by decide) ?_
        exact e_iret hx hb hr hlocks G h dX10_round_36
      · have h := h.2 c7
        refine lv_iload_n hx hb dX10_round_28 rfl (lv_at hl 3 rfl) ?_
        refine lv_sipush (v := (999 : Int32)) hx hb dX10_round_29 (by decide) ?_
        refine lv_icmp_le (tgt := 37) hx hb dX10_round_32 (by decide) (fun c8 => ?_) (fun c8 => ?_)
        · have h := h.1 c8
          refine lv_aload_n hx hb dX10_round_37 rfl (lv_at hl 0 rfl) ?_
          refine e_getq hx hb hts in_X10_round_X10 hown K G 0 (by decide) gl_0 rfl 10 (by decide) 55 rfl (hts (.fieldLink RX10 79 "StreetsStepOn" "tour" "LStreetsStepOn$Tour;") (e_mem (n := 2) rfl)) dX10_round_38 ?_
          refine lv_bipush (v := (100 : Int32)) hx hb dX10_round_41 (by decide) ?_
          refine lv_iload_n hx hb dX10_round_43 rfl (lv_at hl 3 rfl) ?_
          exact h.elim
        · have h := h.2 c8
          refine lv_iconst (v := (-1 : Int32)) hx hb dX10_round_35 (by decide) ?_
          exact e_iret hx hb hr hlocks G h dX10_round_36
abbrev rm_X11_round : Room := { frames := 2, cells := 0, slots := 0, locals := 45 }
theorem in_X11_round_X11 : ∀ w ∈ wsX110, w ∈ wsX11_round := fun w h => List.mem_cons_of_mem _ (List.mem_append_right _ h)
def w_X11_round (σ : eS) (x1 : Int32) (x2 : Int32) (x3 : Int32) (post : Int32 → eS → Prop) : Prop := ∀ σ1 : eS, σ1 = e_ui σ 97 18 (0 : Int32) → w_X11_isPlace σ1 x1 (fun r3 σ2 => ((r3 = 0 → post (-1 : Int32) σ2) ∧ (¬ (r3 = 0) → w_X11_in σ2 (x2.toInt64) (1 : Int64) ((((1 : Int32) <<< ((σ2.1 97 7) &&& 31)) - (1 : Int32)).toInt64) (fun r6 σ5 => ((r6 = 0 → post (-1 : Int32) σ5) ∧ (¬ (r6 = 0) → w_J6_bitCount_0f7a4 σ5 x2 (fun r9 σ8 => (((6 : Int32) < r9 → post (-1 : Int32) σ8) ∧ (¬ ((6 : Int32) < r9) → w_X11_in σ8 (x3.toInt64) (1 : Int64) (999 : Int64) (fun r12 σ11 => ((¬ r12 = 0 → w_X11_layOut σ11 (0 : Int32) (fun σ14 => w_X11_findFar σ14 (fun σ15 => False))) ∧ (r12 = 0 → post (-1 : Int32) σ11))))))))))))
set_option maxHeartbeats 4000000 in
set_option maxRecDepth 100000 in
theorem c_X11_round {l : Launch} {D : va_G} {ρ : Nat → Nat} {κ : Nat → ClassId} {base : Nat} {σ : eS} {x1 : Int32} {x2 : Int32} {x3 : Int32} {post : Int32 → eS → Prop} (h : w_X11_round σ x1 x2 x3 post) : gMi l yX11_round wsX11_round rm_X11_round D ρ κ base [.ref (ρ (97)), .int (x1), .int (x2), .int (x3)] σ post := by
  refine e_ofWi (cc := cX11_round) (maxL := 4) (ret := (some .int)) (by decide) rfl (Nat.le_of_ble_eq_true rfl) ?_
  intro p e s m below meth c ls C K G hl
  obtain ⟨hx, hb, hml, hown, hts, hr, hlocks⟩ := id C
  have hl : lv_has ls 4 [(0, .ref (ρ (97))), (1, .int (x1)), (2, .int (x2)), (3, .int (x3))] := hl
  unfold w_X11_round at h
  refine lv_aload_n hx hb dX11_round_0 rfl (lv_at hl 0 rfl) ?_
  refine lv_iconst (v := (0 : Int32)) hx hb dX11_round_1 (by decide) ?_
  refine e_puti hx hb hts in_X11_round_X11 tyX11 tyX11_ok nmX11 hown K G 97 (by decide) gl_97 rfl 18 (by decide) rfl (hts (.fieldLink RX11 98 "StreetsStepOnModel" "thrown" "I") (e_mem (n := 1) rfl)) rfl (tyX11_ok 18 (by decide)) rfl rfl dX11_round_2 (fun H locs G => ?_)
  obtain ⟨σ1, eσ1⟩ : ∃ z : eS, z = e_ui σ 97 18 (0 : Int32) := ⟨_, rfl⟩
  rw [← eσ1] at G
  have h := h σ1 eσ1
  refine lv_iload_n hx hb dX11_round_5 rfl (lv_at hl 1 rfl) ?_
  refine e_callSi (As := [.int (x1)]) (rest := []) ⟨hx, hb, hml, hown, hts⟩ K G (c_X11_isPlace h) (va_cwS 1 hts gX11_round_X11_isPlace rfl rfl rfl (by decide +kernel) ⟨Nat.le_of_ble_eq_true rfl, Nat.le_of_ble_eq_true rfl⟩) rfl hl.1 rfl (Nat.le_of_ble_eq_true rfl) dX11_round_6 ⟨Nat.zero_le _, Nat.zero_le _⟩ (fun r3 σ2 H locs h G => ?_)
  refine lv_if_eq (tgt := 51) hx hb dX11_round_9 (by decide) (fun c4 => ?_) (fun c4 => ?_)
  · have h := h.1 c4
    refine lv_iconst (v := (-1 : Int32)) hx hb dX11_round_51 (by decide) ?_
    exact e_iret hx hb hr hlocks G h dX11_round_52
  · have h := h.2 c4
    refine lv_iload_n hx hb dX11_round_12 rfl (lv_at hl 2 rfl) ?_
    refine lv_i2l hx hb dX11_round_13 rfl ?_
    refine lv_lconst (v := (1 : Int64)) hx hb dX11_round_14 (by decide) ?_
    refine lv_iconst (v := (1 : Int32)) hx hb dX11_round_15 (by decide) ?_
    refine lv_aload_n hx hb dX11_round_16 rfl (lv_at hl 0 rfl) ?_
    refine e_geti hx hb hts in_X11_round_X11 hown K G 97 (by decide) gl_97 rfl 7 (by decide) rfl (hts (.fieldLink RX11 114 "StreetsStepOnModel" "letters" "I") (e_mem (n := 2) rfl)) dX11_round_17 ?_
    refine lv_ishl hx hb dX11_round_20 ?_
    refine lv_iconst (v := (1 : Int32)) hx hb dX11_round_21 (by decide) ?_
    refine lv_isub hx hb dX11_round_22 ?_
    refine lv_i2l hx hb dX11_round_23 rfl ?_
    refine e_callSi (As := [.long (x2.toInt64), .long ((1 : Int64)), .long ((((1 : Int32) <<< ((σ2.1 97 7) &&& 31)) - (1 : Int32)).toInt64)]) (rest := []) ⟨hx, hb, hml, hown, hts⟩ K G (c_X11_in h) (va_cwS 3 hts gX11_round_X11_in rfl rfl rfl (by decide +kernel) ⟨Nat.le_of_ble_eq_true rfl, Nat.le_of_ble_eq_true rfl⟩) rfl hl.1 rfl (Nat.le_of_ble_eq_true rfl) dX11_round_24 ⟨Nat.zero_le _, Nat.zero_le _⟩ (fun r6 σ5 H locs h G => ?_)
    refine lv_if_eq (tgt := 51) hx hb dX11_round_27 (by decide) (fun c7 => ?_) (fun c7 => ?_)
    · have h := h.1 c7
      refine lv_iconst (v := (-1 : Int32)) hx hb dX11_round_51 (by decide) ?_
      exact e_iret hx hb hr hlocks G h dX11_round_52
    · have h := h.2 c7
      refine lv_iload_n hx hb dX11_round_30 rfl (lv_at hl 2 rfl) ?_
      refine e_callSi (As := [.int (x2)]) (rest := []) ⟨hx, hb, hml, hown, hts⟩ K G (c_J6_bitCount_0f7a4 h) (va_cwS 1 hts gX11_round_J6_bitCount_0f7a4 rfl rfl rfl (by decide +kernel) ⟨Nat.le_of_ble_eq_true rfl, Nat.le_of_ble_eq_true rfl⟩) rfl hl.1 rfl (Nat.le_of_ble_eq_true rfl) dX11_round_31 ⟨Nat.zero_le _, Nat.zero_le _⟩ (fun r9 σ8 H locs h G => ?_)
      refine lv_bipush (v := (6 : Int32)) hx hb dX11_round_34 (by decide) ?_
      refine lv_icmp_gt (tgt := 51) hx hb dX11_round_36 (by decide) (fun c10 => ?_) (fun c10 => ?_)
      · have h := h.1 c10
        refine lv_iconst (v := (-1 : Int32)) hx hb dX11_round_51 (by decide) ?_
        exact e_iret hx hb hr hlocks G h dX11_round_52
      · have h := h.2 c10
        refine lv_iload_n hx hb dX11_round_39 rfl (lv_at hl 3 rfl) ?_
        refine lv_i2l hx hb dX11_round_40 rfl ?_
        refine lv_lconst (v := (1 : Int64)) hx hb dX11_round_41 (by decide) ?_
        refine lv_ldc2 (v := (999 : Int64)) hx hb hown (hts (.constantLong RX11 364 (999)) (e_mem (n := 3) rfl)) dX11_round_42 ?_
        refine e_callSi (As := [.long (x3.toInt64), .long ((1 : Int64)), .long ((999 : Int64))]) (rest := []) ⟨hx, hb, hml, hown, hts⟩ K G (c_X11_in h) (va_cwS 3 hts gX11_round_X11_in rfl rfl rfl (by decide +kernel) ⟨Nat.le_of_ble_eq_true rfl, Nat.le_of_ble_eq_true rfl⟩) rfl hl.1 rfl (Nat.le_of_ble_eq_true rfl) dX11_round_45 ⟨Nat.zero_le _, Nat.zero_le _⟩ (fun r12 σ11 H locs h G => ?_)
        refine lv_if_ne (tgt := 53) hx hb dX11_round_48 (by decide) (fun c13 => ?_) (fun c13 => ?_)
        · have h := h.1 c13
          refine lv_aload_n hx hb dX11_round_53 rfl (lv_at hl 0 rfl) ?_
          refine lv_iconst (v := (0 : Int32)) hx hb dX11_round_54 (by decide) ?_
          refine e_callVv (As := [.int ((0 : Int32))]) (rest := []) ⟨hx, hb, hml, hown, hts⟩ K G 97 (by decide) gl_97 rfl (c_X11_layOut h) (cwV 1 hts gX11_round_X11_layOut rfl rfl rfl (by decide +kernel) ⟨Nat.le_of_ble_eq_true rfl, Nat.le_of_ble_eq_true rfl⟩) rfl hl.1 rfl (Nat.le_of_ble_eq_true rfl) dX11_round_55 ⟨Nat.zero_le _, Nat.zero_le _⟩ (fun σ14 H locs h G => ?_)
          refine lv_aload_n hx hb dX11_round_58 rfl (lv_at hl 0 rfl) ?_
          refine e_callVv (As := []) (rest := []) ⟨hx, hb, hml, hown, hts⟩ K G 97 (by decide) gl_97 rfl (c_X11_findFar h) (cwV 0 hts gX11_round_X11_findFar rfl rfl rfl (by decide +kernel) ⟨Nat.le_of_ble_eq_true rfl, Nat.le_of_ble_eq_true rfl⟩) rfl hl.1 rfl (Nat.le_of_ble_eq_true rfl) dX11_round_59 ⟨Nat.zero_le _, Nat.zero_le _⟩ (fun σ15 H locs h G => ?_)
          refine lv_aload_n hx hb dX11_round_62 rfl (lv_at hl 0 rfl) ?_
          refine lv_iload_n hx hb dX11_round_63 rfl (lv_at hl 2 rfl) ?_
          refine lv_aload_n hx hb dX11_round_64 rfl (lv_at hl 0 rfl) ?_
          refine e_geti hx hb hts in_X11_round_X11 hown K G 97 (by decide) gl_97 rfl 7 (by decide) rfl (hts (.fieldLink RX11 114 "StreetsStepOnModel" "letters" "I") (e_mem (n := 2) rfl)) dX11_round_65 ?_
          exact h.elim
        · have h := h.2 c13
          refine lv_iconst (v := (-1 : Int32)) hx hb dX11_round_51 (by decide) ?_
          exact e_iret hx hb hr hlocks G h dX11_round_52
abbrev rm_X6_read : Room := { frames := 1, cells := 0, slots := 0, locals := 40 }
theorem in_X6_read_X6 : ∀ w ∈ wsX60, w ∈ wsX6_read := fun w h => List.mem_cons_of_mem _ (List.mem_append_right _ h)
theorem in_X6_read_X7 : ∀ w ∈ wsX70, w ∈ wsX6_read := fun w h => List.mem_cons_of_mem _ (List.mem_append_left _ (List.mem_append_right _ h))
def b_X6_read_51 (post : Int32 → eS → Prop) (σ : eS) : Prop := (¬ (0 : Int32) < 0) ∧ (¬ (0 : Int32) < 0) ∧ (¬ (σ.1 36 4) < 0) ∧ (((0 : Int32)).toNatClampNeg + (σ.1 36 4).toNatClampNeg ≤ 40) ∧ (((0 : Int32)).toNatClampNeg + (σ.1 36 4).toNatClampNeg ≤ 40) ∧ ∀ σ9 : eS, σ9 = e_ua σ 39 (va_cpy (σ.1 38) (σ.1 39) ((0 : Int32)).toNatClampNeg ((0 : Int32)).toNatClampNeg (σ.1 36 4).toNatClampNeg) → ∀ σ10 : eS, σ10 = e_ui σ9 36 5 (σ9.1 36 4) → post (0 : Int32) σ10
set_option maxHeartbeats 4000000 in
set_option maxRecDepth 100000 in
theorem l_X6_read_51 {p : Program} {l : Launch} {e : Env} {s : State} {m : MethodId} {args : Array Value} {below : List Frame} {meth : Method} {c : Code} {D : va_G} {ρ : Nat → Nat} {κ : Nat → ClassId} {base : Nat} {post : Int32 → eS → Prop} (C : eCx p s m args meth c cX6_read RX6 3 (some .int) wsX6_read) (K : gK D ρ κ base s) : ∀ (σ : eS) (H : Heap) (locs : List Loc) (ls : Array Slot), b_X6_read_51 post σ → gG D ρ κ base s σ H locs → lv_has ls 3 [(0, .ref (ρ (36)))] → W p l e rm_X6_read s m args below meth c H locs 0 0 (gQi below args s D ρ κ base post) (F0 m 51 ls []) := by
  obtain ⟨hx, hb, hml, hown, hts, hr, hlocks⟩ := id C
  intro σ H locs ls h G hl
  unfold b_X6_read_51 at h
  refine lv_aload_n hx hb dX6_read_51 rfl (lv_at hl 0 rfl) ?_
  refine e_getq hx hb hts in_X6_read_X6 hown K G 36 (by decide) gl_36 rfl 1 (by decide) 38 rfl (hts (.fieldLink RX6 13 "StreetsStepOn$Rule" "draft" "[I") (e_mem (n := 7) rfl)) dX6_read_52 ?_
  refine lv_iconst (v := (0 : Int32)) hx hb dX6_read_55 (by decide) ?_
  refine lv_aload_n hx hb dX6_read_56 rfl (lv_at hl 0 rfl) ?_
  refine e_getq hx hb hts in_X6_read_X6 hown K G 36 (by decide) gl_36 rfl 2 (by decide) 39 rfl (hts (.fieldLink RX6 16 "StreetsStepOn$Rule" "steps" "[I") (e_mem (n := 8) rfl)) dX6_read_57 ?_
  refine lv_iconst (v := (0 : Int32)) hx hb dX6_read_60 (by decide) ?_
  refine lv_aload_n hx hb dX6_read_61 rfl (lv_at hl 0 rfl) ?_
  refine e_geti hx hb hts in_X6_read_X6 hown K G 36 (by decide) gl_36 rfl 4 (by decide) rfl (hts (.fieldLink RX6 37 "StreetsStepOn$Rule" "drafted" "I") (e_mem (n := 6) rfl)) dX6_read_62 ?_
  have ha4 := h.1
  have h := h.2
  have ha5 := h.1
  have h := h.2
  have ha6 := h.1
  have h := h.2
  have ha7 := h.1
  have h := h.2
  have ha8 := h.1
  have h := h.2
  refine e_copyi hx hb (hml.trans hl.1.symm) hown (hts (.methodLink RX6 44 arraycopyName) (e_mem (n := 9) rfl)) (hts (.native arraycopyName) (e_mem (n := 10) rfl)) (hts (.static arraycopyName) (e_mem (n := 11) rfl)) (hts (.initialized "java/lang/System") (e_mem (n := 12) rfl)) K G 38 39 0 0 40 40 (by decide) (by decide) gl_38 gl_39 rfl rfl ha4 ha5 ha6 ha7 ha8 (Nat.le_of_ble_eq_true rfl) (Nat.le_of_ble_eq_true rfl) dX6_read_65 (fun H locs G => ?_)
  obtain ⟨σ9, eσ9⟩ : ∃ z : eS, z = e_ua σ 39 (va_cpy (σ.1 38) (σ.1 39) ((0 : Int32)).toNatClampNeg ((0 : Int32)).toNatClampNeg (σ.1 36 4).toNatClampNeg) := ⟨_, rfl⟩
  rw [← eσ9] at G
  have h := h σ9 eσ9
  refine lv_aload_n hx hb dX6_read_68 rfl (lv_at hl 0 rfl) ?_
  refine lv_aload_n hx hb dX6_read_69 rfl (lv_at hl 0 rfl) ?_
  refine e_geti hx hb hts in_X6_read_X6 hown K G 36 (by decide) gl_36 rfl 4 (by decide) rfl (hts (.fieldLink RX6 37 "StreetsStepOn$Rule" "drafted" "I") (e_mem (n := 6) rfl)) dX6_read_70 ?_
  refine e_puti hx hb hts in_X6_read_X6 tyX6 tyX6_ok nmX6 hown K G 36 (by decide) gl_36 rfl 5 (by decide) rfl (hts (.fieldLink RX6 50 "StreetsStepOn$Rule" "size" "I") (e_mem (n := 13) rfl)) rfl (tyX6_ok 5 (by decide)) rfl rfl dX6_read_73 (fun H locs G => ?_)
  obtain ⟨σ10, eσ10⟩ : ∃ z : eS, z = e_ui σ9 36 5 (σ9.1 36 4) := ⟨_, rfl⟩
  rw [← eσ10] at G
  have h := h σ10 eσ10
  refine lv_iconst (v := (0 : Int32)) hx hb dX6_read_76 (by decide) ?_
  exact e_iret hx hb hr hlocks G h dX6_read_77
def w_X6_read (σ : eS) (post : Int32 → eS → Prop) : Prop := ∀ σ1 : eS, σ1 = e_ui σ 36 6 (if (40 : Int32) < (σ.1 1 1) then (40 : Int32) else (σ.1 1 1)) → ∀ σ2 : eS, σ2 = e_ui σ1 36 4 (0 : Int32) → (((σ2.1 1 1) ≤ 0 → b_X6_read_51 post σ2) ∧ (¬ ((σ2.1 1 1) ≤ 0) → False))
set_option maxHeartbeats 4000000 in
set_option maxRecDepth 100000 in
theorem c_X6_read {l : Launch} {D : va_G} {ρ : Nat → Nat} {κ : Nat → ClassId} {base : Nat} {σ : eS} {post : Int32 → eS → Prop} (h : w_X6_read σ post) : gMi l yX6_read wsX6_read rm_X6_read D ρ κ base [.ref (ρ (36)), .ref (ρ (1))] σ post := by
  refine e_ofWi (cc := cX6_read) (maxL := 3) (ret := (some .int)) (by decide) rfl (Nat.le_of_ble_eq_true rfl) ?_
  intro p e s m below meth c ls C K G hl
  obtain ⟨hx, hb, hml, hown, hts, hr, hlocks⟩ := id C
  have hl : lv_has ls 3 [(0, .ref (ρ (36))), (1, .ref (ρ (1)))] := hl
  unfold w_X6_read at h
  refine lv_aload_n hx hb dX6_read_0 rfl (lv_at hl 0 rfl) ?_
  refine lv_aload_n hx hb dX6_read_1 rfl (lv_at hl 1 rfl) ?_
  refine e_getiN hx hb hts in_X6_read_X7 hown K G 1 (by decide) gl_1 rfl 1 (by decide) rfl (e_memq (n := 1) rfl) dX6_read_2 ?_
  refine lv_bipush (v := (40 : Int32)) hx hb dX6_read_5 (by decide) ?_
  refine va_mmin hx hb (hml.trans hl.1.symm) hown (hts (.methodLink RX6 28 Lib.Math.min.name) (e_mem (n := 1) rfl)) (hts (.static Lib.Math.min.name) (e_mem (n := 2) rfl)) (hts (.initialized "java/lang/Math") (e_mem (n := 3) rfl)) (hts (.code Lib.Math.min.name Lib.Math.min.code 2 (some .int)) (e_mem (n := 4) rfl)) (Nat.le_of_ble_eq_true rfl) (Nat.le_of_ble_eq_true rfl) (Nat.zero_le _) (Nat.zero_le _) dX6_read_7 ?_
  refine e_puti hx hb hts in_X6_read_X6 tyX6 tyX6_ok nmX6 hown K G 36 (by decide) gl_36 rfl 6 (by decide) rfl (hts (.fieldLink RX6 34 "StreetsStepOn$Rule" "stop" "I") (e_mem (n := 5) rfl)) rfl (tyX6_ok 6 (by decide)) rfl rfl dX6_read_10 (fun H locs G => ?_)
  obtain ⟨σ1, eσ1⟩ : ∃ z : eS, z = e_ui σ 36 6 (if (40 : Int32) < (σ.1 1 1) then (40 : Int32) else (σ.1 1 1)) := ⟨_, rfl⟩
  rw [← eσ1] at G
  have h := h σ1 eσ1
  refine lv_aload_n hx hb dX6_read_13 rfl (lv_at hl 0 rfl) ?_
  refine lv_iconst (v := (0 : Int32)) hx hb dX6_read_14 (by decide) ?_
  refine e_puti hx hb hts in_X6_read_X6 tyX6 tyX6_ok nmX6 hown K G 36 (by decide) gl_36 rfl 4 (by decide) rfl (hts (.fieldLink RX6 37 "StreetsStepOn$Rule" "drafted" "I") (e_mem (n := 6) rfl)) rfl (tyX6_ok 4 (by decide)) rfl rfl dX6_read_15 (fun H locs G => ?_)
  obtain ⟨σ2, eσ2⟩ : ∃ z : eS, z = e_ui σ1 36 4 (0 : Int32) := ⟨_, rfl⟩
  rw [← eσ2] at G
  have h := h σ2 eσ2
  refine lv_aload_n hx hb dX6_read_18 rfl (lv_at hl 1 rfl) ?_
  refine e_getiN hx hb hts in_X6_read_X7 hown K G 1 (by decide) gl_1 rfl 1 (by decide) rfl (e_memq (n := 1) rfl) dX6_read_19 ?_
  refine lv_if_le (tgt := 51) hx hb dX6_read_22 (by decide) (fun c3 => ?_) (fun c3 => ?_)
  · have h := h.1 c3
    exact l_X6_read_51 C K σ2 _ _ _  h G (lv_sub hl [0] rfl)
  · have h := h.2 c3
    refine lv_aload_n hx hb dX6_read_25 rfl (lv_at hl 0 rfl) ?_
    refine lv_aload_n hx hb dX6_read_26 rfl (lv_at hl 1 rfl) ?_
    refine lv_iconst (v := (0 : Int32)) hx hb dX6_read_27 (by decide) ?_
    refine lv_iconst (v := (0 : Int32)) hx hb dX6_read_28 (by decide) ?_
    exact h.elim
