abbrev rm_X11_far : Room := { frames := 2, cells := 0, slots := 0, locals := 45 }
theorem in_X11_far_X11 : ∀ w ∈ wsX110, w ∈ wsX11_far := fun w h => List.mem_cons_of_mem _ (List.mem_append_right _ h)
def w_X11_far (σ : eS) (x1 : Int32) (x2 : Int32) (post : Int32 → eS → Prop) : Prop := ∀ σ1 : eS, σ1 = e_ui σ 97 18 (0 : Int32) → w_X11_isPlace σ1 x1 (fun r3 σ2 => ((r3 = 0 → post (-1 : Int32) σ2) ∧ (¬ (r3 = 0) → w_X11_isPlace σ2 x2 (fun r6 σ5 => ((¬ r6 = 0 → w_X11_findFar σ5 (fun σ8 => (vp_in (((10 : Int32) * x1) + x2) 100) ∧ post (σ8.1 109 (((10 : Int32) * x1) + x2).toNatClampNeg) σ8)) ∧ (r6 = 0 → post (-1 : Int32) σ5))))))
set_option maxHeartbeats 4000000 in
set_option maxRecDepth 100000 in
theorem c_X11_far {l : Launch} {D : va_G} {ρ : Nat → Nat} {κ : Nat → ClassId} {base : Nat} {σ : eS} {x1 : Int32} {x2 : Int32} {post : Int32 → eS → Prop} (h : w_X11_far σ x1 x2 post) : gMi l yX11_far wsX11_far rm_X11_far D ρ κ base [.ref (ρ (97)), .int (x1), .int (x2)] σ post := by
  refine e_ofWi (cc := cX11_far) (maxL := 3) (ret := (some .int)) (by decide) rfl (Nat.le_of_ble_eq_true rfl) ?_
  intro p e s m below meth c ls C K G hl
  obtain ⟨hx, hb, hml, hown, hts, hr, hlocks⟩ := id C
  have hl : lv_has ls 3 [(0, .ref (ρ (97))), (1, .int (x1)), (2, .int (x2))] := hl
  unfold w_X11_far at h
  refine lv_aload_n hx hb dX11_far_0 rfl (lv_at hl 0 rfl) ?_
  refine lv_iconst (v := (0 : Int32)) hx hb dX11_far_1 (by decide) ?_
  refine e_puti hx hb hts in_X11_far_X11 tyX11 tyX11_ok nmX11 hown K G 97 (by decide) gl_97 rfl 18 (by decide) rfl (hts (.fieldLink RX11 98 "StreetsStepOnModel" "thrown" "I") (e_mem (n := 1) rfl)) rfl (tyX11_ok 18 (by decide)) rfl rfl dX11_far_2 (fun H locs G => ?_)
  obtain ⟨σ1, eσ1⟩ : ∃ z : eS, z = e_ui σ 97 18 (0 : Int32) := ⟨_, rfl⟩
  rw [← eσ1] at G
  have h := h σ1 eσ1
  refine lv_iload_n hx hb dX11_far_5 rfl (lv_at hl 1 rfl) ?_
  refine e_callSi (As := [.int (x1)]) (rest := []) ⟨hx, hb, hml, hown, hts⟩ K G (c_X11_isPlace h) (va_cwS 1 hts gX11_far_X11_isPlace rfl rfl rfl (by decide +kernel) ⟨Nat.le_of_ble_eq_true rfl, Nat.le_of_ble_eq_true rfl⟩) rfl hl.1 rfl (Nat.le_of_ble_eq_true rfl) dX11_far_6 ⟨Nat.zero_le _, Nat.zero_le _⟩ (fun r3 σ2 H locs h G => ?_)
  refine lv_if_eq (tgt := 19) hx hb dX11_far_9 (by decide) (fun c4 => ?_) (fun c4 => ?_)
  · have h := h.1 c4
    refine lv_iconst (v := (-1 : Int32)) hx hb dX11_far_19 (by decide) ?_
    exact e_iret hx hb hr hlocks G h dX11_far_20
  · have h := h.2 c4
    refine lv_iload_n hx hb dX11_far_12 rfl (lv_at hl 2 rfl) ?_
    refine e_callSi (As := [.int (x2)]) (rest := []) ⟨hx, hb, hml, hown, hts⟩ K G (c_X11_isPlace h) (va_cwS 1 hts gX11_far_X11_isPlace rfl rfl rfl (by decide +kernel) ⟨Nat.le_of_ble_eq_true rfl, Nat.le_of_ble_eq_true rfl⟩) rfl hl.1 rfl (Nat.le_of_ble_eq_true rfl) dX11_far_13 ⟨Nat.zero_le _, Nat.zero_le _⟩ (fun r6 σ5 H locs h G => ?_)
    refine lv_if_ne (tgt := 21) hx hb dX11_far_16 (by decide) (fun c7 => ?_) (fun c7 => ?_)
    · have h := h.1 c7
      refine lv_aload_n hx hb dX11_far_21 rfl (lv_at hl 0 rfl) ?_
      refine e_callVv (As := []) (rest := []) ⟨hx, hb, hml, hown, hts⟩ K G 97 (by decide) gl_97 rfl (c_X11_findFar h) (cwV 0 hts gX11_far_X11_findFar rfl rfl rfl (by decide +kernel) ⟨Nat.le_of_ble_eq_true rfl, Nat.le_of_ble_eq_true rfl⟩) rfl hl.1 rfl (Nat.le_of_ble_eq_true rfl) dX11_far_22 ⟨Nat.zero_le _, Nat.zero_le _⟩ (fun σ8 H locs h G => ?_)
      refine lv_aload_n hx hb dX11_far_25 rfl (lv_at hl 0 rfl) ?_
      refine e_getq hx hb hts in_X11_far_X11 hown K G 97 (by decide) gl_97 rfl 24 (by decide) 109 rfl (hts (.fieldLink RX11 45 "StreetsStepOnModel" "fars" "[I") (e_mem (n := 2) rfl)) dX11_far_26 ?_
      refine lv_bipush (v := (10 : Int32)) hx hb dX11_far_29 (by decide) ?_
      refine lv_iload_n hx hb dX11_far_31 rfl (lv_at hl 1 rfl) ?_
      refine lv_imul hx hb dX11_far_32 ?_
      refine lv_iload_n hx hb dX11_far_33 rfl (lv_at hl 2 rfl) ?_
      refine lv_iadd hx hb dX11_far_34 ?_
      have hi9 := h.1
      have h := h.2
      refine e_iald hx hb K G 109 0 0 100 (by decide) gl_109 rfl hi9 dX11_far_35 ?_
      exact e_iret hx hb hr hlocks G h dX11_far_36
    · have h := h.2 c7
      refine lv_iconst (v := (-1 : Int32)) hx hb dX11_far_19 (by decide) ?_
      exact e_iret hx hb hr hlocks G h dX11_far_20
abbrev rm_X10_orderBehind : Room := { frames := 0, cells := 0, slots := 0, locals := 0 }
theorem in_X10_orderBehind_X1 : ∀ w ∈ wsX10, w ∈ wsX10_orderBehind := fun w h => List.mem_cons_of_mem _ (List.mem_append_right _ h)
theorem in_X10_orderBehind_X10 : ∀ w ∈ wsX100, w ∈ wsX10_orderBehind := fun w h => List.mem_cons_of_mem _ (List.mem_append_left _ (List.mem_append_right _ h))
def w_X10_orderBehind (σ : eS) (x1 : Int64) (post : Int32 → eS → Prop) : Prop := (((σ.1 5 5) ≤ 0 → post (0 : Int32) σ) ∧ (¬ ((σ.1 5 5) ≤ 0) → (¬ ((σ.1 5 5).toInt64) = 0) ∧ post ((x1 - x1 / ((σ.1 5 5).toInt64) * ((σ.1 5 5).toInt64)).toInt32) σ))
set_option maxHeartbeats 4000000 in
set_option maxRecDepth 100000 in
theorem c_X10_orderBehind {l : Launch} {D : va_G} {ρ : Nat → Nat} {κ : Nat → ClassId} {base : Nat} {σ : eS} {x1 : Int64} {post : Int32 → eS → Prop} (h : w_X10_orderBehind σ x1 post) : gMi l yX10_orderBehind wsX10_orderBehind rm_X10_orderBehind D ρ κ base [.ref (ρ (0)), .long (x1)] σ post := by
  refine e_ofWi (cc := cX10_orderBehind) (maxL := 3) (ret := (some .int)) (by decide) rfl (Nat.le_of_ble_eq_true rfl) ?_
  intro p e s m below meth c ls C K G hl
  obtain ⟨hx, hb, hml, hown, hts, hr, hlocks⟩ := id C
  have hl : lv_has ls 3 [(0, .ref (ρ (0))), (1, .long (x1))] := hl
  unfold w_X10_orderBehind at h
  refine lv_aload_n hx hb dX10_orderBehind_0 rfl (lv_at hl 0 rfl) ?_
  refine e_getq hx hb hts in_X10_orderBehind_X10 hown K G 0 (by decide) gl_0 rfl 2 (by decide) 5 rfl (hts (.fieldLink RX10 26 "StreetsStepOn" "book" "LStreetsStepOn$Book;") (e_mem (n := 1) rfl)) dX10_orderBehind_1 ?_
  refine e_getiN hx hb hts in_X10_orderBehind_X1 hown K G 5 (by decide) gl_5 rfl 5 (by decide) rfl (e_memq (n := 22) rfl) dX10_orderBehind_4 ?_
  refine lv_if_le (tgt := 24) hx hb dX10_orderBehind_7 (by decide) (fun c1 => ?_) (fun c1 => ?_)
  · have h := h.1 c1
    refine lv_iconst (v := (0 : Int32)) hx hb dX10_orderBehind_24 (by decide) ?_
    exact e_iret hx hb hr hlocks G h dX10_orderBehind_25
  · have h := h.2 c1
    refine lv_lload_n hx hb dX10_orderBehind_10 rfl (lv_at hl 1 rfl) ?_
    refine lv_aload_n hx hb dX10_orderBehind_11 rfl (lv_at hl 0 rfl) ?_
    refine e_getq hx hb hts in_X10_orderBehind_X10 hown K G 0 (by decide) gl_0 rfl 2 (by decide) 5 rfl (hts (.fieldLink RX10 26 "StreetsStepOn" "book" "LStreetsStepOn$Book;") (e_mem (n := 1) rfl)) dX10_orderBehind_12 ?_
    refine e_getiN hx hb hts in_X10_orderBehind_X1 hown K G 5 (by decide) gl_5 rfl 5 (by decide) rfl (e_memq (n := 22) rfl) dX10_orderBehind_15 ?_
    refine lv_i2l hx hb dX10_orderBehind_18 rfl ?_
    have hn2 := h.1
    have h := h.2
    refine lv_lrem hx hb dX10_orderBehind_19 hn2 ?_
    refine lv_l2i hx hb dX10_orderBehind_20 rfl ?_
    refine lv_goto (tgt := 25) hx hb dX10_orderBehind_21 (by decide) ?_
    exact e_iret hx hb hr hlocks G h dX10_orderBehind_25
abbrev rm_X10_pass : Room := { frames := 1, cells := 0, slots := 0, locals := 22 }
theorem in_X10_pass_X1 : ∀ w ∈ wsX10, w ∈ wsX10_pass := fun w h => List.mem_cons_of_mem _ (List.mem_append_right _ h)
theorem in_X10_pass_X10 : ∀ w ∈ wsX100, w ∈ wsX10_pass := fun w h => List.mem_cons_of_mem _ (List.mem_append_left _ (List.mem_append_right _ h))
def w_X10_pass (σ : eS) (x1 : Int64) (post : Int32 → eS → Prop) : Prop := (((lg_cmp x1 (0 : Int64)) < 0 → post (-1 : Int32) σ) ∧ (¬ ((lg_cmp x1 (0 : Int64)) < 0) → (((lg_cmp x1 ((1000000000000 : Int64) - (σ.2.1 5 7))) ≤ 0 → ∀ σ3 : eS, σ3 = e_ul σ 5 7 ((σ.2.1 5 7) + x1) → w_X10_orderBehind σ3 (σ3.2.1 5 7) (fun r5 σ4 => post r5 σ4)) ∧ (¬ ((lg_cmp x1 ((1000000000000 : Int64) - (σ.2.1 5 7))) ≤ 0) → post (-1 : Int32) σ))))
set_option maxHeartbeats 4000000 in
set_option maxRecDepth 100000 in
theorem c_X10_pass {l : Launch} {D : va_G} {ρ : Nat → Nat} {κ : Nat → ClassId} {base : Nat} {σ : eS} {x1 : Int64} {post : Int32 → eS → Prop} (h : w_X10_pass σ x1 post) : gMi l yX10_pass wsX10_pass rm_X10_pass D ρ κ base [.ref (ρ (0)), .long (x1)] σ post := by
  refine e_ofWi (cc := cX10_pass) (maxL := 3) (ret := (some .int)) (by decide) rfl (Nat.le_of_ble_eq_true rfl) ?_
  intro p e s m below meth c ls C K G hl
  obtain ⟨hx, hb, hml, hown, hts, hr, hlocks⟩ := id C
  have hl : lv_has ls 3 [(0, .ref (ρ (0))), (1, .long (x1))] := hl
  unfold w_X10_pass at h
  refine lv_lload_n hx hb dX10_pass_0 rfl (lv_at hl 1 rfl) ?_
  refine lv_lconst (v := (0 : Int64)) hx hb dX10_pass_1 (by decide) ?_
  refine W.lcmp hx hb dX10_pass_2 ?_
  refine lv_if_lt (tgt := 22) hx hb dX10_pass_3 (by decide) (fun c1 => ?_) (fun c1 => ?_)
  · have h := h.1 c1
    refine lv_iconst (v := (-1 : Int32)) hx hb dX10_pass_22 (by decide) ?_
    exact e_iret hx hb hr hlocks G h dX10_pass_23
  · have h := h.2 c1
    refine lv_lload_n hx hb dX10_pass_6 rfl (lv_at hl 1 rfl) ?_
    refine lv_ldc2 (v := (1000000000000 : Int64)) hx hb hown (hts (.constantLong RX10 153 (1000000000000)) (e_mem (n := 1) rfl)) dX10_pass_7 ?_
    refine lv_aload_n hx hb dX10_pass_10 rfl (lv_at hl 0 rfl) ?_
    refine e_getq hx hb hts in_X10_pass_X10 hown K G 0 (by decide) gl_0 rfl 2 (by decide) 5 rfl (hts (.fieldLink RX10 26 "StreetsStepOn" "book" "LStreetsStepOn$Book;") (e_mem (n := 2) rfl)) dX10_pass_11 ?_
    refine e_getlN hx hb hts in_X10_pass_X1 hown K G 5 (by decide) gl_5 rfl 7 (by decide) rfl (e_memq (n := 24) rfl) dX10_pass_14 ?_
    refine lv_lsub hx hb dX10_pass_17 ?_
    refine W.lcmp hx hb dX10_pass_18 ?_
    refine lv_if_le (tgt := 24) hx hb dX10_pass_19 (by decide) (fun c2 => ?_) (fun c2 => ?_)
    · have h := h.1 c2
      refine lv_aload_n hx hb dX10_pass_24 rfl (lv_at hl 0 rfl) ?_
      refine e_getq hx hb hts in_X10_pass_X10 hown K G 0 (by decide) gl_0 rfl 2 (by decide) 5 rfl (hts (.fieldLink RX10 26 "StreetsStepOn" "book" "LStreetsStepOn$Book;") (e_mem (n := 2) rfl)) dX10_pass_25 ?_
      refine lv_dup hx hb dX10_pass_28 rfl ?_
      refine e_getlN hx hb hts in_X10_pass_X1 hown K G 5 (by decide) gl_5 rfl 7 (by decide) rfl (e_memq (n := 24) rfl) dX10_pass_29 ?_
      refine lv_lload_n hx hb dX10_pass_32 rfl (lv_at hl 1 rfl) ?_
      refine lv_ladd hx hb dX10_pass_33 ?_
      refine e_putlN hx hb hts in_X10_pass_X1 tyX1 tyX1_ok nmX1 hown K G 5 (by decide) gl_5 rfl 7 (by decide) rfl (e_memq (n := 24) rfl) rfl rfl dX10_pass_34 (fun H locs G => ?_)
      obtain ⟨σ3, eσ3⟩ : ∃ z : eS, z = e_ul σ 5 7 ((σ.2.1 5 7) + x1) := ⟨_, rfl⟩
      rw [← eσ3] at G
      have h := h σ3 eσ3
      refine lv_aload_n hx hb dX10_pass_37 rfl (lv_at hl 0 rfl) ?_
      refine lv_aload_n hx hb dX10_pass_38 rfl (lv_at hl 0 rfl) ?_
      refine e_getq hx hb hts in_X10_pass_X10 hown K G 0 (by decide) gl_0 rfl 2 (by decide) 5 rfl (hts (.fieldLink RX10 26 "StreetsStepOn" "book" "LStreetsStepOn$Book;") (e_mem (n := 2) rfl)) dX10_pass_39 ?_
      refine e_getlN hx hb hts in_X10_pass_X1 hown K G 5 (by decide) gl_5 rfl 7 (by decide) rfl (e_memq (n := 24) rfl) dX10_pass_42 ?_
      refine e_callVi (As := [.long (σ3.2.1 5 7)]) (rest := []) ⟨hx, hb, hml, hown, hts⟩ K G 0 (by decide) gl_0 rfl (c_X10_orderBehind h) (cwV 1 hts gX10_pass_X10_orderBehind rfl rfl rfl (by decide +kernel) ⟨Nat.le_of_ble_eq_true rfl, Nat.le_of_ble_eq_true rfl⟩) rfl hl.1 rfl (Nat.le_of_ble_eq_true rfl) dX10_pass_45 ⟨Nat.zero_le _, Nat.zero_le _⟩ (fun r5 σ4 H locs h G => ?_)
      exact e_iret hx hb hr hlocks G h dX10_pass_48
    · have h := h.2 c2
      refine lv_iconst (v := (-1 : Int32)) hx hb dX10_pass_22 (by decide) ?_
      exact e_iret hx hb hr hlocks G h dX10_pass_23
abbrev rm_X11_week : Room := { frames := 0, cells := 0, slots := 0, locals := 0 }
theorem in_X11_week_X11 : ∀ w ∈ wsX110, w ∈ wsX11_week := fun w h => List.mem_cons_of_mem _ (List.mem_append_right _ h)
def w_X11_week (σ : eS) (x1 : Int64) (post : Int32 → eS → Prop) : Prop := ((¬ (σ.1 97 4) = 0 → (¬ ((σ.1 97 4).toInt64) = 0) ∧ post ((x1 - x1 / ((σ.1 97 4).toInt64) * ((σ.1 97 4).toInt64)).toInt32) σ) ∧ ((σ.1 97 4) = 0 → post (0 : Int32) σ))
set_option maxHeartbeats 4000000 in
set_option maxRecDepth 100000 in
theorem c_X11_week {l : Launch} {D : va_G} {ρ : Nat → Nat} {κ : Nat → ClassId} {base : Nat} {σ : eS} {x1 : Int64} {post : Int32 → eS → Prop} (h : w_X11_week σ x1 post) : gMi l yX11_week wsX11_week rm_X11_week D ρ κ base [.ref (ρ (97)), .long (x1)] σ post := by
  refine e_ofWi (cc := cX11_week) (maxL := 3) (ret := (some .int)) (by decide) rfl (Nat.le_of_ble_eq_true rfl) ?_
  intro p e s m below meth c ls C K G hl
  obtain ⟨hx, hb, hml, hown, hts, hr, hlocks⟩ := id C
  have hl : lv_has ls 3 [(0, .ref (ρ (97))), (1, .long (x1))] := hl
  unfold w_X11_week at h
  refine lv_aload_n hx hb dX11_week_0 rfl (lv_at hl 0 rfl) ?_
  refine e_geti hx hb hts in_X11_week_X11 hown K G 97 (by decide) gl_97 rfl 4 (by decide) rfl (hts (.fieldLink RX11 111 "StreetsStepOnModel" "orders" "I") (e_mem (n := 1) rfl)) dX11_week_1 ?_
  refine lv_if_ne (tgt := 11) hx hb dX11_week_4 (by decide) (fun c1 => ?_) (fun c1 => ?_)
  · have h := h.1 c1
    refine lv_lload_n hx hb dX11_week_11 rfl (lv_at hl 1 rfl) ?_
    refine lv_aload_n hx hb dX11_week_12 rfl (lv_at hl 0 rfl) ?_
    refine e_geti hx hb hts in_X11_week_X11 hown K G 97 (by decide) gl_97 rfl 4 (by decide) rfl (hts (.fieldLink RX11 111 "StreetsStepOnModel" "orders" "I") (e_mem (n := 1) rfl)) dX11_week_13 ?_
    refine lv_i2l hx hb dX11_week_16 rfl ?_
    have hn2 := h.1
    have h := h.2
    refine lv_lrem hx hb dX11_week_17 hn2 ?_
    refine lv_l2i hx hb dX11_week_18 rfl ?_
    exact e_iret hx hb hr hlocks G h dX11_week_19
  · have h := h.2 c1
    refine lv_iconst (v := (0 : Int32)) hx hb dX11_week_7 (by decide) ?_
    refine lv_goto (tgt := 19) hx hb dX11_week_8 (by decide) ?_
    exact e_iret hx hb hr hlocks G h dX11_week_19
abbrev rm_X11_pass : Room := { frames := 1, cells := 0, slots := 0, locals := 25 }
theorem in_X11_pass_X11 : ∀ w ∈ wsX110, w ∈ wsX11_pass := fun w h => List.mem_cons_of_mem _ (List.mem_append_right _ h)
def w_X11_pass (σ : eS) (x1 : Int64) (post : Int32 → eS → Prop) : Prop := ∀ σ1 : eS, σ1 = e_ui σ 97 18 (0 : Int32) → w_X11_in σ1 x1 (0 : Int64) (1000000000000 : Int64) (fun r3 σ2 => ((r3 = 0 → post (-1 : Int32) σ2) ∧ (¬ (r3 = 0) → (((lg_cmp ((σ2.2.1 97 6) + x1) (1000000000000 : Int64)) ≤ 0 → ∀ σ6 : eS, σ6 = e_ul σ2 97 6 ((σ2.2.1 97 6) + x1) → w_X11_week σ6 (σ6.2.1 97 6) (fun r8 σ7 => post r8 σ7)) ∧ (¬ ((lg_cmp ((σ2.2.1 97 6) + x1) (1000000000000 : Int64)) ≤ 0) → post (-1 : Int32) σ2)))))
set_option maxHeartbeats 4000000 in
set_option maxRecDepth 100000 in
theorem c_X11_pass {l : Launch} {D : va_G} {ρ : Nat → Nat} {κ : Nat → ClassId} {base : Nat} {σ : eS} {x1 : Int64} {post : Int32 → eS → Prop} (h : w_X11_pass σ x1 post) : gMi l yX11_pass wsX11_pass rm_X11_pass D ρ κ base [.ref (ρ (97)), .long (x1)] σ post := by
  refine e_ofWi (cc := cX11_pass) (maxL := 3) (ret := (some .int)) (by decide) rfl (Nat.le_of_ble_eq_true rfl) ?_
  intro p e s m below meth c ls C K G hl
  obtain ⟨hx, hb, hml, hown, hts, hr, hlocks⟩ := id C
  have hl : lv_has ls 3 [(0, .ref (ρ (97))), (1, .long (x1))] := hl
  unfold w_X11_pass at h
  refine lv_aload_n hx hb dX11_pass_0 rfl (lv_at hl 0 rfl) ?_
  refine lv_iconst (v := (0 : Int32)) hx hb dX11_pass_1 (by decide) ?_
  refine e_puti hx hb hts in_X11_pass_X11 tyX11 tyX11_ok nmX11 hown K G 97 (by decide) gl_97 rfl 18 (by decide) rfl (hts (.fieldLink RX11 98 "StreetsStepOnModel" "thrown" "I") (e_mem (n := 1) rfl)) rfl (tyX11_ok 18 (by decide)) rfl rfl dX11_pass_2 (fun H locs G => ?_)
  obtain ⟨σ1, eσ1⟩ : ∃ z : eS, z = e_ui σ 97 18 (0 : Int32) := ⟨_, rfl⟩
  rw [← eσ1] at G
  have h := h σ1 eσ1
  refine lv_lload_n hx hb dX11_pass_5 rfl (lv_at hl 1 rfl) ?_
  refine lv_lconst (v := (0 : Int64)) hx hb dX11_pass_6 (by decide) ?_
  refine lv_ldc2 (v := (1000000000000 : Int64)) hx hb hown (hts (.constantLong RX11 119 (1000000000000)) (e_mem (n := 2) rfl)) dX11_pass_7 ?_
  refine e_callSi (As := [.long (x1), .long ((0 : Int64)), .long ((1000000000000 : Int64))]) (rest := []) ⟨hx, hb, hml, hown, hts⟩ K G (c_X11_in h) (va_cwS 3 hts gX11_pass_X11_in rfl rfl rfl (by decide +kernel) ⟨Nat.le_of_ble_eq_true rfl, Nat.le_of_ble_eq_true rfl⟩) rfl hl.1 rfl (Nat.le_of_ble_eq_true rfl) dX11_pass_10 ⟨Nat.zero_le _, Nat.zero_le _⟩ (fun r3 σ2 H locs h G => ?_)
  refine lv_if_eq (tgt := 29) hx hb dX11_pass_13 (by decide) (fun c4 => ?_) (fun c4 => ?_)
  · have h := h.1 c4
    refine lv_iconst (v := (-1 : Int32)) hx hb dX11_pass_29 (by decide) ?_
    exact e_iret hx hb hr hlocks G h dX11_pass_30
  · have h := h.2 c4
    refine lv_aload_n hx hb dX11_pass_16 rfl (lv_at hl 0 rfl) ?_
    refine e_getl hx hb hts in_X11_pass_X11 hown K G 97 (by decide) gl_97 rfl 6 (by decide) rfl (hts (.fieldLink RX11 197 "StreetsStepOnModel" "today" "J") (e_mem (n := 3) rfl)) dX11_pass_17 ?_
    refine lv_lload_n hx hb dX11_pass_20 rfl (lv_at hl 1 rfl) ?_
    refine lv_ladd hx hb dX11_pass_21 ?_
    refine lv_ldc2 (v := (1000000000000 : Int64)) hx hb hown (hts (.constantLong RX11 119 (1000000000000)) (e_mem (n := 2) rfl)) dX11_pass_22 ?_
    refine W.lcmp hx hb dX11_pass_25 ?_
    refine lv_if_le (tgt := 31) hx hb dX11_pass_26 (by decide) (fun c5 => ?_) (fun c5 => ?_)
    · have h := h.1 c5
      refine lv_aload_n hx hb dX11_pass_31 rfl (lv_at hl 0 rfl) ?_
      refine lv_dup hx hb dX11_pass_32 rfl ?_
      refine e_getl hx hb hts in_X11_pass_X11 hown K G 97 (by decide) gl_97 rfl 6 (by decide) rfl (hts (.fieldLink RX11 197 "StreetsStepOnModel" "today" "J") (e_mem (n := 3) rfl)) dX11_pass_33 ?_
      refine lv_lload_n hx hb dX11_pass_36 rfl (lv_at hl 1 rfl) ?_
      refine lv_ladd hx hb dX11_pass_37 ?_
      refine e_putl hx hb hts in_X11_pass_X11 tyX11 tyX11_ok nmX11 hown K G 97 (by decide) gl_97 rfl 6 (by decide) rfl (hts (.fieldLink RX11 197 "StreetsStepOnModel" "today" "J") (e_mem (n := 3) rfl)) rfl rfl dX11_pass_38 (fun H locs G => ?_)
      obtain ⟨σ6, eσ6⟩ : ∃ z : eS, z = e_ul σ2 97 6 ((σ2.2.1 97 6) + x1) := ⟨_, rfl⟩
      rw [← eσ6] at G
      have h := h σ6 eσ6
      refine lv_aload_n hx hb dX11_pass_41 rfl (lv_at hl 0 rfl) ?_
      refine lv_aload_n hx hb dX11_pass_42 rfl (lv_at hl 0 rfl) ?_
      refine e_getl hx hb hts in_X11_pass_X11 hown K G 97 (by decide) gl_97 rfl 6 (by decide) rfl (hts (.fieldLink RX11 197 "StreetsStepOnModel" "today" "J") (e_mem (n := 3) rfl)) dX11_pass_43 ?_
      refine e_callVi (As := [.long (σ6.2.1 97 6)]) (rest := []) ⟨hx, hb, hml, hown, hts⟩ K G 97 (by decide) gl_97 rfl (c_X11_week h) (cwV 1 hts gX11_pass_X11_week rfl rfl rfl (by decide +kernel) ⟨Nat.le_of_ble_eq_true rfl, Nat.le_of_ble_eq_true rfl⟩) rfl hl.1 rfl (Nat.le_of_ble_eq_true rfl) dX11_pass_46 ⟨Nat.zero_le _, Nat.zero_le _⟩ (fun r8 σ7 H locs h G => ?_)
      exact e_iret hx hb hr hlocks G h dX11_pass_49
    · have h := h.2 c5
      refine lv_iconst (v := (-1 : Int32)) hx hb dX11_pass_29 (by decide) ?_
      exact e_iret hx hb hr hlocks G h dX11_pass_30
abbrev rm_X10_isDay : Room := { frames := 0, cells := 0, slots := 0, locals := 0 }
def w_X10_isDay (σ : eS) (x0 : Int64) (post : Int32 → eS → Prop) : Prop := (((lg_cmp x0 (0 : Int64)) < 0 → ((narrow .boolean (.int (0 : Int32)) = .int (0 : Int32)) ∧ post (0 : Int32) σ)) ∧ (¬ ((lg_cmp x0 (0 : Int64)) < 0) → ((0 < (lg_cmp x0 (1000000000000 : Int64)) → ((narrow .boolean (.int (0 : Int32)) = .int (0 : Int32)) ∧ post (0 : Int32) σ)) ∧ (¬ (0 < (lg_cmp x0 (1000000000000 : Int64))) → ((narrow .boolean (.int (1 : Int32)) = .int (1 : Int32)) ∧ post (1 : Int32) σ)))))
set_option maxHeartbeats 4000000 in
set_option maxRecDepth 100000 in
theorem c_X10_isDay {l : Launch} {D : va_G} {ρ : Nat → Nat} {κ : Nat → ClassId} {base : Nat} {σ : eS} {x0 : Int64} {post : Int32 → eS → Prop} (h : w_X10_isDay σ x0 post) : gMi l yX10_isDay wsX10_isDay rm_X10_isDay D ρ κ base [.long (x0)] σ post := by
  refine e_ofWi (cc := cX10_isDay) (maxL := 2) (ret := (some .boolean)) (by decide) rfl (Nat.le_of_ble_eq_true rfl) ?_
  intro p e s m below meth c ls C K G hl
  obtain ⟨hx, hb, hml, hown, hts, hr, hlocks⟩ := id C
  have hl : lv_has ls 2 [(0, .long (x0))] := hl
  unfold w_X10_isDay at h
  refine lv_lload_n hx hb dX10_isDay_0 rfl (lv_at hl 0 rfl) ?_
  refine lv_lconst (v := (0 : Int64)) hx hb dX10_isDay_1 (by decide) ?_
  refine W.lcmp hx hb dX10_isDay_2 ?_
  refine lv_if_lt (tgt := 18) hx hb dX10_isDay_3 (by decide) (fun c1 => ?_) (fun c1 => ?_)
  · have h := h.1 c1
    refine lv_iconst (v := (0 : Int32)) hx hb dX10_isDay_18 (by decide) ?_
    exact e_zret hx hb hr hlocks G h.1 h.2 dX10_isDay_19
  · have h := h.2 c1
    refine lv_lload_n hx hb dX10_isDay_6 rfl (lv_at hl 0 rfl) ?_
    refine lv_ldc2 (v := (1000000000000 : Int64)) hx hb hown (hts (.constantLong RX10 153 (1000000000000)) (e_mem (n := 1) rfl)) dX10_isDay_7 ?_
    refine W.lcmp hx hb dX10_isDay_10 ?_
    refine lv_if_gt (tgt := 18) hx hb dX10_isDay_11 (by decide) (fun c2 => ?_) (fun c2 => ?_)
    · have h := h.1 c2
      refine lv_iconst (v := (0 : Int32)) hx hb dX10_isDay_18 (by decide) ?_
      exact e_zret hx hb hr hlocks G h.1 h.2 dX10_isDay_19
    · have h := h.2 c2
      refine lv_iconst (v := (1 : Int32)) hx hb dX10_isDay_14 (by decide) ?_
      refine lv_goto (tgt := 19) hx hb dX10_isDay_15 (by decide) ?_
      exact e_zret hx hb hr hlocks G h.1 h.2 dX10_isDay_19
abbrev rm_X10_name : Room := { frames := 1, cells := 0, slots := 0, locals := 21 }
theorem in_X10_name_X10 : ∀ w ∈ wsX100, w ∈ wsX10_name := fun w h => List.mem_cons_of_mem _ (List.mem_append_left _ (List.mem_append_left _ (List.mem_append_right _ h)))
def w_X10_name (σ : eS) (x1 : Int32) (x2 : Int64) (post : Int32 → eS → Prop) : Prop := w_X10_isStreet σ x1 (fun r2 σ1 => ((r2 = 0 → post (-1 : Int32) σ1) ∧ (¬ (r2 = 0) → w_X10_isDay σ1 x2 (fun r5 σ4 => ((¬ r5 = 0 → False) ∧ (r5 = 0 → post (-1 : Int32) σ4))))))
set_option maxHeartbeats 4000000 in
set_option maxRecDepth 100000 in
theorem c_X10_name {l : Launch} {D : va_G} {ρ : Nat → Nat} {κ : Nat → ClassId} {base : Nat} {σ : eS} {x1 : Int32} {x2 : Int64} {post : Int32 → eS → Prop} (h : w_X10_name σ x1 x2 post) : gMi l yX10_name wsX10_name rm_X10_name D ρ κ base [.ref (ρ (0)), .int (x1), .long (x2)] σ post := by
  refine e_ofWi (cc := cX10_name) (maxL := 4) (ret := (some .int)) (by decide) rfl (Nat.le_of_ble_eq_true rfl) ?_
  intro p e s m below meth c ls C K G hl
  obtain ⟨hx, hb, hml, hown, hts, hr, hlocks⟩ := id C
  have hl : lv_has ls 4 [(0, .ref (ρ (0))), (1, .int (x1)), (2, .long (x2))] := hl
  unfold w_X10_name at h
  refine lv_aload_n hx hb dX10_name_0 rfl (lv_at hl 0 rfl) ?_
  refine lv_iload_n hx hb dX10_name_1 rfl (lv_at hl 1 rfl) ?_
  refine e_callVi (As := [.int (x1)]) (rest := []) ⟨hx, hb, hml, hown, hts⟩ K G 0 (by decide) gl_0 rfl (c_X10_isStreet h) (cwV 1 hts gX10_name_X10_isStreet rfl rfl rfl (by decide +kernel) ⟨Nat.le_of_ble_eq_true rfl, Nat.le_of_ble_eq_true rfl⟩) rfl hl.1 rfl (Nat.le_of_ble_eq_true rfl) dX10_name_2 ⟨Nat.zero_le _, Nat.zero_le _⟩ (fun r2 σ1 H locs h G => ?_)
  refine lv_if_eq (tgt := 15) hx hb dX10_name_5 (by decide) (fun c3 => ?_) (fun c3 => ?_)
  · have h := h.1 c3
    refine lv_iconst (v := (-1 : Int32)) hx hb dX10_name_15 (by decide) ?_
    exact e_iret hx hb hr hlocks G h dX10_name_16
  · have h := h.2 c3
    refine lv_lload_n hx hb dX10_name_8 rfl (lv_at hl 2 rfl) ?_
    refine e_callSi (As := [.long (x2)]) (rest := []) ⟨hx, hb, hml, hown, hts⟩ K G (c_X10_isDay h) (va_cwS 1 hts gX10_name_X10_isDay rfl rfl rfl (by decide +kernel) ⟨Nat.le_of_ble_eq_true rfl, Nat.le_of_ble_eq_true rfl⟩) rfl hl.1 rfl (Nat.le_of_ble_eq_true rfl) dX10_name_9 ⟨Nat.zero_le _, Nat.zero_le _⟩ (fun r5 σ4 H locs h G => ?_)
    refine lv_if_ne (tgt := 17) hx hb dX10_name_12 (by decide) (fun c6 => ?_) (fun c6 => ?_)
    · have h := h.1 c6
      refine lv_aload_n hx hb dX10_name_17 rfl (lv_at hl 0 rfl) ?_
      refine e_getq hx hb hts in_X10_name_X10 hown K G 0 (by decide) gl_0 rfl 5 (by decide) 32 rfl (hts (.fieldLink RX10 44 "StreetsStepOn" "almanac" "LStreetsStepOn$Almanac;") (e_mem (n := 1) rfl)) dX10_name_18 ?_
      refine lv_iload_n hx hb dX10_name_21 rfl (lv_at hl 1 rfl) ?_
      refine lv_lload_n hx hb dX10_name_22 rfl (lv_at hl 2 rfl) ?_
      exact h.elim
    · have h := h.2 c6
      refine lv_iconst (v := (-1 : Int32)) hx hb dX10_name_15 (by decide) ?_
      exact e_iret hx hb hr hlocks G h dX10_name_16
abbrev rm_X11_isDay : Room := { frames := 1, cells := 0, slots := 0, locals := 25 }
def w_X11_isDay (σ : eS) (x0 : Int64) (post : Int32 → eS → Prop) : Prop := w_X11_in σ x0 (0 : Int64) (1000000000000 : Int64) (fun r2 σ1 => ((narrow .boolean (.int r2) = .int r2) ∧ post r2 σ1))
set_option maxHeartbeats 4000000 in
set_option maxRecDepth 100000 in
theorem c_X11_isDay {l : Launch} {D : va_G} {ρ : Nat → Nat} {κ : Nat → ClassId} {base : Nat} {σ : eS} {x0 : Int64} {post : Int32 → eS → Prop} (h : w_X11_isDay σ x0 post) : gMi l yX11_isDay wsX11_isDay rm_X11_isDay D ρ κ base [.long (x0)] σ post := by
  refine e_ofWi (cc := cX11_isDay) (maxL := 2) (ret := (some .boolean)) (by decide) rfl (Nat.le_of_ble_eq_true rfl) ?_
  intro p e s m below meth c ls C K G hl
  obtain ⟨hx, hb, hml, hown, hts, hr, hlocks⟩ := id C
  have hl : lv_has ls 2 [(0, .long (x0))] := hl
  unfold w_X11_isDay at h
  refine lv_lload_n hx hb dX11_isDay_0 rfl (lv_at hl 0 rfl) ?_
  refine lv_lconst (v := (0 : Int64)) hx hb dX11_isDay_1 (by decide) ?_
  refine lv_ldc2 (v := (1000000000000 : Int64)) hx hb hown (hts (.constantLong RX11 119 (1000000000000)) (e_mem (n := 1) rfl)) dX11_isDay_2 ?_
  refine e_callSi (As := [.long (x0), .long ((0 : Int64)), .long ((1000000000000 : Int64))]) (rest := []) ⟨hx, hb, hml, hown, hts⟩ K G (c_X11_in h) (va_cwS 3 hts gX11_isDay_X11_in rfl rfl rfl (by decide +kernel) ⟨Nat.le_of_ble_eq_true rfl, Nat.le_of_ble_eq_true rfl⟩) rfl hl.1 rfl (Nat.le_of_ble_eq_true rfl) dX11_isDay_5 ⟨Nat.zero_le _, Nat.zero_le _⟩ (fun r2 σ1 H locs h G => ?_)
  exact e_zret hx hb hr hlocks G h.1 h.2 dX11_isDay_8
abbrev rm_X11_name : Room := { frames := 2, cells := 0, slots := 0, locals := 46 }
theorem in_X11_name_X11 : ∀ w ∈ wsX110, w ∈ wsX11_name := fun w h => List.mem_cons_of_mem _ (List.mem_append_right _ h)
def w_X11_name (σ : eS) (x1 : Int32) (x2 : Int64) (post : Int32 → eS → Prop) : Prop := ∀ σ1 : eS, σ1 = e_ui σ 97 18 (0 : Int32) → w_X11_isStreet σ1 x1 (fun r3 σ2 => ((r3 = 0 → post (-1 : Int32) σ2) ∧ (¬ (r3 = 0) → w_X11_isDay σ2 x2 (fun r6 σ5 => ((r6 = 0 → post (-1 : Int32) σ5) ∧ (¬ (r6 = 0) → False))))))
set_option maxHeartbeats 4000000 in
set_option maxRecDepth 100000 in
theorem c_X11_name {l : Launch} {D : va_G} {ρ : Nat → Nat} {κ : Nat → ClassId} {base : Nat} {σ : eS} {x1 : Int32} {x2 : Int64} {post : Int32 → eS → Prop} (h : w_X11_name σ x1 x2 post) : gMi l yX11_name wsX11_name rm_X11_name D ρ κ base [.ref (ρ (97)), .int (x1), .long (x2)] σ post := by
  refine e_ofWi (cc := cX11_name) (maxL := 4) (ret := (some .int)) (by decide) rfl (Nat.le_of_ble_eq_true rfl) ?_
  intro p e s m below meth c ls C K G hl
  obtain ⟨hx, hb, hml, hown, hts, hr, hlocks⟩ := id C
  have hl : lv_has ls 4 [(0, .ref (ρ (97))), (1, .int (x1)), (2, .long (x2))] := hl
  unfold w_X11_name at h
  refine lv_aload_n hx hb dX11_name_0 rfl (lv_at hl 0 rfl) ?_
  refine lv_iconst (v := (0 : Int32)) hx hb dX11_name_1 (by decide) ?_
  refine e_puti hx hb hts in_X11_name_X11 tyX11 tyX11_ok nmX11 hown K G 97 (by decide) gl_97 rfl 18 (by decide) rfl (hts (.fieldLink RX11 98 "StreetsStepOnModel" "thrown" "I") (e_mem (n := 1) rfl)) rfl (tyX11_ok 18 (by decide)) rfl rfl dX11_name_2 (fun H locs G => ?_)
  obtain ⟨σ1, eσ1⟩ : ∃ z : eS, z = e_ui σ 97 18 (0 : Int32) := ⟨_, rfl⟩
  rw [← eσ1] at G
  have h := h σ1 eσ1
  refine lv_aload_n hx hb dX11_name_5 rfl (lv_at hl 0 rfl) ?_
  refine lv_iload_n hx hb dX11_name_6 rfl (lv_at hl 1 rfl) ?_
  refine e_callVi (As := [.int (x1)]) (rest := []) ⟨hx, hb, hml, hown, hts⟩ K G 97 (by decide) gl_97 rfl (c_X11_isStreet h) (cwV 1 hts gX11_name_X11_isStreet rfl rfl rfl (by decide +kernel) ⟨Nat.le_of_ble_eq_true rfl, Nat.le_of_ble_eq_true rfl⟩) rfl hl.1 rfl (Nat.le_of_ble_eq_true rfl) dX11_name_7 ⟨Nat.zero_le _, Nat.zero_le _⟩ (fun r3 σ2 H locs h G => ?_)
  refine lv_if_eq (tgt := 29) hx hb dX11_name_10 (by decide) (fun c4 => ?_) (fun c4 => ?_)
  · have h := h.1 c4
    refine lv_iconst (v := (-1 : Int32)) hx hb dX11_name_29 (by decide) ?_
    exact e_iret hx hb hr hlocks G h dX11_name_30
  · have h := h.2 c4
    refine lv_lload_n hx hb dX11_name_13 rfl (lv_at hl 2 rfl) ?_
    refine e_callSi (As := [.long (x2)]) (rest := []) ⟨hx, hb, hml, hown, hts⟩ K G (c_X11_isDay h) (va_cwS 1 hts gX11_name_X11_isDay rfl rfl rfl (by decide +kernel) ⟨Nat.le_of_ble_eq_true rfl, Nat.le_of_ble_eq_true rfl⟩) rfl hl.1 rfl (Nat.le_of_ble_eq_true rfl) dX11_name_14 ⟨Nat.zero_le _, Nat.zero_le _⟩ (fun r6 σ5 H locs h G => ?_)
    refine lv_if_eq (tgt := 29) hx hb dX11_name_17 (by decide) (fun c7 => ?_) (fun c7 => ?_)
    · have h := h.1 c7
      refine lv_iconst (v := (-1 : Int32)) hx hb dX11_name_29 (by decide) ?_
      exact e_iret hx hb hr hlocks G h dX11_name_30
    · have h := h.2 c7
      refine lv_aload_n hx hb dX11_name_20 rfl (lv_at hl 0 rfl) ?_
      refine lv_iload_n hx hb dX11_name_21 rfl (lv_at hl 1 rfl) ?_
      refine lv_lload_n hx hb dX11_name_22 rfl (lv_at hl 2 rfl) ?_
      exact h.elim
abbrev rm_X10_where : Room := { frames := 1, cells := 0, slots := 0, locals := 21 }
theorem in_X10_where_X10 : ∀ w ∈ wsX100, w ∈ wsX10_where := fun w h => List.mem_cons_of_mem _ (List.mem_append_left _ (List.mem_append_left _ (List.mem_append_right _ h)))
def w_X10_where (σ : eS) (x1 : Int32) (x2 : Int64) (post : Int32 → eS → Prop) : Prop := w_X10_isStreet σ x1 (fun r2 σ1 => ((r2 = 0 → post (-1 : Int32) σ1) ∧ (¬ (r2 = 0) → w_X10_isDay σ1 x2 (fun r5 σ4 => ((¬ r5 = 0 → False) ∧ (r5 = 0 → post (-1 : Int32) σ4))))))
set_option maxHeartbeats 4000000 in
set_option maxRecDepth 100000 in
theorem c_X10_where {l : Launch} {D : va_G} {ρ : Nat → Nat} {κ : Nat → ClassId} {base : Nat} {σ : eS} {x1 : Int32} {x2 : Int64} {post : Int32 → eS → Prop} (h : w_X10_where σ x1 x2 post) : gMi l yX10_where wsX10_where rm_X10_where D ρ κ base [.ref (ρ (0)), .int (x1), .long (x2)] σ post := by
  refine e_ofWi (cc := cX10_where) (maxL := 4) (ret := (some .int)) (by decide) rfl (Nat.le_of_ble_eq_true rfl) ?_
  intro p e s m below meth c ls C K G hl
  obtain ⟨hx, hb, hml, hown, hts, hr, hlocks⟩ := id C
  have hl : lv_has ls 4 [(0, .ref (ρ (0))), (1, .int (x1)), (2, .long (x2))] := hl
  unfold w_X10_where at h
  refine lv_aload_n hx hb dX10_where_0 rfl (lv_at hl 0 rfl) ?_
  refine lv_iload_n hx hb dX10_where_1 rfl (lv_at hl 1 rfl) ?_
  refine e_callVi (As := [.int (x1)]) (rest := []) ⟨hx, hb, hml, hown, hts⟩ K G 0 (by decide) gl_0 rfl (c_X10_isStreet h) (cwV 1 hts gX10_where_X10_isStreet rfl rfl rfl (by decide +kernel) ⟨Nat.le_of_ble_eq_true rfl, Nat.le_of_ble_eq_true rfl⟩) rfl hl.1 rfl (Nat.le_of_ble_eq_true rfl) dX10_where_2 ⟨Nat.zero_le _, Nat.zero_le _⟩ (fun r2 σ1 H locs h G => ?_)
  refine lv_if_eq (tgt := 15) hx hb dX10_where_5 (by decide) (fun c3 => ?_) (fun c3 => ?_)
  · have h := h.1 c3
    refine lv_iconst (v := (-1 : Int32)) hx hb dX10_where_15 (by decide) ?_
    exact e_iret hx hb hr hlocks G h dX10_where_16
  · have h := h.2 c3
    refine lv_lload_n hx hb dX10_where_8 rfl (lv_at hl 2 rfl) ?_
    refine e_callSi (As := [.long (x2)]) (rest := []) ⟨hx, hb, hml, hown, hts⟩ K G (c_X10_isDay h) (va_cwS 1 hts gX10_where_X10_isDay rfl rfl rfl (by decide +kernel) ⟨Nat.le_of_ble_eq_true rfl, Nat.le_of_ble_eq_true rfl⟩) rfl hl.1 rfl (Nat.le_of_ble_eq_true rfl) dX10_where_9 ⟨Nat.zero_le _, Nat.zero_le _⟩ (fun r5 σ4 H locs h G => ?_)
    refine lv_if_ne (tgt := 17) hx hb dX10_where_12 (by decide) (fun c6 => ?_) (fun c6 => ?_)
    · have h := h.1 c6
      refine lv_aload_n hx hb dX10_where_17 rfl (lv_at hl 0 rfl) ?_
      refine e_getq hx hb hts in_X10_where_X10 hown K G 0 (by decide) gl_0 rfl 5 (by decide) 32 rfl (hts (.fieldLink RX10 44 "StreetsStepOn" "almanac" "LStreetsStepOn$Almanac;") (e_mem (n := 1) rfl)) dX10_where_18 ?_
      refine lv_iload_n hx hb dX10_where_21 rfl (lv_at hl 1 rfl) ?_
      refine lv_lload_n hx hb dX10_where_22 rfl (lv_at hl 2 rfl) ?_
      exact h.elim
    · have h := h.2 c6
      refine lv_iconst (v := (-1 : Int32)) hx hb dX10_where_15 (by decide) ?_
      exact e_iret hx hb hr hlocks G h dX10_where_16
abbrev rm_X11_layOut : Room := { frames := 0, cells := 0, slots := 0, locals := 0 }
theorem in_X11_layOut_X11 : ∀ w ∈ wsX110, w ∈ wsX11_layOut := fun w h => List.mem_cons_of_mem _ (List.mem_append_right _ h)
def b_X11_layOut_154 (post : eS → Prop) (K47 : eS → Int32 → Int32 → Int32 → Prop) (K82 : eS → Int32 → Int32 → Int32 → Int32 → Int32 → Prop) (σ : eS) (x1 : Int32) (x2 : Int32) (x4 : Int32) (x5 : Int32) (y0 : Int32) : Prop := ∀ v22 : Int32, v22 = (x5 + (1 : Int32)) → K82 σ x1 x2 y0 x4 v22
set_option maxHeartbeats 4000000 in
set_option maxRecDepth 100000 in
theorem l_X11_layOut_154 {p : Program} {l : Launch} {e : Env} {s : State} {m : MethodId} {args : Array Value} {below : List Frame} {meth : Method} {c : Code} {D : va_G} {ρ : Nat → Nat} {κ : Nat → ClassId} {base : Nat} {post : eS → Prop} (C : eCx p s m args meth c cX11_layOut RX11 6 none wsX11_layOut) (K : gK D ρ κ base s) {K47 : eS → Int32 → Int32 → Int32 → Prop} (hK47 : ∀ (σ : eS) (x1 : Int32) (x2 : Int32) (x3 : Int32) (H : Heap) (locs : List Loc) (ls : Array Slot), K47 σ x1 x2 x3 → gG D ρ κ base s σ H locs → lv_has ls 6 [(0, .ref (ρ (97))), (1, .int (x1)), (2, .int (x2)), (3, .int (x3))] → W p l e rm_X11_layOut s m args below meth c H locs 0 0 (gQv below args s D ρ κ base post) (F0 m 47 ls [])) {K82 : eS → Int32 → Int32 → Int32 → Int32 → Int32 → Prop} (hK82 : ∀ (σ : eS) (x1 : Int32) (x2 : Int32) (x3 : Int32) (x4 : Int32) (x5 : Int32) (H : Heap) (locs : List Loc) (ls : Array Slot), K82 σ x1 x2 x3 x4 x5 → gG D ρ κ base s σ H locs → lv_has ls 6 [(0, .ref (ρ (97))), (1, .int (x1)), (2, .int (x2)), (3, .int (x3)), (4, .int (x4)), (5, .int (x5))] → W p l e rm_X11_layOut s m args below meth c H locs 0 0 (gQv below args s D ρ κ base post) (F0 m 82 ls [])) : ∀ (σ : eS) (x1 : Int32) (x2 : Int32) (x4 : Int32) (x5 : Int32) (y0 : Int32) (H : Heap) (locs : List Loc) (ls : Array Slot), b_X11_layOut_154 post K47 K82 σ x1 x2 x4 x5 y0 → gG D ρ κ base s σ H locs → lv_has ls 6 [(0, .ref (ρ (97))), (1, .int (x1)), (2, .int (x2)), (4, .int (x4)), (5, .int (x5))] → W p l e rm_X11_layOut s m args below meth c H locs 0 0 (gQv below args s D ρ κ base post) (F0 m 154 ls [.int (y0)]) := by
  obtain ⟨hx, hb, hml, hown, hts, hr, hlocks⟩ := id C
  intro σ x1 x2 x4 x5 y0 H locs ls h G hl
  unfold b_X11_layOut_154 at h
  refine lv_istore_n (lv' := [(3, .int (y0)), (0, .ref (ρ (97))), (1, .int (x1)), (2, .int (x2)), (4, .int (x4)), (5, .int (x5))]) hx hb dX11_layOut_154 rfl hl (by decide) rfl (fun ls hl => ?_)
  obtain ⟨v22, ev22⟩ : ∃ y : Int32, y = x5 + (1 : Int32) := ⟨_, rfl⟩
  have h := h v22 ev22
  refine lv_iinc (v := v22) (lv' := [(5, .int (v22)), (3, .int (y0)), (0, .ref (ρ (97))), (1, .int (x1)), (2, .int (x2)), (4, .int (x4))]) hx hb dX11_layOut_155 hl (k := 5) rfl (by rw [ev22]; rfl) (by decide) rfl (fun ls hl => ?_)
  refine lv_goto (tgt := 82) hx hb dX11_layOut_158 (by decide) ?_
  exact hK82 σ x1 x2 y0 x4 v22 _ _ _  h G (lv_sub hl [2, 3, 4, 1, 5, 0] rfl)
def b_X11_layOut_153 (post : eS → Prop) (K47 : eS → Int32 → Int32 → Int32 → Prop) (K82 : eS → Int32 → Int32 → Int32 → Int32 → Int32 → Prop) (σ : eS) (x1 : Int32) (x2 : Int32) (x4 : Int32) (x5 : Int32) : Prop := b_X11_layOut_154 post K47 K82 σ x1 x2 x4 x5 (0 : Int32)
set_option maxHeartbeats 4000000 in
set_option maxRecDepth 100000 in
theorem l_X11_layOut_153 {p : Program} {l : Launch} {e : Env} {s : State} {m : MethodId} {args : Array Value} {below : List Frame} {meth : Method} {c : Code} {D : va_G} {ρ : Nat → Nat} {κ : Nat → ClassId} {base : Nat} {post : eS → Prop} (C : eCx p s m args meth c cX11_layOut RX11 6 none wsX11_layOut) (K : gK D ρ κ base s) {K47 : eS → Int32 → Int32 → Int32 → Prop} (hK47 : ∀ (σ : eS) (x1 : Int32) (x2 : Int32) (x3 : Int32) (H : Heap) (locs : List Loc) (ls : Array Slot), K47 σ x1 x2 x3 → gG D ρ κ base s σ H locs → lv_has ls 6 [(0, .ref (ρ (97))), (1, .int (x1)), (2, .int (x2)), (3, .int (x3))] → W p l e rm_X11_layOut s m args below meth c H locs 0 0 (gQv below args s D ρ κ base post) (F0 m 47 ls [])) {K82 : eS → Int32 → Int32 → Int32 → Int32 → Int32 → Prop} (hK82 : ∀ (σ : eS) (x1 : Int32) (x2 : Int32) (x3 : Int32) (x4 : Int32) (x5 : Int32) (H : Heap) (locs : List Loc) (ls : Array Slot), K82 σ x1 x2 x3 x4 x5 → gG D ρ κ base s σ H locs → lv_has ls 6 [(0, .ref (ρ (97))), (1, .int (x1)), (2, .int (x2)), (3, .int (x3)), (4, .int (x4)), (5, .int (x5))] → W p l e rm_X11_layOut s m args below meth c H locs 0 0 (gQv below args s D ρ κ base post) (F0 m 82 ls [])) : ∀ (σ : eS) (x1 : Int32) (x2 : Int32) (x4 : Int32) (x5 : Int32) (H : Heap) (locs : List Loc) (ls : Array Slot), b_X11_layOut_153 post K47 K82 σ x1 x2 x4 x5 → gG D ρ κ base s σ H locs → lv_has ls 6 [(0, .ref (ρ (97))), (1, .int (x1)), (2, .int (x2)), (4, .int (x4)), (5, .int (x5))] → W p l e rm_X11_layOut s m args below meth c H locs 0 0 (gQv below args s D ρ κ base post) (F0 m 153 ls []) := by
  obtain ⟨hx, hb, hml, hown, hts, hr, hlocks⟩ := id C
  intro σ x1 x2 x4 x5 H locs ls h G hl
  unfold b_X11_layOut_153 at h
  refine lv_iconst (v := (0 : Int32)) hx hb dX11_layOut_153 (by decide) ?_
  exact l_X11_layOut_154 C K (hK47 := hK47) (hK82 := hK82) σ x1 x2 x4 x5 (0 : Int32) _ _ _  h G (lv_sub hl [0, 1, 2, 3, 4] rfl)
def b_X11_layOut_82 (post : eS → Prop) (K47 : eS → Int32 → Int32 → Int32 → Prop) : Nat → eS → Int32 → Int32 → Int32 → Int32 → Int32 → Prop
  | 0, _, _, _, _, _, _ => False
  | n + 1, σ, x1, x2, x3, x4, x5 => (((σ.1 97 0) ≤ x5 → K47 σ x1 x2 x3) ∧ (¬ ((σ.1 97 0) ≤ x5) → (vp_in (((12 : Int32) * x4) + x5) 84) ∧ (vp_in (((12 : Int32) * (x2 - (1 : Int32))) + (σ.1 101 (((12 : Int32) * x4) + x5).toNatClampNeg)) 5052) ∧ (vp_in (((12 : Int32) * x2) + x5) 5052) ∧ ∀ σ20 : eS, σ20 = e_ui σ 110 (((12 : Int32) * x2) + x5).toNatClampNeg (σ.1 110 (((12 : Int32) * (x2 - (1 : Int32))) + (σ.1 101 (((12 : Int32) * x4) + x5).toNatClampNeg)).toNatClampNeg) → ((x3 = 0 → b_X11_layOut_153 post K47 (fun s x1 x2 x3 x4 x5 => b_X11_layOut_82 post K47 n s x1 x2 x3 x4 x5) σ20 x1 x2 x4 x5) ∧ (¬ (x3 = 0) → (vp_in (((12 : Int32) * x2) + x5) 5052) ∧ ((¬ (σ20.1 110 (((12 : Int32) * x2) + x5).toNatClampNeg) = x5 → b_X11_layOut_153 post K47 (fun s x1 x2 x3 x4 x5 => b_X11_layOut_82 post K47 n s x1 x2 x3 x4 x5) σ20 x1 x2 x4 x5) ∧ ((σ20.1 110 (((12 : Int32) * x2) + x5).toNatClampNeg) = x5 → b_X11_layOut_154 post K47 (fun s x1 x2 x3 x4 x5 => b_X11_layOut_82 post K47 n s x1 x2 x3 x4 x5) σ20 x1 x2 x4 x5 (1 : Int32)))))))
set_option maxHeartbeats 4000000 in
set_option maxRecDepth 100000 in
theorem l_X11_layOut_82 {p : Program} {l : Launch} {e : Env} {s : State} {m : MethodId} {args : Array Value} {below : List Frame} {meth : Method} {c : Code} {D : va_G} {ρ : Nat → Nat} {κ : Nat → ClassId} {base : Nat} {post : eS → Prop} (C : eCx p s m args meth c cX11_layOut RX11 6 none wsX11_layOut) (K : gK D ρ κ base s) {K47 : eS → Int32 → Int32 → Int32 → Prop} (hK47 : ∀ (σ : eS) (x1 : Int32) (x2 : Int32) (x3 : Int32) (H : Heap) (locs : List Loc) (ls : Array Slot), K47 σ x1 x2 x3 → gG D ρ κ base s σ H locs → lv_has ls 6 [(0, .ref (ρ (97))), (1, .int (x1)), (2, .int (x2)), (3, .int (x3))] → W p l e rm_X11_layOut s m args below meth c H locs 0 0 (gQv below args s D ρ κ base post) (F0 m 47 ls [])) : ∀ (n : Nat) (σ : eS) (x1 : Int32) (x2 : Int32) (x3 : Int32) (x4 : Int32) (x5 : Int32) (H : Heap) (locs : List Loc) (ls : Array Slot), b_X11_layOut_82 post K47 n σ x1 x2 x3 x4 x5 → gG D ρ κ base s σ H locs → lv_has ls 6 [(0, .ref (ρ (97))), (1, .int (x1)), (2, .int (x2)), (3, .int (x3)), (4, .int (x4)), (5, .int (x5))] → W p l e rm_X11_layOut s m args below meth c H locs 0 0 (gQv below args s D ρ κ base post) (F0 m 82 ls []) := by
  obtain ⟨hx, hb, hml, hown, hts, hr, hlocks⟩ := id C
  intro n
  induction n with
  | zero => intro σ x1 x2 x3 x4 x5 H locs ls h G hl; exact False.elim h
  | succ n ih =>
    intro σ x1 x2 x3 x4 x5 H locs ls h G hl
    rw [b_X11_layOut_82] at h
    refine lv_iload hx hb dX11_layOut_82 (lv_at hl 5 rfl) ?_
    refine lv_aload_n hx hb dX11_layOut_84 rfl (lv_at hl 0 rfl) ?_
    refine e_geti hx hb hts in_X11_layOut_X11 hown K G 97 (by decide) gl_97 rfl 0 (by decide) rfl (hts (.fieldLink RX11 104 "StreetsStepOnModel" "streets" "I") (e_mem (n := 1) rfl)) dX11_layOut_85 ?_
    refine lv_icmp_ge (tgt := 161) hx hb dX11_layOut_88 (by decide) (fun c16 => ?_) (fun c16 => ?_)
    · have h := h.1 c16
      refine lv_goto (tgt := 47) hx hb dX11_layOut_161 (by decide) ?_
      exact hK47 σ x1 x2 x3 _ _ _  h G (lv_sub hl [0, 1, 2, 3] rfl)
    · have h := h.2 c16
      refine lv_aload_n hx hb dX11_layOut_91 rfl (lv_at hl 0 rfl) ?_
      refine e_getq hx hb hts in_X11_layOut_X11 hown K G 97 (by decide) gl_97 rfl 25 (by decide) 110 rfl (hts (.fieldLink RX11 48 "StreetsStepOnModel" "named" "[I") (e_mem (n := 2) rfl)) dX11_layOut_92 ?_
      refine lv_bipush (v := (12 : Int32)) hx hb dX11_layOut_95 (by decide) ?_
      refine lv_iload_n hx hb dX11_layOut_97 rfl (lv_at hl 2 rfl) ?_
      refine lv_imul hx hb dX11_layOut_98 ?_
      refine lv_iload hx hb dX11_layOut_99 (lv_at hl 5 rfl) ?_
      refine lv_iadd hx hb dX11_layOut_101 ?_
      refine lv_aload_n hx hb dX11_layOut_102 rfl (lv_at hl 0 rfl) ?_
      refine e_getq hx hb hts in_X11_layOut_X11 hown K G 97 (by decide) gl_97 rfl 25 (by decide) 110 rfl (hts (.fieldLink RX11 48 "StreetsStepOnModel" "named" "[I") (e_mem (n := 2) rfl)) dX11_layOut_103 ?_
      refine lv_bipush (v := (12 : Int32)) hx hb dX11_layOut_106 (by decide) ?_
      refine lv_iload_n hx hb dX11_layOut_108 rfl (lv_at hl 2 rfl) ?_
      refine lv_iconst (v := (1 : Int32)) hx hb dX11_layOut_109 (by decide) ?_
      refine lv_isub hx hb dX11_layOut_110 ?_
      refine lv_imul hx hb dX11_layOut_111 ?_
      refine lv_aload_n hx hb dX11_layOut_112 rfl (lv_at hl 0 rfl) ?_
      refine e_getq hx hb hts in_X11_layOut_X11 hown K G 97 (by decide) gl_97 rfl 5 (by decide) 101 rfl (hts (.fieldLink RX11 19 "StreetsStepOnModel" "nexts" "[I") (e_mem (n := 5) rfl)) dX11_layOut_113 ?_
      refine lv_bipush (v := (12 : Int32)) hx hb dX11_layOut_116 (by decide) ?_
      refine lv_iload hx hb dX11_layOut_118 (lv_at hl 4 rfl) ?_
      refine lv_imul hx hb dX11_layOut_120 ?_
      refine lv_iload hx hb dX11_layOut_121 (lv_at hl 5 rfl) ?_
      refine lv_iadd hx hb dX11_layOut_123 ?_
      have hi17 := h.1
      have h := h.2
      refine e_iald hx hb K G 101 0 0 84 (by decide) gl_101 rfl hi17 dX11_layOut_124 ?_
      refine lv_iadd hx hb dX11_layOut_125 ?_
      have hi18 := h.1
      have h := h.2
      refine e_iald hx hb K G 110 0 0 5052 (by decide) gl_110 rfl hi18 dX11_layOut_126 ?_
      have hi19 := h.1
      have h := h.2
      refine e_iast hx hb K G 110 0 0 5052 (by decide) gl_110 rfl hi19 dX11_layOut_127 (fun H locs G => ?_)
      obtain ⟨σ20, eσ20⟩ : ∃ z : eS, z = e_ui σ 110 (((12 : Int32) * x2) + x5).toNatClampNeg (σ.1 110 (((12 : Int32) * (x2 - (1 : Int32))) + (σ.1 101 (((12 : Int32) * x4) + x5).toNatClampNeg)).toNatClampNeg) := ⟨_, rfl⟩
      rw [← eσ20] at G
      have h := h σ20 eσ20
      refine lv_iload_n hx hb dX11_layOut_128 rfl (lv_at hl 3 rfl) ?_
      refine lv_if_eq (tgt := 153) hx hb dX11_layOut_129 (by decide) (fun c21 => ?_) (fun c21 => ?_)
      · have h := h.1 c21
        exact l_X11_layOut_153 C K (hK47 := hK47) (hK82 := ih) σ20 x1 x2 x4 x5 _ _ _  h G (lv_sub hl [0, 1, 2, 4, 5] rfl)
      · have h := h.2 c21
        refine lv_aload_n hx hb dX11_layOut_132 rfl (lv_at hl 0 rfl) ?_
        refine e_getq hx hb hts in_X11_layOut_X11 hown K G 97 (by decide) gl_97 rfl 25 (by decide) 110 rfl (hts (.fieldLink RX11 48 "StreetsStepOnModel" "named" "[I") (e_mem (n := 2) rfl)) dX11_layOut_133 ?_
        refine lv_bipush (v := (12 : Int32)) hx hb dX11_layOut_136 (by decide) ?_
        refine lv_iload_n hx hb dX11_layOut_138 rfl (lv_at hl 2 rfl) ?_
        refine lv_imul hx hb dX11_layOut_139 ?_
        refine lv_iload hx hb dX11_layOut_140 (lv_at hl 5 rfl) ?_
        refine lv_iadd hx hb dX11_layOut_142 ?_
        have hi23 := h.1
        have h := h.2
        refine e_iald hx hb K G 110 0 0 5052 (by decide) gl_110 rfl hi23 dX11_layOut_143 ?_
        refine lv_iload hx hb dX11_layOut_144 (lv_at hl 5 rfl) ?_
        refine lv_icmp_ne (tgt := 153) hx hb dX11_layOut_146 (by decide) (fun c24 => ?_) (fun c24 => ?_)
        · have h := h.1 c24
          exact l_X11_layOut_153 C K (hK47 := hK47) (hK82 := ih) σ20 x1 x2 x4 x5 _ _ _  h G (lv_sub hl [0, 1, 2, 4, 5] rfl)
        · have h := h.2 c24
          refine lv_iconst (v := (1 : Int32)) hx hb dX11_layOut_149 (by decide) ?_
          refine lv_goto (tgt := 154) hx hb dX11_layOut_150 (by decide) ?_
          exact l_X11_layOut_154 C K (hK47 := hK47) (hK82 := ih) σ20 x1 x2 x4 x5 (1 : Int32) _ _ _  h G (lv_sub hl [0, 1, 2, 4, 5] rfl)
def b_X11_layOut_78 (post : eS → Prop) (K47 : eS → Int32 → Int32 → Int32 → Prop) (σ : eS) (x1 : Int32) (x2 : Int32) (x4 : Int32) (y0 : Int32) : Prop := ∀ v15 : Int32, v15 = (0 : Int32) → (∃ n25 : Nat, b_X11_layOut_82 post K47 n25 σ x1 x2 y0 x4 v15)
set_option maxHeartbeats 4000000 in
set_option maxRecDepth 100000 in
theorem l_X11_layOut_78 {p : Program} {l : Launch} {e : Env} {s : State} {m : MethodId} {args : Array Value} {below : List Frame} {meth : Method} {c : Code} {D : va_G} {ρ : Nat → Nat} {κ : Nat → ClassId} {base : Nat} {post : eS → Prop} (C : eCx p s m args meth c cX11_layOut RX11 6 none wsX11_layOut) (K : gK D ρ κ base s) {K47 : eS → Int32 → Int32 → Int32 → Prop} (hK47 : ∀ (σ : eS) (x1 : Int32) (x2 : Int32) (x3 : Int32) (H : Heap) (locs : List Loc) (ls : Array Slot), K47 σ x1 x2 x3 → gG D ρ κ base s σ H locs → lv_has ls 6 [(0, .ref (ρ (97))), (1, .int (x1)), (2, .int (x2)), (3, .int (x3))] → W p l e rm_X11_layOut s m args below meth c H locs 0 0 (gQv below args s D ρ κ base post) (F0 m 47 ls [])) : ∀ (σ : eS) (x1 : Int32) (x2 : Int32) (x4 : Int32) (y0 : Int32) (H : Heap) (locs : List Loc) (ls : Array Slot), b_X11_layOut_78 post K47 σ x1 x2 x4 y0 → gG D ρ κ base s σ H locs → lv_has ls 6 [(0, .ref (ρ (97))), (1, .int (x1)), (2, .int (x2)), (4, .int (x4))] → W p l e rm_X11_layOut s m args below meth c H locs 0 0 (gQv below args s D ρ κ base post) (F0 m 78 ls [.int (y0)]) := by
  obtain ⟨hx, hb, hml, hown, hts, hr, hlocks⟩ := id C
  intro σ x1 x2 x4 y0 H locs ls h G hl
  unfold b_X11_layOut_78 at h
  refine lv_istore_n (lv' := [(3, .int (y0)), (0, .ref (ρ (97))), (1, .int (x1)), (2, .int (x2)), (4, .int (x4))]) hx hb dX11_layOut_78 rfl hl (by decide) rfl (fun ls hl => ?_)
  refine lv_iconst (v := (0 : Int32)) hx hb dX11_layOut_79 (by decide) ?_
  refine lv_topi (fun v15 ev15 => ?_)
  have h := h v15 ev15
  refine lv_istore (lv' := [(5, .int (v15)), (3, .int (y0)), (0, .ref (ρ (97))), (1, .int (x1)), (2, .int (x2)), (4, .int (x4))]) hx hb dX11_layOut_80 hl (by decide) rfl (fun ls hl => ?_)
  obtain ⟨n25, h⟩ := h
  exact l_X11_layOut_82 C K (hK47 := hK47) n25 σ x1 x2 y0 x4 v15 _ _ _  h G (lv_sub hl [2, 3, 4, 1, 5, 0] rfl)
def b_X11_layOut_47 (post : eS → Prop) : Nat → eS → Int32 → Int32 → Int32 → Prop
  | 0, _, _, _, _ => False
  | n + 1, σ, x1, x2, x3 => ((¬ x3 = 0 → ∀ σ9 : eS, σ9 = e_ui σ 97 26 x2 → post σ9) ∧ (x3 = 0 → (¬ (σ.1 97 4) = 0) ∧ ∀ v11 : Int32, v11 = ((x2 + x1) - (x2 + x1) / (σ.1 97 4) * (σ.1 97 4)) → ∀ v12 : Int32, v12 = (x2 + (1 : Int32)) → (¬ (σ.1 97 4) = 0) ∧ ((¬ (v12 - v12 / (σ.1 97 4) * (σ.1 97 4)) = 0 → b_X11_layOut_78 post (fun s x1 x2 x3 => b_X11_layOut_47 post n s x1 x2 x3) σ x1 v12 v11 (0 : Int32)) ∧ ((v12 - v12 / (σ.1 97 4) * (σ.1 97 4)) = 0 → b_X11_layOut_78 post (fun s x1 x2 x3 => b_X11_layOut_47 post n s x1 x2 x3) σ x1 v12 v11 (1 : Int32)))))
set_option maxHeartbeats 4000000 in
set_option maxRecDepth 100000 in
theorem l_X11_layOut_47 {p : Program} {l : Launch} {e : Env} {s : State} {m : MethodId} {args : Array Value} {below : List Frame} {meth : Method} {c : Code} {D : va_G} {ρ : Nat → Nat} {κ : Nat → ClassId} {base : Nat} {post : eS → Prop} (C : eCx p s m args meth c cX11_layOut RX11 6 none wsX11_layOut) (K : gK D ρ κ base s) : ∀ (n : Nat) (σ : eS) (x1 : Int32) (x2 : Int32) (x3 : Int32) (H : Heap) (locs : List Loc) (ls : Array Slot), b_X11_layOut_47 post n σ x1 x2 x3 → gG D ρ κ base s σ H locs → lv_has ls 6 [(0, .ref (ρ (97))), (1, .int (x1)), (2, .int (x2)), (3, .int (x3))] → W p l e rm_X11_layOut s m args below meth c H locs 0 0 (gQv below args s D ρ κ base post) (F0 m 47 ls []) := by
  obtain ⟨hx, hb, hml, hown, hts, hr, hlocks⟩ := id C
  intro n
  induction n with
  | zero => intro σ x1 x2 x3 H locs ls h G hl; exact False.elim h
  | succ n ih =>
    intro σ x1 x2 x3 H locs ls h G hl
    rw [b_X11_layOut_47] at h
    refine lv_iload_n hx hb dX11_layOut_47 rfl (lv_at hl 3 rfl) ?_
    refine lv_if_ne (tgt := 164) hx hb dX11_layOut_48 (by decide) (fun c8 => ?_) (fun c8 => ?_)
    · have h := h.1 c8
      refine lv_aload_n hx hb dX11_layOut_164 rfl (lv_at hl 0 rfl) ?_
      refine lv_iload_n hx hb dX11_layOut_165 rfl (lv_at hl 2 rfl) ?_
      refine e_puti hx hb hts in_X11_layOut_X11 tyX11 tyX11_ok nmX11 hown K G 97 (by decide) gl_97 rfl 26 (by decide) rfl (hts (.fieldLink RX11 227 "StreetsStepOnModel" "round" "I") (e_mem (n := 3) rfl)) rfl (tyX11_ok 26 (by decide)) rfl rfl dX11_layOut_166 (fun H locs G => ?_)
      obtain ⟨σ9, eσ9⟩ : ∃ z : eS, z = e_ui σ 97 26 x2 := ⟨_, rfl⟩
      rw [← eσ9] at G
      have h := h σ9 eσ9
      exact e_vret hx hb hr hlocks G h dX11_layOut_169
    · have h := h.2 c8
      refine lv_iload_n hx hb dX11_layOut_51 rfl (lv_at hl 2 rfl) ?_
      refine lv_iload_n hx hb dX11_layOut_52 rfl (lv_at hl 1 rfl) ?_
      refine lv_iadd hx hb dX11_layOut_53 ?_
      refine lv_aload_n hx hb dX11_layOut_54 rfl (lv_at hl 0 rfl) ?_
      refine e_geti hx hb hts in_X11_layOut_X11 hown K G 97 (by decide) gl_97 rfl 4 (by decide) rfl (hts (.fieldLink RX11 111 "StreetsStepOnModel" "orders" "I") (e_mem (n := 4) rfl)) dX11_layOut_55 ?_
      have hn10 := h.1
      have h := h.2
      refine lv_irem hx hb dX11_layOut_58 hn10 ?_
      refine lv_topi (fun v11 ev11 => ?_)
      have h := h v11 ev11
      refine lv_istore (lv' := [(4, .int (v11)), (0, .ref (ρ (97))), (1, .int (x1)), (2, .int (x2)), (3, .int (x3))]) hx hb dX11_layOut_59 hl (by decide) rfl (fun ls hl => ?_)
      obtain ⟨v12, ev12⟩ : ∃ y : Int32, y = x2 + (1 : Int32) := ⟨_, rfl⟩
      have h := h v12 ev12
      refine lv_iinc (v := v12) (lv' := [(2, .int (v12)), (4, .int (v11)), (0, .ref (ρ (97))), (1, .int (x1)), (3, .int (x3))]) hx hb dX11_layOut_61 hl (k := 3) rfl (by rw [ev12]; rfl) (by decide) rfl (fun ls hl => ?_)
      refine lv_iload_n hx hb dX11_layOut_64 rfl (lv_at hl 0 rfl) ?_
      refine lv_aload_n hx hb dX11_layOut_65 rfl (lv_at hl 2 rfl) ?_
      refine e_geti hx hb hts in_X11_layOut_X11 hown K G 97 (by decide) gl_97 rfl 4 (by decide) rfl (hts (.fieldLink RX11 111 "StreetsStepOnModel" "orders" "I") (e_mem (n := 4) rfl)) dX11_layOut_66 ?_
      have hn13 := h.1
      have h := h.2
      refine lv_irem hx hb dX11_layOut_69 hn13 ?_
      refine lv_if_ne (tgt := 77) hx hb dX11_layOut_70 (by decide) (fun c14 => ?_) (fun c14 => ?_)
      · have h := h.1 c14
        refine lv_iconst (v := (0 : Int32)) hx hb dX11_layOut_77 (by decide) ?_
        exact l_X11_layOut_78 C K (hK47 := ih) σ x1 v12 v11 (0 : Int32) _ _ _  h G (lv_sub hl [2, 3, 0, 1] rfl)
      · have h := h.2 c14
        refine lv_iconst (v := (1 : Int32)) hx hb dX11_layOut_73 (by decide) ?_
        refine lv_goto (tgt := 78) hx hb dX11_layOut_74 (by decide) ?_
        exact l_X11_layOut_78 C K (hK47 := ih) σ x1 v12 v11 (1 : Int32) _ _ _  h G (lv_sub hl [2, 3, 0, 1] rfl)
def b_X11_layOut_2 (post : eS → Prop) : Nat → eS → Int32 → Int32 → Prop
  | 0, _, _, _ => False
  | n + 1, σ, x1, x2 => (((σ.1 97 0) ≤ x2 → ∀ σ3 : eS, σ3 = e_ui σ 97 26 (1 : Int32) → (((σ3.1 97 0) = 0 → post σ3) ∧ (¬ ((σ3.1 97 0) = 0) → ((¬ (σ3.1 97 4) = 0 → ∀ v6 : Int32, v6 = (0 : Int32) → ∀ v7 : Int32, v7 = (0 : Int32) → (∃ n26 : Nat, b_X11_layOut_47 post n26 σ3 x1 v6 v7)) ∧ ((σ3.1 97 4) = 0 → post σ3))))) ∧ (¬ ((σ.1 97 0) ≤ x2) → (vp_in x2 5052) ∧ ∀ σ28 : eS, σ28 = e_ui σ 110 x2.toNatClampNeg x2 → ∀ v29 : Int32, v29 = (x2 + (1 : Int32)) → b_X11_layOut_2 post n σ28 x1 v29))
set_option maxHeartbeats 4000000 in
set_option maxRecDepth 100000 in
theorem l_X11_layOut_2 {p : Program} {l : Launch} {e : Env} {s : State} {m : MethodId} {args : Array Value} {below : List Frame} {meth : Method} {c : Code} {D : va_G} {ρ : Nat → Nat} {κ : Nat → ClassId} {base : Nat} {post : eS → Prop} (C : eCx p s m args meth c cX11_layOut RX11 6 none wsX11_layOut) (K : gK D ρ κ base s) : ∀ (n : Nat) (σ : eS) (x1 : Int32) (x2 : Int32) (H : Heap) (locs : List Loc) (ls : Array Slot), b_X11_layOut_2 post n σ x1 x2 → gG D ρ κ base s σ H locs → lv_has ls 6 [(0, .ref (ρ (97))), (1, .int (x1)), (2, .int (x2))] → W p l e rm_X11_layOut s m args below meth c H locs 0 0 (gQv below args s D ρ κ base post) (F0 m 2 ls []) := by
  obtain ⟨hx, hb, hml, hown, hts, hr, hlocks⟩ := id C
  intro n
  induction n with
  | zero => intro σ x1 x2 H locs ls h G hl; exact False.elim h
  | succ n ih =>
    intro σ x1 x2 H locs ls h G hl
    rw [b_X11_layOut_2] at h
    refine lv_iload_n hx hb dX11_layOut_2 rfl (lv_at hl 2 rfl) ?_
    refine lv_aload_n hx hb dX11_layOut_3 rfl (lv_at hl 0 rfl) ?_
    refine e_geti hx hb hts in_X11_layOut_X11 hown K G 97 (by decide) gl_97 rfl 0 (by decide) rfl (hts (.fieldLink RX11 104 "StreetsStepOnModel" "streets" "I") (e_mem (n := 1) rfl)) dX11_layOut_4 ?_
    refine lv_icmp_ge (tgt := 23) hx hb dX11_layOut_7 (by decide) (fun c2 => ?_) (fun c2 => ?_)
    · have h := h.1 c2
      refine lv_aload_n hx hb dX11_layOut_23 rfl (lv_at hl 0 rfl) ?_
      refine lv_iconst (v := (1 : Int32)) hx hb dX11_layOut_24 (by decide) ?_
      refine e_puti hx hb hts in_X11_layOut_X11 tyX11 tyX11_ok nmX11 hown K G 97 (by decide) gl_97 rfl 26 (by decide) rfl (hts (.fieldLink RX11 227 "StreetsStepOnModel" "round" "I") (e_mem (n := 3) rfl)) rfl (tyX11_ok 26 (by decide)) rfl rfl dX11_layOut_25 (fun H locs G => ?_)
      obtain ⟨σ3, eσ3⟩ : ∃ z : eS, z = e_ui σ 97 26 (1 : Int32) := ⟨_, rfl⟩
      rw [← eσ3] at G
      have h := h σ3 eσ3
      refine lv_aload_n hx hb dX11_layOut_28 rfl (lv_at hl 0 rfl) ?_
      refine e_geti hx hb hts in_X11_layOut_X11 hown K G 97 (by decide) gl_97 rfl 0 (by decide) rfl (hts (.fieldLink RX11 104 "StreetsStepOnModel" "streets" "I") (e_mem (n := 1) rfl)) dX11_layOut_29 ?_
      refine lv_if_eq (tgt := 42) hx hb dX11_layOut_32 (by decide) (fun c4 => ?_) (fun c4 => ?_)
      · have h := h.1 c4
        exact e_vret hx hb hr hlocks G h dX11_layOut_42
      · have h := h.2 c4
        refine lv_aload_n hx hb dX11_layOut_35 rfl (lv_at hl 0 rfl) ?_
        refine e_geti hx hb hts in_X11_layOut_X11 hown K G 97 (by decide) gl_97 rfl 4 (by decide) rfl (hts (.fieldLink RX11 111 "StreetsStepOnModel" "orders" "I") (e_mem (n := 4) rfl)) dX11_layOut_36 ?_
        refine lv_if_ne (tgt := 43) hx hb dX11_layOut_39 (by decide) (fun c5 => ?_) (fun c5 => ?_)
        · have h := h.1 c5
          refine lv_iconst (v := (0 : Int32)) hx hb dX11_layOut_43 (by decide) ?_
          refine lv_topi (fun v6 ev6 => ?_)
          have h := h v6 ev6
          refine lv_istore_n (lv' := [(2, .int (v6)), (0, .ref (ρ (97))), (1, .int (x1))]) hx hb dX11_layOut_44 rfl hl (by decide) rfl (fun ls hl => ?_)
          refine lv_iconst (v := (0 : Int32)) hx hb dX11_layOut_45 (by decide) ?_
          refine lv_topi (fun v7 ev7 => ?_)
          have h := h v7 ev7
          refine lv_istore_n (lv' := [(3, .int (v7)), (2, .int (v6)), (0, .ref (ρ (97))), (1, .int (x1))]) hx hb dX11_layOut_46 rfl hl (by decide) rfl (fun ls hl => ?_)
          obtain ⟨n26, h⟩ := h
          exact l_X11_layOut_47 C K n26 σ3 x1 v6 v7 _ _ _  h G (lv_sub hl [2, 3, 1, 0] rfl)
        · have h := h.2 c5
          exact e_vret hx hb hr hlocks G h dX11_layOut_42
    · have h := h.2 c2
      refine lv_aload_n hx hb dX11_layOut_10 rfl (lv_at hl 0 rfl) ?_
      refine e_getq hx hb hts in_X11_layOut_X11 hown K G 97 (by decide) gl_97 rfl 25 (by decide) 110 rfl (hts (.fieldLink RX11 48 "StreetsStepOnModel" "named" "[I") (e_mem (n := 2) rfl)) dX11_layOut_11 ?_
      refine lv_iload_n hx hb dX11_layOut_14 rfl (lv_at hl 2 rfl) ?_
      refine lv_iload_n hx hb dX11_layOut_15 rfl (lv_at hl 2 rfl) ?_
      have hi27 := h.1
      have h := h.2
      refine e_iast hx hb K G 110 0 0 5052 (by decide) gl_110 rfl hi27 dX11_layOut_16 (fun H locs G => ?_)
      obtain ⟨σ28, eσ28⟩ : ∃ z : eS, z = e_ui σ 110 x2.toNatClampNeg x2 := ⟨_, rfl⟩
      rw [← eσ28] at G
      have h := h σ28 eσ28
      obtain ⟨v29, ev29⟩ : ∃ y : Int32, y = x2 + (1 : Int32) := ⟨_, rfl⟩
      have h := h v29 ev29
      refine lv_iinc (v := v29) (lv' := [(2, .int (v29)), (0, .ref (ρ (97))), (1, .int (x1))]) hx hb dX11_layOut_17 hl (k := 2) rfl (by rw [ev29]; rfl) (by decide) rfl (fun ls hl => ?_)
      refine lv_goto (tgt := 2) hx hb dX11_layOut_20 (by decide) ?_
      exact ih σ28 x1 v29 _ _ _  h G (lv_sub hl [1, 2, 0] rfl)
def w_X11_layOut (σ : eS) (x1 : Int32) (post : eS → Prop) : Prop := ∀ v1 : Int32, v1 = (0 : Int32) → (∃ n30 : Nat, b_X11_layOut_2 post n30 σ x1 v1)
set_option maxHeartbeats 4000000 in
set_option maxRecDepth 100000 in
theorem c_X11_layOut {l : Launch} {D : va_G} {ρ : Nat → Nat} {κ : Nat → ClassId} {base : Nat} {σ : eS} {x1 : Int32} {post : eS → Prop} (h : w_X11_layOut σ x1 post) : gMv l yX11_layOut wsX11_layOut rm_X11_layOut D ρ κ base [.ref (ρ (97)), .int (x1)] σ post := by
  refine e_ofWv (cc := cX11_layOut) (maxL := 6) (ret := none) (by decide) rfl (Nat.le_of_ble_eq_true rfl) ?_
  intro p e s m below meth c ls C K G hl
  obtain ⟨hx, hb, hml, hown, hts, hr, hlocks⟩ := id C
  have hl : lv_has ls 6 [(0, .ref (ρ (97))), (1, .int (x1))] := hl
  unfold w_X11_layOut at h
  refine lv_iconst (v := (0 : Int32)) hx hb dX11_layOut_0 (by decide) ?_
  refine lv_topi (fun v1 ev1 => ?_)
  have h := h v1 ev1
  refine lv_istore_n (lv' := [(2, .int (v1)), (0, .ref (ρ (97))), (1, .int (x1))]) hx hb dX11_layOut_1 rfl hl (by decide) rfl (fun ls hl => ?_)
  obtain ⟨n30, h⟩ := h
  exact l_X11_layOut_2 C K n30 σ x1 v1 _ _ _  h G (lv_sub hl [1, 2, 0] rfl)
abbrev rm_X11_where : Room := { frames := 2, cells := 0, slots := 0, locals := 46 }
theorem in_X11_where_X11 : ∀ w ∈ wsX110, w ∈ wsX11_where := fun w h => List.mem_cons_of_mem _ (List.mem_append_right _ h)
def w_X11_where (σ : eS) (x1 : Int32) (x2 : Int64) (post : Int32 → eS → Prop) : Prop := ∀ σ1 : eS, σ1 = e_ui σ 97 18 (0 : Int32) → w_X11_isStreet σ1 x1 (fun r3 σ2 => ((r3 = 0 → post (-1 : Int32) σ2) ∧ (¬ (r3 = 0) → w_X11_isDay σ2 x2 (fun r6 σ5 => ((¬ r6 = 0 → w_X11_layOut σ5 (0 : Int32) (fun σ8 => False)) ∧ (r6 = 0 → post (-1 : Int32) σ5))))))
set_option maxHeartbeats 4000000 in
set_option maxRecDepth 100000 in
theorem c_X11_where {l : Launch} {D : va_G} {ρ : Nat → Nat} {κ : Nat → ClassId} {base : Nat} {σ : eS} {x1 : Int32} {x2 : Int64} {post : Int32 → eS → Prop} (h : w_X11_where σ x1 x2 post) : gMi l yX11_where wsX11_where rm_X11_where D ρ κ base [.ref (ρ (97)), .int (x1), .long (x2)] σ post := by
  refine e_ofWi (cc := cX11_where) (maxL := 4) (ret := (some .int)) (by decide) rfl (Nat.le_of_ble_eq_true rfl) ?_
  intro p e s m below meth c ls C K G hl
  obtain ⟨hx, hb, hml, hown, hts, hr, hlocks⟩ := id C
  have hl : lv_has ls 4 [(0, .ref (ρ (97))), (1, .int (x1)), (2, .long (x2))] := hl
  unfold w_X11_where at h
  refine lv_aload_n hx hb dX11_where_0 rfl (lv_at hl 0 rfl) ?_
  refine lv_iconst (v := (0 : Int32)) hx hb dX11_where_1 (by decide) ?_
  refine e_puti hx hb hts in_X11_where_X11 tyX11 tyX11_ok nmX11 hown K G 97 (by decide) gl_97 rfl 18 (by decide) rfl (hts (.fieldLink RX11 98 "StreetsStepOnModel" "thrown" "I") (e_mem (n := 1) rfl)) rfl (tyX11_ok 18 (by decide)) rfl rfl dX11_where_2 (fun H locs G => ?_)
  obtain ⟨σ1, eσ1⟩ : ∃ z : eS, z = e_ui σ 97 18 (0 : Int32) := ⟨_, rfl⟩
  rw [← eσ1] at G
  have h := h σ1 eσ1
  refine lv_aload_n hx hb dX11_where_5 rfl (lv_at hl 0 rfl) ?_
  refine lv_iload_n hx hb dX11_where_6 rfl (lv_at hl 1 rfl) ?_
  refine e_callVi (As := [.int (x1)]) (rest := []) ⟨hx, hb, hml, hown, hts⟩ K G 97 (by decide) gl_97 rfl (c_X11_isStreet h) (cwV 1 hts gX11_where_X11_isStreet rfl rfl rfl (by decide +kernel) ⟨Nat.le_of_ble_eq_true rfl, Nat.le_of_ble_eq_true rfl⟩) rfl hl.1 rfl (Nat.le_of_ble_eq_true rfl) dX11_where_7 ⟨Nat.zero_le _, Nat.zero_le _⟩ (fun r3 σ2 H locs h G => ?_)
  refine lv_if_eq (tgt := 20) hx hb dX11_where_10 (by decide) (fun c4 => ?_) (fun c4 => ?_)
  · have h := h.1 c4
    refine lv_iconst (v := (-1 : Int32)) hx hb dX11_where_20 (by decide) ?_
    exact e_iret hx hb hr hlocks G h dX11_where_21
  · have h := h.2 c4
    refine lv_lload_n hx hb dX11_where_13 rfl (lv_at hl 2 rfl) ?_
    refine e_callSi (As := [.long (x2)]) (rest := []) ⟨hx, hb, hml, hown, hts⟩ K G (c_X11_isDay h) (va_cwS 1 hts gX11_where_X11_isDay rfl rfl rfl (by decide +kernel) ⟨Nat.le_of_ble_eq_true rfl, Nat.le_of_ble_eq_true rfl⟩) rfl hl.1 rfl (Nat.le_of_ble_eq_true rfl) dX11_where_14 ⟨Nat.zero_le _, Nat.zero_le _⟩ (fun r6 σ5 H locs h G => ?_)
    refine lv_if_ne (tgt := 22) hx hb dX11_where_17 (by decide) (fun c7 => ?_) (fun c7 => ?_)
    · have h := h.1 c7
      refine lv_aload_n hx hb dX11_where_22 rfl (lv_at hl 0 rfl) ?_
      refine lv_iconst (v := (0 : Int32)) hx hb dX11_where_23 (by decide) ?_
      refine e_callVv (As := [.int ((0 : Int32))]) (rest := []) ⟨hx, hb, hml, hown, hts⟩ K G 97 (by decide) gl_97 rfl (c_X11_layOut h) (cwV 1 hts gX11_where_X11_layOut rfl rfl rfl (by decide +kernel) ⟨Nat.le_of_ble_eq_true rfl, Nat.le_of_ble_eq_true rfl⟩) rfl hl.1 rfl (Nat.le_of_ble_eq_true rfl) dX11_where_24 ⟨Nat.zero_le _, Nat.zero_le _⟩ (fun σ8 H locs h G => ?_)
      refine lv_aload_n hx hb dX11_where_27 rfl (lv_at hl 0 rfl) ?_
      refine lv_iload_n hx hb dX11_where_28 rfl (lv_at hl 1 rfl) ?_
      refine lv_lload_n hx hb dX11_where_29 rfl (lv_at hl 2 rfl) ?_
      exact h.elim
    · have h := h.2 c7
      refine lv_iconst (v := (-1 : Int32)) hx hb dX11_where_20 (by decide) ?_
      exact e_iret hx hb hr hlocks G h dX11_where_21
abbrev rm_X5_clear : Room := { frames := 0, cells := 0, slots := 0, locals := 0 }
theorem in_X5_clear_X5 : ∀ w ∈ wsX50, w ∈ wsX5_clear := fun w h => List.mem_cons_of_mem _ (List.mem_append_right _ h)
def w_X5_clear (σ : eS) (post : eS → Prop) : Prop := ∀ σ1 : eS, σ1 = e_ui σ 3 1 (0 : Int32) → post σ1
set_option maxHeartbeats 4000000 in
set_option maxRecDepth 100000 in
theorem c_X5_clear {l : Launch} {D : va_G} {ρ : Nat → Nat} {κ : Nat → ClassId} {base : Nat} {σ : eS} {post : eS → Prop} (h : w_X5_clear σ post) : gMv l yX5_clear wsX5_clear rm_X5_clear D ρ κ base [.ref (ρ (3))] σ post := by
  refine e_ofWv (cc := cX5_clear) (maxL := 1) (ret := none) (by decide) rfl (Nat.le_of_ble_eq_true rfl) ?_
  intro p e s m below meth c ls C K G hl
  obtain ⟨hx, hb, hml, hown, hts, hr, hlocks⟩ := id C
  have hl : lv_has ls 1 [(0, .ref (ρ (3)))] := hl
  unfold w_X5_clear at h
  refine lv_aload_n hx hb dX5_clear_0 rfl (lv_at hl 0 rfl) ?_
  refine lv_iconst (v := (0 : Int32)) hx hb dX5_clear_1 (by decide) ?_
  refine e_puti hx hb hts in_X5_clear_X5 tyX5 tyX5_ok nmX5 hown K G 3 (by decide) gl_3 rfl 1 (by decide) rfl (hts (.fieldLink RX5 15 "StreetsStepOn$Row" "size" "I") (e_mem (n := 1) rfl)) rfl (tyX5_ok 1 (by decide)) rfl rfl dX5_clear_2 (fun H locs G => ?_)
  obtain ⟨σ1, eσ1⟩ : ∃ z : eS, z = e_ui σ 3 1 (0 : Int32) := ⟨_, rfl⟩
  rw [← eσ1] at G
  have h := h σ1 eσ1
  exact e_vret hx hb hr hlocks G h dX5_clear_5
abbrev rm_X5_add : Room := { frames := 0, cells := 0, slots := 0, locals := 0 }
theorem in_X5_add_X5 : ∀ w ∈ wsX50, w ∈ wsX5_add := fun w h => List.mem_cons_of_mem _ (List.mem_append_right _ h)
def w_X5_add (σ : eS) (x1 : Int64) (post : eS → Prop) : Prop := ((12 ≤ (σ.1 3 1) → post σ) ∧ (¬ (12 ≤ (σ.1 3 1)) → (vp_in (σ.1 3 1) 12) ∧ ∀ σ3 : eS, σ3 = e_ul σ 4 (σ.1 3 1).toNatClampNeg x1 → ∀ σ4 : eS, σ4 = e_ui σ3 3 1 ((σ3.1 3 1) + (1 : Int32)) → post σ4))
set_option maxHeartbeats 4000000 in
set_option maxRecDepth 100000 in
theorem c_X5_add {l : Launch} {D : va_G} {ρ : Nat → Nat} {κ : Nat → ClassId} {base : Nat} {σ : eS} {x1 : Int64} {post : eS → Prop} (h : w_X5_add σ x1 post) : gMv l yX5_add wsX5_add rm_X5_add D ρ κ base [.ref (ρ (3)), .long (x1)] σ post := by
  refine e_ofWv (cc := cX5_add) (maxL := 3) (ret := none) (by decide) rfl (Nat.le_of_ble_eq_true rfl) ?_
  intro p e s m below meth c ls C K G hl
  obtain ⟨hx, hb, hml, hown, hts, hr, hlocks⟩ := id C
  have hl : lv_has ls 3 [(0, .ref (ρ (3))), (1, .long (x1))] := hl
  unfold w_X5_add at h
  refine lv_aload_n hx hb dX5_add_0 rfl (lv_at hl 0 rfl) ?_
  refine e_geti hx hb hts in_X5_add_X5 hown K G 3 (by decide) gl_3 rfl 1 (by decide) rfl (hts (.fieldLink RX5 15 "StreetsStepOn$Row" "size" "I") (e_mem (n := 1) rfl)) dX5_add_1 ?_
  refine lv_aload_n hx hb dX5_add_4 rfl (lv_at hl 0 rfl) ?_
  refine e_getq hx hb hts in_X5_add_X5 hown K G 3 (by decide) gl_3 rfl 0 (by decide) 4 rfl (hts (.fieldLink RX5 9 "StreetsStepOn$Row" "numbers" "[J") (e_mem (n := 2) rfl)) dX5_add_5 ?_
  refine e_alen (v := 12) hx hb K G 4 1 1 12 (by decide) gl_4 rfl rfl dX5_add_8 ?_
  refine lv_icmp_ge (tgt := 32) hx hb dX5_add_9 (by decide) (fun c1 => ?_) (fun c1 => ?_)
  · have h := h.1 c1
    exact e_vret hx hb hr hlocks G h dX5_add_32
  · have h := h.2 c1
    refine lv_aload_n hx hb dX5_add_12 rfl (lv_at hl 0 rfl) ?_
    refine e_getq hx hb hts in_X5_add_X5 hown K G 3 (by decide) gl_3 rfl 0 (by decide) 4 rfl (hts (.fieldLink RX5 9 "StreetsStepOn$Row" "numbers" "[J") (e_mem (n := 2) rfl)) dX5_add_13 ?_
    refine lv_aload_n hx hb dX5_add_16 rfl (lv_at hl 0 rfl) ?_
    refine e_geti hx hb hts in_X5_add_X5 hown K G 3 (by decide) gl_3 rfl 1 (by decide) rfl (hts (.fieldLink RX5 15 "StreetsStepOn$Row" "size" "I") (e_mem (n := 1) rfl)) dX5_add_17 ?_
    refine lv_lload_n hx hb dX5_add_20 rfl (lv_at hl 1 rfl) ?_
    have hi2 := h.1
    have h := h.2
    refine e_last hx hb K G 4 1 1 12 (by decide) gl_4 rfl hi2 dX5_add_21 (fun H locs G => ?_)
    obtain ⟨σ3, eσ3⟩ : ∃ z : eS, z = e_ul σ 4 (σ.1 3 1).toNatClampNeg x1 := ⟨_, rfl⟩
    rw [← eσ3] at G
    have h := h σ3 eσ3
    refine lv_aload_n hx hb dX5_add_22 rfl (lv_at hl 0 rfl) ?_
    refine lv_dup hx hb dX5_add_23 rfl ?_
    refine e_geti hx hb hts in_X5_add_X5 hown K G 3 (by decide) gl_3 rfl 1 (by decide) rfl (hts (.fieldLink RX5 15 "StreetsStepOn$Row" "size" "I") (e_mem (n := 1) rfl)) dX5_add_24 ?_
    refine lv_iconst (v := (1 : Int32)) hx hb dX5_add_27 (by decide) ?_
    refine lv_iadd hx hb dX5_add_28 ?_
    refine e_puti hx hb hts in_X5_add_X5 tyX5 tyX5_ok nmX5 hown K G 3 (by decide) gl_3 rfl 1 (by decide) rfl (hts (.fieldLink RX5 15 "StreetsStepOn$Row" "size" "I") (e_mem (n := 1) rfl)) rfl (tyX5_ok 1 (by decide)) rfl rfl dX5_add_29 (fun H locs G => ?_)
    obtain ⟨σ4, eσ4⟩ : ∃ z : eS, z = e_ui σ3 3 1 ((σ3.1 3 1) + (1 : Int32)) := ⟨_, rfl⟩
    rw [← eσ4] at G
    have h := h σ4 eσ4
    exact e_vret hx hb hr hlocks G h dX5_add_32
abbrev rm_X5_tell : Room := { frames := 1, cells := 0, slots := 0, locals := 22 }
def w_X5_tell (σ : eS) (x1 : Int64) (post : eS → Prop) : Prop := w_X5_clear σ (fun σ1 => w_X5_add σ1 x1 (fun σ2 => post σ2))
set_option maxHeartbeats 4000000 in
set_option maxRecDepth 100000 in
theorem c_X5_tell {l : Launch} {D : va_G} {ρ : Nat → Nat} {κ : Nat → ClassId} {base : Nat} {σ : eS} {x1 : Int64} {post : eS → Prop} (h : w_X5_tell σ x1 post) : gMv l yX5_tell wsX5_tell rm_X5_tell D ρ κ base [.ref (ρ (3)), .long (x1)] σ post := by
  refine e_ofWv (cc := cX5_tell) (maxL := 3) (ret := none) (by decide) rfl (Nat.le_of_ble_eq_true rfl) ?_
  intro p e s m below meth c ls C K G hl
  obtain ⟨hx, hb, hml, hown, hts, hr, hlocks⟩ := id C
  have hl : lv_has ls 3 [(0, .ref (ρ (3))), (1, .long (x1))] := hl
  unfold w_X5_tell at h
  refine lv_aload_n hx hb dX5_tell_0 rfl (lv_at hl 0 rfl) ?_
  refine e_callVv (As := []) (rest := []) ⟨hx, hb, hml, hown, hts⟩ K G 3 (by decide) gl_3 rfl (c_X5_clear h) (cwV 0 hts gX5_tell_X5_clear rfl rfl rfl (by decide +kernel) ⟨Nat.le_of_ble_eq_true rfl, Nat.le_of_ble_eq_true rfl⟩) rfl hl.1 rfl (Nat.le_of_ble_eq_true rfl) dX5_tell_1 ⟨Nat.zero_le _, Nat.zero_le _⟩ (fun σ1 H locs h G => ?_)
  refine lv_aload_n hx hb dX5_tell_4 rfl (lv_at hl 0 rfl) ?_
  refine lv_lload_n hx hb dX5_tell_5 rfl (lv_at hl 1 rfl) ?_
  refine e_callVv (As := [.long (x1)]) (rest := []) ⟨hx, hb, hml, hown, hts⟩ K G 3 (by decide) gl_3 rfl (c_X5_add h) (cwV 1 hts gX5_tell_X5_add rfl rfl rfl (by decide +kernel) ⟨Nat.le_of_ble_eq_true rfl, Nat.le_of_ble_eq_true rfl⟩) rfl hl.1 rfl (Nat.le_of_ble_eq_true rfl) dX5_tell_6 ⟨Nat.zero_le _, Nat.zero_le _⟩ (fun σ2 H locs h G => ?_)
  exact e_vret hx hb hr hlocks G h dX5_tell_9
abbrev rm_J6_bitCount_0f7a4 : Room := { frames := 0, cells := 0, slots := 0, locals := 0 }
def w_J6_bitCount_0f7a4 (σ : eS) (x0 : Int32) (post : Int32 → eS → Prop) : Prop := ∀ v1 : Int32, v1 = (x0 - (((x0.toUInt32 >>> (((1 : Int32)).toUInt32 &&& Int32.toUInt32 31)).toInt32) &&& (1431655765 : Int32))) → ∀ v2 : Int32, v2 = ((v1 &&& (858993459 : Int32)) + (((v1.toUInt32 >>> (((2 : Int32)).toUInt32 &&& Int32.toUInt32 31)).toInt32) &&& (858993459 : Int32))) → ∀ v3 : Int32, v3 = ((v2 + ((v2.toUInt32 >>> (((4 : Int32)).toUInt32 &&& Int32.toUInt32 31)).toInt32)) &&& (252645135 : Int32)) → ∀ v4 : Int32, v4 = (v3 + ((v3.toUInt32 >>> (((8 : Int32)).toUInt32 &&& Int32.toUInt32 31)).toInt32)) → ∀ v5 : Int32, v5 = (v4 + ((v4.toUInt32 >>> (((16 : Int32)).toUInt32 &&& Int32.toUInt32 31)).toInt32)) → post (v5 &&& (63 : Int32)) σ
set_option maxHeartbeats 4000000 in
set_option maxRecDepth 100000 in
theorem c_J6_bitCount_0f7a4 {l : Launch} {D : va_G} {ρ : Nat → Nat} {κ : Nat → ClassId} {base : Nat} {σ : eS} {x0 : Int32} {post : Int32 → eS → Prop} (h : w_J6_bitCount_0f7a4 σ x0 post) : gMi l yJ6_bitCount_0f7a4 wsJ6_bitCount_0f7a4 rm_J6_bitCount_0f7a4 D ρ κ base [.int (x0)] σ post := by
  refine e_ofWi (cc := cJ6_bitCount_0f7a4) (maxL := 1) (ret := (some .int)) (by decide) rfl (Nat.le_of_ble_eq_true rfl) ?_
  intro p e s m below meth c ls C K G hl
  obtain ⟨hx, hb, hml, hown, hts, hr, hlocks⟩ := id C
  have hl : lv_has ls 1 [(0, .int (x0))] := hl
  unfold w_J6_bitCount_0f7a4 at h
  refine lv_iload_n hx hb dJ6_bitCount_0f7a4_0 rfl (lv_at hl 0 rfl) ?_
  refine lv_iload_n hx hb dJ6_bitCount_0f7a4_1 rfl (lv_at hl 0 rfl) ?_
  refine lv_iconst (v := (1 : Int32)) hx hb dJ6_bitCount_0f7a4_2 (by decide) ?_
  refine lv_iushr hx hb dJ6_bitCount_0f7a4_3 rfl ?_
  refine lv_ldcw (v := (1431655765 : Int32)) hx hb hown (hts (.constant RJ6 265 (1431655765)) (e_mem (n := 1) rfl)) dJ6_bitCount_0f7a4_4 ?_
  refine lv_iand hx hb dJ6_bitCount_0f7a4_7 ?_
  refine lv_isub hx hb dJ6_bitCount_0f7a4_8 ?_
  refine lv_topi (fun v1 ev1 => ?_)
  have h := h v1 ev1
  refine lv_istore_n (lv' := [(0, .int (v1))]) hx hb dJ6_bitCount_0f7a4_9 rfl hl (by decide) rfl (fun ls hl => ?_)
  refine lv_iload_n hx hb dJ6_bitCount_0f7a4_10 rfl (lv_at hl 0 rfl) ?_
  refine lv_ldcw (v := (858993459 : Int32)) hx hb hown (hts (.constant RJ6 266 (858993459)) (e_mem (n := 2) rfl)) dJ6_bitCount_0f7a4_11 ?_
  refine lv_iand hx hb dJ6_bitCount_0f7a4_14 ?_
  refine lv_iload_n hx hb dJ6_bitCount_0f7a4_15 rfl (lv_at hl 0 rfl) ?_
  refine lv_iconst (v := (2 : Int32)) hx hb dJ6_bitCount_0f7a4_16 (by decide) ?_
  refine lv_iushr hx hb dJ6_bitCount_0f7a4_17 rfl ?_
  refine lv_ldcw (v := (858993459 : Int32)) hx hb hown (hts (.constant RJ6 266 (858993459)) (e_mem (n := 2) rfl)) dJ6_bitCount_0f7a4_18 ?_
  refine lv_iand hx hb dJ6_bitCount_0f7a4_21 ?_
  refine lv_iadd hx hb dJ6_bitCount_0f7a4_22 ?_
  refine lv_topi (fun v2 ev2 => ?_)
  have h := h v2 ev2
  refine lv_istore_n (lv' := [(0, .int (v2))]) hx hb dJ6_bitCount_0f7a4_23 rfl hl (by decide) rfl (fun ls hl => ?_)
  refine lv_iload_n hx hb dJ6_bitCount_0f7a4_24 rfl (lv_at hl 0 rfl) ?_
  refine lv_iload_n hx hb dJ6_bitCount_0f7a4_25 rfl (lv_at hl 0 rfl) ?_
  refine lv_iconst (v := (4 : Int32)) hx hb dJ6_bitCount_0f7a4_26 (by decide) ?_
  refine lv_iushr hx hb dJ6_bitCount_0f7a4_27 rfl ?_
  refine lv_iadd hx hb dJ6_bitCount_0f7a4_28 ?_
  refine lv_ldcw (v := (252645135 : Int32)) hx hb hown (hts (.constant RJ6 267 (252645135)) (e_mem (n := 3) rfl)) dJ6_bitCount_0f7a4_29 ?_
  refine lv_iand hx hb dJ6_bitCount_0f7a4_32 ?_
  refine lv_topi (fun v3 ev3 => ?_)
  have h := h v3 ev3
  refine lv_istore_n (lv' := [(0, .int (v3))]) hx hb dJ6_bitCount_0f7a4_33 rfl hl (by decide) rfl (fun ls hl => ?_)
  refine lv_iload_n hx hb dJ6_bitCount_0f7a4_34 rfl (lv_at hl 0 rfl) ?_
  refine lv_iload_n hx hb dJ6_bitCount_0f7a4_35 rfl (lv_at hl 0 rfl) ?_
  refine lv_bipush (v := (8 : Int32)) hx hb dJ6_bitCount_0f7a4_36 (by decide) ?_
  refine lv_iushr hx hb dJ6_bitCount_0f7a4_38 rfl ?_
  refine lv_iadd hx hb dJ6_bitCount_0f7a4_39 ?_
  refine lv_topi (fun v4 ev4 => ?_)
  have h := h v4 ev4
  refine lv_istore_n (lv' := [(0, .int (v4))]) hx hb dJ6_bitCount_0f7a4_40 rfl hl (by decide) rfl (fun ls hl => ?_)
  refine lv_iload_n hx hb dJ6_bitCount_0f7a4_41 rfl (lv_at hl 0 rfl) ?_
  refine lv_iload_n hx hb dJ6_bitCount_0f7a4_42 rfl (lv_at hl 0 rfl) ?_
  refine lv_bipush (v := (16 : Int32)) hx hb dJ6_bitCount_0f7a4_43 (by decide) ?_
  refine lv_iushr hx hb dJ6_bitCount_0f7a4_45 rfl ?_
  refine lv_iadd hx hb dJ6_bitCount_0f7a4_46 ?_
  refine lv_topi (fun v5 ev5 => ?_)
  have h := h v5 ev5
  refine lv_istore_n (lv' := [(0, .int (v5))]) hx hb dJ6_bitCount_0f7a4_47 rfl hl (by decide) rfl (fun ls hl => ?_)
  refine lv_iload_n hx hb dJ6_bitCount_0f7a4_48 rfl (lv_at hl 0 rfl) ?_
  refine lv_bipush (v := (63 : Int32)) hx hb dJ6_bitCount_0f7a4_49 (by decide) ?_
  refine lv_iand hx hb dJ6_bitCount_0f7a4_51 ?_
  exact e_iret hx hb hr hlocks G h dJ6_bitCount_0f7a4_52
abbrev rm_X10_same : Room := { frames := 2, cells := 0, slots := 0, locals := 44 }
theorem in_X10_same_X1 : ∀ w ∈ wsX10, w ∈ wsX10_same := fun w h => List.mem_cons_of_mem _ (List.mem_append_left _ (List.mem_append_left _ (List.mem_append_right _ h)))
theorem in_X10_same_X10 : ∀ w ∈ wsX100, w ∈ wsX10_same := fun w h => List.mem_cons_of_mem _ (List.mem_append_left _ (List.mem_append_left _ (List.mem_append_left _ (List.mem_append_right _ h))))
def b_X10_same_22 (post : Int32 → eS → Prop) : Nat → eS → Int64 → Int64 → Int32 → Int32 → Prop
  | 0, _, _, _, _, _ => False
  | n + 1, σ, x1, x3, x5, x6 => (((σ.1 5 4) ≤ x6 → w_X5_tell σ (x5.toInt64) (fun σ10 => w_J6_bitCount_0f7a4 σ10 x5 (fun r12 σ11 => post r12 σ11))) ∧ (¬ ((σ.1 5 4) ≤ x6) → False))
set_option maxHeartbeats 4000000 in
set_option maxRecDepth 100000 in
theorem l_X10_same_22 {p : Program} {l : Launch} {e : Env} {s : State} {m : MethodId} {args : Array Value} {below : List Frame} {meth : Method} {c : Code} {D : va_G} {ρ : Nat → Nat} {κ : Nat → ClassId} {base : Nat} {post : Int32 → eS → Prop} (C : eCx p s m args meth c cX10_same RX10 7 (some .int) wsX10_same) (K : gK D ρ κ base s) : ∀ (n : Nat) (σ : eS) (x1 : Int64) (x3 : Int64) (x5 : Int32) (x6 : Int32) (H : Heap) (locs : List Loc) (ls : Array Slot), b_X10_same_22 post n σ x1 x3 x5 x6 → gG D ρ κ base s σ H locs → lv_has ls 7 [(0, .ref (ρ (0))), (1, .long (x1)), (3, .long (x3)), (5, .int (x5)), (6, .int (x6))] → W p l e rm_X10_same s m args below meth c H locs 0 0 (gQi below args s D ρ κ base post) (F0 m 22 ls []) := by
  obtain ⟨hx, hb, hml, hown, hts, hr, hlocks⟩ := id C
  intro n
  induction n with
  | zero => intro σ x1 x3 x5 x6 H locs ls h G hl; exact False.elim h
  | succ n ih =>
    intro σ x1 x3 x5 x6 H locs ls h G hl
    rw [b_X10_same_22] at h
    refine lv_iload hx hb dX10_same_22 (lv_at hl 4 rfl) ?_
    refine lv_aload_n hx hb dX10_same_24 rfl (lv_at hl 0 rfl) ?_
    refine e_getq hx hb hts in_X10_same_X10 hown K G 0 (by decide) gl_0 rfl 2 (by decide) 5 rfl (hts (.fieldLink RX10 26 "StreetsStepOn" "book" "LStreetsStepOn$Book;") (e_mem (n := 1) rfl)) dX10_same_25 ?_
    refine e_getiN hx hb hts in_X10_same_X1 hown K G 5 (by decide) gl_5 rfl 4 (by decide) rfl (e_memq (n := 18) rfl) dX10_same_28 ?_
    refine lv_icmp_ge (tgt := 72) hx hb dX10_same_31 (by decide) (fun c9 => ?_) (fun c9 => ?_)
    · have h := h.1 c9
      refine lv_aload_n hx hb dX10_same_72 rfl (lv_at hl 0 rfl) ?_
      refine e_getq hx hb hts in_X10_same_X10 hown K G 0 (by decide) gl_0 rfl 1 (by decide) 3 rfl (hts (.fieldLink RX10 19 "StreetsStepOn" "told" "LStreetsStepOn$Row;") (e_mem (n := 3) rfl)) dX10_same_73 ?_
      refine lv_iload hx hb dX10_same_76 (lv_at hl 3 rfl) ?_
      refine lv_i2l hx hb dX10_same_78 rfl ?_
      refine e_callVv (As := [.long (x5.toInt64)]) (rest := []) ⟨hx, hb, hml, hown, hts⟩ K G 3 (by decide) gl_3 rfl (c_X5_tell h) (cwV 1 hts gX10_same_X5_tell rfl rfl rfl (by decide +kernel) ⟨Nat.le_of_ble_eq_true rfl, Nat.le_of_ble_eq_true rfl⟩) rfl hl.1 rfl (Nat.le_of_ble_eq_true rfl) dX10_same_79 ⟨Nat.zero_le _, Nat.zero_le _⟩ (fun σ10 H locs h G => ?_)
      refine lv_iload hx hb dX10_same_82 (lv_at hl 3 rfl) ?_
      refine e_callSi (As := [.int (x5)]) (rest := []) ⟨hx, hb, hml, hown, hts⟩ K G (c_J6_bitCount_0f7a4 h) (va_cwS 1 hts gX10_same_J6_bitCount_0f7a4 rfl rfl rfl (by decide +kernel) ⟨Nat.le_of_ble_eq_true rfl, Nat.le_of_ble_eq_true rfl⟩) rfl hl.1 rfl (Nat.le_of_ble_eq_true rfl) dX10_same_84 ⟨Nat.zero_le _, Nat.zero_le _⟩ (fun r12 σ11 H locs h G => ?_)
      exact e_iret hx hb hr hlocks G h dX10_same_87
    · have h := h.2 c9
      refine lv_aload_n hx hb dX10_same_34 rfl (lv_at hl 0 rfl) ?_
      refine e_getq hx hb hts in_X10_same_X10 hown K G 0 (by decide) gl_0 rfl 5 (by decide) 32 rfl (hts (.fieldLink RX10 44 "StreetsStepOn" "almanac" "LStreetsStepOn$Almanac;") (e_mem (n := 2) rfl)) dX10_same_35 ?_
      refine lv_iload hx hb dX10_same_38 (lv_at hl 4 rfl) ?_
      refine lv_lload_n hx hb dX10_same_40 rfl (lv_at hl 1 rfl) ?_
      exact h.elim
def w_X10_same (σ : eS) (x1 : Int64) (x3 : Int64) (post : Int32 → eS → Prop) : Prop := w_X10_isDay σ x1 (fun r2 σ1 => ((r2 = 0 → post (-1 : Int32) σ1) ∧ (¬ (r2 = 0) → w_X10_isDay σ1 x3 (fun r5 σ4 => ((¬ r5 = 0 → ∀ v7 : Int32, v7 = (0 : Int32) → ∀ v8 : Int32, v8 = (0 : Int32) → (∃ n13 : Nat, b_X10_same_22 post n13 σ4 x1 x3 v7 v8)) ∧ (r5 = 0 → post (-1 : Int32) σ4))))))
set_option maxHeartbeats 4000000 in
set_option maxRecDepth 100000 in
theorem c_X10_same {l : Launch} {D : va_G} {ρ : Nat → Nat} {κ : Nat → ClassId} {base : Nat} {σ : eS} {x1 : Int64} {x3 : Int64} {post : Int32 → eS → Prop} (h : w_X10_same σ x1 x3 post) : gMi l yX10_same wsX10_same rm_X10_same D ρ κ base [.ref (ρ (0)), .long (x1), .long (x3)] σ post := by
  refine e_ofWi (cc := cX10_same) (maxL := 7) (ret := (some .int)) (by decide) rfl (Nat.le_of_ble_eq_true rfl) ?_
  intro p e s m below meth c ls C K G hl
  obtain ⟨hx, hb, hml, hown, hts, hr, hlocks⟩ := id C
  have hl : lv_has ls 7 [(0, .ref (ρ (0))), (1, .long (x1)), (3, .long (x3))] := hl
  unfold w_X10_same at h
  refine lv_lload_n hx hb dX10_same_0 rfl (lv_at hl 1 rfl) ?_
  refine e_callSi (As := [.long (x1)]) (rest := []) ⟨hx, hb, hml, hown, hts⟩ K G (c_X10_isDay h) (va_cwS 1 hts gX10_same_X10_isDay rfl rfl rfl (by decide +kernel) ⟨Nat.le_of_ble_eq_true rfl, Nat.le_of_ble_eq_true rfl⟩) rfl hl.1 rfl (Nat.le_of_ble_eq_true rfl) dX10_same_1 ⟨Nat.zero_le _, Nat.zero_le _⟩ (fun r2 σ1 H locs h G => ?_)
  refine lv_if_eq (tgt := 14) hx hb dX10_same_4 (by decide) (fun c3 => ?_) (fun c3 => ?_)
  · have h := h.1 c3
    refine lv_iconst (v := (-1 : Int32)) hx hb dX10_same_14 (by decide) ?_
    exact e_iret hx hb hr hlocks G h dX10_same_15
  · have h := h.2 c3
    refine lv_lload_n hx hb dX10_same_7 rfl (lv_at hl 2 rfl) ?_
    refine e_callSi (As := [.long (x3)]) (rest := []) ⟨hx, hb, hml, hown, hts⟩ K G (c_X10_isDay h) (va_cwS 1 hts gX10_same_X10_isDay rfl rfl rfl (by decide +kernel) ⟨Nat.le_of_ble_eq_true rfl, Nat.le_of_ble_eq_true rfl⟩) rfl hl.1 rfl (Nat.le_of_ble_eq_true rfl) dX10_same_8 ⟨Nat.zero_le _, Nat.zero_le _⟩ (fun r5 σ4 H locs h G => ?_)
    refine lv_if_ne (tgt := 16) hx hb dX10_same_11 (by decide) (fun c6 => ?_) (fun c6 => ?_)
    · have h := h.1 c6
      refine lv_iconst (v := (0 : Int32)) hx hb dX10_same_16 (by decide) ?_
      refine lv_topi (fun v7 ev7 => ?_)
      have h := h v7 ev7
      refine lv_istore (lv' := [(5, .int (v7)), (0, .ref (ρ (0))), (1, .long (x1)), (3, .long (x3))]) hx hb dX10_same_17 hl (by decide) rfl (fun ls hl => ?_)
      refine lv_iconst (v := (0 : Int32)) hx hb dX10_same_19 (by decide) ?_
      refine lv_topi (fun v8 ev8 => ?_)
      have h := h v8 ev8
      refine lv_istore (lv' := [(6, .int (v8)), (5, .int (v7)), (0, .ref (ρ (0))), (1, .long (x1)), (3, .long (x3))]) hx hb dX10_same_20 hl (by decide) rfl (fun ls hl => ?_)
      obtain ⟨n13, h⟩ := h
      exact l_X10_same_22 C K n13 σ4 x1 x3 v7 v8 _ _ _  h G (lv_sub hl [2, 3, 4, 1, 0] rfl)
    · have h := h.2 c6
      refine lv_iconst (v := (-1 : Int32)) hx hb dX10_same_14 (by decide) ?_
      exact e_iret hx hb hr hlocks G h dX10_same_15
abbrev rm_X11_tell : Room := { frames := 0, cells := 0, slots := 0, locals := 0 }
theorem in_X11_tell_X11 : ∀ w ∈ wsX110, w ∈ wsX11_tell := fun w h => List.mem_cons_of_mem _ (List.mem_append_right _ h)
def w_X11_tell (σ : eS) (x1 : Int64) (post : eS → Prop) : Prop := (vp_in (σ.1 97 17) 16) ∧ ∀ σ2 : eS, σ2 = e_ul σ 108 (σ.1 97 17).toNatClampNeg x1 → ∀ σ3 : eS, σ3 = e_ui σ2 97 17 ((σ2.1 97 17) + (1 : Int32)) → post σ3
set_option maxHeartbeats 4000000 in
set_option maxRecDepth 100000 in
theorem c_X11_tell {l : Launch} {D : va_G} {ρ : Nat → Nat} {κ : Nat → ClassId} {base : Nat} {σ : eS} {x1 : Int64} {post : eS → Prop} (h : w_X11_tell σ x1 post) : gMv l yX11_tell wsX11_tell rm_X11_tell D ρ κ base [.ref (ρ (97)), .long (x1)] σ post := by
  refine e_ofWv (cc := cX11_tell) (maxL := 3) (ret := none) (by decide) rfl (Nat.le_of_ble_eq_true rfl) ?_
  intro p e s m below meth c ls C K G hl
  obtain ⟨hx, hb, hml, hown, hts, hr, hlocks⟩ := id C
  have hl : lv_has ls 3 [(0, .ref (ρ (97))), (1, .long (x1))] := hl
  unfold w_X11_tell at h
  refine lv_aload_n hx hb dX11_tell_0 rfl (lv_at hl 0 rfl) ?_
  refine e_getq hx hb hts in_X11_tell_X11 hown K G 97 (by decide) gl_97 rfl 16 (by decide) 108 rfl (hts (.fieldLink RX11 42 "StreetsStepOnModel" "row" "[J") (e_mem (n := 1) rfl)) dX11_tell_1 ?_
  refine lv_aload_n hx hb dX11_tell_4 rfl (lv_at hl 0 rfl) ?_
  refine e_geti hx hb hts in_X11_tell_X11 hown K G 97 (by decide) gl_97 rfl 17 (by decide) rfl (hts (.fieldLink RX11 101 "StreetsStepOnModel" "rowMany" "I") (e_mem (n := 2) rfl)) dX11_tell_5 ?_
  refine lv_lload_n hx hb dX11_tell_8 rfl (lv_at hl 1 rfl) ?_
  have hi1 := h.1
  have h := h.2
  refine e_last hx hb K G 108 1 1 16 (by decide) gl_108 rfl hi1 dX11_tell_9 (fun H locs G => ?_)
  obtain ⟨σ2, eσ2⟩ : ∃ z : eS, z = e_ul σ 108 (σ.1 97 17).toNatClampNeg x1 := ⟨_, rfl⟩
  rw [← eσ2] at G
  have h := h σ2 eσ2
  refine lv_aload_n hx hb dX11_tell_10 rfl (lv_at hl 0 rfl) ?_
  refine lv_dup hx hb dX11_tell_11 rfl ?_
  refine e_geti hx hb hts in_X11_tell_X11 hown K G 97 (by decide) gl_97 rfl 17 (by decide) rfl (hts (.fieldLink RX11 101 "StreetsStepOnModel" "rowMany" "I") (e_mem (n := 2) rfl)) dX11_tell_12 ?_
  refine lv_iconst (v := (1 : Int32)) hx hb dX11_tell_15 (by decide) ?_
  refine lv_iadd hx hb dX11_tell_16 ?_
  refine e_puti hx hb hts in_X11_tell_X11 tyX11 tyX11_ok nmX11 hown K G 97 (by decide) gl_97 rfl 17 (by decide) rfl (hts (.fieldLink RX11 101 "StreetsStepOnModel" "rowMany" "I") (e_mem (n := 2) rfl)) rfl (tyX11_ok 17 (by decide)) rfl rfl dX11_tell_17 (fun H locs G => ?_)
  obtain ⟨σ3, eσ3⟩ : ∃ z : eS, z = e_ui σ2 97 17 ((σ2.1 97 17) + (1 : Int32)) := ⟨_, rfl⟩
  rw [← eσ3] at G
  have h := h σ3 eσ3
  exact e_vret hx hb hr hlocks G h dX11_tell_20
abbrev rm_X11_same : Room := { frames := 2, cells := 0, slots := 0, locals := 46 }
theorem in_X11_same_X11 : ∀ w ∈ wsX110, w ∈ wsX11_same := fun w h => List.mem_cons_of_mem _ (List.mem_append_right _ h)
def b_X11_same_32 (post : Int32 → eS → Prop) : Nat → eS → Int64 → Int64 → Int32 → Int32 → Prop
  | 0, _, _, _, _, _ => False
  | n + 1, σ, x1, x3, x5, x6 => (((σ.1 97 0) ≤ x6 → ∀ σ12 : eS, σ12 = e_ui σ 97 17 (0 : Int32) → w_X11_tell σ12 (x5.toInt64) (fun σ13 => w_J6_bitCount_0f7a4 σ13 x5 (fun r15 σ14 => post r15 σ14))) ∧ (¬ ((σ.1 97 0) ≤ x6) → False))
set_option maxHeartbeats 4000000 in
set_option maxRecDepth 100000 in
theorem l_X11_same_32 {p : Program} {l : Launch} {e : Env} {s : State} {m : MethodId} {args : Array Value} {below : List Frame} {meth : Method} {c : Code} {D : va_G} {ρ : Nat → Nat} {κ : Nat → ClassId} {base : Nat} {post : Int32 → eS → Prop} (C : eCx p s m args meth c cX11_same RX11 7 (some .int) wsX11_same) (K : gK D ρ κ base s) : ∀ (n : Nat) (σ : eS) (x1 : Int64) (x3 : Int64) (x5 : Int32) (x6 : Int32) (H : Heap) (locs : List Loc) (ls : Array Slot), b_X11_same_32 post n σ x1 x3 x5 x6 → gG D ρ κ base s σ H locs → lv_has ls 7 [(0, .ref (ρ (97))), (1, .long (x1)), (3, .long (x3)), (5, .int (x5)), (6, .int (x6))] → W p l e rm_X11_same s m args below meth c H locs 0 0 (gQi below args s D ρ κ base post) (F0 m 32 ls []) := by
  obtain ⟨hx, hb, hml, hown, hts, hr, hlocks⟩ := id C
  intro n
  induction n with
  | zero => intro σ x1 x3 x5 x6 H locs ls h G hl; exact False.elim h
  | succ n ih =>
    intro σ x1 x3 x5 x6 H locs ls h G hl
    rw [b_X11_same_32] at h
    refine lv_iload hx hb dX11_same_32 (lv_at hl 4 rfl) ?_
    refine lv_aload_n hx hb dX11_same_34 rfl (lv_at hl 0 rfl) ?_
    refine e_geti hx hb hts in_X11_same_X11 hown K G 97 (by decide) gl_97 rfl 0 (by decide) rfl (hts (.fieldLink RX11 104 "StreetsStepOnModel" "streets" "I") (e_mem (n := 2) rfl)) dX11_same_35 ?_
    refine lv_icmp_ge (tgt := 77) hx hb dX11_same_38 (by decide) (fun c11 => ?_) (fun c11 => ?_)
    · have h := h.1 c11
      refine lv_aload_n hx hb dX11_same_77 rfl (lv_at hl 0 rfl) ?_
      refine lv_iconst (v := (0 : Int32)) hx hb dX11_same_78 (by decide) ?_
      refine e_puti hx hb hts in_X11_same_X11 tyX11 tyX11_ok nmX11 hown K G 97 (by decide) gl_97 rfl 17 (by decide) rfl (hts (.fieldLink RX11 101 "StreetsStepOnModel" "rowMany" "I") (e_mem (n := 3) rfl)) rfl (tyX11_ok 17 (by decide)) rfl rfl dX11_same_79 (fun H locs G => ?_)
      obtain ⟨σ12, eσ12⟩ : ∃ z : eS, z = e_ui σ 97 17 (0 : Int32) := ⟨_, rfl⟩
      rw [← eσ12] at G
      have h := h σ12 eσ12
      refine lv_aload_n hx hb dX11_same_82 rfl (lv_at hl 0 rfl) ?_
      refine lv_iload hx hb dX11_same_83 (lv_at hl 3 rfl) ?_
      refine lv_i2l hx hb dX11_same_85 rfl ?_
      refine e_callVv (As := [.long (x5.toInt64)]) (rest := []) ⟨hx, hb, hml, hown, hts⟩ K G 97 (by decide) gl_97 rfl (c_X11_tell h) (cwV 1 hts gX11_same_X11_tell rfl rfl rfl (by decide +kernel) ⟨Nat.le_of_ble_eq_true rfl, Nat.le_of_ble_eq_true rfl⟩) rfl hl.1 rfl (Nat.le_of_ble_eq_true rfl) dX11_same_86 ⟨Nat.zero_le _, Nat.zero_le _⟩ (fun σ13 H locs h G => ?_)
      refine lv_iload hx hb dX11_same_89 (lv_at hl 3 rfl) ?_
      refine e_callSi (As := [.int (x5)]) (rest := []) ⟨hx, hb, hml, hown, hts⟩ K G (c_J6_bitCount_0f7a4 h) (va_cwS 1 hts gX11_same_J6_bitCount_0f7a4 rfl rfl rfl (by decide +kernel) ⟨Nat.le_of_ble_eq_true rfl, Nat.le_of_ble_eq_true rfl⟩) rfl hl.1 rfl (Nat.le_of_ble_eq_true rfl) dX11_same_91 ⟨Nat.zero_le _, Nat.zero_le _⟩ (fun r15 σ14 H locs h G => ?_)
      exact e_iret hx hb hr hlocks G h dX11_same_94
    · have h := h.2 c11
      refine lv_iload hx hb dX11_same_41 (lv_at hl 3 rfl) ?_
      refine lv_aload_n hx hb dX11_same_43 rfl (lv_at hl 0 rfl) ?_
      refine lv_iload hx hb dX11_same_44 (lv_at hl 4 rfl) ?_
      refine lv_lload_n hx hb dX11_same_46 rfl (lv_at hl 1 rfl) ?_
      exact h.elim
def w_X11_same (σ : eS) (x1 : Int64) (x3 : Int64) (post : Int32 → eS → Prop) : Prop := ∀ σ1 : eS, σ1 = e_ui σ 97 18 (0 : Int32) → w_X11_isDay σ1 x1 (fun r3 σ2 => ((r3 = 0 → post (-1 : Int32) σ2) ∧ (¬ (r3 = 0) → w_X11_isDay σ2 x3 (fun r6 σ5 => ((¬ r6 = 0 → w_X11_layOut σ5 (0 : Int32) (fun σ8 => ∀ v9 : Int32, v9 = (0 : Int32) → ∀ v10 : Int32, v10 = (0 : Int32) → (∃ n16 : Nat, b_X11_same_32 post n16 σ8 x1 x3 v9 v10))) ∧ (r6 = 0 → post (-1 : Int32) σ5))))))
set_option maxHeartbeats 4000000 in
set_option maxRecDepth 100000 in
theorem c_X11_same {l : Launch} {D : va_G} {ρ : Nat → Nat} {κ : Nat → ClassId} {base : Nat} {σ : eS} {x1 : Int64} {x3 : Int64} {post : Int32 → eS → Prop} (h : w_X11_same σ x1 x3 post) : gMi l yX11_same wsX11_same rm_X11_same D ρ κ base [.ref (ρ (97)), .long (x1), .long (x3)] σ post := by
  refine e_ofWi (cc := cX11_same) (maxL := 7) (ret := (some .int)) (by decide) rfl (Nat.le_of_ble_eq_true rfl) ?_
  intro p e s m below meth c ls C K G hl
  obtain ⟨hx, hb, hml, hown, hts, hr, hlocks⟩ := id C
  have hl : lv_has ls 7 [(0, .ref (ρ (97))), (1, .long (x1)), (3, .long (x3))] := hl
  unfold w_X11_same at h
  refine lv_aload_n hx hb dX11_same_0 rfl (lv_at hl 0 rfl) ?_
  refine lv_iconst (v := (0 : Int32)) hx hb dX11_same_1 (by decide) ?_
  refine e_puti hx hb hts in_X11_same_X11 tyX11 tyX11_ok nmX11 hown K G 97 (by decide) gl_97 rfl 18 (by decide) rfl (hts (.fieldLink RX11 98 "StreetsStepOnModel" "thrown" "I") (e_mem (n := 1) rfl)) rfl (tyX11_ok 18 (by decide)) rfl rfl dX11_same_2 (fun H locs G => ?_)
  obtain ⟨σ1, eσ1⟩ : ∃ z : eS, z = e_ui σ 97 18 (0 : Int32) := ⟨_, rfl⟩
  rw [← eσ1] at G
  have h := h σ1 eσ1
  refine lv_lload_n hx hb dX11_same_5 rfl (lv_at hl 1 rfl) ?_
  refine e_callSi (As := [.long (x1)]) (rest := []) ⟨hx, hb, hml, hown, hts⟩ K G (c_X11_isDay h) (va_cwS 1 hts gX11_same_X11_isDay rfl rfl rfl (by decide +kernel) ⟨Nat.le_of_ble_eq_true rfl, Nat.le_of_ble_eq_true rfl⟩) rfl hl.1 rfl (Nat.le_of_ble_eq_true rfl) dX11_same_6 ⟨Nat.zero_le _, Nat.zero_le _⟩ (fun r3 σ2 H locs h G => ?_)
  refine lv_if_eq (tgt := 19) hx hb dX11_same_9 (by decide) (fun c4 => ?_) (fun c4 => ?_)
  · have h := h.1 c4
    refine lv_iconst (v := (-1 : Int32)) hx hb dX11_same_19 (by decide) ?_
    exact e_iret hx hb hr hlocks G h dX11_same_20
  · have h := h.2 c4
    refine lv_lload_n hx hb dX11_same_12 rfl (lv_at hl 2 rfl) ?_
    refine e_callSi (As := [.long (x3)]) (rest := []) ⟨hx, hb, hml, hown, hts⟩ K G (c_X11_isDay h) (va_cwS 1 hts gX11_same_X11_isDay rfl rfl rfl (by decide +kernel) ⟨Nat.le_of_ble_eq_true rfl, Nat.le_of_ble_eq_true rfl⟩) rfl hl.1 rfl (Nat.le_of_ble_eq_true rfl) dX11_same_13 ⟨Nat.zero_le _, Nat.zero_le _⟩ (fun r6 σ5 H locs h G => ?_)
    refine lv_if_ne (tgt := 21) hx hb dX11_same_16 (by decide) (fun c7 => ?_) (fun c7 => ?_)
    · have h := h.1 c7
      refine lv_aload_n hx hb dX11_same_21 rfl (lv_at hl 0 rfl) ?_
      refine lv_iconst (v := (0 : Int32)) hx hb dX11_same_22 (by decide) ?_
      refine e_callVv (As := [.int ((0 : Int32))]) (rest := []) ⟨hx, hb, hml, hown, hts⟩ K G 97 (by decide) gl_97 rfl (c_X11_layOut h) (cwV 1 hts gX11_same_X11_layOut rfl rfl rfl (by decide +kernel) ⟨Nat.le_of_ble_eq_true rfl, Nat.le_of_ble_eq_true rfl⟩) rfl hl.1 rfl (Nat.le_of_ble_eq_true rfl) dX11_same_23 ⟨Nat.zero_le _, Nat.zero_le _⟩ (fun σ8 H locs h G => ?_)
      refine lv_iconst (v := (0 : Int32)) hx hb dX11_same_26 (by decide) ?_
      refine lv_topi (fun v9 ev9 => ?_)
      have h := h v9 ev9
      refine lv_istore (lv' := [(5, .int (v9)), (0, .ref (ρ (97))), (1, .long (x1)), (3, .long (x3))]) hx hb dX11_same_27 hl (by decide) rfl (fun ls hl => ?_)
      refine lv_iconst (v := (0 : Int32)) hx hb dX11_same_29 (by decide) ?_
      refine lv_topi (fun v10 ev10 => ?_)
      have h := h v10 ev10
      refine lv_istore (lv' := [(6, .int (v10)), (5, .int (v9)), (0, .ref (ρ (97))), (1, .long (x1)), (3, .long (x3))]) hx hb dX11_same_30 hl (by decide) rfl (fun ls hl => ?_)
      obtain ⟨n16, h⟩ := h
      exact l_X11_same_32 C K n16 σ8 x1 x3 v9 v10 _ _ _  h G (lv_sub hl [2, 3, 4, 1, 0] rfl)
    · have h := h.2 c7
      refine lv_iconst (v := (-1 : Int32)) hx hb dX11_same_19 (by decide) ?_
      exact e_iret hx hb hr hlocks G h dX11_same_20
abbrev rm_X10_period : Room := { frames := 2, cells := 0, slots := 0, locals := 44 }
theorem in_X10_period_X0 : ∀ w ∈ wsX00, w ∈ wsX10_period := fun w h => List.mem_cons_of_mem _ (List.mem_append_left _ (List.mem_append_right _ h))
theorem in_X10_period_X10 : ∀ w ∈ wsX100, w ∈ wsX10_period := fun w h => List.mem_cons_of_mem _ (List.mem_append_left _ (List.mem_append_left _ (List.mem_append_right _ h)))
def w_X10_period (σ : eS) (post : Int32 → eS → Prop) : Prop := w_X5_tell σ ((σ.1 32 2).toInt64) (fun σ1 => post (σ1.1 32 3) σ1)
set_option maxHeartbeats 4000000 in
set_option maxRecDepth 100000 in
theorem c_X10_period {l : Launch} {D : va_G} {ρ : Nat → Nat} {κ : Nat → ClassId} {base : Nat} {σ : eS} {post : Int32 → eS → Prop} (h : w_X10_period σ post) : gMi l yX10_period wsX10_period rm_X10_period D ρ κ base [.ref (ρ (0))] σ post := by
  refine e_ofWi (cc := cX10_period) (maxL := 1) (ret := (some .int)) (by decide) rfl (Nat.le_of_ble_eq_true rfl) ?_
  intro p e s m below meth c ls C K G hl
  obtain ⟨hx, hb, hml, hown, hts, hr, hlocks⟩ := id C
  have hl : lv_has ls 1 [(0, .ref (ρ (0)))] := hl
  unfold w_X10_period at h
  refine lv_aload_n hx hb dX10_period_0 rfl (lv_at hl 0 rfl) ?_
  refine e_getq hx hb hts in_X10_period_X10 hown K G 0 (by decide) gl_0 rfl 1 (by decide) 3 rfl (hts (.fieldLink RX10 19 "StreetsStepOn" "told" "LStreetsStepOn$Row;") (e_mem (n := 1) rfl)) dX10_period_1 ?_
  refine lv_aload_n hx hb dX10_period_4 rfl (lv_at hl 0 rfl) ?_
  refine e_getq hx hb hts in_X10_period_X10 hown K G 0 (by decide) gl_0 rfl 5 (by decide) 32 rfl (hts (.fieldLink RX10 44 "StreetsStepOn" "almanac" "LStreetsStepOn$Almanac;") (e_mem (n := 2) rfl)) dX10_period_5 ?_
  refine e_getiN hx hb hts in_X10_period_X0 hown K G 32 (by decide) gl_32 rfl 2 (by decide) rfl (e_memq (n := 28) rfl) dX10_period_8 ?_
  refine lv_i2l hx hb dX10_period_11 rfl ?_
  refine e_callVv (As := [.long ((σ.1 32 2).toInt64)]) (rest := []) ⟨hx, hb, hml, hown, hts⟩ K G 3 (by decide) gl_3 rfl (c_X5_tell h) (cwV 1 hts gX10_period_X5_tell rfl rfl rfl (by decide +kernel) ⟨Nat.le_of_ble_eq_true rfl, Nat.le_of_ble_eq_true rfl⟩) rfl hl.1 rfl (Nat.le_of_ble_eq_true rfl) dX10_period_12 ⟨Nat.zero_le _, Nat.zero_le _⟩ (fun σ1 H locs h G => ?_)
  refine lv_aload_n hx hb dX10_period_15 rfl (lv_at hl 0 rfl) ?_
  refine e_getq hx hb hts in_X10_period_X10 hown K G 0 (by decide) gl_0 rfl 5 (by decide) 32 rfl (hts (.fieldLink RX10 44 "StreetsStepOn" "almanac" "LStreetsStepOn$Almanac;") (e_mem (n := 2) rfl)) dX10_period_16 ?_
  refine e_getiN hx hb hts in_X10_period_X0 hown K G 32 (by decide) gl_32 rfl 3 (by decide) rfl (e_memq (n := 29) rfl) dX10_period_19 ?_
  exact e_iret hx hb hr hlocks G h dX10_period_22
abbrev rm_X11_ownOn : Room := { frames := 0, cells := 0, slots := 0, locals := 0 }
theorem in_X11_ownOn_X11 : ∀ w ∈ wsX110, w ∈ wsX11_ownOn := fun w h => List.mem_cons_of_mem _ (List.mem_append_right _ h)
def b_X11_ownOn_5 (post : Int32 → eS → Prop) : Nat → eS → Int64 → Int32 → Int32 → Prop
  | 0, _, _, _, _ => False
  | n + 1, σ, x1, x3, x4 => (((σ.1 97 0) ≤ x4 → post x3 σ) ∧ (¬ ((σ.1 97 0) ≤ x4) → False))
set_option maxHeartbeats 4000000 in
set_option maxRecDepth 100000 in
theorem l_X11_ownOn_5 {p : Program} {l : Launch} {e : Env} {s : State} {m : MethodId} {args : Array Value} {below : List Frame} {meth : Method} {c : Code} {D : va_G} {ρ : Nat → Nat} {κ : Nat → ClassId} {base : Nat} {post : Int32 → eS → Prop} (C : eCx p s m args meth c cX11_ownOn RX11 5 (some .int) wsX11_ownOn) (K : gK D ρ κ base s) : ∀ (n : Nat) (σ : eS) (x1 : Int64) (x3 : Int32) (x4 : Int32) (H : Heap) (locs : List Loc) (ls : Array Slot), b_X11_ownOn_5 post n σ x1 x3 x4 → gG D ρ κ base s σ H locs → lv_has ls 5 [(0, .ref (ρ (97))), (1, .long (x1)), (3, .int (x3)), (4, .int (x4))] → W p l e rm_X11_ownOn s m args below meth c H locs 0 0 (gQi below args s D ρ κ base post) (F0 m 5 ls []) := by
  obtain ⟨hx, hb, hml, hown, hts, hr, hlocks⟩ := id C
  intro n
  induction n with
  | zero => intro σ x1 x3 x4 H locs ls h G hl; exact False.elim h
  | succ n ih =>
    intro σ x1 x3 x4 H locs ls h G hl
    rw [b_X11_ownOn_5] at h
    refine lv_iload hx hb dX11_ownOn_5 (lv_at hl 3 rfl) ?_
    refine lv_aload_n hx hb dX11_ownOn_7 rfl (lv_at hl 0 rfl) ?_
    refine e_geti hx hb hts in_X11_ownOn_X11 hown K G 97 (by decide) gl_97 rfl 0 (by decide) rfl (hts (.fieldLink RX11 104 "StreetsStepOnModel" "streets" "I") (e_mem (n := 1) rfl)) dX11_ownOn_8 ?_
    refine lv_icmp_ge (tgt := 40) hx hb dX11_ownOn_11 (by decide) (fun c3 => ?_) (fun c3 => ?_)
    · have h := h.1 c3
      refine lv_iload_n hx hb dX11_ownOn_40 rfl (lv_at hl 2 rfl) ?_
      exact e_iret hx hb hr hlocks G h dX11_ownOn_41
    · have h := h.2 c3
      refine lv_iload_n hx hb dX11_ownOn_14 rfl (lv_at hl 2 rfl) ?_
      refine lv_aload_n hx hb dX11_ownOn_15 rfl (lv_at hl 0 rfl) ?_
      refine lv_iload hx hb dX11_ownOn_16 (lv_at hl 3 rfl) ?_
      refine lv_lload_n hx hb dX11_ownOn_18 rfl (lv_at hl 1 rfl) ?_
      exact h.elim
def w_X11_ownOn (σ : eS) (x1 : Int64) (post : Int32 → eS → Prop) : Prop := ∀ v1 : Int32, v1 = (0 : Int32) → ∀ v2 : Int32, v2 = (0 : Int32) → (∃ n4 : Nat, b_X11_ownOn_5 post n4 σ x1 v1 v2)
set_option maxHeartbeats 4000000 in
set_option maxRecDepth 100000 in
theorem c_X11_ownOn {l : Launch} {D : va_G} {ρ : Nat → Nat} {κ : Nat → ClassId} {base : Nat} {σ : eS} {x1 : Int64} {post : Int32 → eS → Prop} (h : w_X11_ownOn σ x1 post) : gMi l yX11_ownOn wsX11_ownOn rm_X11_ownOn D ρ κ base [.ref (ρ (97)), .long (x1)] σ post := by
  refine e_ofWi (cc := cX11_ownOn) (maxL := 5) (ret := (some .int)) (by decide) rfl (Nat.le_of_ble_eq_true rfl) ?_
  intro p e s m below meth c ls C K G hl
  obtain ⟨hx, hb, hml, hown, hts, hr, hlocks⟩ := id C
  have hl : lv_has ls 5 [(0, .ref (ρ (97))), (1, .long (x1))] := hl
  unfold w_X11_ownOn at h
  refine lv_iconst (v := (0 : Int32)) hx hb dX11_ownOn_0 (by decide) ?_
  refine lv_topi (fun v1 ev1 => ?_)
  have h := h v1 ev1
  refine lv_istore_n (lv' := [(3, .int (v1)), (0, .ref (ρ (97))), (1, .long (x1))]) hx hb dX11_ownOn_1 rfl hl (by decide) rfl (fun ls hl => ?_)
  refine lv_iconst (v := (0 : Int32)) hx hb dX11_ownOn_2 (by decide) ?_
  refine lv_topi (fun v2 ev2 => ?_)
  have h := h v2 ev2
  refine lv_istore (lv' := [(4, .int (v2)), (3, .int (v1)), (0, .ref (ρ (97))), (1, .long (x1))]) hx hb dX11_ownOn_3 hl (by decide) rfl (fun ls hl => ?_)
  obtain ⟨n4, h⟩ := h
  exact l_X11_ownOn_5 C K n4 σ x1 v1 v2 _ _ _  h G (lv_sub hl [2, 3, 1, 0] rfl)
abbrev rm_X11_findPeriod : Room := { frames := 1, cells := 0, slots := 0, locals := 25 }
theorem in_X11_findPeriod_X11 : ∀ w ∈ wsX110, w ∈ wsX11_findPeriod := fun w h => List.mem_cons_of_mem _ (List.mem_append_right _ h)
def b_X11_findPeriod_7 (post : Int32 → eS → Prop) : Nat → eS → Int32 → Prop
  | 0, _, _ => False
  | n + 1, σ, x1 => w_X11_ownOn σ (x1.toInt64) (fun r4 σ3 => (((σ3.1 97 0) ≤ r4 → post x1 σ3) ∧ (¬ ((σ3.1 97 0) ≤ r4) → ∀ v6 : Int32, v6 = (x1 + (1 : Int32)) → b_X11_findPeriod_7 post n σ3 v6)))
set_option maxHeartbeats 4000000 in
set_option maxRecDepth 100000 in
theorem l_X11_findPeriod_7 {p : Program} {l : Launch} {e : Env} {s : State} {m : MethodId} {args : Array Value} {below : List Frame} {meth : Method} {c : Code} {D : va_G} {ρ : Nat → Nat} {κ : Nat → ClassId} {base : Nat} {post : Int32 → eS → Prop} (C : eCx p s m args meth c cX11_findPeriod RX11 2 (some .int) wsX11_findPeriod) (K : gK D ρ κ base s) : ∀ (n : Nat) (σ : eS) (x1 : Int32) (H : Heap) (locs : List Loc) (ls : Array Slot), b_X11_findPeriod_7 post n σ x1 → gG D ρ κ base s σ H locs → lv_has ls 2 [(0, .ref (ρ (97))), (1, .int (x1))] → W p l e rm_X11_findPeriod s m args below meth c H locs 0 0 (gQi below args s D ρ κ base post) (F0 m 7 ls []) := by
  obtain ⟨hx, hb, hml, hown, hts, hr, hlocks⟩ := id C
  intro n
  induction n with
  | zero => intro σ x1 H locs ls h G hl; exact False.elim h
  | succ n ih =>
    intro σ x1 H locs ls h G hl
    rw [b_X11_findPeriod_7] at h
    refine lv_aload_n hx hb dX11_findPeriod_7 rfl (lv_at hl 0 rfl) ?_
    refine lv_iload_n hx hb dX11_findPeriod_8 rfl (lv_at hl 1 rfl) ?_
    refine lv_i2l hx hb dX11_findPeriod_9 rfl ?_
    refine e_callVi (As := [.long (x1.toInt64)]) (rest := []) ⟨hx, hb, hml, hown, hts⟩ K G 97 (by decide) gl_97 rfl (c_X11_ownOn h) (cwV 1 hts gX11_findPeriod_X11_ownOn rfl rfl rfl (by decide +kernel) ⟨Nat.le_of_ble_eq_true rfl, Nat.le_of_ble_eq_true rfl⟩) rfl hl.1 rfl (Nat.le_of_ble_eq_true rfl) dX11_findPeriod_10 ⟨Nat.zero_le _, Nat.zero_le _⟩ (fun r4 σ3 H locs h G => ?_)
    refine lv_aload_n hx hb dX11_findPeriod_13 rfl (lv_at hl 0 rfl) ?_
    refine e_geti hx hb hts in_X11_findPeriod_X11 hown K G 97 (by decide) gl_97 rfl 0 (by decide) rfl (hts (.fieldLink RX11 104 "StreetsStepOnModel" "streets" "I") (e_mem (n := 1) rfl)) dX11_findPeriod_14 ?_
    refine lv_icmp_ge (tgt := 26) hx hb dX11_findPeriod_17 (by decide) (fun c5 => ?_) (fun c5 => ?_)
    · have h := h.1 c5
      refine lv_iload_n hx hb dX11_findPeriod_26 rfl (lv_at hl 1 rfl) ?_
      exact e_iret hx hb hr hlocks G h dX11_findPeriod_27
    · have h := h.2 c5
      obtain ⟨v6, ev6⟩ : ∃ y : Int32, y = x1 + (1 : Int32) := ⟨_, rfl⟩
      have h := h v6 ev6
      refine lv_iinc (v := v6) (lv' := [(1, .int (v6)), (0, .ref (ρ (97)))]) hx hb dX11_findPeriod_20 hl (k := 1) rfl (by rw [ev6]; rfl) (by decide) rfl (fun ls hl => ?_)
      refine lv_goto (tgt := 7) hx hb dX11_findPeriod_23 (by decide) ?_
      exact ih σ3 v6 _ _ _  h G (lv_sub hl [1, 0] rfl)
def w_X11_findPeriod (σ : eS) (post : Int32 → eS → Prop) : Prop := w_X11_layOut σ (0 : Int32) (fun σ1 => ∀ v2 : Int32, v2 = (1 : Int32) → (∃ n7 : Nat, b_X11_findPeriod_7 post n7 σ1 v2))
set_option maxHeartbeats 4000000 in
set_option maxRecDepth 100000 in
theorem c_X11_findPeriod {l : Launch} {D : va_G} {ρ : Nat → Nat} {κ : Nat → ClassId} {base : Nat} {σ : eS} {post : Int32 → eS → Prop} (h : w_X11_findPeriod σ post) : gMi l yX11_findPeriod wsX11_findPeriod rm_X11_findPeriod D ρ κ base [.ref (ρ (97))] σ post := by
  refine e_ofWi (cc := cX11_findPeriod) (maxL := 2) (ret := (some .int)) (by decide) rfl (Nat.le_of_ble_eq_true rfl) ?_
  intro p e s m below meth c ls C K G hl
  obtain ⟨hx, hb, hml, hown, hts, hr, hlocks⟩ := id C
  have hl : lv_has ls 2 [(0, .ref (ρ (97)))] := hl
  unfold w_X11_findPeriod at h
  refine lv_aload_n hx hb dX11_findPeriod_0 rfl (lv_at hl 0 rfl) ?_
  refine lv_iconst (v := (0 : Int32)) hx hb dX11_findPeriod_1 (by decide) ?_
  refine e_callVv (As := [.int ((0 : Int32))]) (rest := []) ⟨hx, hb, hml, hown, hts⟩ K G 97 (by decide) gl_97 rfl (c_X11_layOut h) (cwV 1 hts gX11_findPeriod_X11_layOut rfl rfl rfl (by decide +kernel) ⟨Nat.le_of_ble_eq_true rfl, Nat.le_of_ble_eq_true rfl⟩) rfl hl.1 rfl (Nat.le_of_ble_eq_true rfl) dX11_findPeriod_2 ⟨Nat.zero_le _, Nat.zero_le _⟩ (fun σ1 H locs h G => ?_)
  refine lv_iconst (v := (1 : Int32)) hx hb dX11_findPeriod_5 (by decide) ?_
  refine lv_topi (fun v2 ev2 => ?_)
  have h := h v2 ev2
  refine lv_istore_n (lv' := [(1, .int (v2)), (0, .ref (ρ (97)))]) hx hb dX11_findPeriod_6 rfl hl (by decide) rfl (fun ls hl => ?_)
  obtain ⟨n7, h⟩ := h
  exact l_X11_findPeriod_7 C K n7 σ1 v2 _ _ _  h G (lv_sub hl [1, 0] rfl)
abbrev rm_X11_period : Room := { frames := 2, cells := 0, slots := 0, locals := 46 }
theorem in_X11_period_X11 : ∀ w ∈ wsX110, w ∈ wsX11_period := fun w h => List.mem_cons_of_mem _ (List.mem_append_right _ h)
def w_X11_period (σ : eS) (post : Int32 → eS → Prop) : Prop := ∀ σ1 : eS, σ1 = e_ui σ 97 18 (0 : Int32) → w_X11_findPeriod σ1 (fun r3 σ2 => ∀ σ4 : eS, σ4 = e_ui σ2 97 17 (0 : Int32) → w_X11_tell σ4 ((σ4.1 97 26).toInt64) (fun σ5 => post r3 σ5))
set_option maxHeartbeats 4000000 in
set_option maxRecDepth 100000 in
theorem c_X11_period {l : Launch} {D : va_G} {ρ : Nat → Nat} {κ : Nat → ClassId} {base : Nat} {σ : eS} {post : Int32 → eS → Prop} (h : w_X11_period σ post) : gMi l yX11_period wsX11_period rm_X11_period D ρ κ base [.ref (ρ (97))] σ post := by
  refine e_ofWi (cc := cX11_period) (maxL := 2) (ret := (some .int)) (by decide) rfl (Nat.le_of_ble_eq_true rfl) ?_
  intro p e s m below meth c ls C K G hl
  obtain ⟨hx, hb, hml, hown, hts, hr, hlocks⟩ := id C
  have hl : lv_has ls 2 [(0, .ref (ρ (97)))] := hl
  unfold w_X11_period at h
  refine lv_aload_n hx hb dX11_period_0 rfl (lv_at hl 0 rfl) ?_
  refine lv_iconst (v := (0 : Int32)) hx hb dX11_period_1 (by decide) ?_
  refine e_puti hx hb hts in_X11_period_X11 tyX11 tyX11_ok nmX11 hown K G 97 (by decide) gl_97 rfl 18 (by decide) rfl (hts (.fieldLink RX11 98 "StreetsStepOnModel" "thrown" "I") (e_mem (n := 1) rfl)) rfl (tyX11_ok 18 (by decide)) rfl rfl dX11_period_2 (fun H locs G => ?_)
  obtain ⟨σ1, eσ1⟩ : ∃ z : eS, z = e_ui σ 97 18 (0 : Int32) := ⟨_, rfl⟩
  rw [← eσ1] at G
  have h := h σ1 eσ1
  refine lv_aload_n hx hb dX11_period_5 rfl (lv_at hl 0 rfl) ?_
  refine e_callVi (As := []) (rest := []) ⟨hx, hb, hml, hown, hts⟩ K G 97 (by decide) gl_97 rfl (c_X11_findPeriod h) (cwV 0 hts gX11_period_X11_findPeriod rfl rfl rfl (by decide +kernel) ⟨Nat.le_of_ble_eq_true rfl, Nat.le_of_ble_eq_true rfl⟩) rfl hl.1 rfl (Nat.le_of_ble_eq_true rfl) dX11_period_6 ⟨Nat.zero_le _, Nat.zero_le _⟩ (fun r3 σ2 H locs h G => ?_)
  refine lv_istore_n (lv' := [(1, .int (r3)), (0, .ref (ρ (97)))]) hx hb dX11_period_9 rfl hl (by decide) rfl (fun ls hl => ?_)
  refine lv_aload_n hx hb dX11_period_10 rfl (lv_at hl 1 rfl) ?_
  refine lv_iconst (v := (0 : Int32)) hx hb dX11_period_11 (by decide) ?_
  refine e_puti hx hb hts in_X11_period_X11 tyX11 tyX11_ok nmX11 hown K G 97 (by decide) gl_97 rfl 17 (by decide) rfl (hts (.fieldLink RX11 101 "StreetsStepOnModel" "rowMany" "I") (e_mem (n := 2) rfl)) rfl (tyX11_ok 17 (by decide)) rfl rfl dX11_period_12 (fun H locs G => ?_)
  obtain ⟨σ4, eσ4⟩ : ∃ z : eS, z = e_ui σ2 97 17 (0 : Int32) := ⟨_, rfl⟩
  rw [← eσ4] at G
  have h := h σ4 eσ4
  refine lv_aload_n hx hb dX11_period_15 rfl (lv_at hl 1 rfl) ?_
  refine lv_aload_n hx hb dX11_period_16 rfl (lv_at hl 1 rfl) ?_
  refine e_geti hx hb hts in_X11_period_X11 hown K G 97 (by decide) gl_97 rfl 26 (by decide) rfl (hts (.fieldLink RX11 227 "StreetsStepOnModel" "round" "I") (e_mem (n := 3) rfl)) dX11_period_17 ?_
  refine lv_i2l hx hb dX11_period_20 rfl ?_
  refine e_callVv (As := [.long ((σ4.1 97 26).toInt64)]) (rest := []) ⟨hx, hb, hml, hown, hts⟩ K G 97 (by decide) gl_97 rfl (c_X11_tell h) (cwV 1 hts gX11_period_X11_tell rfl rfl rfl (by decide +kernel) ⟨Nat.le_of_ble_eq_true rfl, Nat.le_of_ble_eq_true rfl⟩) rfl hl.1 rfl (Nat.le_of_ble_eq_true rfl) dX11_period_21 ⟨Nat.zero_le _, Nat.zero_le _⟩ (fun σ5 H locs h G => ?_)
  refine lv_iload_n hx hb dX11_period_24 rfl (lv_at hl 0 rfl) ?_
  exact e_iret hx hb hr hlocks G h dX11_period_25
abbrev rm_X10_meets : Room := { frames := 1, cells := 0, slots := 0, locals := 21 }
theorem in_X10_meets_X0 : ∀ w ∈ wsX00, w ∈ wsX10_meets := fun w h => List.mem_cons_of_mem _ (List.mem_append_left _ (List.mem_append_right _ h))
theorem in_X10_meets_X10 : ∀ w ∈ wsX100, w ∈ wsX10_meets := fun w h => List.mem_cons_of_mem _ (List.mem_append_left _ (List.mem_append_left _ (List.mem_append_right _ h)))
def b_X10_meets_30 (post : Int64 → eS → Prop) : Nat → eS → Int32 → Int32 → Int64 → Int32 → Prop
  | 0, _, _, _, _, _ => False
  | n + 1, σ, x1, x2, x3, x5 => (((σ.1 32 2) < x5 → post (-2 : Int64) σ) ∧ (¬ ((σ.1 32 2) < x5) → False))
set_option maxHeartbeats 4000000 in
set_option maxRecDepth 100000 in
theorem l_X10_meets_30 {p : Program} {l : Launch} {e : Env} {s : State} {m : MethodId} {args : Array Value} {below : List Frame} {meth : Method} {c : Code} {D : va_G} {ρ : Nat → Nat} {κ : Nat → ClassId} {base : Nat} {post : Int64 → eS → Prop} (C : eCx p s m args meth c cX10_meets RX10 6 (some .long) wsX10_meets) (K : gK D ρ κ base s) : ∀ (n : Nat) (σ : eS) (x1 : Int32) (x2 : Int32) (x3 : Int64) (x5 : Int32) (H : Heap) (locs : List Loc) (ls : Array Slot), b_X10_meets_30 post n σ x1 x2 x3 x5 → gG D ρ κ base s σ H locs → lv_has ls 6 [(0, .ref (ρ (0))), (1, .int (x1)), (2, .int (x2)), (3, .long (x3)), (5, .int (x5))] → W p l e rm_X10_meets s m args below meth c H locs 0 0 (gQl below args s D ρ κ base post) (F0 m 30 ls []) := by
  obtain ⟨hx, hb, hml, hown, hts, hr, hlocks⟩ := id C
  intro n
  induction n with
  | zero => intro σ x1 x2 x3 x5 H locs ls h G hl; exact False.elim h
  | succ n ih =>
    intro σ x1 x2 x3 x5 H locs ls h G hl
    rw [b_X10_meets_30] at h
    refine lv_iload hx hb dX10_meets_30 (lv_at hl 4 rfl) ?_
    refine lv_aload_n hx hb dX10_meets_32 rfl (lv_at hl 0 rfl) ?_
    refine e_getq hx hb hts in_X10_meets_X10 hown K G 0 (by decide) gl_0 rfl 5 (by decide) 32 rfl (hts (.fieldLink RX10 44 "StreetsStepOn" "almanac" "LStreetsStepOn$Almanac;") (e_mem (n := 2) rfl)) dX10_meets_33 ?_
    refine e_getiN hx hb hts in_X10_meets_X0 hown K G 32 (by decide) gl_32 rfl 2 (by decide) rfl (e_memq (n := 28) rfl) dX10_meets_36 ?_
    refine lv_icmp_gt (tgt := 71) hx hb dX10_meets_39 (by decide) (fun c11 => ?_) (fun c11 => ?_)
    · have h := h.1 c11
      refine lv_ldc2 (v := (-2 : Int64)) hx hb hown (hts (.constantLong RX10 183 (-2)) (e_mem (n := 3) rfl)) dX10_meets_71 ?_
      exact e_lret hx hb hr hlocks G h dX10_meets_74
    · have h := h.2 c11
      refine lv_aload_n hx hb dX10_meets_42 rfl (lv_at hl 0 rfl) ?_
      refine e_getq hx hb hts in_X10_meets_X10 hown K G 0 (by decide) gl_0 rfl 5 (by decide) 32 rfl (hts (.fieldLink RX10 44 "StreetsStepOn" "almanac" "LStreetsStepOn$Almanac;") (e_mem (n := 2) rfl)) dX10_meets_43 ?_
      refine lv_iload_n hx hb dX10_meets_46 rfl (lv_at hl 1 rfl) ?_
      refine lv_lload_n hx hb dX10_meets_47 rfl (lv_at hl 3 rfl) ?_
      refine lv_iload hx hb dX10_meets_48 (lv_at hl 4 rfl) ?_
      refine lv_i2l hx hb dX10_meets_50 rfl ?_
      refine lv_ladd hx hb dX10_meets_51 ?_
      exact h.elim
def w_X10_meets (σ : eS) (x1 : Int32) (x2 : Int32) (x3 : Int64) (post : Int64 → eS → Prop) : Prop := w_X10_isStreet σ x1 (fun r2 σ1 => ((r2 = 0 → post (-1 : Int64) σ1) ∧ (¬ (r2 = 0) → w_X10_isStreet σ1 x2 (fun r5 σ4 => ((r5 = 0 → post (-1 : Int64) σ4) ∧ (¬ (r5 = 0) → w_X10_isDay σ4 x3 (fun r8 σ7 => ((¬ r8 = 0 → ∀ v10 : Int32, v10 = (1 : Int32) → (∃ n12 : Nat, b_X10_meets_30 post n12 σ7 x1 x2 x3 v10)) ∧ (r8 = 0 → post (-1 : Int64) σ7)))))))))
set_option maxHeartbeats 4000000 in
set_option maxRecDepth 100000 in
theorem c_X10_meets {l : Launch} {D : va_G} {ρ : Nat → Nat} {κ : Nat → ClassId} {base : Nat} {σ : eS} {x1 : Int32} {x2 : Int32} {x3 : Int64} {post : Int64 → eS → Prop} (h : w_X10_meets σ x1 x2 x3 post) : gMl l yX10_meets wsX10_meets rm_X10_meets D ρ κ base [.ref (ρ (0)), .int (x1), .int (x2), .long (x3)] σ post := by
  refine e_ofWl (cc := cX10_meets) (maxL := 6) (ret := (some .long)) (by decide) rfl (Nat.le_of_ble_eq_true rfl) ?_
  intro p e s m below meth c ls C K G hl
  obtain ⟨hx, hb, hml, hown, hts, hr, hlocks⟩ := id C
  have hl : lv_has ls 6 [(0, .ref (ρ (0))), (1, .int (x1)), (2, .int (x2)), (3, .long (x3))] := hl
  unfold w_X10_meets at h
  refine lv_aload_n hx hb dX10_meets_0 rfl (lv_at hl 0 rfl) ?_
  refine lv_iload_n hx hb dX10_meets_1 rfl (lv_at hl 1 rfl) ?_
  refine e_callVi (As := [.int (x1)]) (rest := []) ⟨hx, hb, hml, hown, hts⟩ K G 0 (by decide) gl_0 rfl (c_X10_isStreet h) (cwV 1 hts gX10_meets_X10_isStreet rfl rfl rfl (by decide +kernel) ⟨Nat.le_of_ble_eq_true rfl, Nat.le_of_ble_eq_true rfl⟩) rfl hl.1 rfl (Nat.le_of_ble_eq_true rfl) dX10_meets_2 ⟨Nat.zero_le _, Nat.zero_le _⟩ (fun r2 σ1 H locs h G => ?_)
  refine lv_if_eq (tgt := 23) hx hb dX10_meets_5 (by decide) (fun c3 => ?_) (fun c3 => ?_)
  · have h := h.1 c3
    refine lv_ldc2 (v := (-1 : Int64)) hx hb hown (hts (.constantLong RX10 181 (-1)) (e_mem (n := 1) rfl)) dX10_meets_23 ?_
    exact e_lret hx hb hr hlocks G h dX10_meets_26
  · have h := h.2 c3
    refine lv_aload_n hx hb dX10_meets_8 rfl (lv_at hl 0 rfl) ?_
    refine lv_iload_n hx hb dX10_meets_9 rfl (lv_at hl 2 rfl) ?_
    refine e_callVi (As := [.int (x2)]) (rest := []) ⟨hx, hb, hml, hown, hts⟩ K G 0 (by decide) gl_0 rfl (c_X10_isStreet h) (cwV 1 hts gX10_meets_X10_isStreet rfl rfl rfl (by decide +kernel) ⟨Nat.le_of_ble_eq_true rfl, Nat.le_of_ble_eq_true rfl⟩) rfl hl.1 rfl (Nat.le_of_ble_eq_true rfl) dX10_meets_10 ⟨Nat.zero_le _, Nat.zero_le _⟩ (fun r5 σ4 H locs h G => ?_)
    refine lv_if_eq (tgt := 23) hx hb dX10_meets_13 (by decide) (fun c6 => ?_) (fun c6 => ?_)
    · have h := h.1 c6
      refine lv_ldc2 (v := (-1 : Int64)) hx hb hown (hts (.constantLong RX10 181 (-1)) (e_mem (n := 1) rfl)) dX10_meets_23 ?_
      exact e_lret hx hb hr hlocks G h dX10_meets_26
    · have h := h.2 c6
      refine lv_lload_n hx hb dX10_meets_16 rfl (lv_at hl 3 rfl) ?_
      refine e_callSi (As := [.long (x3)]) (rest := []) ⟨hx, hb, hml, hown, hts⟩ K G (c_X10_isDay h) (va_cwS 1 hts gX10_meets_X10_isDay rfl rfl rfl (by decide +kernel) ⟨Nat.le_of_ble_eq_true rfl, Nat.le_of_ble_eq_true rfl⟩) rfl hl.1 rfl (Nat.le_of_ble_eq_true rfl) dX10_meets_17 ⟨Nat.zero_le _, Nat.zero_le _⟩ (fun r8 σ7 H locs h G => ?_)
      refine lv_if_ne (tgt := 27) hx hb dX10_meets_20 (by decide) (fun c9 => ?_) (fun c9 => ?_)
      · have h := h.1 c9
        refine lv_iconst (v := (1 : Int32)) hx hb dX10_meets_27 (by decide) ?_
        refine lv_topi (fun v10 ev10 => ?_)
        have h := h v10 ev10
        refine lv_istore (lv' := [(5, .int (v10)), (0, .ref (ρ (0))), (1, .int (x1)), (2, .int (x2)), (3, .long (x3))]) hx hb dX10_meets_28 hl (by decide) rfl (fun ls hl => ?_)
        obtain ⟨n12, h⟩ := h
        exact l_X10_meets_30 C K n12 σ7 x1 x2 x3 v10 _ _ _  h G (lv_sub hl [1, 2, 3, 4, 0] rfl)
      · have h := h.2 c9
        refine lv_ldc2 (v := (-1 : Int64)) hx hb hown (hts (.constantLong RX10 181 (-1)) (e_mem (n := 1) rfl)) dX10_meets_23 ?_
        exact e_lret hx hb hr hlocks G h dX10_meets_26
abbrev rm_X11_meets : Room := { frames := 2, cells := 0, slots := 0, locals := 46 }
theorem in_X11_meets_X11 : ∀ w ∈ wsX110, w ∈ wsX11_meets := fun w h => List.mem_cons_of_mem _ (List.mem_append_right _ h)
def b_X11_meets_42 (post : Int64 → eS → Prop) : Nat → eS → Int32 → Int32 → Int64 → Int64 → Prop
  | 0, _, _, _, _, _ => False
  | n + 1, σ, x1, x2, x3, x5 => ((0 < (lg_cmp x5 (x3 + ((σ.1 97 26).toInt64))) → post (-2 : Int64) σ) ∧ (¬ (0 < (lg_cmp x5 (x3 + ((σ.1 97 26).toInt64)))) → False))
set_option maxHeartbeats 4000000 in
set_option maxRecDepth 100000 in
theorem l_X11_meets_42 {p : Program} {l : Launch} {e : Env} {s : State} {m : MethodId} {args : Array Value} {below : List Frame} {meth : Method} {c : Code} {D : va_G} {ρ : Nat → Nat} {κ : Nat → ClassId} {base : Nat} {post : Int64 → eS → Prop} (C : eCx p s m args meth c cX11_meets RX11 7 (some .long) wsX11_meets) (K : gK D ρ κ base s) : ∀ (n : Nat) (σ : eS) (x1 : Int32) (x2 : Int32) (x3 : Int64) (x5 : Int64) (H : Heap) (locs : List Loc) (ls : Array Slot), b_X11_meets_42 post n σ x1 x2 x3 x5 → gG D ρ κ base s σ H locs → lv_has ls 7 [(0, .ref (ρ (97))), (1, .int (x1)), (2, .int (x2)), (3, .long (x3)), (5, .long (x5))] → W p l e rm_X11_meets s m args below meth c H locs 0 0 (gQl below args s D ρ κ base post) (F0 m 42 ls []) := by
  obtain ⟨hx, hb, hml, hown, hts, hr, hlocks⟩ := id C
  intro n
  induction n with
  | zero => intro σ x1 x2 x3 x5 H locs ls h G hl; exact False.elim h
  | succ n ih =>
    intro σ x1 x2 x3 x5 H locs ls h G hl
    rw [b_X11_meets_42] at h
    refine lv_lload hx hb dX11_meets_42 (lv_at hl 4 rfl) ?_
    refine lv_lload_n hx hb dX11_meets_44 rfl (lv_at hl 3 rfl) ?_
    refine lv_aload_n hx hb dX11_meets_45 rfl (lv_at hl 0 rfl) ?_
    refine e_geti hx hb hts in_X11_meets_X11 hown K G 97 (by decide) gl_97 rfl 26 (by decide) rfl (hts (.fieldLink RX11 227 "StreetsStepOnModel" "round" "I") (e_mem (n := 3) rfl)) dX11_meets_46 ?_
    refine lv_i2l hx hb dX11_meets_49 rfl ?_
    refine lv_ladd hx hb dX11_meets_50 ?_
    refine W.lcmp hx hb dX11_meets_51 ?_
    refine lv_if_gt (tgt := 78) hx hb dX11_meets_52 (by decide) (fun c13 => ?_) (fun c13 => ?_)
    · have h := h.1 c13
      refine lv_ldc2 (v := (-2 : Int64)) hx hb hown (hts (.constantLong RX11 261 (-2)) (e_mem (n := 4) rfl)) dX11_meets_78 ?_
      exact e_lret hx hb hr hlocks G h dX11_meets_81
    · have h := h.2 c13
      refine lv_aload_n hx hb dX11_meets_55 rfl (lv_at hl 0 rfl) ?_
      refine lv_iload_n hx hb dX11_meets_56 rfl (lv_at hl 1 rfl) ?_
      refine lv_lload hx hb dX11_meets_57 (lv_at hl 4 rfl) ?_
      exact h.elim
def w_X11_meets (σ : eS) (x1 : Int32) (x2 : Int32) (x3 : Int64) (post : Int64 → eS → Prop) : Prop := ∀ σ1 : eS, σ1 = e_ui σ 97 18 (0 : Int32) → w_X11_isStreet σ1 x1 (fun r3 σ2 => ((r3 = 0 → post (-1 : Int64) σ2) ∧ (¬ (r3 = 0) → w_X11_isStreet σ2 x2 (fun r6 σ5 => ((r6 = 0 → post (-1 : Int64) σ5) ∧ (¬ (r6 = 0) → w_X11_isDay σ5 x3 (fun r9 σ8 => ((¬ r9 = 0 → w_X11_layOut σ8 (0 : Int32) (fun σ11 => ∀ v12 : Int64, v12 = (x3 + (1 : Int64)) → (∃ n14 : Nat, b_X11_meets_42 post n14 σ11 x1 x2 x3 v12))) ∧ (r9 = 0 → post (-1 : Int64) σ8)))))))))
set_option maxHeartbeats 4000000 in
set_option maxRecDepth 100000 in
theorem c_X11_meets {l : Launch} {D : va_G} {ρ : Nat → Nat} {κ : Nat → ClassId} {base : Nat} {σ : eS} {x1 : Int32} {x2 : Int32} {x3 : Int64} {post : Int64 → eS → Prop} (h : w_X11_meets σ x1 x2 x3 post) : gMl l yX11_meets wsX11_meets rm_X11_meets D ρ κ base [.ref (ρ (97)), .int (x1), .int (x2), .long (x3)] σ post := by
  refine e_ofWl (cc := cX11_meets) (maxL := 7) (ret := (some .long)) (by decide) rfl (Nat.le_of_ble_eq_true rfl) ?_
  intro p e s m below meth c ls C K G hl
  obtain ⟨hx, hb, hml, hown, hts, hr, hlocks⟩ := id C
  have hl : lv_has ls 7 [(0, .ref (ρ (97))), (1, .int (x1)), (2, .int (x2)), (3, .long (x3))] := hl
  unfold w_X11_meets at h
  refine lv_aload_n hx hb dX11_meets_0 rfl (lv_at hl 0 rfl) ?_
  refine lv_iconst (v := (0 : Int32)) hx hb dX11_meets_1 (by decide) ?_
  refine e_puti hx hb hts in_X11_meets_X11 tyX11 tyX11_ok nmX11 hown K G 97 (by decide) gl_97 rfl 18 (by decide) rfl (hts (.fieldLink RX11 98 "StreetsStepOnModel" "thrown" "I") (e_mem (n := 1) rfl)) rfl (tyX11_ok 18 (by decide)) rfl rfl dX11_meets_2 (fun H locs G => ?_)
  obtain ⟨σ1, eσ1⟩ : ∃ z : eS, z = e_ui σ 97 18 (0 : Int32) := ⟨_, rfl⟩
  rw [← eσ1] at G
  have h := h σ1 eσ1
  refine lv_aload_n hx hb dX11_meets_5 rfl (lv_at hl 0 rfl) ?_
  refine lv_iload_n hx hb dX11_meets_6 rfl (lv_at hl 1 rfl) ?_
  refine e_callVi (As := [.int (x1)]) (rest := []) ⟨hx, hb, hml, hown, hts⟩ K G 97 (by decide) gl_97 rfl (c_X11_isStreet h) (cwV 1 hts gX11_meets_X11_isStreet rfl rfl rfl (by decide +kernel) ⟨Nat.le_of_ble_eq_true rfl, Nat.le_of_ble_eq_true rfl⟩) rfl hl.1 rfl (Nat.le_of_ble_eq_true rfl) dX11_meets_7 ⟨Nat.zero_le _, Nat.zero_le _⟩ (fun r3 σ2 H locs h G => ?_)
  refine lv_if_eq (tgt := 28) hx hb dX11_meets_10 (by decide) (fun c4 => ?_) (fun c4 => ?_)
  · have h := h.1 c4
    refine lv_ldc2 (v := (-1 : Int64)) hx hb hown (hts (.constantLong RX11 259 (-1)) (e_mem (n := 2) rfl)) dX11_meets_28 ?_
    exact e_lret hx hb hr hlocks G h dX11_meets_31
  · have h := h.2 c4
    refine lv_aload_n hx hb dX11_meets_13 rfl (lv_at hl 0 rfl) ?_
    refine lv_iload_n hx hb dX11_meets_14 rfl (lv_at hl 2 rfl) ?_
    refine e_callVi (As := [.int (x2)]) (rest := []) ⟨hx, hb, hml, hown, hts⟩ K G 97 (by decide) gl_97 rfl (c_X11_isStreet h) (cwV 1 hts gX11_meets_X11_isStreet rfl rfl rfl (by decide +kernel) ⟨Nat.le_of_ble_eq_true rfl, Nat.le_of_ble_eq_true rfl⟩) rfl hl.1 rfl (Nat.le_of_ble_eq_true rfl) dX11_meets_15 ⟨Nat.zero_le _, Nat.zero_le _⟩ (fun r6 σ5 H locs h G => ?_)
    refine lv_if_eq (tgt := 28) hx hb dX11_meets_18 (by decide) (fun c7 => ?_) (fun c7 => ?_)
    · have h := h.1 c7
      refine lv_ldc2 (v := (-1 : Int64)) hx hb hown (hts (.constantLong RX11 259 (-1)) (e_mem (n := 2) rfl)) dX11_meets_28 ?_
      exact e_lret hx hb hr hlocks G h dX11_meets_31
    · have h := h.2 c7
      refine lv_lload_n hx hb dX11_meets_21 rfl (lv_at hl 3 rfl) ?_
      refine e_callSi (As := [.long (x3)]) (rest := []) ⟨hx, hb, hml, hown, hts⟩ K G (c_X11_isDay h) (va_cwS 1 hts gX11_meets_X11_isDay rfl rfl rfl (by decide +kernel) ⟨Nat.le_of_ble_eq_true rfl, Nat.le_of_ble_eq_true rfl⟩) rfl hl.1 rfl (Nat.le_of_ble_eq_true rfl) dX11_meets_22 ⟨Nat.zero_le _, Nat.zero_le _⟩ (fun r9 σ8 H locs h G => ?_)
      refine lv_if_ne (tgt := 32) hx hb dX11_meets_25 (by decide) (fun c10 => ?_) (fun c10 => ?_)
      · have h := h.1 c10
        refine lv_aload_n hx hb dX11_meets_32 rfl (lv_at hl 0 rfl) ?_
        refine lv_iconst (v := (0 : Int32)) hx hb dX11_meets_33 (by decide) ?_
        refine e_callVv (As := [.int ((0 : Int32))]) (rest := []) ⟨hx, hb, hml, hown, hts⟩ K G 97 (by decide) gl_97 rfl (c_X11_layOut h) (cwV 1 hts gX11_meets_X11_layOut rfl rfl rfl (by decide +kernel) ⟨Nat.le_of_ble_eq_true rfl, Nat.le_of_ble_eq_true rfl⟩) rfl hl.1 rfl (Nat.le_of_ble_eq_true rfl) dX11_meets_34 ⟨Nat.zero_le _, Nat.zero_le _⟩ (fun σ11 H locs h G => ?_)
        refine lv_lload_n hx hb dX11_meets_37 rfl (lv_at hl 3 rfl) ?_
        refine lv_lconst (v := (1 : Int64)) hx hb dX11_meets_38 (by decide) ?_
        refine lv_ladd hx hb dX11_meets_39 ?_
        refine lv_topl (fun v12 ev12 => ?_)
        have h := h v12 ev12
        refine lv_lstore (lv' := [(5, .long (v12)), (0, .ref (ρ (97))), (1, .int (x1)), (2, .int (x2)), (3, .long (x3))]) hx hb dX11_meets_40 hl (by decide) rfl (fun ls hl => ?_)
        obtain ⟨n14, h⟩ := h
        exact l_X11_meets_42 C K n14 σ11 x1 x2 x3 v12 _ _ _  h G (lv_sub hl [1, 2, 3, 4, 0] rfl)
      · have h := h.2 c10
        refine lv_ldc2 (v := (-1 : Int64)) hx hb hown (hts (.constantLong RX11 259 (-1)) (e_mem (n := 2) rfl)) dX11_meets_28 ?_
        exact e_lret hx hb hr hlocks G h dX11_meets_31
abbrev rm_X10_trade : Room := { frames := 1, cells := 0, slots := 0, locals := 21 }
theorem in_X10_trade_X0 : ∀ w ∈ wsX00, w ∈ wsX10_trade := fun w h => List.mem_cons_of_mem _ (List.mem_append_left _ (List.mem_append_right _ h))
theorem in_X10_trade_X10 : ∀ w ∈ wsX100, w ∈ wsX10_trade := fun w h => List.mem_cons_of_mem _ (List.mem_append_left _ (List.mem_append_left _ (List.mem_append_right _ h)))
def b_X10_trade_35 (post : Int64 → eS → Prop) : Nat → eS → Int32 → Int32 → Int64 → Int32 → Prop
  | 0, _, _, _, _, _ => False
  | n + 1, σ, x1, x2, x3, x5 => (((σ.1 32 2) < x5 → post (-2 : Int64) σ) ∧ (¬ ((σ.1 32 2) < x5) → False))
set_option maxHeartbeats 4000000 in
set_option maxRecDepth 100000 in
theorem l_X10_trade_35 {p : Program} {l : Launch} {e : Env} {s : State} {m : MethodId} {args : Array Value} {below : List Frame} {meth : Method} {c : Code} {D : va_G} {ρ : Nat → Nat} {κ : Nat → ClassId} {base : Nat} {post : Int64 → eS → Prop} (C : eCx p s m args meth c cX10_trade RX10 6 (some .long) wsX10_trade) (K : gK D ρ κ base s) : ∀ (n : Nat) (σ : eS) (x1 : Int32) (x2 : Int32) (x3 : Int64) (x5 : Int32) (H : Heap) (locs : List Loc) (ls : Array Slot), b_X10_trade_35 post n σ x1 x2 x3 x5 → gG D ρ κ base s σ H locs → lv_has ls 6 [(0, .ref (ρ (0))), (1, .int (x1)), (2, .int (x2)), (3, .long (x3)), (5, .int (x5))] → W p l e rm_X10_trade s m args below meth c H locs 0 0 (gQl below args s D ρ κ base post) (F0 m 35 ls []) := by
  obtain ⟨hx, hb, hml, hown, hts, hr, hlocks⟩ := id C
  intro n
  induction n with
  | zero => intro σ x1 x2 x3 x5 H locs ls h G hl; exact False.elim h
  | succ n ih =>
    intro σ x1 x2 x3 x5 H locs ls h G hl
    rw [b_X10_trade_35] at h
    refine lv_iload hx hb dX10_trade_35 (lv_at hl 4 rfl) ?_
    refine lv_aload_n hx hb dX10_trade_37 rfl (lv_at hl 0 rfl) ?_
    refine e_getq hx hb hts in_X10_trade_X10 hown K G 0 (by decide) gl_0 rfl 5 (by decide) 32 rfl (hts (.fieldLink RX10 44 "StreetsStepOn" "almanac" "LStreetsStepOn$Almanac;") (e_mem (n := 2) rfl)) dX10_trade_38 ?_
    refine e_getiN hx hb hts in_X10_trade_X0 hown K G 32 (by decide) gl_32 rfl 2 (by decide) rfl (e_memq (n := 28) rfl) dX10_trade_41 ?_
    refine lv_icmp_gt (tgt := 93) hx hb dX10_trade_44 (by decide) (fun c12 => ?_) (fun c12 => ?_)
    · have h := h.1 c12
      refine lv_ldc2 (v := (-2 : Int64)) hx hb hown (hts (.constantLong RX10 183 (-2)) (e_mem (n := 3) rfl)) dX10_trade_93 ?_
      exact e_lret hx hb hr hlocks G h dX10_trade_96
    · have h := h.2 c12
      refine lv_aload_n hx hb dX10_trade_47 rfl (lv_at hl 0 rfl) ?_
      refine e_getq hx hb hts in_X10_trade_X10 hown K G 0 (by decide) gl_0 rfl 5 (by decide) 32 rfl (hts (.fieldLink RX10 44 "StreetsStepOn" "almanac" "LStreetsStepOn$Almanac;") (e_mem (n := 2) rfl)) dX10_trade_48 ?_
      refine lv_iload_n hx hb dX10_trade_51 rfl (lv_at hl 1 rfl) ?_
      refine lv_lload_n hx hb dX10_trade_52 rfl (lv_at hl 3 rfl) ?_
      refine lv_iload hx hb dX10_trade_53 (lv_at hl 4 rfl) ?_
      refine lv_i2l hx hb dX10_trade_55 rfl ?_
      refine lv_ladd hx hb dX10_trade_56 ?_
      exact h.elim
def w_X10_trade (σ : eS) (x1 : Int32) (x2 : Int32) (x3 : Int64) (post : Int64 → eS → Prop) : Prop := w_X10_isStreet σ x1 (fun r2 σ1 => ((r2 = 0 → post (-1 : Int64) σ1) ∧ (¬ (r2 = 0) → w_X10_isStreet σ1 x2 (fun r5 σ4 => ((r5 = 0 → post (-1 : Int64) σ4) ∧ (¬ (r5 = 0) → ((x1 = x2 → post (-1 : Int64) σ4) ∧ (¬ (x1 = x2) → w_X10_isDay σ4 x3 (fun r9 σ8 => ((¬ r9 = 0 → ∀ v11 : Int32, v11 = (1 : Int32) → (∃ n13 : Nat, b_X10_trade_35 post n13 σ8 x1 x2 x3 v11)) ∧ (r9 = 0 → post (-1 : Int64) σ8)))))))))))
set_option maxHeartbeats 4000000 in
set_option maxRecDepth 100000 in
theorem c_X10_trade {l : Launch} {D : va_G} {ρ : Nat → Nat} {κ : Nat → ClassId} {base : Nat} {σ : eS} {x1 : Int32} {x2 : Int32} {x3 : Int64} {post : Int64 → eS → Prop} (h : w_X10_trade σ x1 x2 x3 post) : gMl l yX10_trade wsX10_trade rm_X10_trade D ρ κ base [.ref (ρ (0)), .int (x1), .int (x2), .long (x3)] σ post := by
  refine e_ofWl (cc := cX10_trade) (maxL := 6) (ret := (some .long)) (by decide) rfl (Nat.le_of_ble_eq_true rfl) ?_
  intro p e s m below meth c ls C K G hl
  obtain ⟨hx, hb, hml, hown, hts, hr, hlocks⟩ := id C
  have hl : lv_has ls 6 [(0, .ref (ρ (0))), (1, .int (x1)), (2, .int (x2)), (3, .long (x3))] := hl
  unfold w_X10_trade at h
  refine lv_aload_n hx hb dX10_trade_0 rfl (lv_at hl 0 rfl) ?_
  refine lv_iload_n hx hb dX10_trade_1 rfl (lv_at hl 1 rfl) ?_
  refine e_callVi (As := [.int (x1)]) (rest := []) ⟨hx, hb, hml, hown, hts⟩ K G 0 (by decide) gl_0 rfl (c_X10_isStreet h) (cwV 1 hts gX10_trade_X10_isStreet rfl rfl rfl (by decide +kernel) ⟨Nat.le_of_ble_eq_true rfl, Nat.le_of_ble_eq_true rfl⟩) rfl hl.1 rfl (Nat.le_of_ble_eq_true rfl) dX10_trade_2 ⟨Nat.zero_le _, Nat.zero_le _⟩ (fun r2 σ1 H locs h G => ?_)
  refine lv_if_eq (tgt := 28) hx hb dX10_trade_5 (by decide) (fun c3 => ?_) (fun c3 => ?_)
  · have h := h.1 c3
    refine lv_ldc2 (v := (-1 : Int64)) hx hb hown (hts (.constantLong RX10 181 (-1)) (e_mem (n := 1) rfl)) dX10_trade_28 ?_
    exact e_lret hx hb hr hlocks G h dX10_trade_31
  · have h := h.2 c3
    refine lv_aload_n hx hb dX10_trade_8 rfl (lv_at hl 0 rfl) ?_
    refine lv_iload_n hx hb dX10_trade_9 rfl (lv_at hl 2 rfl) ?_
    refine e_callVi (As := [.int (x2)]) (rest := []) ⟨hx, hb, hml, hown, hts⟩ K G 0 (by decide) gl_0 rfl (c_X10_isStreet h) (cwV 1 hts gX10_trade_X10_isStreet rfl rfl rfl (by decide +kernel) ⟨Nat.le_of_ble_eq_true rfl, Nat.le_of_ble_eq_true rfl⟩) rfl hl.1 rfl (Nat.le_of_ble_eq_true rfl) dX10_trade_10 ⟨Nat.zero_le _, Nat.zero_le _⟩ (fun r5 σ4 H locs h G => ?_)
    refine lv_if_eq (tgt := 28) hx hb dX10_trade_13 (by decide) (fun c6 => ?_) (fun c6 => ?_)
    · have h := h.1 c6
      refine lv_ldc2 (v := (-1 : Int64)) hx hb hown (hts (.constantLong RX10 181 (-1)) (e_mem (n := 1) rfl)) dX10_trade_28 ?_
      exact e_lret hx hb hr hlocks G h dX10_trade_31
    · have h := h.2 c6
      refine lv_iload_n hx hb dX10_trade_16 rfl (lv_at hl 1 rfl) ?_
      refine lv_iload_n hx hb dX10_trade_17 rfl (lv_at hl 2 rfl) ?_
      refine lv_icmp_eq (tgt := 28) hx hb dX10_trade_18 (by decide) (fun c7 => ?_) (fun c7 => ?_)
      · have h := h.1 c7
        refine lv_ldc2 (v := (-1 : Int64)) hx hb hown (hts (.constantLong RX10 181 (-1)) (e_mem (n := 1) rfl)) dX10_trade_28 ?_
        exact e_lret hx hb hr hlocks G h dX10_trade_31
      · have h := h.2 c7
        refine lv_lload_n hx hb dX10_trade_21 rfl (lv_at hl 3 rfl) ?_
        refine e_callSi (As := [.long (x3)]) (rest := []) ⟨hx, hb, hml, hown, hts⟩ K G (c_X10_isDay h) (va_cwS 1 hts gX10_trade_X10_isDay rfl rfl rfl (by decide +kernel) ⟨Nat.le_of_ble_eq_true rfl, Nat.le_of_ble_eq_true rfl⟩) rfl hl.1 rfl (Nat.le_of_ble_eq_true rfl) dX10_trade_22 ⟨Nat.zero_le _, Nat.zero_le _⟩ (fun r9 σ8 H locs h G => ?_)
        refine lv_if_ne (tgt := 32) hx hb dX10_trade_25 (by decide) (fun c10 => ?_) (fun c10 => ?_)
        · have h := h.1 c10
          refine lv_iconst (v := (1 : Int32)) hx hb dX10_trade_32 (by decide) ?_
          refine lv_topi (fun v11 ev11 => ?_)
          have h := h v11 ev11
          refine lv_istore (lv' := [(5, .int (v11)), (0, .ref (ρ (0))), (1, .int (x1)), (2, .int (x2)), (3, .long (x3))]) hx hb dX10_trade_33 hl (by decide) rfl (fun ls hl => ?_)
          obtain ⟨n13, h⟩ := h
          exact l_X10_trade_35 C K n13 σ8 x1 x2 x3 v11 _ _ _  h G (lv_sub hl [1, 2, 3, 4, 0] rfl)
        · have h := h.2 c10
          refine lv_ldc2 (v := (-1 : Int64)) hx hb hown (hts (.constantLong RX10 181 (-1)) (e_mem (n := 1) rfl)) dX10_trade_28 ?_
          exact e_lret hx hb hr hlocks G h dX10_trade_31
abbrev rm_X11_trade : Room := { frames := 2, cells := 0, slots := 0, locals := 46 }
theorem in_X11_trade_X11 : ∀ w ∈ wsX110, w ∈ wsX11_trade := fun w h => List.mem_cons_of_mem _ (List.mem_append_right _ h)
def b_X11_trade_47 (post : Int64 → eS → Prop) : Nat → eS → Int32 → Int32 → Int64 → Int64 → Prop
  | 0, _, _, _, _, _ => False
  | n + 1, σ, x1, x2, x3, x5 => ((0 < (lg_cmp x5 (x3 + ((σ.1 97 26).toInt64))) → post (-2 : Int64) σ) ∧ (¬ (0 < (lg_cmp x5 (x3 + ((σ.1 97 26).toInt64)))) → False))
set_option maxHeartbeats 4000000 in
set_option maxRecDepth 100000 in
theorem l_X11_trade_47 {p : Program} {l : Launch} {e : Env} {s : State} {m : MethodId} {args : Array Value} {below : List Frame} {meth : Method} {c : Code} {D : va_G} {ρ : Nat → Nat} {κ : Nat → ClassId} {base : Nat} {post : Int64 → eS → Prop} (C : eCx p s m args meth c cX11_trade RX11 7 (some .long) wsX11_trade) (K : gK D ρ κ base s) : ∀ (n : Nat) (σ : eS) (x1 : Int32) (x2 : Int32) (x3 : Int64) (x5 : Int64) (H : Heap) (locs : List Loc) (ls : Array Slot), b_X11_trade_47 post n σ x1 x2 x3 x5 → gG D ρ κ base s σ H locs → lv_has ls 7 [(0, .ref (ρ (97))), (1, .int (x1)), (2, .int (x2)), (3, .long (x3)), (5, .long (x5))] → W p l e rm_X11_trade s m args below meth c H locs 0 0 (gQl below args s D ρ κ base post) (F0 m 47 ls []) := by
  obtain ⟨hx, hb, hml, hown, hts, hr, hlocks⟩ := id C
  intro n
  induction n with
  | zero => intro σ x1 x2 x3 x5 H locs ls h G hl; exact False.elim h
  | succ n ih =>
    intro σ x1 x2 x3 x5 H locs ls h G hl
    rw [b_X11_trade_47] at h
    refine lv_lload hx hb dX11_trade_47 (lv_at hl 4 rfl) ?_
    refine lv_lload_n hx hb dX11_trade_49 rfl (lv_at hl 3 rfl) ?_
    refine lv_aload_n hx hb dX11_trade_50 rfl (lv_at hl 0 rfl) ?_
    refine e_geti hx hb hts in_X11_trade_X11 hown K G 97 (by decide) gl_97 rfl 26 (by decide) rfl (hts (.fieldLink RX11 227 "StreetsStepOnModel" "round" "I") (e_mem (n := 3) rfl)) dX11_trade_51 ?_
    refine lv_i2l hx hb dX11_trade_54 rfl ?_
    refine lv_ladd hx hb dX11_trade_55 ?_
    refine W.lcmp hx hb dX11_trade_56 ?_
    refine lv_if_gt (tgt := 94) hx hb dX11_trade_57 (by decide) (fun c14 => ?_) (fun c14 => ?_)
    · have h := h.1 c14
      refine lv_ldc2 (v := (-2 : Int64)) hx hb hown (hts (.constantLong RX11 261 (-2)) (e_mem (n := 4) rfl)) dX11_trade_94 ?_
      exact e_lret hx hb hr hlocks G h dX11_trade_97
    · have h := h.2 c14
      refine lv_aload_n hx hb dX11_trade_60 rfl (lv_at hl 0 rfl) ?_
      refine lv_iload_n hx hb dX11_trade_61 rfl (lv_at hl 1 rfl) ?_
      refine lv_lload hx hb dX11_trade_62 (lv_at hl 4 rfl) ?_
      exact h.elim
def w_X11_trade (σ : eS) (x1 : Int32) (x2 : Int32) (x3 : Int64) (post : Int64 → eS → Prop) : Prop := ∀ σ1 : eS, σ1 = e_ui σ 97 18 (0 : Int32) → w_X11_isStreet σ1 x1 (fun r3 σ2 => ((r3 = 0 → post (-1 : Int64) σ2) ∧ (¬ (r3 = 0) → w_X11_isStreet σ2 x2 (fun r6 σ5 => ((r6 = 0 → post (-1 : Int64) σ5) ∧ (¬ (r6 = 0) → ((x1 = x2 → post (-1 : Int64) σ5) ∧ (¬ (x1 = x2) → w_X11_isDay σ5 x3 (fun r10 σ9 => ((¬ r10 = 0 → w_X11_layOut σ9 (0 : Int32) (fun σ12 => ∀ v13 : Int64, v13 = (x3 + (1 : Int64)) → (∃ n15 : Nat, b_X11_trade_47 post n15 σ12 x1 x2 x3 v13))) ∧ (r10 = 0 → post (-1 : Int64) σ9)))))))))))
set_option maxHeartbeats 4000000 in
set_option maxRecDepth 100000 in
theorem c_X11_trade {l : Launch} {D : va_G} {ρ : Nat → Nat} {κ : Nat → ClassId} {base : Nat} {σ : eS} {x1 : Int32} {x2 : Int32} {x3 : Int64} {post : Int64 → eS → Prop} (h : w_X11_trade σ x1 x2 x3 post) : gMl l yX11_trade wsX11_trade rm_X11_trade D ρ κ base [.ref (ρ (97)), .int (x1), .int (x2), .long (x3)] σ post := by
  refine e_ofWl (cc := cX11_trade) (maxL := 7) (ret := (some .long)) (by decide) rfl (Nat.le_of_ble_eq_true rfl) ?_
  intro p e s m below meth c ls C K G hl
  obtain ⟨hx, hb, hml, hown, hts, hr, hlocks⟩ := id C
  have hl : lv_has ls 7 [(0, .ref (ρ (97))), (1, .int (x1)), (2, .int (x2)), (3, .long (x3))] := hl
  unfold w_X11_trade at h
  refine lv_aload_n hx hb dX11_trade_0 rfl (lv_at hl 0 rfl) ?_
  refine lv_iconst (v := (0 : Int32)) hx hb dX11_trade_1 (by decide) ?_
  refine e_puti hx hb hts in_X11_trade_X11 tyX11 tyX11_ok nmX11 hown K G 97 (by decide) gl_97 rfl 18 (by decide) rfl (hts (.fieldLink RX11 98 "StreetsStepOnModel" "thrown" "I") (e_mem (n := 1) rfl)) rfl (tyX11_ok 18 (by decide)) rfl rfl dX11_trade_2 (fun H locs G => ?_)
  obtain ⟨σ1, eσ1⟩ : ∃ z : eS, z = e_ui σ 97 18 (0 : Int32) := ⟨_, rfl⟩
  rw [← eσ1] at G
  have h := h σ1 eσ1
  refine lv_aload_n hx hb dX11_trade_5 rfl (lv_at hl 0 rfl) ?_
  refine lv_iload_n hx hb dX11_trade_6 rfl (lv_at hl 1 rfl) ?_
  refine e_callVi (As := [.int (x1)]) (rest := []) ⟨hx, hb, hml, hown, hts⟩ K G 97 (by decide) gl_97 rfl (c_X11_isStreet h) (cwV 1 hts gX11_trade_X11_isStreet rfl rfl rfl (by decide +kernel) ⟨Nat.le_of_ble_eq_true rfl, Nat.le_of_ble_eq_true rfl⟩) rfl hl.1 rfl (Nat.le_of_ble_eq_true rfl) dX11_trade_7 ⟨Nat.zero_le _, Nat.zero_le _⟩ (fun r3 σ2 H locs h G => ?_)
  refine lv_if_eq (tgt := 33) hx hb dX11_trade_10 (by decide) (fun c4 => ?_) (fun c4 => ?_)
  · have h := h.1 c4
    refine lv_ldc2 (v := (-1 : Int64)) hx hb hown (hts (.constantLong RX11 259 (-1)) (e_mem (n := 2) rfl)) dX11_trade_33 ?_
    exact e_lret hx hb hr hlocks G h dX11_trade_36
  · have h := h.2 c4
    refine lv_aload_n hx hb dX11_trade_13 rfl (lv_at hl 0 rfl) ?_
    refine lv_iload_n hx hb dX11_trade_14 rfl (lv_at hl 2 rfl) ?_
    refine e_callVi (As := [.int (x2)]) (rest := []) ⟨hx, hb, hml, hown, hts⟩ K G 97 (by decide) gl_97 rfl (c_X11_isStreet h) (cwV 1 hts gX11_trade_X11_isStreet rfl rfl rfl (by decide +kernel) ⟨Nat.le_of_ble_eq_true rfl, Nat.le_of_ble_eq_true rfl⟩) rfl hl.1 rfl (Nat.le_of_ble_eq_true rfl) dX11_trade_15 ⟨Nat.zero_le _, Nat.zero_le _⟩ (fun r6 σ5 H locs h G => ?_)
    refine lv_if_eq (tgt := 33) hx hb dX11_trade_18 (by decide) (fun c7 => ?_) (fun c7 => ?_)
    · have h := h.1 c7
      refine lv_ldc2 (v := (-1 : Int64)) hx hb hown (hts (.constantLong RX11 259 (-1)) (e_mem (n := 2) rfl)) dX11_trade_33 ?_
      exact e_lret hx hb hr hlocks G h dX11_trade_36
    · have h := h.2 c7
      refine lv_iload_n hx hb dX11_trade_21 rfl (lv_at hl 1 rfl) ?_
      refine lv_iload_n hx hb dX11_trade_22 rfl (lv_at hl 2 rfl) ?_
      refine lv_icmp_eq (tgt := 33) hx hb dX11_trade_23 (by decide) (fun c8 => ?_) (fun c8 => ?_)
      · have h := h.1 c8
        refine lv_ldc2 (v := (-1 : Int64)) hx hb hown (hts (.constantLong RX11 259 (-1)) (e_mem (n := 2) rfl)) dX11_trade_33 ?_
        exact e_lret hx hb hr hlocks G h dX11_trade_36
      · have h := h.2 c8
        refine lv_lload_n hx hb dX11_trade_26 rfl (lv_at hl 3 rfl) ?_
        refine e_callSi (As := [.long (x3)]) (rest := []) ⟨hx, hb, hml, hown, hts⟩ K G (c_X11_isDay h) (va_cwS 1 hts gX11_trade_X11_isDay rfl rfl rfl (by decide +kernel) ⟨Nat.le_of_ble_eq_true rfl, Nat.le_of_ble_eq_true rfl⟩) rfl hl.1 rfl (Nat.le_of_ble_eq_true rfl) dX11_trade_27 ⟨Nat.zero_le _, Nat.zero_le _⟩ (fun r10 σ9 H locs h G => ?_)
        refine lv_if_ne (tgt := 37) hx hb dX11_trade_30 (by decide) (fun c11 => ?_) (fun c11 => ?_)
        · have h := h.1 c11
          refine lv_aload_n hx hb dX11_trade_37 rfl (lv_at hl 0 rfl) ?_
          refine lv_iconst (v := (0 : Int32)) hx hb dX11_trade_38 (by decide) ?_
          refine e_callVv (As := [.int ((0 : Int32))]) (rest := []) ⟨hx, hb, hml, hown, hts⟩ K G 97 (by decide) gl_97 rfl (c_X11_layOut h) (cwV 1 hts gX11_trade_X11_layOut rfl rfl rfl (by decide +kernel) ⟨Nat.le_of_ble_eq_true rfl, Nat.le_of_ble_eq_true rfl⟩) rfl hl.1 rfl (Nat.le_of_ble_eq_true rfl) dX11_trade_39 ⟨Nat.zero_le _, Nat.zero_le _⟩ (fun σ12 H locs h G => ?_)
          refine lv_lload_n hx hb dX11_trade_42 rfl (lv_at hl 3 rfl) ?_
          refine lv_lconst (v := (1 : Int64)) hx hb dX11_trade_43 (by decide) ?_
          refine lv_ladd hx hb dX11_trade_44 ?_
          refine lv_topl (fun v13 ev13 => ?_)
          have h := h v13 ev13
          refine lv_lstore (lv' := [(5, .long (v13)), (0, .ref (ρ (97))), (1, .int (x1)), (2, .int (x2)), (3, .long (x3))]) hx hb dX11_trade_45 hl (by decide) rfl (fun ls hl => ?_)
          obtain ⟨n15, h⟩ := h
          exact l_X11_trade_47 C K n15 σ12 x1 x2 x3 v13 _ _ _  h G (lv_sub hl [1, 2, 3, 4, 0] rfl)
        · have h := h.2 c11
          refine lv_ldc2 (v := (-1 : Int64)) hx hb hown (hts (.constantLong RX11 259 (-1)) (e_mem (n := 2) rfl)) dX11_trade_33 ?_
          exact e_lret hx hb hr hlocks G h dX11_trade_36
abbrev rm_X10_bears : Room := { frames := 1, cells := 0, slots := 0, locals := 21 }
theorem in_X10_bears_X10 : ∀ w ∈ wsX100, w ∈ wsX10_bears := fun w h => List.mem_cons_of_mem _ (List.mem_append_left _ (List.mem_append_left _ (List.mem_append_right _ h)))
def w_X10_bears (σ : eS) (x1 : Int32) (post : Int32 → eS → Prop) : Prop := w_X10_isStreet σ x1 (fun r2 σ1 => ((¬ r2 = 0 → False) ∧ (r2 = 0 → post (-1 : Int32) σ1)))
set_option maxHeartbeats 4000000 in
set_option maxRecDepth 100000 in
theorem c_X10_bears {l : Launch} {D : va_G} {ρ : Nat → Nat} {κ : Nat → ClassId} {base : Nat} {σ : eS} {x1 : Int32} {post : Int32 → eS → Prop} (h : w_X10_bears σ x1 post) : gMi l yX10_bears wsX10_bears rm_X10_bears D ρ κ base [.ref (ρ (0)), .int (x1)] σ post := by
  refine e_ofWi (cc := cX10_bears) (maxL := 2) (ret := (some .int)) (by decide) rfl (Nat.le_of_ble_eq_true rfl) ?_
  intro p e s m below meth c ls C K G hl
  obtain ⟨hx, hb, hml, hown, hts, hr, hlocks⟩ := id C
  have hl : lv_has ls 2 [(0, .ref (ρ (0))), (1, .int (x1))] := hl
  unfold w_X10_bears at h
  refine lv_aload_n hx hb dX10_bears_0 rfl (lv_at hl 0 rfl) ?_
  refine lv_iload_n hx hb dX10_bears_1 rfl (lv_at hl 1 rfl) ?_
  refine e_callVi (As := [.int (x1)]) (rest := []) ⟨hx, hb, hml, hown, hts⟩ K G 0 (by decide) gl_0 rfl (c_X10_isStreet h) (cwV 1 hts gX10_bears_X10_isStreet rfl rfl rfl (by decide +kernel) ⟨Nat.le_of_ble_eq_true rfl, Nat.le_of_ble_eq_true rfl⟩) rfl hl.1 rfl (Nat.le_of_ble_eq_true rfl) dX10_bears_2 ⟨Nat.zero_le _, Nat.zero_le _⟩ (fun r2 σ1 H locs h G => ?_)
  refine lv_if_ne (tgt := 10) hx hb dX10_bears_5 (by decide) (fun c3 => ?_) (fun c3 => ?_)
  · have h := h.1 c3
    refine lv_aload_n hx hb dX10_bears_10 rfl (lv_at hl 0 rfl) ?_
    refine e_getq hx hb hts in_X10_bears_X10 hown K G 0 (by decide) gl_0 rfl 5 (by decide) 32 rfl (hts (.fieldLink RX10 44 "StreetsStepOn" "almanac" "LStreetsStepOn$Almanac;") (e_mem (n := 1) rfl)) dX10_bears_11 ?_
    refine lv_iload_n hx hb dX10_bears_14 rfl (lv_at hl 1 rfl) ?_
    exact h.elim
  · have h := h.2 c3
    refine lv_iconst (v := (-1 : Int32)) hx hb dX10_bears_8 (by decide) ?_
    exact e_iret hx hb hr hlocks G h dX10_bears_9
abbrev rm_X11_bears : Room := { frames := 2, cells := 0, slots := 0, locals := 46 }
theorem in_X11_bears_X11 : ∀ w ∈ wsX110, w ∈ wsX11_bears := fun w h => List.mem_cons_of_mem _ (List.mem_append_right _ h)
def b_X11_bears_24 (post : Int32 → eS → Prop) : Nat → eS → Int32 → Int32 → Int32 → Prop
  | 0, _, _, _, _ => False
  | n + 1, σ, x1, x2, x3 => (((σ.1 97 26) ≤ x3 → post x2 σ) ∧ (¬ ((σ.1 97 26) ≤ x3) → False))
set_option maxHeartbeats 4000000 in
set_option maxRecDepth 100000 in
theorem l_X11_bears_24 {p : Program} {l : Launch} {e : Env} {s : State} {m : MethodId} {args : Array Value} {below : List Frame} {meth : Method} {c : Code} {D : va_G} {ρ : Nat → Nat} {κ : Nat → ClassId} {base : Nat} {post : Int32 → eS → Prop} (C : eCx p s m args meth c cX11_bears RX11 4 (some .int) wsX11_bears) (K : gK D ρ κ base s) : ∀ (n : Nat) (σ : eS) (x1 : Int32) (x2 : Int32) (x3 : Int32) (H : Heap) (locs : List Loc) (ls : Array Slot), b_X11_bears_24 post n σ x1 x2 x3 → gG D ρ κ base s σ H locs → lv_has ls 4 [(0, .ref (ρ (97))), (1, .int (x1)), (2, .int (x2)), (3, .int (x3))] → W p l e rm_X11_bears s m args below meth c H locs 0 0 (gQi below args s D ρ κ base post) (F0 m 24 ls []) := by
  obtain ⟨hx, hb, hml, hown, hts, hr, hlocks⟩ := id C
  intro n
  induction n with
  | zero => intro σ x1 x2 x3 H locs ls h G hl; exact False.elim h
  | succ n ih =>
    intro σ x1 x2 x3 H locs ls h G hl
    rw [b_X11_bears_24] at h
    refine lv_iload_n hx hb dX11_bears_24 rfl (lv_at hl 3 rfl) ?_
    refine lv_aload_n hx hb dX11_bears_25 rfl (lv_at hl 0 rfl) ?_
    refine e_geti hx hb hts in_X11_bears_X11 hown K G 97 (by decide) gl_97 rfl 26 (by decide) rfl (hts (.fieldLink RX11 227 "StreetsStepOnModel" "round" "I") (e_mem (n := 2) rfl)) dX11_bears_26 ?_
    refine lv_icmp_ge (tgt := 50) hx hb dX11_bears_29 (by decide) (fun c8 => ?_) (fun c8 => ?_)
    · have h := h.1 c8
      refine lv_iload_n hx hb dX11_bears_50 rfl (lv_at hl 2 rfl) ?_
      exact e_iret hx hb hr hlocks G h dX11_bears_51
    · have h := h.2 c8
      refine lv_iload_n hx hb dX11_bears_32 rfl (lv_at hl 2 rfl) ?_
      refine lv_iconst (v := (1 : Int32)) hx hb dX11_bears_33 (by decide) ?_
      refine lv_aload_n hx hb dX11_bears_34 rfl (lv_at hl 0 rfl) ?_
      refine lv_iload_n hx hb dX11_bears_35 rfl (lv_at hl 1 rfl) ?_
      refine lv_iload_n hx hb dX11_bears_36 rfl (lv_at hl 3 rfl) ?_
      refine lv_i2l hx hb dX11_bears_37 rfl ?_
      exact h.elim
def w_X11_bears (σ : eS) (x1 : Int32) (post : Int32 → eS → Prop) : Prop := ∀ σ1 : eS, σ1 = e_ui σ 97 18 (0 : Int32) → w_X11_isStreet σ1 x1 (fun r3 σ2 => ((¬ r3 = 0 → w_X11_layOut σ2 (0 : Int32) (fun σ5 => ∀ v6 : Int32, v6 = (0 : Int32) → ∀ v7 : Int32, v7 = (0 : Int32) → (∃ n9 : Nat, b_X11_bears_24 post n9 σ5 x1 v6 v7))) ∧ (r3 = 0 → post (-1 : Int32) σ2)))
set_option maxHeartbeats 4000000 in
set_option maxRecDepth 100000 in
theorem c_X11_bears {l : Launch} {D : va_G} {ρ : Nat → Nat} {κ : Nat → ClassId} {base : Nat} {σ : eS} {x1 : Int32} {post : Int32 → eS → Prop} (h : w_X11_bears σ x1 post) : gMi l yX11_bears wsX11_bears rm_X11_bears D ρ κ base [.ref (ρ (97)), .int (x1)] σ post := by
  refine e_ofWi (cc := cX11_bears) (maxL := 4) (ret := (some .int)) (by decide) rfl (Nat.le_of_ble_eq_true rfl) ?_
  intro p e s m below meth c ls C K G hl
  obtain ⟨hx, hb, hml, hown, hts, hr, hlocks⟩ := id C
  have hl : lv_has ls 4 [(0, .ref (ρ (97))), (1, .int (x1))] := hl
  unfold w_X11_bears at h
  refine lv_aload_n hx hb dX11_bears_0 rfl (lv_at hl 0 rfl) ?_
  refine lv_iconst (v := (0 : Int32)) hx hb dX11_bears_1 (by decide) ?_
  refine e_puti hx hb hts in_X11_bears_X11 tyX11 tyX11_ok nmX11 hown K G 97 (by decide) gl_97 rfl 18 (by decide) rfl (hts (.fieldLink RX11 98 "StreetsStepOnModel" "thrown" "I") (e_mem (n := 1) rfl)) rfl (tyX11_ok 18 (by decide)) rfl rfl dX11_bears_2 (fun H locs G => ?_)
  obtain ⟨σ1, eσ1⟩ : ∃ z : eS, z = e_ui σ 97 18 (0 : Int32) := ⟨_, rfl⟩
  rw [← eσ1] at G
  have h := h σ1 eσ1
  refine lv_aload_n hx hb dX11_bears_5 rfl (lv_at hl 0 rfl) ?_
  refine lv_iload_n hx hb dX11_bears_6 rfl (lv_at hl 1 rfl) ?_
  refine e_callVi (As := [.int (x1)]) (rest := []) ⟨hx, hb, hml, hown, hts⟩ K G 97 (by decide) gl_97 rfl (c_X11_isStreet h) (cwV 1 hts gX11_bears_X11_isStreet rfl rfl rfl (by decide +kernel) ⟨Nat.le_of_ble_eq_true rfl, Nat.le_of_ble_eq_true rfl⟩) rfl hl.1 rfl (Nat.le_of_ble_eq_true rfl) dX11_bears_7 ⟨Nat.zero_le _, Nat.zero_le _⟩ (fun r3 σ2 H locs h G => ?_)
  refine lv_if_ne (tgt := 15) hx hb dX11_bears_10 (by decide) (fun c4 => ?_) (fun c4 => ?_)
  · have h := h.1 c4
    refine lv_aload_n hx hb dX11_bears_15 rfl (lv_at hl 0 rfl) ?_
    refine lv_iconst (v := (0 : Int32)) hx hb dX11_bears_16 (by decide) ?_
    refine e_callVv (As := [.int ((0 : Int32))]) (rest := []) ⟨hx, hb, hml, hown, hts⟩ K G 97 (by decide) gl_97 rfl (c_X11_layOut h) (cwV 1 hts gX11_bears_X11_layOut rfl rfl rfl (by decide +kernel) ⟨Nat.le_of_ble_eq_true rfl, Nat.le_of_ble_eq_true rfl⟩) rfl hl.1 rfl (Nat.le_of_ble_eq_true rfl) dX11_bears_17 ⟨Nat.zero_le _, Nat.zero_le _⟩ (fun σ5 H locs h G => ?_)
    refine lv_iconst (v := (0 : Int32)) hx hb dX11_bears_20 (by decide) ?_
    refine lv_topi (fun v6 ev6 => ?_)
    have h := h v6 ev6
    refine lv_istore_n (lv' := [(2, .int (v6)), (0, .ref (ρ (97))), (1, .int (x1))]) hx hb dX11_bears_21 rfl hl (by decide) rfl (fun ls hl => ?_)
    refine lv_iconst (v := (0 : Int32)) hx hb dX11_bears_22 (by decide) ?_
    refine lv_topi (fun v7 ev7 => ?_)
    have h := h v7 ev7
    refine lv_istore_n (lv' := [(3, .int (v7)), (2, .int (v6)), (0, .ref (ρ (97))), (1, .int (x1))]) hx hb dX11_bears_23 rfl hl (by decide) rfl (fun ls hl => ?_)
    obtain ⟨n9, h⟩ := h
    exact l_X11_bears_24 C K n9 σ5 x1 v6 v7 _ _ _  h G (lv_sub hl [2, 3, 1, 0] rfl)
  · have h := h.2 c4
    refine lv_iconst (v := (-1 : Int32)) hx hb dX11_bears_13 (by decide) ?_
    exact e_iret hx hb hr hlocks G h dX11_bears_14
abbrev rm_X10_often : Room := { frames := 1, cells := 0, slots := 0, locals := 21 }
theorem in_X10_often_X0 : ∀ w ∈ wsX00, w ∈ wsX10_often := fun w h => List.mem_cons_of_mem _ (List.mem_append_left _ (List.mem_append_right _ h))
theorem in_X10_often_X10 : ∀ w ∈ wsX100, w ∈ wsX10_often := fun w h => List.mem_cons_of_mem _ (List.mem_append_left _ (List.mem_append_left _ (List.mem_append_right _ h)))
def b_X10_often_75 (post : Int64 → eS → Prop) : Nat → eS → Int32 → Int32 → Int64 → Int64 → Int64 → Int32 → Prop
  | 0, _, _, _, _, _, _, _ => False
  | n + 1, σ, x1, x2, x5, x7, x9, x11 => (((σ.1 32 2) ≤ x11 → post x9 σ) ∧ (¬ ((σ.1 32 2) ≤ x11) → False))
set_option maxHeartbeats 4000000 in
set_option maxRecDepth 100000 in
theorem l_X10_often_75 {p : Program} {l : Launch} {e : Env} {s : State} {m : MethodId} {args : Array Value} {below : List Frame} {meth : Method} {c : Code} {D : va_G} {ρ : Nat → Nat} {κ : Nat → ClassId} {base : Nat} {post : Int64 → eS → Prop} (C : eCx p s m args meth c cX10_often RX10 12 (some .long) wsX10_often) (K : gK D ρ κ base s) : ∀ (n : Nat) (σ : eS) (x1 : Int32) (x2 : Int32) (x5 : Int64) (x7 : Int64) (x9 : Int64) (x11 : Int32) (H : Heap) (locs : List Loc) (ls : Array Slot), b_X10_often_75 post n σ x1 x2 x5 x7 x9 x11 → gG D ρ κ base s σ H locs → lv_has ls 12 [(0, .ref (ρ (0))), (1, .int (x1)), (2, .int (x2)), (5, .long (x5)), (7, .long (x7)), (9, .long (x9)), (11, .int (x11))] → W p l e rm_X10_often s m args below meth c H locs 0 0 (gQl below args s D ρ κ base post) (F0 m 75 ls []) := by
  obtain ⟨hx, hb, hml, hown, hts, hr, hlocks⟩ := id C
  intro n
  induction n with
  | zero => intro σ x1 x2 x5 x7 x9 x11 H locs ls h G hl; exact False.elim h
  | succ n ih =>
    intro σ x1 x2 x5 x7 x9 x11 H locs ls h G hl
    rw [b_X10_often_75] at h
    refine lv_iload hx hb dX10_often_75 (lv_at hl 6 rfl) ?_
    refine lv_aload_n hx hb dX10_often_77 rfl (lv_at hl 0 rfl) ?_
    refine e_getq hx hb hts in_X10_often_X10 hown K G 0 (by decide) gl_0 rfl 5 (by decide) 32 rfl (hts (.fieldLink RX10 44 "StreetsStepOn" "almanac" "LStreetsStepOn$Almanac;") (e_mem (n := 2) rfl)) dX10_often_78 ?_
    refine e_getiN hx hb hts in_X10_often_X0 hown K G 32 (by decide) gl_32 rfl 2 (by decide) rfl (e_memq (n := 28) rfl) dX10_often_81 ?_
    refine lv_icmp_ge (tgt := 131) hx hb dX10_often_84 (by decide) (fun c16 => ?_) (fun c16 => ?_)
    · have h := h.1 c16
      refine lv_lload hx hb dX10_often_131 (lv_at hl 5 rfl) ?_
      exact e_lret hx hb hr hlocks G h dX10_often_133
    · have h := h.2 c16
      refine lv_aload_n hx hb dX10_often_87 rfl (lv_at hl 0 rfl) ?_
      refine e_getq hx hb hts in_X10_often_X10 hown K G 0 (by decide) gl_0 rfl 5 (by decide) 32 rfl (hts (.fieldLink RX10 44 "StreetsStepOn" "almanac" "LStreetsStepOn$Almanac;") (e_mem (n := 2) rfl)) dX10_often_88 ?_
      refine lv_iload_n hx hb dX10_often_91 rfl (lv_at hl 1 rfl) ?_
      refine lv_iload hx hb dX10_often_92 (lv_at hl 6 rfl) ?_
      refine lv_i2l hx hb dX10_often_94 rfl ?_
      exact h.elim
def w_X10_often (σ : eS) (x1 : Int32) (x2 : Int32) (x3 : Int64) (post : Int64 → eS → Prop) : Prop := w_X10_isStreet σ x1 (fun r2 σ1 => ((r2 = 0 → post (-1 : Int64) σ1) ∧ (¬ (r2 = 0) → w_X10_isStreet σ1 x2 (fun r5 σ4 => ((r5 = 0 → post (-1 : Int64) σ4) ∧ (¬ (r5 = 0) → (((lg_cmp x3 (1 : Int64)) < 0 → post (-1 : Int64) σ4) ∧ (¬ ((lg_cmp x3 (1 : Int64)) < 0) → ((0 < (lg_cmp x3 (1000000000000 : Int64)) → post (-1 : Int64) σ4) ∧ (¬ (0 < (lg_cmp x3 (1000000000000 : Int64))) → (((1 : Int32) ≤ (σ4.1 32 2) → (¬ ((σ4.1 32 2).toInt64) = 0) ∧ ∀ v11 : Int64, v11 = (x3 / ((σ4.1 32 2).toInt64)) → (¬ ((σ4.1 32 2).toInt64) = 0) ∧ ∀ v13 : Int64, v13 = (x3 - x3 / ((σ4.1 32 2).toInt64) * ((σ4.1 32 2).toInt64)) → ∀ v14 : Int64, v14 = (0 : Int64) → ∀ v15 : Int32, v15 = (0 : Int32) → (∃ n17 : Nat, b_X10_often_75 post n17 σ4 x1 x2 v11 v13 v14 v15)) ∧ (¬ ((1 : Int32) ≤ (σ4.1 32 2)) → post (-1 : Int64) σ4))))))))))))
set_option maxHeartbeats 4000000 in
set_option maxRecDepth 100000 in
theorem c_X10_often {l : Launch} {D : va_G} {ρ : Nat → Nat} {κ : Nat → ClassId} {base : Nat} {σ : eS} {x1 : Int32} {x2 : Int32} {x3 : Int64} {post : Int64 → eS → Prop} (h : w_X10_often σ x1 x2 x3 post) : gMl l yX10_often wsX10_often rm_X10_often D ρ κ base [.ref (ρ (0)), .int (x1), .int (x2), .long (x3)] σ post := by
  refine e_ofWl (cc := cX10_often) (maxL := 12) (ret := (some .long)) (by decide) rfl (Nat.le_of_ble_eq_true rfl) ?_
  intro p e s m below meth c ls C K G hl
  obtain ⟨hx, hb, hml, hown, hts, hr, hlocks⟩ := id C
  have hl : lv_has ls 12 [(0, .ref (ρ (0))), (1, .int (x1)), (2, .int (x2)), (3, .long (x3))] := hl
  unfold w_X10_often at h
  refine lv_aload_n hx hb dX10_often_0 rfl (lv_at hl 0 rfl) ?_
  refine lv_iload_n hx hb dX10_often_1 rfl (lv_at hl 1 rfl) ?_
  refine e_callVi (As := [.int (x1)]) (rest := []) ⟨hx, hb, hml, hown, hts⟩ K G 0 (by decide) gl_0 rfl (c_X10_isStreet h) (cwV 1 hts gX10_often_X10_isStreet rfl rfl rfl (by decide +kernel) ⟨Nat.le_of_ble_eq_true rfl, Nat.le_of_ble_eq_true rfl⟩) rfl hl.1 rfl (Nat.le_of_ble_eq_true rfl) dX10_often_2 ⟨Nat.zero_le _, Nat.zero_le _⟩ (fun r2 σ1 H locs h G => ?_)
  refine lv_if_eq (tgt := 41) hx hb dX10_often_5 (by decide) (fun c3 => ?_) (fun c3 => ?_)
  · have h := h.1 c3
    refine lv_ldc2 (v := (-1 : Int64)) hx hb hown (hts (.constantLong RX10 181 (-1)) (e_mem (n := 3) rfl)) dX10_often_41 ?_
    exact e_lret hx hb hr hlocks G h dX10_often_44
  · have h := h.2 c3
    refine lv_aload_n hx hb dX10_often_8 rfl (lv_at hl 0 rfl) ?_
    refine lv_iload_n hx hb dX10_often_9 rfl (lv_at hl 2 rfl) ?_
    refine e_callVi (As := [.int (x2)]) (rest := []) ⟨hx, hb, hml, hown, hts⟩ K G 0 (by decide) gl_0 rfl (c_X10_isStreet h) (cwV 1 hts gX10_often_X10_isStreet rfl rfl rfl (by decide +kernel) ⟨Nat.le_of_ble_eq_true rfl, Nat.le_of_ble_eq_true rfl⟩) rfl hl.1 rfl (Nat.le_of_ble_eq_true rfl) dX10_often_10 ⟨Nat.zero_le _, Nat.zero_le _⟩ (fun r5 σ4 H locs h G => ?_)
    refine lv_if_eq (tgt := 41) hx hb dX10_often_13 (by decide) (fun c6 => ?_) (fun c6 => ?_)
    · have h := h.1 c6
      refine lv_ldc2 (v := (-1 : Int64)) hx hb hown (hts (.constantLong RX10 181 (-1)) (e_mem (n := 3) rfl)) dX10_often_41 ?_
      exact e_lret hx hb hr hlocks G h dX10_often_44
    · have h := h.2 c6
      refine lv_lload_n hx hb dX10_often_16 rfl (lv_at hl 3 rfl) ?_
      refine lv_lconst (v := (1 : Int64)) hx hb dX10_often_17 (by decide) ?_
      refine W.lcmp hx hb dX10_often_18 ?_
      refine lv_if_lt (tgt := 41) hx hb dX10_often_19 (by decide) (fun c7 => ?_) (fun c7 => ?_)
      · have h := h.1 c7
        refine lv_ldc2 (v := (-1 : Int64)) hx hb hown (hts (.constantLong RX10 181 (-1)) (e_mem (n := 3) rfl)) dX10_often_41 ?_
        exact e_lret hx hb hr hlocks G h dX10_often_44
      · have h := h.2 c7
        refine lv_lload_n hx hb dX10_often_22 rfl (lv_at hl 3 rfl) ?_
        refine lv_ldc2 (v := (1000000000000 : Int64)) hx hb hown (hts (.constantLong RX10 153 (1000000000000)) (e_mem (n := 1) rfl)) dX10_often_23 ?_
        refine W.lcmp hx hb dX10_often_26 ?_
        refine lv_if_gt (tgt := 41) hx hb dX10_often_27 (by decide) (fun c8 => ?_) (fun c8 => ?_)
        · have h := h.1 c8
          refine lv_ldc2 (v := (-1 : Int64)) hx hb hown (hts (.constantLong RX10 181 (-1)) (e_mem (n := 3) rfl)) dX10_often_41 ?_
          exact e_lret hx hb hr hlocks G h dX10_often_44
        · have h := h.2 c8
          refine lv_aload_n hx hb dX10_often_30 rfl (lv_at hl 0 rfl) ?_
          refine e_getq hx hb hts in_X10_often_X10 hown K G 0 (by decide) gl_0 rfl 5 (by decide) 32 rfl (hts (.fieldLink RX10 44 "StreetsStepOn" "almanac" "LStreetsStepOn$Almanac;") (e_mem (n := 2) rfl)) dX10_often_31 ?_
          refine e_getiN hx hb hts in_X10_often_X0 hown K G 32 (by decide) gl_32 rfl 2 (by decide) rfl (e_memq (n := 28) rfl) dX10_often_34 ?_
          refine lv_iconst (v := (1 : Int32)) hx hb dX10_often_37 (by decide) ?_
          refine lv_icmp_ge (tgt := 45) hx hb dX10_often_38 (by decide) (fun c9 => ?_) (fun c9 => ?_)
          · have h := h.1 c9
            refine lv_lload_n hx hb dX10_often_45 rfl (lv_at hl 3 rfl) ?_
            refine lv_aload_n hx hb dX10_often_46 rfl (lv_at hl 0 rfl) ?_
            refine e_getq hx hb hts in_X10_often_X10 hown K G 0 (by decide) gl_0 rfl 5 (by decide) 32 rfl (hts (.fieldLink RX10 44 "StreetsStepOn" "almanac" "LStreetsStepOn$Almanac;") (e_mem (n := 2) rfl)) dX10_often_47 ?_
            refine e_getiN hx hb hts in_X10_often_X0 hown K G 32 (by decide) gl_32 rfl 2 (by decide) rfl (e_memq (n := 28) rfl) dX10_often_50 ?_
            refine lv_i2l hx hb dX10_often_53 rfl ?_
            have hn10 := h.1
            have h := h.2
            refine lv_ldiv hx hb dX10_often_54 hn10 ?_
            refine lv_topl (fun v11 ev11 => ?_)
            have h := h v11 ev11
            refine lv_lstore (lv' := [(5, .long (v11)), (0, .ref (ρ (0))), (1, .int (x1)), (2, .int (x2)), (3, .long (x3))]) hx hb dX10_often_55 hl (by decide) rfl (fun ls hl => ?_)
            refine lv_lload_n hx hb dX10_often_57 rfl (lv_at hl 4 rfl) ?_
            refine lv_aload_n hx hb dX10_often_58 rfl (lv_at hl 1 rfl) ?_
            refine e_getq hx hb hts in_X10_often_X10 hown K G 0 (by decide) gl_0 rfl 5 (by decide) 32 rfl (hts (.fieldLink RX10 44 "StreetsStepOn" "almanac" "LStreetsStepOn$Almanac;") (e_mem (n := 2) rfl)) dX10_often_59 ?_
            refine e_getiN hx hb hts in_X10_often_X0 hown K G 32 (by decide) gl_32 rfl 2 (by decide) rfl (e_memq (n := 28) rfl) dX10_often_62 ?_
            refine lv_i2l hx hb dX10_often_65 rfl ?_
            have hn12 := h.1
            have h := h.2
            refine lv_lrem hx hb dX10_often_66 hn12 ?_
            refine lv_topl (fun v13 ev13 => ?_)
            have h := h v13 ev13
            refine lv_lstore (lv' := [(7, .long (v13)), (5, .long (v11)), (0, .ref (ρ (0))), (1, .int (x1)), (2, .int (x2)), (3, .long (x3))]) hx hb dX10_often_67 hl (by decide) rfl (fun ls hl => ?_)
            refine lv_lconst (v := (0 : Int64)) hx hb dX10_often_69 (by decide) ?_
            refine lv_topl (fun v14 ev14 => ?_)
            have h := h v14 ev14
            refine lv_lstore (lv' := [(9, .long (v14)), (7, .long (v13)), (5, .long (v11)), (0, .ref (ρ (0))), (1, .int (x1)), (2, .int (x2)), (3, .long (x3))]) hx hb dX10_often_70 hl (by decide) rfl (fun ls hl => ?_)
            refine lv_iconst (v := (0 : Int32)) hx hb dX10_often_72 (by decide) ?_
            refine lv_topi (fun v15 ev15 => ?_)
            have h := h v15 ev15
            refine lv_istore (lv' := [(11, .int (v15)), (9, .long (v14)), (7, .long (v13)), (5, .long (v11)), (0, .ref (ρ (0))), (1, .int (x1)), (2, .int (x2)), (3, .long (x3))]) hx hb dX10_often_73 hl (by decide) rfl (fun ls hl => ?_)
            obtain ⟨n17, h⟩ := h
            exact l_X10_often_75 C K n17 σ4 x1 x2 v11 v13 v14 v15 _ _ _  h G (lv_sub hl [4, 5, 6, 3, 2, 1, 0] rfl)
          · have h := h.2 c9
            refine lv_ldc2 (v := (-1 : Int64)) hx hb hown (hts (.constantLong RX10 181 (-1)) (e_mem (n := 3) rfl)) dX10_often_41 ?_
            exact e_lret hx hb hr hlocks G h dX10_often_44
abbrev rm_X11_often : Room := { frames := 2, cells := 0, slots := 0, locals := 46 }
theorem in_X11_often_X11 : ∀ w ∈ wsX110, w ∈ wsX11_often := fun w h => List.mem_cons_of_mem _ (List.mem_append_right _ h)
def b_X11_often_47 (post : Int64 → eS → Prop) : Nat → eS → Int32 → Int32 → Int64 → Int64 → Int32 → Prop
  | 0, _, _, _, _, _, _ => False
  | n + 1, σ, x1, x2, x3, x5, x7 => (((σ.1 97 26) ≤ x7 → post x5 σ) ∧ (¬ ((σ.1 97 26) ≤ x7) → False))
set_option maxHeartbeats 4000000 in
set_option maxRecDepth 100000 in
theorem l_X11_often_47 {p : Program} {l : Launch} {e : Env} {s : State} {m : MethodId} {args : Array Value} {below : List Frame} {meth : Method} {c : Code} {D : va_G} {ρ : Nat → Nat} {κ : Nat → ClassId} {base : Nat} {post : Int64 → eS → Prop} (C : eCx p s m args meth c cX11_often RX11 8 (some .long) wsX11_often) (K : gK D ρ κ base s) : ∀ (n : Nat) (σ : eS) (x1 : Int32) (x2 : Int32) (x3 : Int64) (x5 : Int64) (x7 : Int32) (H : Heap) (locs : List Loc) (ls : Array Slot), b_X11_often_47 post n σ x1 x2 x3 x5 x7 → gG D ρ κ base s σ H locs → lv_has ls 8 [(0, .ref (ρ (97))), (1, .int (x1)), (2, .int (x2)), (3, .long (x3)), (5, .long (x5)), (7, .int (x7))] → W p l e rm_X11_often s m args below meth c H locs 0 0 (gQl below args s D ρ κ base post) (F0 m 47 ls []) := by
  obtain ⟨hx, hb, hml, hown, hts, hr, hlocks⟩ := id C
  intro n
  induction n with
  | zero => intro σ x1 x2 x3 x5 x7 H locs ls h G hl; exact False.elim h
  | succ n ih =>
    intro σ x1 x2 x3 x5 x7 H locs ls h G hl
    rw [b_X11_often_47] at h
    refine lv_iload hx hb dX11_often_47 (lv_at hl 5 rfl) ?_
    refine lv_aload_n hx hb dX11_often_49 rfl (lv_at hl 0 rfl) ?_
    refine e_geti hx hb hts in_X11_often_X11 hown K G 97 (by decide) gl_97 rfl 26 (by decide) rfl (hts (.fieldLink RX11 227 "StreetsStepOnModel" "round" "I") (e_mem (n := 4) rfl)) dX11_often_50 ?_
    refine lv_icmp_ge (tgt := 102) hx hb dX11_often_53 (by decide) (fun c14 => ?_) (fun c14 => ?_)
    · have h := h.1 c14
      refine lv_lload hx hb dX11_often_102 (lv_at hl 4 rfl) ?_
      exact e_lret hx hb hr hlocks G h dX11_often_104
    · have h := h.2 c14
      refine lv_aload_n hx hb dX11_often_56 rfl (lv_at hl 0 rfl) ?_
      refine lv_iload_n hx hb dX11_often_57 rfl (lv_at hl 1 rfl) ?_
      refine lv_iload hx hb dX11_often_58 (lv_at hl 5 rfl) ?_
      refine lv_i2l hx hb dX11_often_60 rfl ?_
      exact h.elim
def w_X11_often (σ : eS) (x1 : Int32) (x2 : Int32) (x3 : Int64) (post : Int64 → eS → Prop) : Prop := ∀ σ1 : eS, σ1 = e_ui σ 97 18 (0 : Int32) → w_X11_isStreet σ1 x1 (fun r3 σ2 => ((r3 = 0 → post (-1 : Int64) σ2) ∧ (¬ (r3 = 0) → w_X11_isStreet σ2 x2 (fun r6 σ5 => ((r6 = 0 → post (-1 : Int64) σ5) ∧ (¬ (r6 = 0) → w_X11_in σ5 x3 (1 : Int64) (1000000000000 : Int64) (fun r9 σ8 => ((¬ r9 = 0 → w_X11_layOut σ8 (0 : Int32) (fun σ11 => ∀ v12 : Int64, v12 = (0 : Int64) → ∀ v13 : Int32, v13 = (0 : Int32) → (∃ n15 : Nat, b_X11_often_47 post n15 σ11 x1 x2 x3 v12 v13))) ∧ (r9 = 0 → post (-1 : Int64) σ8)))))))))
set_option maxHeartbeats 4000000 in
set_option maxRecDepth 100000 in
theorem c_X11_often {l : Launch} {D : va_G} {ρ : Nat → Nat} {κ : Nat → ClassId} {base : Nat} {σ : eS} {x1 : Int32} {x2 : Int32} {x3 : Int64} {post : Int64 → eS → Prop} (h : w_X11_often σ x1 x2 x3 post) : gMl l yX11_often wsX11_often rm_X11_often D ρ κ base [.ref (ρ (97)), .int (x1), .int (x2), .long (x3)] σ post := by
  refine e_ofWl (cc := cX11_often) (maxL := 8) (ret := (some .long)) (by decide) rfl (Nat.le_of_ble_eq_true rfl) ?_
  intro p e s m below meth c ls C K G hl
  obtain ⟨hx, hb, hml, hown, hts, hr, hlocks⟩ := id C
  have hl : lv_has ls 8 [(0, .ref (ρ (97))), (1, .int (x1)), (2, .int (x2)), (3, .long (x3))] := hl
  unfold w_X11_often at h
  refine lv_aload_n hx hb dX11_often_0 rfl (lv_at hl 0 rfl) ?_
  refine lv_iconst (v := (0 : Int32)) hx hb dX11_often_1 (by decide) ?_
  refine e_puti hx hb hts in_X11_often_X11 tyX11 tyX11_ok nmX11 hown K G 97 (by decide) gl_97 rfl 18 (by decide) rfl (hts (.fieldLink RX11 98 "StreetsStepOnModel" "thrown" "I") (e_mem (n := 1) rfl)) rfl (tyX11_ok 18 (by decide)) rfl rfl dX11_often_2 (fun H locs G => ?_)
  obtain ⟨σ1, eσ1⟩ : ∃ z : eS, z = e_ui σ 97 18 (0 : Int32) := ⟨_, rfl⟩
  rw [← eσ1] at G
  have h := h σ1 eσ1
  refine lv_aload_n hx hb dX11_often_5 rfl (lv_at hl 0 rfl) ?_
  refine lv_iload_n hx hb dX11_often_6 rfl (lv_at hl 1 rfl) ?_
  refine e_callVi (As := [.int (x1)]) (rest := []) ⟨hx, hb, hml, hown, hts⟩ K G 97 (by decide) gl_97 rfl (c_X11_isStreet h) (cwV 1 hts gX11_often_X11_isStreet rfl rfl rfl (by decide +kernel) ⟨Nat.le_of_ble_eq_true rfl, Nat.le_of_ble_eq_true rfl⟩) rfl hl.1 rfl (Nat.le_of_ble_eq_true rfl) dX11_often_7 ⟨Nat.zero_le _, Nat.zero_le _⟩ (fun r3 σ2 H locs h G => ?_)
  refine lv_if_eq (tgt := 32) hx hb dX11_often_10 (by decide) (fun c4 => ?_) (fun c4 => ?_)
  · have h := h.1 c4
    refine lv_ldc2 (v := (-1 : Int64)) hx hb hown (hts (.constantLong RX11 259 (-1)) (e_mem (n := 3) rfl)) dX11_often_32 ?_
    exact e_lret hx hb hr hlocks G h dX11_often_35
  · have h := h.2 c4
    refine lv_aload_n hx hb dX11_often_13 rfl (lv_at hl 0 rfl) ?_
    refine lv_iload_n hx hb dX11_often_14 rfl (lv_at hl 2 rfl) ?_
    refine e_callVi (As := [.int (x2)]) (rest := []) ⟨hx, hb, hml, hown, hts⟩ K G 97 (by decide) gl_97 rfl (c_X11_isStreet h) (cwV 1 hts gX11_often_X11_isStreet rfl rfl rfl (by decide +kernel) ⟨Nat.le_of_ble_eq_true rfl, Nat.le_of_ble_eq_true rfl⟩) rfl hl.1 rfl (Nat.le_of_ble_eq_true rfl) dX11_often_15 ⟨Nat.zero_le _, Nat.zero_le _⟩ (fun r6 σ5 H locs h G => ?_)
    refine lv_if_eq (tgt := 32) hx hb dX11_often_18 (by decide) (fun c7 => ?_) (fun c7 => ?_)
    · have h := h.1 c7
      refine lv_ldc2 (v := (-1 : Int64)) hx hb hown (hts (.constantLong RX11 259 (-1)) (e_mem (n := 3) rfl)) dX11_often_32 ?_
      exact e_lret hx hb hr hlocks G h dX11_often_35
    · have h := h.2 c7
      refine lv_lload_n hx hb dX11_often_21 rfl (lv_at hl 3 rfl) ?_
      refine lv_lconst (v := (1 : Int64)) hx hb dX11_often_22 (by decide) ?_
      refine lv_ldc2 (v := (1000000000000 : Int64)) hx hb hown (hts (.constantLong RX11 119 (1000000000000)) (e_mem (n := 2) rfl)) dX11_often_23 ?_
      refine e_callSi (As := [.long (x3), .long ((1 : Int64)), .long ((1000000000000 : Int64))]) (rest := []) ⟨hx, hb, hml, hown, hts⟩ K G (c_X11_in h) (va_cwS 3 hts gX11_often_X11_in rfl rfl rfl (by decide +kernel) ⟨Nat.le_of_ble_eq_true rfl, Nat.le_of_ble_eq_true rfl⟩) rfl hl.1 rfl (Nat.le_of_ble_eq_true rfl) dX11_often_26 ⟨Nat.zero_le _, Nat.zero_le _⟩ (fun r9 σ8 H locs h G => ?_)
      refine lv_if_ne (tgt := 36) hx hb dX11_often_29 (by decide) (fun c10 => ?_) (fun c10 => ?_)
      · have h := h.1 c10
        refine lv_aload_n hx hb dX11_often_36 rfl (lv_at hl 0 rfl) ?_
        refine lv_iconst (v := (0 : Int32)) hx hb dX11_often_37 (by decide) ?_
        refine e_callVv (As := [.int ((0 : Int32))]) (rest := []) ⟨hx, hb, hml, hown, hts⟩ K G 97 (by decide) gl_97 rfl (c_X11_layOut h) (cwV 1 hts gX11_often_X11_layOut rfl rfl rfl (by decide +kernel) ⟨Nat.le_of_ble_eq_true rfl, Nat.le_of_ble_eq_true rfl⟩) rfl hl.1 rfl (Nat.le_of_ble_eq_true rfl) dX11_often_38 ⟨Nat.zero_le _, Nat.zero_le _⟩ (fun σ11 H locs h G => ?_)
        refine lv_lconst (v := (0 : Int64)) hx hb dX11_often_41 (by decide) ?_
        refine lv_topl (fun v12 ev12 => ?_)
        have h := h v12 ev12
        refine lv_lstore (lv' := [(5, .long (v12)), (0, .ref (ρ (97))), (1, .int (x1)), (2, .int (x2)), (3, .long (x3))]) hx hb dX11_often_42 hl (by decide) rfl (fun ls hl => ?_)
        refine lv_iconst (v := (0 : Int32)) hx hb dX11_often_44 (by decide) ?_
        refine lv_topi (fun v13 ev13 => ?_)
        have h := h v13 ev13
        refine lv_istore (lv' := [(7, .int (v13)), (5, .long (v12)), (0, .ref (ρ (97))), (1, .int (x1)), (2, .int (x2)), (3, .long (x3))]) hx hb dX11_often_45 hl (by decide) rfl (fun ls hl => ?_)
        obtain ⟨n15, h⟩ := h
        exact l_X11_often_47 C K n15 σ11 x1 x2 x3 v12 v13 _ _ _  h G (lv_sub hl [2, 3, 4, 5, 1, 0] rfl)
      · have h := h.2 c10
        refine lv_ldc2 (v := (-1 : Int64)) hx hb hown (hts (.constantLong RX11 259 (-1)) (e_mem (n := 3) rfl)) dX11_often_32 ?_
        exact e_lret hx hb hr hlocks G h dX11_often_35
abbrev rm_X10_quiet : Room := { frames := 2, cells := 0, slots := 0, locals := 44 }
theorem in_X10_quiet_X0 : ∀ w ∈ wsX00, w ∈ wsX10_quiet := fun w h => List.mem_cons_of_mem _ (List.mem_append_left _ (List.mem_append_left _ (List.mem_append_right _ h)))
theorem in_X10_quiet_X10 : ∀ w ∈ wsX100, w ∈ wsX10_quiet := fun w h => List.mem_cons_of_mem _ (List.mem_append_left _ (List.mem_append_left _ (List.mem_append_left _ (List.mem_append_right _ h))))
def b_X10_quiet_7 (post : Int32 → eS → Prop) : Nat → eS → Int32 → Int32 → Int32 → Prop
  | 0, _, _, _, _ => False
  | n + 1, σ, x1, x2, x3 => (((σ.1 32 2) ≤ x3 → ((x1 ≤ 0 → post x1 σ) ∧ (¬ (x1 ≤ 0) → w_X5_tell σ (x2.toInt64) (fun σ6 => post x1 σ6)))) ∧ (¬ ((σ.1 32 2) ≤ x3) → False))
set_option maxHeartbeats 4000000 in
set_option maxRecDepth 100000 in
theorem l_X10_quiet_7 {p : Program} {l : Launch} {e : Env} {s : State} {m : MethodId} {args : Array Value} {below : List Frame} {meth : Method} {c : Code} {D : va_G} {ρ : Nat → Nat} {κ : Nat → ClassId} {base : Nat} {post : Int32 → eS → Prop} (C : eCx p s m args meth c cX10_quiet RX10 5 (some .int) wsX10_quiet) (K : gK D ρ κ base s) : ∀ (n : Nat) (σ : eS) (x1 : Int32) (x2 : Int32) (x3 : Int32) (H : Heap) (locs : List Loc) (ls : Array Slot), b_X10_quiet_7 post n σ x1 x2 x3 → gG D ρ κ base s σ H locs → lv_has ls 5 [(0, .ref (ρ (0))), (1, .int (x1)), (2, .int (x2)), (3, .int (x3))] → W p l e rm_X10_quiet s m args below meth c H locs 0 0 (gQi below args s D ρ κ base post) (F0 m 7 ls []) := by
  obtain ⟨hx, hb, hml, hown, hts, hr, hlocks⟩ := id C
  intro n
  induction n with
  | zero => intro σ x1 x2 x3 H locs ls h G hl; exact False.elim h
  | succ n ih =>
    intro σ x1 x2 x3 H locs ls h G hl
    rw [b_X10_quiet_7] at h
    refine lv_iload_n hx hb dX10_quiet_7 rfl (lv_at hl 3 rfl) ?_
    refine lv_aload_n hx hb dX10_quiet_8 rfl (lv_at hl 0 rfl) ?_
    refine e_getq hx hb hts in_X10_quiet_X10 hown K G 0 (by decide) gl_0 rfl 5 (by decide) 32 rfl (hts (.fieldLink RX10 44 "StreetsStepOn" "almanac" "LStreetsStepOn$Almanac;") (e_mem (n := 1) rfl)) dX10_quiet_9 ?_
    refine e_getiN hx hb hts in_X10_quiet_X0 hown K G 32 (by decide) gl_32 rfl 2 (by decide) rfl (e_memq (n := 28) rfl) dX10_quiet_12 ?_
    refine lv_icmp_ge (tgt := 42) hx hb dX10_quiet_15 (by decide) (fun c4 => ?_) (fun c4 => ?_)
    · have h := h.1 c4
      refine lv_iload_n hx hb dX10_quiet_42 rfl (lv_at hl 1 rfl) ?_
      refine lv_if_le (tgt := 55) hx hb dX10_quiet_43 (by decide) (fun c5 => ?_) (fun c5 => ?_)
      · have h := h.1 c5
        refine lv_iload_n hx hb dX10_quiet_55 rfl (lv_at hl 1 rfl) ?_
        exact e_iret hx hb hr hlocks G h dX10_quiet_56
      · have h := h.2 c5
        refine lv_aload_n hx hb dX10_quiet_46 rfl (lv_at hl 0 rfl) ?_
        refine e_getq hx hb hts in_X10_quiet_X10 hown K G 0 (by decide) gl_0 rfl 1 (by decide) 3 rfl (hts (.fieldLink RX10 19 "StreetsStepOn" "told" "LStreetsStepOn$Row;") (e_mem (n := 2) rfl)) dX10_quiet_47 ?_
        refine lv_iload_n hx hb dX10_quiet_50 rfl (lv_at hl 2 rfl) ?_
        refine lv_i2l hx hb dX10_quiet_51 rfl ?_
        refine e_callVv (As := [.long (x2.toInt64)]) (rest := []) ⟨hx, hb, hml, hown, hts⟩ K G 3 (by decide) gl_3 rfl (c_X5_tell h) (cwV 1 hts gX10_quiet_X5_tell rfl rfl rfl (by decide +kernel) ⟨Nat.le_of_ble_eq_true rfl, Nat.le_of_ble_eq_true rfl⟩) rfl hl.1 rfl (Nat.le_of_ble_eq_true rfl) dX10_quiet_52 ⟨Nat.zero_le _, Nat.zero_le _⟩ (fun σ6 H locs h G => ?_)
        refine lv_iload_n hx hb dX10_quiet_55 rfl (lv_at hl 1 rfl) ?_
        exact e_iret hx hb hr hlocks G h dX10_quiet_56
    · have h := h.2 c4
      refine lv_aload_n hx hb dX10_quiet_18 rfl (lv_at hl 0 rfl) ?_
      refine lv_iload_n hx hb dX10_quiet_19 rfl (lv_at hl 3 rfl) ?_
      exact h.elim
def w_X10_quiet (σ : eS) (post : Int32 → eS → Prop) : Prop := ∀ v1 : Int32, v1 = (-2 : Int32) → ∀ v2 : Int32, v2 = (-1 : Int32) → ∀ v3 : Int32, v3 = (1 : Int32) → (∃ n7 : Nat, b_X10_quiet_7 post n7 σ v1 v2 v3)
set_option maxHeartbeats 4000000 in
set_option maxRecDepth 100000 in
theorem c_X10_quiet {l : Launch} {D : va_G} {ρ : Nat → Nat} {κ : Nat → ClassId} {base : Nat} {σ : eS} {post : Int32 → eS → Prop} (h : w_X10_quiet σ post) : gMi l yX10_quiet wsX10_quiet rm_X10_quiet D ρ κ base [.ref (ρ (0))] σ post := by
  refine e_ofWi (cc := cX10_quiet) (maxL := 5) (ret := (some .int)) (by decide) rfl (Nat.le_of_ble_eq_true rfl) ?_
  intro p e s m below meth c ls C K G hl
  obtain ⟨hx, hb, hml, hown, hts, hr, hlocks⟩ := id C
  have hl : lv_has ls 5 [(0, .ref (ρ (0)))] := hl
  unfold w_X10_quiet at h
  refine lv_bipush (v := (-2 : Int32)) hx hb dX10_quiet_0 (by decide) ?_
  refine lv_topi (fun v1 ev1 => ?_)
  have h := h v1 ev1
  refine lv_istore_n (lv' := [(1, .int (v1)), (0, .ref (ρ (0)))]) hx hb dX10_quiet_2 rfl hl (by decide) rfl (fun ls hl => ?_)
  refine lv_iconst (v := (-1 : Int32)) hx hb dX10_quiet_3 (by decide) ?_
  refine lv_topi (fun v2 ev2 => ?_)
  have h := h v2 ev2
  refine lv_istore_n (lv' := [(2, .int (v2)), (1, .int (v1)), (0, .ref (ρ (0)))]) hx hb dX10_quiet_4 rfl hl (by decide) rfl (fun ls hl => ?_)
  refine lv_iconst (v := (1 : Int32)) hx hb dX10_quiet_5 (by decide) ?_
  refine lv_topi (fun v3 ev3 => ?_)
  have h := h v3 ev3
  refine lv_istore_n (lv' := [(3, .int (v3)), (2, .int (v2)), (1, .int (v1)), (0, .ref (ρ (0)))]) hx hb dX10_quiet_6 rfl hl (by decide) rfl (fun ls hl => ?_)
  obtain ⟨n7, h⟩ := h
  exact l_X10_quiet_7 C K n7 σ v1 v2 v3 _ _ _  h G (lv_sub hl [3, 2, 1, 0] rfl)
abbrev rm_X11_quiet : Room := { frames := 1, cells := 0, slots := 0, locals := 25 }
theorem in_X11_quiet_X11 : ∀ w ∈ wsX110, w ∈ wsX11_quiet := fun w h => List.mem_cons_of_mem _ (List.mem_append_right _ h)
def b_X11_quiet_44 (post : Int32 → eS → Prop) (K15 : eS → Int32 → Int32 → Prop) (σ : eS) (x1 : Int32) (x2 : Int32) : Prop := ∀ v12 : Int32, v12 = (x2 + (1 : Int32)) → K15 σ x1 v12
set_option maxHeartbeats 4000000 in
set_option maxRecDepth 100000 in
theorem l_X11_quiet_44 {p : Program} {l : Launch} {e : Env} {s : State} {m : MethodId} {args : Array Value} {below : List Frame} {meth : Method} {c : Code} {D : va_G} {ρ : Nat → Nat} {κ : Nat → ClassId} {base : Nat} {post : Int32 → eS → Prop} (C : eCx p s m args meth c cX11_quiet RX11 3 (some .int) wsX11_quiet) (K : gK D ρ κ base s) {K15 : eS → Int32 → Int32 → Prop} (hK15 : ∀ (σ : eS) (x1 : Int32) (x2 : Int32) (H : Heap) (locs : List Loc) (ls : Array Slot), K15 σ x1 x2 → gG D ρ κ base s σ H locs → lv_has ls 3 [(0, .ref (ρ (97))), (1, .int (x1)), (2, .int (x2))] → W p l e rm_X11_quiet s m args below meth c H locs 0 0 (gQi below args s D ρ κ base post) (F0 m 15 ls [])) : ∀ (σ : eS) (x1 : Int32) (x2 : Int32) (H : Heap) (locs : List Loc) (ls : Array Slot), b_X11_quiet_44 post K15 σ x1 x2 → gG D ρ κ base s σ H locs → lv_has ls 3 [(0, .ref (ρ (97))), (1, .int (x1)), (2, .int (x2))] → W p l e rm_X11_quiet s m args below meth c H locs 0 0 (gQi below args s D ρ κ base post) (F0 m 44 ls []) := by
  obtain ⟨hx, hb, hml, hown, hts, hr, hlocks⟩ := id C
  intro σ x1 x2 H locs ls h G hl
  unfold b_X11_quiet_44 at h
  obtain ⟨v12, ev12⟩ : ∃ y : Int32, y = x2 + (1 : Int32) := ⟨_, rfl⟩
  have h := h v12 ev12
  refine lv_iinc (v := v12) (lv' := [(2, .int (v12)), (0, .ref (ρ (97))), (1, .int (x1))]) hx hb dX11_quiet_44 hl (k := 2) rfl (by rw [ev12]; rfl) (by decide) rfl (fun ls hl => ?_)
  refine lv_goto (tgt := 15) hx hb dX11_quiet_47 (by decide) ?_
  exact hK15 σ x1 v12 _ _ _  h G (lv_sub hl [1, 2, 0] rfl)
def b_X11_quiet_42 (post : Int32 → eS → Prop) (K15 : eS → Int32 → Int32 → Prop) (σ : eS) (x2 : Int32) : Prop := b_X11_quiet_44 post K15 σ x2 x2
set_option maxHeartbeats 4000000 in
set_option maxRecDepth 100000 in
theorem l_X11_quiet_42 {p : Program} {l : Launch} {e : Env} {s : State} {m : MethodId} {args : Array Value} {below : List Frame} {meth : Method} {c : Code} {D : va_G} {ρ : Nat → Nat} {κ : Nat → ClassId} {base : Nat} {post : Int32 → eS → Prop} (C : eCx p s m args meth c cX11_quiet RX11 3 (some .int) wsX11_quiet) (K : gK D ρ κ base s) {K15 : eS → Int32 → Int32 → Prop} (hK15 : ∀ (σ : eS) (x1 : Int32) (x2 : Int32) (H : Heap) (locs : List Loc) (ls : Array Slot), K15 σ x1 x2 → gG D ρ κ base s σ H locs → lv_has ls 3 [(0, .ref (ρ (97))), (1, .int (x1)), (2, .int (x2))] → W p l e rm_X11_quiet s m args below meth c H locs 0 0 (gQi below args s D ρ κ base post) (F0 m 15 ls [])) : ∀ (σ : eS) (x2 : Int32) (H : Heap) (locs : List Loc) (ls : Array Slot), b_X11_quiet_42 post K15 σ x2 → gG D ρ κ base s σ H locs → lv_has ls 3 [(0, .ref (ρ (97))), (2, .int (x2))] → W p l e rm_X11_quiet s m args below meth c H locs 0 0 (gQi below args s D ρ κ base post) (F0 m 42 ls []) := by
  obtain ⟨hx, hb, hml, hown, hts, hr, hlocks⟩ := id C
  intro σ x2 H locs ls h G hl
  unfold b_X11_quiet_42 at h
  refine lv_iload_n hx hb dX11_quiet_42 rfl (lv_at hl 1 rfl) ?_
  refine lv_istore_n (lv' := [(1, .int (x2)), (0, .ref (ρ (97))), (2, .int (x2))]) hx hb dX11_quiet_43 rfl hl (by decide) rfl (fun ls hl => ?_)
  exact l_X11_quiet_44 C K (hK15 := hK15) σ x2 x2 _ _ _  h G (lv_sub hl [1, 0, 2] rfl)
def b_X11_quiet_15 (post : Int32 → eS → Prop) : Nat → eS → Int32 → Int32 → Prop
  | 0, _, _, _ => False
  | n + 1, σ, x1, x2 => (((σ.1 97 26) ≤ x2 → ((0 ≤ x1 → ∀ σ7 : eS, σ7 = e_ui σ 97 17 (0 : Int32) → w_X11_ownOn σ7 (x1.toInt64) (fun r9 σ8 => w_X11_tell σ8 (r9.toInt64) (fun σ10 => post x1 σ10))) ∧ (¬ (0 ≤ x1) → post (-2 : Int32) σ))) ∧ (¬ ((σ.1 97 26) ≤ x2) → ((x1 < 0 → b_X11_quiet_42 post (fun s x1 x2 => b_X11_quiet_15 post n s x1 x2) σ x2) ∧ (¬ (x1 < 0) → w_X11_ownOn σ (x2.toInt64) (fun r14 σ13 => w_X11_ownOn σ13 (x1.toInt64) (fun r16 σ15 => ((r14 ≤ r16 → b_X11_quiet_44 post (fun s x1 x2 => b_X11_quiet_15 post n s x1 x2) σ15 x1 x2) ∧ (¬ (r14 ≤ r16) → b_X11_quiet_42 post (fun s x1 x2 => b_X11_quiet_15 post n s x1 x2) σ15 x2))))))))
set_option maxHeartbeats 4000000 in
set_option maxRecDepth 100000 in
theorem l_X11_quiet_15 {p : Program} {l : Launch} {e : Env} {s : State} {m : MethodId} {args : Array Value} {below : List Frame} {meth : Method} {c : Code} {D : va_G} {ρ : Nat → Nat} {κ : Nat → ClassId} {base : Nat} {post : Int32 → eS → Prop} (C : eCx p s m args meth c cX11_quiet RX11 3 (some .int) wsX11_quiet) (K : gK D ρ κ base s) : ∀ (n : Nat) (σ : eS) (x1 : Int32) (x2 : Int32) (H : Heap) (locs : List Loc) (ls : Array Slot), b_X11_quiet_15 post n σ x1 x2 → gG D ρ κ base s σ H locs → lv_has ls 3 [(0, .ref (ρ (97))), (1, .int (x1)), (2, .int (x2))] → W p l e rm_X11_quiet s m args below meth c H locs 0 0 (gQi below args s D ρ κ base post) (F0 m 15 ls []) := by
  obtain ⟨hx, hb, hml, hown, hts, hr, hlocks⟩ := id C
  intro n
  induction n with
  | zero => intro σ x1 x2 H locs ls h G hl; exact False.elim h
  | succ n ih =>
    intro σ x1 x2 H locs ls h G hl
    rw [b_X11_quiet_15] at h
    refine lv_iload_n hx hb dX11_quiet_15 rfl (lv_at hl 2 rfl) ?_
    refine lv_aload_n hx hb dX11_quiet_16 rfl (lv_at hl 0 rfl) ?_
    refine e_geti hx hb hts in_X11_quiet_X11 hown K G 97 (by decide) gl_97 rfl 26 (by decide) rfl (hts (.fieldLink RX11 227 "StreetsStepOnModel" "round" "I") (e_mem (n := 2) rfl)) dX11_quiet_17 ?_
    refine lv_icmp_ge (tgt := 50) hx hb dX11_quiet_20 (by decide) (fun c5 => ?_) (fun c5 => ?_)
    · have h := h.1 c5
      refine lv_iload_n hx hb dX11_quiet_50 rfl (lv_at hl 1 rfl) ?_
      refine lv_if_ge (tgt := 57) hx hb dX11_quiet_51 (by decide) (fun c6 => ?_) (fun c6 => ?_)
      · have h := h.1 c6
        refine lv_aload_n hx hb dX11_quiet_57 rfl (lv_at hl 0 rfl) ?_
        refine lv_iconst (v := (0 : Int32)) hx hb dX11_quiet_58 (by decide) ?_
        refine e_puti hx hb hts in_X11_quiet_X11 tyX11 tyX11_ok nmX11 hown K G 97 (by decide) gl_97 rfl 17 (by decide) rfl (hts (.fieldLink RX11 101 "StreetsStepOnModel" "rowMany" "I") (e_mem (n := 3) rfl)) rfl (tyX11_ok 17 (by decide)) rfl rfl dX11_quiet_59 (fun H locs G => ?_)
        obtain ⟨σ7, eσ7⟩ : ∃ z : eS, z = e_ui σ 97 17 (0 : Int32) := ⟨_, rfl⟩
        rw [← eσ7] at G
        have h := h σ7 eσ7
        refine lv_aload_n hx hb dX11_quiet_62 rfl (lv_at hl 0 rfl) ?_
        refine lv_aload_n hx hb dX11_quiet_63 rfl (lv_at hl 0 rfl) ?_
        refine lv_iload_n hx hb dX11_quiet_64 rfl (lv_at hl 1 rfl) ?_
        refine lv_i2l hx hb dX11_quiet_65 rfl ?_
        refine e_callVi (As := [.long (x1.toInt64)]) (rest := [.ref (ρ (97))]) ⟨hx, hb, hml, hown, hts⟩ K G 97 (by decide) gl_97 rfl (c_X11_ownOn h) (cwV 1 hts gX11_quiet_X11_ownOn rfl rfl rfl (by decide +kernel) ⟨Nat.le_of_ble_eq_true rfl, Nat.le_of_ble_eq_true rfl⟩) rfl hl.1 rfl (Nat.le_of_ble_eq_true rfl) dX11_quiet_66 ⟨Nat.zero_le _, Nat.zero_le _⟩ (fun r9 σ8 H locs h G => ?_)
        refine lv_i2l hx hb dX11_quiet_69 rfl ?_
        refine e_callVv (As := [.long (r9.toInt64)]) (rest := []) ⟨hx, hb, hml, hown, hts⟩ K G 97 (by decide) gl_97 rfl (c_X11_tell h) (cwV 1 hts gX11_quiet_X11_tell rfl rfl rfl (by decide +kernel) ⟨Nat.le_of_ble_eq_true rfl, Nat.le_of_ble_eq_true rfl⟩) rfl hl.1 rfl (Nat.le_of_ble_eq_true rfl) dX11_quiet_70 ⟨Nat.zero_le _, Nat.zero_le _⟩ (fun σ10 H locs h G => ?_)
        refine lv_iload_n hx hb dX11_quiet_73 rfl (lv_at hl 1 rfl) ?_
        exact e_iret hx hb hr hlocks G h dX11_quiet_74
      · have h := h.2 c6
        refine lv_bipush (v := (-2 : Int32)) hx hb dX11_quiet_54 (by decide) ?_
        exact e_iret hx hb hr hlocks G h dX11_quiet_56
    · have h := h.2 c5
      refine lv_iload_n hx hb dX11_quiet_23 rfl (lv_at hl 1 rfl) ?_
      refine lv_if_lt (tgt := 42) hx hb dX11_quiet_24 (by decide) (fun c11 => ?_) (fun c11 => ?_)
      · have h := h.1 c11
        exact l_X11_quiet_42 C K (hK15 := ih) σ x2 _ _ _  h G (lv_sub hl [0, 2] rfl)
      · have h := h.2 c11
        refine lv_aload_n hx hb dX11_quiet_27 rfl (lv_at hl 0 rfl) ?_
        refine lv_iload_n hx hb dX11_quiet_28 rfl (lv_at hl 2 rfl) ?_
        refine lv_i2l hx hb dX11_quiet_29 rfl ?_
        refine e_callVi (As := [.long (x2.toInt64)]) (rest := []) ⟨hx, hb, hml, hown, hts⟩ K G 97 (by decide) gl_97 rfl (c_X11_ownOn h) (cwV 1 hts gX11_quiet_X11_ownOn rfl rfl rfl (by decide +kernel) ⟨Nat.le_of_ble_eq_true rfl, Nat.le_of_ble_eq_true rfl⟩) rfl hl.1 rfl (Nat.le_of_ble_eq_true rfl) dX11_quiet_30 ⟨Nat.zero_le _, Nat.zero_le _⟩ (fun r14 σ13 H locs h G => ?_)
        refine lv_aload_n hx hb dX11_quiet_33 rfl (lv_at hl 0 rfl) ?_
        refine lv_iload_n hx hb dX11_quiet_34 rfl (lv_at hl 1 rfl) ?_
        refine lv_i2l hx hb dX11_quiet_35 rfl ?_
        refine e_callVi (As := [.long (x1.toInt64)]) (rest := [.int (r14)]) ⟨hx, hb, hml, hown, hts⟩ K G 97 (by decide) gl_97 rfl (c_X11_ownOn h) (cwV 1 hts gX11_quiet_X11_ownOn rfl rfl rfl (by decide +kernel) ⟨Nat.le_of_ble_eq_true rfl, Nat.le_of_ble_eq_true rfl⟩) rfl hl.1 rfl (Nat.le_of_ble_eq_true rfl) dX11_quiet_36 ⟨Nat.zero_le _, Nat.zero_le _⟩ (fun r16 σ15 H locs h G => ?_)
        refine lv_icmp_le (tgt := 44) hx hb dX11_quiet_39 (by decide) (fun c17 => ?_) (fun c17 => ?_)
        · have h := h.1 c17
          exact l_X11_quiet_44 C K (hK15 := ih) σ15 x1 x2 _ _ _  h G (lv_sub hl [0, 1, 2] rfl)
        · have h := h.2 c17
          exact l_X11_quiet_42 C K (hK15 := ih) σ15 x2 _ _ _  h G (lv_sub hl [0, 2] rfl)
def w_X11_quiet (σ : eS) (post : Int32 → eS → Prop) : Prop := ∀ σ1 : eS, σ1 = e_ui σ 97 18 (0 : Int32) → w_X11_layOut σ1 (0 : Int32) (fun σ2 => ∀ v3 : Int32, v3 = (-2 : Int32) → ∀ v4 : Int32, v4 = (1 : Int32) → (∃ n18 : Nat, b_X11_quiet_15 post n18 σ2 v3 v4))
set_option maxHeartbeats 4000000 in
set_option maxRecDepth 100000 in
theorem c_X11_quiet {l : Launch} {D : va_G} {ρ : Nat → Nat} {κ : Nat → ClassId} {base : Nat} {σ : eS} {post : Int32 → eS → Prop} (h : w_X11_quiet σ post) : gMi l yX11_quiet wsX11_quiet rm_X11_quiet D ρ κ base [.ref (ρ (97))] σ post := by
  refine e_ofWi (cc := cX11_quiet) (maxL := 3) (ret := (some .int)) (by decide) rfl (Nat.le_of_ble_eq_true rfl) ?_
  intro p e s m below meth c ls C K G hl
  obtain ⟨hx, hb, hml, hown, hts, hr, hlocks⟩ := id C
  have hl : lv_has ls 3 [(0, .ref (ρ (97)))] := hl
  unfold w_X11_quiet at h
  refine lv_aload_n hx hb dX11_quiet_0 rfl (lv_at hl 0 rfl) ?_
  refine lv_iconst (v := (0 : Int32)) hx hb dX11_quiet_1 (by decide) ?_
  refine e_puti hx hb hts in_X11_quiet_X11 tyX11 tyX11_ok nmX11 hown K G 97 (by decide) gl_97 rfl 18 (by decide) rfl (hts (.fieldLink RX11 98 "StreetsStepOnModel" "thrown" "I") (e_mem (n := 1) rfl)) rfl (tyX11_ok 18 (by decide)) rfl rfl dX11_quiet_2 (fun H locs G => ?_)
  obtain ⟨σ1, eσ1⟩ : ∃ z : eS, z = e_ui σ 97 18 (0 : Int32) := ⟨_, rfl⟩
  rw [← eσ1] at G
  have h := h σ1 eσ1
  refine lv_aload_n hx hb dX11_quiet_5 rfl (lv_at hl 0 rfl) ?_
  refine lv_iconst (v := (0 : Int32)) hx hb dX11_quiet_6 (by decide) ?_
  refine e_callVv (As := [.int ((0 : Int32))]) (rest := []) ⟨hx, hb, hml, hown, hts⟩ K G 97 (by decide) gl_97 rfl (c_X11_layOut h) (cwV 1 hts gX11_quiet_X11_layOut rfl rfl rfl (by decide +kernel) ⟨Nat.le_of_ble_eq_true rfl, Nat.le_of_ble_eq_true rfl⟩) rfl hl.1 rfl (Nat.le_of_ble_eq_true rfl) dX11_quiet_7 ⟨Nat.zero_le _, Nat.zero_le _⟩ (fun σ2 H locs h G => ?_)
  refine lv_bipush (v := (-2 : Int32)) hx hb dX11_quiet_10 (by decide) ?_
  refine lv_topi (fun v3 ev3 => ?_)
  have h := h v3 ev3
  refine lv_istore_n (lv' := [(1, .int (v3)), (0, .ref (ρ (97)))]) hx hb dX11_quiet_12 rfl hl (by decide) rfl (fun ls hl => ?_)
  refine lv_iconst (v := (1 : Int32)) hx hb dX11_quiet_13 (by decide) ?_
  refine lv_topi (fun v4 ev4 => ?_)
  have h := h v4 ev4
  refine lv_istore_n (lv' := [(2, .int (v4)), (1, .int (v3)), (0, .ref (ρ (97)))]) hx hb dX11_quiet_14 rfl hl (by decide) rfl (fun ls hl => ?_)
  obtain ⟨n18, h⟩ := h
  exact l_X11_quiet_15 C K n18 σ2 v3 v4 _ _ _  h G (lv_sub hl [2, 1, 0] rfl)
abbrev rm_X10_letter : Room := { frames := 1, cells := 0, slots := 0, locals := 21 }
theorem in_X10_letter_X1 : ∀ w ∈ wsX10, w ∈ wsX10_letter := fun w h => List.mem_cons_of_mem _ (List.mem_append_right _ h)
theorem in_X10_letter_X10 : ∀ w ∈ wsX100, w ∈ wsX10_letter := fun w h => List.mem_cons_of_mem _ (List.mem_append_left _ (List.mem_append_right _ h))
def w_X10_letter (σ : eS) (x1 : Int32) (x2 : Int64) (post : Int32 → eS → Prop) : Prop := w_X10_isStreet σ x1 (fun r2 σ1 => ((r2 = 0 → post (-1 : Int32) σ1) ∧ (¬ (r2 = 0) → w_X10_isDay σ1 x2 (fun r5 σ4 => ((r5 = 0 → post (-1 : Int32) σ4) ∧ (¬ (r5 = 0) → (((σ4.1 5 6) < (12 : Int32) → ∀ v8 : Int32, v8 = (σ4.1 5 6) → (vp_in v8 12) ∧ ∀ σ10 : eS, σ10 = e_ui σ4 15 v8.toNatClampNeg x1 → (vp_in v8 12) ∧ ∀ σ12 : eS, σ12 = e_ul σ10 16 v8.toNatClampNeg x2 → ∀ σ13 : eS, σ13 = e_ui σ12 5 6 ((σ12.1 5 6) + (1 : Int32)) → post v8 σ13) ∧ (¬ ((σ4.1 5 6) < (12 : Int32)) → post (-1 : Int32) σ4))))))))
set_option maxHeartbeats 4000000 in
set_option maxRecDepth 100000 in
theorem c_X10_letter {l : Launch} {D : va_G} {ρ : Nat → Nat} {κ : Nat → ClassId} {base : Nat} {σ : eS} {x1 : Int32} {x2 : Int64} {post : Int32 → eS → Prop} (h : w_X10_letter σ x1 x2 post) : gMi l yX10_letter wsX10_letter rm_X10_letter D ρ κ base [.ref (ρ (0)), .int (x1), .long (x2)] σ post := by
  refine e_ofWi (cc := cX10_letter) (maxL := 5) (ret := (some .int)) (by decide) rfl (Nat.le_of_ble_eq_true rfl) ?_
  intro p e s m below meth c ls C K G hl
  obtain ⟨hx, hb, hml, hown, hts, hr, hlocks⟩ := id C
  have hl : lv_has ls 5 [(0, .ref (ρ (0))), (1, .int (x1)), (2, .long (x2))] := hl
  unfold w_X10_letter at h
  refine lv_aload_n hx hb dX10_letter_0 rfl (lv_at hl 0 rfl) ?_
  refine lv_iload_n hx hb dX10_letter_1 rfl (lv_at hl 1 rfl) ?_
  refine e_callVi (As := [.int (x1)]) (rest := []) ⟨hx, hb, hml, hown, hts⟩ K G 0 (by decide) gl_0 rfl (c_X10_isStreet h) (cwV 1 hts gX10_letter_X10_isStreet rfl rfl rfl (by decide +kernel) ⟨Nat.le_of_ble_eq_true rfl, Nat.le_of_ble_eq_true rfl⟩) rfl hl.1 rfl (Nat.le_of_ble_eq_true rfl) dX10_letter_2 ⟨Nat.zero_le _, Nat.zero_le _⟩ (fun r2 σ1 H locs h G => ?_)
  refine lv_if_eq (tgt := 27) hx hb dX10_letter_5 (by decide) (fun c3 => ?_) (fun c3 => ?_)
  · have h := h.1 c3
    refine lv_iconst (v := (-1 : Int32)) hx hb dX10_letter_27 (by decide) ?_
    exact e_iret hx hb hr hlocks G h dX10_letter_28
  · have h := h.2 c3
    refine lv_lload_n hx hb dX10_letter_8 rfl (lv_at hl 2 rfl) ?_
    refine e_callSi (As := [.long (x2)]) (rest := []) ⟨hx, hb, hml, hown, hts⟩ K G (c_X10_isDay h) (va_cwS 1 hts gX10_letter_X10_isDay rfl rfl rfl (by decide +kernel) ⟨Nat.le_of_ble_eq_true rfl, Nat.le_of_ble_eq_true rfl⟩) rfl hl.1 rfl (Nat.le_of_ble_eq_true rfl) dX10_letter_9 ⟨Nat.zero_le _, Nat.zero_le _⟩ (fun r5 σ4 H locs h G => ?_)
    refine lv_if_eq (tgt := 27) hx hb dX10_letter_12 (by decide) (fun c6 => ?_) (fun c6 => ?_)
    · have h := h.1 c6
      refine lv_iconst (v := (-1 : Int32)) hx hb dX10_letter_27 (by decide) ?_
      exact e_iret hx hb hr hlocks G h dX10_letter_28
    · have h := h.2 c6
      refine lv_aload_n hx hb dX10_letter_15 rfl (lv_at hl 0 rfl) ?_
      refine e_getq hx hb hts in_X10_letter_X10 hown K G 0 (by decide) gl_0 rfl 2 (by decide) 5 rfl (hts (.fieldLink RX10 26 "StreetsStepOn" "book" "LStreetsStepOn$Book;") (e_mem (n := 1) rfl)) dX10_letter_16 ?_
      refine e_getiN hx hb hts in_X10_letter_X1 hown K G 5 (by decide) gl_5 rfl 6 (by decide) rfl (e_memq (n := 23) rfl) dX10_letter_19 ?_
      refine lv_bipush (v := (12 : Int32)) hx hb dX10_letter_22 (by decide) ?_
      refine lv_icmp_lt (tgt := 29) hx hb dX10_letter_24 (by decide) (fun c7 => ?_) (fun c7 => ?_)
      · have h := h.1 c7
        refine lv_aload_n hx hb dX10_letter_29 rfl (lv_at hl 0 rfl) ?_
        refine e_getq hx hb hts in_X10_letter_X10 hown K G 0 (by decide) gl_0 rfl 2 (by decide) 5 rfl (hts (.fieldLink RX10 26 "StreetsStepOn" "book" "LStreetsStepOn$Book;") (e_mem (n := 1) rfl)) dX10_letter_30 ?_
        refine e_getiN hx hb hts in_X10_letter_X1 hown K G 5 (by decide) gl_5 rfl 6 (by decide) rfl (e_memq (n := 23) rfl) dX10_letter_33 ?_
        refine lv_topi (fun v8 ev8 => ?_)
        have h := h v8 ev8
        refine lv_istore (lv' := [(4, .int (v8)), (0, .ref (ρ (0))), (1, .int (x1)), (2, .long (x2))]) hx hb dX10_letter_36 hl (by decide) rfl (fun ls hl => ?_)
        refine lv_aload_n hx hb dX10_letter_38 rfl (lv_at hl 1 rfl) ?_
        refine e_getq hx hb hts in_X10_letter_X10 hown K G 0 (by decide) gl_0 rfl 2 (by decide) 5 rfl (hts (.fieldLink RX10 26 "StreetsStepOn" "book" "LStreetsStepOn$Book;") (e_mem (n := 1) rfl)) dX10_letter_39 ?_
        refine e_getqN hx hb hts in_X10_letter_X1 hown K G 5 (by decide) gl_5 rfl 2 (by decide) 15 rfl (e_memq (n := 12) rfl) dX10_letter_42 ?_
        refine lv_iload hx hb dX10_letter_45 (lv_at hl 0 rfl) ?_
        refine lv_iload_n hx hb dX10_letter_47 rfl (lv_at hl 2 rfl) ?_
        have hi9 := h.1
        have h := h.2
        refine e_iast hx hb K G 15 0 0 12 (by decide) gl_15 rfl hi9 dX10_letter_48 (fun H locs G => ?_)
        obtain ⟨σ10, eσ10⟩ : ∃ z : eS, z = e_ui σ4 15 v8.toNatClampNeg x1 := ⟨_, rfl⟩
        rw [← eσ10] at G
        have h := h σ10 eσ10
        refine lv_aload_n hx hb dX10_letter_49 rfl (lv_at hl 1 rfl) ?_
        refine e_getq hx hb hts in_X10_letter_X10 hown K G 0 (by decide) gl_0 rfl 2 (by decide) 5 rfl (hts (.fieldLink RX10 26 "StreetsStepOn" "book" "LStreetsStepOn$Book;") (e_mem (n := 1) rfl)) dX10_letter_50 ?_
        refine e_getqN hx hb hts in_X10_letter_X1 hown K G 5 (by decide) gl_5 rfl 3 (by decide) 16 rfl (e_memq (n := 13) rfl) dX10_letter_53 ?_
        refine lv_iload hx hb dX10_letter_56 (lv_at hl 0 rfl) ?_
        refine lv_lload_n hx hb dX10_letter_58 rfl (lv_at hl 3 rfl) ?_
        have hi11 := h.1
        have h := h.2
        refine e_last hx hb K G 16 1 1 12 (by decide) gl_16 rfl hi11 dX10_letter_59 (fun H locs G => ?_)
        obtain ⟨σ12, eσ12⟩ : ∃ z : eS, z = e_ul σ10 16 v8.toNatClampNeg x2 := ⟨_, rfl⟩
        rw [← eσ12] at G
        have h := h σ12 eσ12
        refine lv_aload_n hx hb dX10_letter_60 rfl (lv_at hl 1 rfl) ?_
        refine e_getq hx hb hts in_X10_letter_X10 hown K G 0 (by decide) gl_0 rfl 2 (by decide) 5 rfl (hts (.fieldLink RX10 26 "StreetsStepOn" "book" "LStreetsStepOn$Book;") (e_mem (n := 1) rfl)) dX10_letter_61 ?_
        refine lv_dup hx hb dX10_letter_64 rfl ?_
        refine e_getiN hx hb hts in_X10_letter_X1 hown K G 5 (by decide) gl_5 rfl 6 (by decide) rfl (e_memq (n := 23) rfl) dX10_letter_65 ?_
        refine lv_iconst (v := (1 : Int32)) hx hb dX10_letter_68 (by decide) ?_
        refine lv_iadd hx hb dX10_letter_69 ?_
        refine e_putiN hx hb hts in_X10_letter_X1 tyX1 tyX1_ok nmX1 hown K G 5 (by decide) gl_5 rfl 6 (by decide) rfl (e_memq (n := 23) rfl) rfl (tyX1_ok 6 (by decide)) rfl rfl dX10_letter_70 (fun H locs G => ?_)
        obtain ⟨σ13, eσ13⟩ : ∃ z : eS, z = e_ui σ12 5 6 ((σ12.1 5 6) + (1 : Int32)) := ⟨_, rfl⟩
        rw [← eσ13] at G
        have h := h σ13 eσ13
        refine lv_iload hx hb dX10_letter_73 (lv_at hl 0 rfl) ?_
        exact e_iret hx hb hr hlocks G h dX10_letter_75
      · have h := h.2 c7
        refine lv_iconst (v := (-1 : Int32)) hx hb dX10_letter_27 (by decide) ?_
        exact e_iret hx hb hr hlocks G h dX10_letter_28
abbrev rm_X11_letter : Room := { frames := 2, cells := 0, slots := 0, locals := 46 }
theorem in_X11_letter_X11 : ∀ w ∈ wsX110, w ∈ wsX11_letter := fun w h => List.mem_cons_of_mem _ (List.mem_append_right _ h)
def w_X11_letter (σ : eS) (x1 : Int32) (x2 : Int64) (post : Int32 → eS → Prop) : Prop := ∀ σ1 : eS, σ1 = e_ui σ 97 18 (0 : Int32) → w_X11_isStreet σ1 x1 (fun r3 σ2 => ((r3 = 0 → post (-1 : Int32) σ2) ∧ (¬ (r3 = 0) → w_X11_isDay σ2 x2 (fun r6 σ5 => ((r6 = 0 → post (-1 : Int32) σ5) ∧ (¬ (r6 = 0) → ((¬ (σ5.1 97 7) = (12 : Int32) → (vp_in (σ5.1 97 7) 12) ∧ ∀ σ10 : eS, σ10 = e_ui σ5 102 (σ5.1 97 7).toNatClampNeg x1 → (vp_in (σ10.1 97 7) 12) ∧ ∀ σ12 : eS, σ12 = e_ul σ10 103 (σ10.1 97 7).toNatClampNeg x2 → ∀ σ13 : eS, σ13 = e_ui σ12 97 7 ((σ12.1 97 7) + (1 : Int32)) → post ((σ13.1 97 7) - (1 : Int32)) σ13) ∧ ((σ5.1 97 7) = (12 : Int32) → post (-1 : Int32) σ5))))))))
set_option maxHeartbeats 4000000 in
set_option maxRecDepth 100000 in
theorem c_X11_letter {l : Launch} {D : va_G} {ρ : Nat → Nat} {κ : Nat → ClassId} {base : Nat} {σ : eS} {x1 : Int32} {x2 : Int64} {post : Int32 → eS → Prop} (h : w_X11_letter σ x1 x2 post) : gMi l yX11_letter wsX11_letter rm_X11_letter D ρ κ base [.ref (ρ (97)), .int (x1), .long (x2)] σ post := by
  refine e_ofWi (cc := cX11_letter) (maxL := 4) (ret := (some .int)) (by decide) rfl (Nat.le_of_ble_eq_true rfl) ?_
  intro p e s m below meth c ls C K G hl
  obtain ⟨hx, hb, hml, hown, hts, hr, hlocks⟩ := id C
  have hl : lv_has ls 4 [(0, .ref (ρ (97))), (1, .int (x1)), (2, .long (x2))] := hl
  unfold w_X11_letter at h
  refine lv_aload_n hx hb dX11_letter_0 rfl (lv_at hl 0 rfl) ?_
  refine lv_iconst (v := (0 : Int32)) hx hb dX11_letter_1 (by decide) ?_
  refine e_puti hx hb hts in_X11_letter_X11 tyX11 tyX11_ok nmX11 hown K G 97 (by decide) gl_97 rfl 18 (by decide) rfl (hts (.fieldLink RX11 98 "StreetsStepOnModel" "thrown" "I") (e_mem (n := 1) rfl)) rfl (tyX11_ok 18 (by decide)) rfl rfl dX11_letter_2 (fun H locs G => ?_)
  obtain ⟨σ1, eσ1⟩ : ∃ z : eS, z = e_ui σ 97 18 (0 : Int32) := ⟨_, rfl⟩
  rw [← eσ1] at G
  have h := h σ1 eσ1
  refine lv_aload_n hx hb dX11_letter_5 rfl (lv_at hl 0 rfl) ?_
  refine lv_iload_n hx hb dX11_letter_6 rfl (lv_at hl 1 rfl) ?_
  refine e_callVi (As := [.int (x1)]) (rest := []) ⟨hx, hb, hml, hown, hts⟩ K G 97 (by decide) gl_97 rfl (c_X11_isStreet h) (cwV 1 hts gX11_letter_X11_isStreet rfl rfl rfl (by decide +kernel) ⟨Nat.le_of_ble_eq_true rfl, Nat.le_of_ble_eq_true rfl⟩) rfl hl.1 rfl (Nat.le_of_ble_eq_true rfl) dX11_letter_7 ⟨Nat.zero_le _, Nat.zero_le _⟩ (fun r3 σ2 H locs h G => ?_)
  refine lv_if_eq (tgt := 29) hx hb dX11_letter_10 (by decide) (fun c4 => ?_) (fun c4 => ?_)
  · have h := h.1 c4
    refine lv_iconst (v := (-1 : Int32)) hx hb dX11_letter_29 (by decide) ?_
    exact e_iret hx hb hr hlocks G h dX11_letter_30
  · have h := h.2 c4
    refine lv_lload_n hx hb dX11_letter_13 rfl (lv_at hl 2 rfl) ?_
    refine e_callSi (As := [.long (x2)]) (rest := []) ⟨hx, hb, hml, hown, hts⟩ K G (c_X11_isDay h) (va_cwS 1 hts gX11_letter_X11_isDay rfl rfl rfl (by decide +kernel) ⟨Nat.le_of_ble_eq_true rfl, Nat.le_of_ble_eq_true rfl⟩) rfl hl.1 rfl (Nat.le_of_ble_eq_true rfl) dX11_letter_14 ⟨Nat.zero_le _, Nat.zero_le _⟩ (fun r6 σ5 H locs h G => ?_)
    refine lv_if_eq (tgt := 29) hx hb dX11_letter_17 (by decide) (fun c7 => ?_) (fun c7 => ?_)
    · have h := h.1 c7
      refine lv_iconst (v := (-1 : Int32)) hx hb dX11_letter_29 (by decide) ?_
      exact e_iret hx hb hr hlocks G h dX11_letter_30
    · have h := h.2 c7
      refine lv_aload_n hx hb dX11_letter_20 rfl (lv_at hl 0 rfl) ?_
      refine e_geti hx hb hts in_X11_letter_X11 hown K G 97 (by decide) gl_97 rfl 7 (by decide) rfl (hts (.fieldLink RX11 114 "StreetsStepOnModel" "letters" "I") (e_mem (n := 2) rfl)) dX11_letter_21 ?_
      refine lv_bipush (v := (12 : Int32)) hx hb dX11_letter_24 (by decide) ?_
      refine lv_icmp_ne (tgt := 31) hx hb dX11_letter_26 (by decide) (fun c8 => ?_) (fun c8 => ?_)
      · have h := h.1 c8
        refine lv_aload_n hx hb dX11_letter_31 rfl (lv_at hl 0 rfl) ?_
        refine e_getq hx hb hts in_X11_letter_X11 hown K G 97 (by decide) gl_97 rfl 8 (by decide) 102 rfl (hts (.fieldLink RX11 22 "StreetsStepOnModel" "letterName" "[I") (e_mem (n := 3) rfl)) dX11_letter_32 ?_
        refine lv_aload_n hx hb dX11_letter_35 rfl (lv_at hl 0 rfl) ?_
        refine e_geti hx hb hts in_X11_letter_X11 hown K G 97 (by decide) gl_97 rfl 7 (by decide) rfl (hts (.fieldLink RX11 114 "StreetsStepOnModel" "letters" "I") (e_mem (n := 2) rfl)) dX11_letter_36 ?_
        refine lv_iload_n hx hb dX11_letter_39 rfl (lv_at hl 1 rfl) ?_
        have hi9 := h.1
        have h := h.2
        refine e_iast hx hb K G 102 0 0 12 (by decide) gl_102 rfl hi9 dX11_letter_40 (fun H locs G => ?_)
        obtain ⟨σ10, eσ10⟩ : ∃ z : eS, z = e_ui σ5 102 (σ5.1 97 7).toNatClampNeg x1 := ⟨_, rfl⟩
        rw [← eσ10] at G
        have h := h σ10 eσ10
        refine lv_aload_n hx hb dX11_letter_41 rfl (lv_at hl 0 rfl) ?_
        refine e_getq hx hb hts in_X11_letter_X11 hown K G 97 (by decide) gl_97 rfl 9 (by decide) 103 rfl (hts (.fieldLink RX11 25 "StreetsStepOnModel" "letterDay" "[J") (e_mem (n := 4) rfl)) dX11_letter_42 ?_
        refine lv_aload_n hx hb dX11_letter_45 rfl (lv_at hl 0 rfl) ?_
        refine e_geti hx hb hts in_X11_letter_X11 hown K G 97 (by decide) gl_97 rfl 7 (by decide) rfl (hts (.fieldLink RX11 114 "StreetsStepOnModel" "letters" "I") (e_mem (n := 2) rfl)) dX11_letter_46 ?_
        refine lv_lload_n hx hb dX11_letter_49 rfl (lv_at hl 2 rfl) ?_
        have hi11 := h.1
        have h := h.2
        refine e_last hx hb K G 103 1 1 12 (by decide) gl_103 rfl hi11 dX11_letter_50 (fun H locs G => ?_)
        obtain ⟨σ12, eσ12⟩ : ∃ z : eS, z = e_ul σ10 103 (σ10.1 97 7).toNatClampNeg x2 := ⟨_, rfl⟩
        rw [← eσ12] at G
        have h := h σ12 eσ12
        refine lv_aload_n hx hb dX11_letter_51 rfl (lv_at hl 0 rfl) ?_
        refine lv_dup hx hb dX11_letter_52 rfl ?_
        refine e_geti hx hb hts in_X11_letter_X11 hown K G 97 (by decide) gl_97 rfl 7 (by decide) rfl (hts (.fieldLink RX11 114 "StreetsStepOnModel" "letters" "I") (e_mem (n := 2) rfl)) dX11_letter_53 ?_
        refine lv_iconst (v := (1 : Int32)) hx hb dX11_letter_56 (by decide) ?_
        refine lv_iadd hx hb dX11_letter_57 ?_
        refine e_puti hx hb hts in_X11_letter_X11 tyX11 tyX11_ok nmX11 hown K G 97 (by decide) gl_97 rfl 7 (by decide) rfl (hts (.fieldLink RX11 114 "StreetsStepOnModel" "letters" "I") (e_mem (n := 2) rfl)) rfl (tyX11_ok 7 (by decide)) rfl rfl dX11_letter_58 (fun H locs G => ?_)
        obtain ⟨σ13, eσ13⟩ : ∃ z : eS, z = e_ui σ12 97 7 ((σ12.1 97 7) + (1 : Int32)) := ⟨_, rfl⟩
        rw [← eσ13] at G
        have h := h σ13 eσ13
        refine lv_aload_n hx hb dX11_letter_61 rfl (lv_at hl 0 rfl) ?_
        refine e_geti hx hb hts in_X11_letter_X11 hown K G 97 (by decide) gl_97 rfl 7 (by decide) rfl (hts (.fieldLink RX11 114 "StreetsStepOnModel" "letters" "I") (e_mem (n := 2) rfl)) dX11_letter_62 ?_
        refine lv_iconst (v := (1 : Int32)) hx hb dX11_letter_65 (by decide) ?_
        refine lv_isub hx hb dX11_letter_66 ?_
        exact e_iret hx hb hr hlocks G h dX11_letter_67
      · have h := h.2 c8
        refine lv_iconst (v := (-1 : Int32)) hx hb dX11_letter_29 (by decide) ?_
        exact e_iret hx hb hr hlocks G h dX11_letter_30
abbrev rm_X10_isLetter : Room := { frames := 0, cells := 0, slots := 0, locals := 0 }
theorem in_X10_isLetter_X1 : ∀ w ∈ wsX10, w ∈ wsX10_isLetter := fun w h => List.mem_cons_of_mem _ (List.mem_append_right _ h)
theorem in_X10_isLetter_X10 : ∀ w ∈ wsX100, w ∈ wsX10_isLetter := fun w h => List.mem_cons_of_mem _ (List.mem_append_left _ (List.mem_append_right _ h))
def w_X10_isLetter (σ : eS) (x1 : Int32) (post : Int32 → eS → Prop) : Prop := ((x1 < 0 → ((narrow .boolean (.int (0 : Int32)) = .int (0 : Int32)) ∧ post (0 : Int32) σ)) ∧ (¬ (x1 < 0) → (((σ.1 5 6) ≤ x1 → ((narrow .boolean (.int (0 : Int32)) = .int (0 : Int32)) ∧ post (0 : Int32) σ)) ∧ (¬ ((σ.1 5 6) ≤ x1) → ((narrow .boolean (.int (1 : Int32)) = .int (1 : Int32)) ∧ post (1 : Int32) σ)))))
set_option maxHeartbeats 4000000 in
set_option maxRecDepth 100000 in
theorem c_X10_isLetter {l : Launch} {D : va_G} {ρ : Nat → Nat} {κ : Nat → ClassId} {base : Nat} {σ : eS} {x1 : Int32} {post : Int32 → eS → Prop} (h : w_X10_isLetter σ x1 post) : gMi l yX10_isLetter wsX10_isLetter rm_X10_isLetter D ρ κ base [.ref (ρ (0)), .int (x1)] σ post := by
  refine e_ofWi (cc := cX10_isLetter) (maxL := 2) (ret := (some .boolean)) (by decide) rfl (Nat.le_of_ble_eq_true rfl) ?_
  intro p e s m below meth c ls C K G hl
  obtain ⟨hx, hb, hml, hown, hts, hr, hlocks⟩ := id C
  have hl : lv_has ls 2 [(0, .ref (ρ (0))), (1, .int (x1))] := hl
  unfold w_X10_isLetter at h
  refine lv_iload_n hx hb dX10_isLetter_0 rfl (lv_at hl 1 rfl) ?_
  refine lv_if_lt (tgt := 19) hx hb dX10_isLetter_1 (by decide) (fun c1 => ?_) (fun c1 => ?_)
  · have h := h.1 c1
    refine lv_iconst (v := (0 : Int32)) hx hb dX10_isLetter_19 (by decide) ?_
    exact e_zret hx hb hr hlocks G h.1 h.2 dX10_isLetter_20
  · have h := h.2 c1
    refine lv_iload_n hx hb dX10_isLetter_4 rfl (lv_at hl 1 rfl) ?_
    refine lv_aload_n hx hb dX10_isLetter_5 rfl (lv_at hl 0 rfl) ?_
    refine e_getq hx hb hts in_X10_isLetter_X10 hown K G 0 (by decide) gl_0 rfl 2 (by decide) 5 rfl (hts (.fieldLink RX10 26 "StreetsStepOn" "book" "LStreetsStepOn$Book;") (e_mem (n := 1) rfl)) dX10_isLetter_6 ?_
    refine e_getiN hx hb hts in_X10_isLetter_X1 hown K G 5 (by decide) gl_5 rfl 6 (by decide) rfl (e_memq (n := 23) rfl) dX10_isLetter_9 ?_
    refine lv_icmp_ge (tgt := 19) hx hb dX10_isLetter_12 (by decide) (fun c2 => ?_) (fun c2 => ?_)
    · have h := h.1 c2
      refine lv_iconst (v := (0 : Int32)) hx hb dX10_isLetter_19 (by decide) ?_
      exact e_zret hx hb hr hlocks G h.1 h.2 dX10_isLetter_20
    · have h := h.2 c2
      refine lv_iconst (v := (1 : Int32)) hx hb dX10_isLetter_15 (by decide) ?_
      refine lv_goto (tgt := 20) hx hb dX10_isLetter_16 (by decide) ?_
      exact e_zret hx hb hr hlocks G h.1 h.2 dX10_isLetter_20
abbrev rm_X10_home : Room := { frames := 1, cells := 0, slots := 0, locals := 21 }
theorem in_X10_home_X1 : ∀ w ∈ wsX10, w ∈ wsX10_home := fun w h => List.mem_cons_of_mem _ (List.mem_append_left _ (List.mem_append_left _ (List.mem_append_right _ h)))
theorem in_X10_home_X10 : ∀ w ∈ wsX100, w ∈ wsX10_home := fun w h => List.mem_cons_of_mem _ (List.mem_append_left _ (List.mem_append_left _ (List.mem_append_left _ (List.mem_append_right _ h))))
def w_X10_home (σ : eS) (x1 : Int32) (post : Int32 → eS → Prop) : Prop := w_X10_isLetter σ x1 (fun r2 σ1 => ((¬ r2 = 0 → (vp_in x1 12) ∧ False) ∧ (r2 = 0 → post (-1 : Int32) σ1)))
set_option maxHeartbeats 4000000 in
set_option maxRecDepth 100000 in
theorem c_X10_home {l : Launch} {D : va_G} {ρ : Nat → Nat} {κ : Nat → ClassId} {base : Nat} {σ : eS} {x1 : Int32} {post : Int32 → eS → Prop} (h : w_X10_home σ x1 post) : gMi l yX10_home wsX10_home rm_X10_home D ρ κ base [.ref (ρ (0)), .int (x1)] σ post := by
  refine e_ofWi (cc := cX10_home) (maxL := 3) (ret := (some .int)) (by decide) rfl (Nat.le_of_ble_eq_true rfl) ?_
  intro p e s m below meth c ls C K G hl
  obtain ⟨hx, hb, hml, hown, hts, hr, hlocks⟩ := id C
  have hl : lv_has ls 3 [(0, .ref (ρ (0))), (1, .int (x1))] := hl
  unfold w_X10_home at h
  refine lv_aload_n hx hb dX10_home_0 rfl (lv_at hl 0 rfl) ?_
  refine lv_iload_n hx hb dX10_home_1 rfl (lv_at hl 1 rfl) ?_
  refine e_callVi (As := [.int (x1)]) (rest := []) ⟨hx, hb, hml, hown, hts⟩ K G 0 (by decide) gl_0 rfl (c_X10_isLetter h) (cwV 1 hts gX10_home_X10_isLetter rfl rfl rfl (by decide +kernel) ⟨Nat.le_of_ble_eq_true rfl, Nat.le_of_ble_eq_true rfl⟩) rfl hl.1 rfl (Nat.le_of_ble_eq_true rfl) dX10_home_2 ⟨Nat.zero_le _, Nat.zero_le _⟩ (fun r2 σ1 H locs h G => ?_)
  refine lv_if_ne (tgt := 10) hx hb dX10_home_5 (by decide) (fun c3 => ?_) (fun c3 => ?_)
  · have h := h.1 c3
    refine lv_aload_n hx hb dX10_home_10 rfl (lv_at hl 0 rfl) ?_
    refine e_getq hx hb hts in_X10_home_X10 hown K G 0 (by decide) gl_0 rfl 5 (by decide) 32 rfl (hts (.fieldLink RX10 44 "StreetsStepOn" "almanac" "LStreetsStepOn$Almanac;") (e_mem (n := 1) rfl)) dX10_home_11 ?_
    refine lv_aload_n hx hb dX10_home_14 rfl (lv_at hl 0 rfl) ?_
    refine e_getq hx hb hts in_X10_home_X10 hown K G 0 (by decide) gl_0 rfl 2 (by decide) 5 rfl (hts (.fieldLink RX10 26 "StreetsStepOn" "book" "LStreetsStepOn$Book;") (e_mem (n := 2) rfl)) dX10_home_15 ?_
    refine e_getqN hx hb hts in_X10_home_X1 hown K G 5 (by decide) gl_5 rfl 2 (by decide) 15 rfl (e_memq (n := 12) rfl) dX10_home_18 ?_
    refine lv_iload_n hx hb dX10_home_21 rfl (lv_at hl 1 rfl) ?_
    have hi4 := h.1
    have h := h.2
    refine e_iald hx hb K G 15 0 0 12 (by decide) gl_15 rfl hi4 dX10_home_22 ?_
    refine lv_aload_n hx hb dX10_home_23 rfl (lv_at hl 0 rfl) ?_
    refine e_getq hx hb hts in_X10_home_X10 hown K G 0 (by decide) gl_0 rfl 2 (by decide) 5 rfl (hts (.fieldLink RX10 26 "StreetsStepOn" "book" "LStreetsStepOn$Book;") (e_mem (n := 2) rfl)) dX10_home_24 ?_
    refine e_getlN hx hb hts in_X10_home_X1 hown K G 5 (by decide) gl_5 rfl 7 (by decide) rfl (e_memq (n := 24) rfl) dX10_home_27 ?_
    exact h.elim
  · have h := h.2 c3
    refine lv_iconst (v := (-1 : Int32)) hx hb dX10_home_8 (by decide) ?_
    exact e_iret hx hb hr hlocks G h dX10_home_9
abbrev rm_X11_isLetter : Room := { frames := 1, cells := 0, slots := 0, locals := 25 }
theorem in_X11_isLetter_X11 : ∀ w ∈ wsX110, w ∈ wsX11_isLetter := fun w h => List.mem_cons_of_mem _ (List.mem_append_right _ h)
def w_X11_isLetter (σ : eS) (x1 : Int32) (post : Int32 → eS → Prop) : Prop := w_X11_in σ (x1.toInt64) (0 : Int64) (((σ.1 97 7) - (1 : Int32)).toInt64) (fun r2 σ1 => ((narrow .boolean (.int r2) = .int r2) ∧ post r2 σ1))
set_option maxHeartbeats 4000000 in
set_option maxRecDepth 100000 in
theorem c_X11_isLetter {l : Launch} {D : va_G} {ρ : Nat → Nat} {κ : Nat → ClassId} {base : Nat} {σ : eS} {x1 : Int32} {post : Int32 → eS → Prop} (h : w_X11_isLetter σ x1 post) : gMi l yX11_isLetter wsX11_isLetter rm_X11_isLetter D ρ κ base [.ref (ρ (97)), .int (x1)] σ post := by
  refine e_ofWi (cc := cX11_isLetter) (maxL := 2) (ret := (some .boolean)) (by decide) rfl (Nat.le_of_ble_eq_true rfl) ?_
  intro p e s m below meth c ls C K G hl
  obtain ⟨hx, hb, hml, hown, hts, hr, hlocks⟩ := id C
  have hl : lv_has ls 2 [(0, .ref (ρ (97))), (1, .int (x1))] := hl
  unfold w_X11_isLetter at h
  refine lv_iload_n hx hb dX11_isLetter_0 rfl (lv_at hl 1 rfl) ?_
  refine lv_i2l hx hb dX11_isLetter_1 rfl ?_
  refine lv_lconst (v := (0 : Int64)) hx hb dX11_isLetter_2 (by decide) ?_
  refine lv_aload_n hx hb dX11_isLetter_3 rfl (lv_at hl 0 rfl) ?_
  refine e_geti hx hb hts in_X11_isLetter_X11 hown K G 97 (by decide) gl_97 rfl 7 (by decide) rfl (hts (.fieldLink RX11 114 "StreetsStepOnModel" "letters" "I") (e_mem (n := 1) rfl)) dX11_isLetter_4 ?_
  refine lv_iconst (v := (1 : Int32)) hx hb dX11_isLetter_7 (by decide) ?_
  refine lv_isub hx hb dX11_isLetter_8 ?_
  refine lv_i2l hx hb dX11_isLetter_9 rfl ?_
  refine e_callSi (As := [.long (x1.toInt64), .long ((0 : Int64)), .long (((σ.1 97 7) - (1 : Int32)).toInt64)]) (rest := []) ⟨hx, hb, hml, hown, hts⟩ K G (c_X11_in h) (va_cwS 3 hts gX11_isLetter_X11_in rfl rfl rfl (by decide +kernel) ⟨Nat.le_of_ble_eq_true rfl, Nat.le_of_ble_eq_true rfl⟩) rfl hl.1 rfl (Nat.le_of_ble_eq_true rfl) dX11_isLetter_10 ⟨Nat.zero_le _, Nat.zero_le _⟩ (fun r2 σ1 H locs h G => ?_)
  exact e_zret hx hb hr hlocks G h.1 h.2 dX11_isLetter_13
abbrev rm_X11_home : Room := { frames := 2, cells := 0, slots := 0, locals := 46 }
theorem in_X11_home_X11 : ∀ w ∈ wsX110, w ∈ wsX11_home := fun w h => List.mem_cons_of_mem _ (List.mem_append_right _ h)
def w_X11_home (σ : eS) (x1 : Int32) (post : Int32 → eS → Prop) : Prop := ∀ σ1 : eS, σ1 = e_ui σ 97 18 (0 : Int32) → w_X11_isLetter σ1 x1 (fun r3 σ2 => ((¬ r3 = 0 → w_X11_layOut σ2 (0 : Int32) (fun σ5 => ∀ σ6 : eS, σ6 = e_ui σ5 97 17 (0 : Int32) → (vp_in x1 12) ∧ False)) ∧ (r3 = 0 → post (-1 : Int32) σ2)))
set_option maxHeartbeats 4000000 in
set_option maxRecDepth 100000 in
theorem c_X11_home {l : Launch} {D : va_G} {ρ : Nat → Nat} {κ : Nat → ClassId} {base : Nat} {σ : eS} {x1 : Int32} {post : Int32 → eS → Prop} (h : w_X11_home σ x1 post) : gMi l yX11_home wsX11_home rm_X11_home D ρ κ base [.ref (ρ (97)), .int (x1)] σ post := by
  refine e_ofWi (cc := cX11_home) (maxL := 2) (ret := (some .int)) (by decide) rfl (Nat.le_of_ble_eq_true rfl) ?_
  intro p e s m below meth c ls C K G hl
  obtain ⟨hx, hb, hml, hown, hts, hr, hlocks⟩ := id C
  have hl : lv_has ls 2 [(0, .ref (ρ (97))), (1, .int (x1))] := hl
  unfold w_X11_home at h
  refine lv_aload_n hx hb dX11_home_0 rfl (lv_at hl 0 rfl) ?_
  refine lv_iconst (v := (0 : Int32)) hx hb dX11_home_1 (by decide) ?_
  refine e_puti hx hb hts in_X11_home_X11 tyX11 tyX11_ok nmX11 hown K G 97 (by decide) gl_97 rfl 18 (by decide) rfl (hts (.fieldLink RX11 98 "StreetsStepOnModel" "thrown" "I") (e_mem (n := 1) rfl)) rfl (tyX11_ok 18 (by decide)) rfl rfl dX11_home_2 (fun H locs G => ?_)
  obtain ⟨σ1, eσ1⟩ : ∃ z : eS, z = e_ui σ 97 18 (0 : Int32) := ⟨_, rfl⟩
  rw [← eσ1] at G
  have h := h σ1 eσ1
  refine lv_aload_n hx hb dX11_home_5 rfl (lv_at hl 0 rfl) ?_
  refine lv_iload_n hx hb dX11_home_6 rfl (lv_at hl 1 rfl) ?_
  refine e_callVi (As := [.int (x1)]) (rest := []) ⟨hx, hb, hml, hown, hts⟩ K G 97 (by decide) gl_97 rfl (c_X11_isLetter h) (cwV 1 hts gX11_home_X11_isLetter rfl rfl rfl (by decide +kernel) ⟨Nat.le_of_ble_eq_true rfl, Nat.le_of_ble_eq_true rfl⟩) rfl hl.1 rfl (Nat.le_of_ble_eq_true rfl) dX11_home_7 ⟨Nat.zero_le _, Nat.zero_le _⟩ (fun r3 σ2 H locs h G => ?_)
  refine lv_if_ne (tgt := 15) hx hb dX11_home_10 (by decide) (fun c4 => ?_) (fun c4 => ?_)
  · have h := h.1 c4
    refine lv_aload_n hx hb dX11_home_15 rfl (lv_at hl 0 rfl) ?_
    refine lv_iconst (v := (0 : Int32)) hx hb dX11_home_16 (by decide) ?_
    refine e_callVv (As := [.int ((0 : Int32))]) (rest := []) ⟨hx, hb, hml, hown, hts⟩ K G 97 (by decide) gl_97 rfl (c_X11_layOut h) (cwV 1 hts gX11_home_X11_layOut rfl rfl rfl (by decide +kernel) ⟨Nat.le_of_ble_eq_true rfl, Nat.le_of_ble_eq_true rfl⟩) rfl hl.1 rfl (Nat.le_of_ble_eq_true rfl) dX11_home_17 ⟨Nat.zero_le _, Nat.zero_le _⟩ (fun σ5 H locs h G => ?_)
    refine lv_aload_n hx hb dX11_home_20 rfl (lv_at hl 0 rfl) ?_
    refine lv_iconst (v := (0 : Int32)) hx hb dX11_home_21 (by decide) ?_
    refine e_puti hx hb hts in_X11_home_X11 tyX11 tyX11_ok nmX11 hown K G 97 (by decide) gl_97 rfl 17 (by decide) rfl (hts (.fieldLink RX11 101 "StreetsStepOnModel" "rowMany" "I") (e_mem (n := 2) rfl)) rfl (tyX11_ok 17 (by decide)) rfl rfl dX11_home_22 (fun H locs G => ?_)
    obtain ⟨σ6, eσ6⟩ : ∃ z : eS, z = e_ui σ5 97 17 (0 : Int32) := ⟨_, rfl⟩
    rw [← eσ6] at G
    have h := h σ6 eσ6
    refine lv_aload_n hx hb dX11_home_25 rfl (lv_at hl 0 rfl) ?_
    refine lv_aload_n hx hb dX11_home_26 rfl (lv_at hl 0 rfl) ?_
    refine lv_aload_n hx hb dX11_home_27 rfl (lv_at hl 0 rfl) ?_
    refine e_getq hx hb hts in_X11_home_X11 hown K G 97 (by decide) gl_97 rfl 8 (by decide) 102 rfl (hts (.fieldLink RX11 22 "StreetsStepOnModel" "letterName" "[I") (e_mem (n := 3) rfl)) dX11_home_28 ?_
    refine lv_iload_n hx hb dX11_home_31 rfl (lv_at hl 1 rfl) ?_
    have hi7 := h.1
    have h := h.2
    refine e_iald hx hb K G 102 0 0 12 (by decide) gl_102 rfl hi7 dX11_home_32 ?_
    refine lv_aload_n hx hb dX11_home_33 rfl (lv_at hl 0 rfl) ?_
    refine e_getl hx hb hts in_X11_home_X11 hown K G 97 (by decide) gl_97 rfl 6 (by decide) rfl (hts (.fieldLink RX11 197 "StreetsStepOnModel" "today" "J") (e_mem (n := 4) rfl)) dX11_home_34 ?_
    exact h.elim
  · have h := h.2 c4
    refine lv_iconst (v := (-1 : Int32)) hx hb dX11_home_13 (by decide) ?_
    exact e_iret hx hb hr hlocks G h dX11_home_14
abbrev rm_X10_isSpan : Room := { frames := 1, cells := 0, slots := 0, locals := 21 }
def w_X10_isSpan (σ : eS) (x0 : Int64) (x2 : Int64) (x4 : Int32) (post : Int32 → eS → Prop) : Prop := w_X10_isDay σ x0 (fun r2 σ1 => ((r2 = 0 → ((narrow .boolean (.int (0 : Int32)) = .int (0 : Int32)) ∧ post (0 : Int32) σ1)) ∧ (¬ (r2 = 0) → w_X10_isDay σ1 x2 (fun r5 σ4 => ((r5 = 0 → ((narrow .boolean (.int (0 : Int32)) = .int (0 : Int32)) ∧ post (0 : Int32) σ4)) ∧ (¬ (r5 = 0) → (((lg_cmp x2 x0) < 0 → ((narrow .boolean (.int (0 : Int32)) = .int (0 : Int32)) ∧ post (0 : Int32) σ4)) ∧ (¬ ((lg_cmp x2 x0) < 0) → ((0 ≤ (lg_cmp (x2 - x0) (x4.toInt64)) → ((narrow .boolean (.int (0 : Int32)) = .int (0 : Int32)) ∧ post (0 : Int32) σ4)) ∧ (¬ (0 ≤ (lg_cmp (x2 - x0) (x4.toInt64))) → ((narrow .boolean (.int (1 : Int32)) = .int (1 : Int32)) ∧ post (1 : Int32) σ4)))))))))))
set_option maxHeartbeats 4000000 in
set_option maxRecDepth 100000 in
theorem c_X10_isSpan {l : Launch} {D : va_G} {ρ : Nat → Nat} {κ : Nat → ClassId} {base : Nat} {σ : eS} {x0 : Int64} {x2 : Int64} {x4 : Int32} {post : Int32 → eS → Prop} (h : w_X10_isSpan σ x0 x2 x4 post) : gMi l yX10_isSpan wsX10_isSpan rm_X10_isSpan D ρ κ base [.long (x0), .long (x2), .int (x4)] σ post := by
  refine e_ofWi (cc := cX10_isSpan) (maxL := 5) (ret := (some .boolean)) (by decide) rfl (Nat.le_of_ble_eq_true rfl) ?_
  intro p e s m below meth c ls C K G hl
  obtain ⟨hx, hb, hml, hown, hts, hr, hlocks⟩ := id C
  have hl : lv_has ls 5 [(0, .long (x0)), (2, .long (x2)), (4, .int (x4))] := hl
  unfold w_X10_isSpan at h
  refine lv_lload_n hx hb dX10_isSpan_0 rfl (lv_at hl 0 rfl) ?_
  refine e_callSi (As := [.long (x0)]) (rest := []) ⟨hx, hb, hml, hown, hts⟩ K G (c_X10_isDay h) (va_cwS 1 hts gX10_isSpan_X10_isDay rfl rfl rfl (by decide +kernel) ⟨Nat.le_of_ble_eq_true rfl, Nat.le_of_ble_eq_true rfl⟩) rfl hl.1 rfl (Nat.le_of_ble_eq_true rfl) dX10_isSpan_1 ⟨Nat.zero_le _, Nat.zero_le _⟩ (fun r2 σ1 H locs h G => ?_)
  refine lv_if_eq (tgt := 34) hx hb dX10_isSpan_4 (by decide) (fun c3 => ?_) (fun c3 => ?_)
  · have h := h.1 c3
    refine lv_iconst (v := (0 : Int32)) hx hb dX10_isSpan_34 (by decide) ?_
    exact e_zret hx hb hr hlocks G h.1 h.2 dX10_isSpan_35
  · have h := h.2 c3
    refine lv_lload_n hx hb dX10_isSpan_7 rfl (lv_at hl 1 rfl) ?_
    refine e_callSi (As := [.long (x2)]) (rest := []) ⟨hx, hb, hml, hown, hts⟩ K G (c_X10_isDay h) (va_cwS 1 hts gX10_isSpan_X10_isDay rfl rfl rfl (by decide +kernel) ⟨Nat.le_of_ble_eq_true rfl, Nat.le_of_ble_eq_true rfl⟩) rfl hl.1 rfl (Nat.le_of_ble_eq_true rfl) dX10_isSpan_8 ⟨Nat.zero_le _, Nat.zero_le _⟩ (fun r5 σ4 H locs h G => ?_)
    refine lv_if_eq (tgt := 34) hx hb dX10_isSpan_11 (by decide) (fun c6 => ?_) (fun c6 => ?_)
    · have h := h.1 c6
      refine lv_iconst (v := (0 : Int32)) hx hb dX10_isSpan_34 (by decide) ?_
      exact e_zret hx hb hr hlocks G h.1 h.2 dX10_isSpan_35
    · have h := h.2 c6
      refine lv_lload_n hx hb dX10_isSpan_14 rfl (lv_at hl 1 rfl) ?_
      refine lv_lload_n hx hb dX10_isSpan_15 rfl (lv_at hl 0 rfl) ?_
      refine W.lcmp hx hb dX10_isSpan_16 ?_
      refine lv_if_lt (tgt := 34) hx hb dX10_isSpan_17 (by decide) (fun c7 => ?_) (fun c7 => ?_)
      · have h := h.1 c7
        refine lv_iconst (v := (0 : Int32)) hx hb dX10_isSpan_34 (by decide) ?_
        exact e_zret hx hb hr hlocks G h.1 h.2 dX10_isSpan_35
      · have h := h.2 c7
        refine lv_lload_n hx hb dX10_isSpan_20 rfl (lv_at hl 1 rfl) ?_
        refine lv_lload_n hx hb dX10_isSpan_21 rfl (lv_at hl 0 rfl) ?_
        refine lv_lsub hx hb dX10_isSpan_22 ?_
        refine lv_iload hx hb dX10_isSpan_23 (lv_at hl 2 rfl) ?_
        refine lv_i2l hx hb dX10_isSpan_25 rfl ?_
        refine W.lcmp hx hb dX10_isSpan_26 ?_
        refine lv_if_ge (tgt := 34) hx hb dX10_isSpan_27 (by decide) (fun c8 => ?_) (fun c8 => ?_)
        · have h := h.1 c8
          refine lv_iconst (v := (0 : Int32)) hx hb dX10_isSpan_34 (by decide) ?_
          exact e_zret hx hb hr hlocks G h.1 h.2 dX10_isSpan_35
        · have h := h.2 c8
          refine lv_iconst (v := (1 : Int32)) hx hb dX10_isSpan_30 (by decide) ?_
          refine lv_goto (tgt := 35) hx hb dX10_isSpan_31 (by decide) ?_
          exact e_zret hx hb hr hlocks G h.1 h.2 dX10_isSpan_35
abbrev rm_X10_means : Room := { frames := 2, cells := 0, slots := 0, locals := 45 }
def w_X10_means (σ : eS) (x1 : Int32) (x2 : Int64) (x4 : Int64) (post : Int32 → eS → Prop) : Prop := w_X10_isStreet σ x1 (fun r2 σ1 => ((r2 = 0 → post (-1 : Int32) σ1) ∧ (¬ (r2 = 0) → w_X10_isSpan σ1 x2 x4 (1000 : Int32) (fun r5 σ4 => ((¬ r5 = 0 → False) ∧ (r5 = 0 → post (-1 : Int32) σ4))))))
set_option maxHeartbeats 4000000 in
set_option maxRecDepth 100000 in
theorem c_X10_means {l : Launch} {D : va_G} {ρ : Nat → Nat} {κ : Nat → ClassId} {base : Nat} {σ : eS} {x1 : Int32} {x2 : Int64} {x4 : Int64} {post : Int32 → eS → Prop} (h : w_X10_means σ x1 x2 x4 post) : gMi l yX10_means wsX10_means rm_X10_means D ρ κ base [.ref (ρ (0)), .int (x1), .long (x2), .long (x4)] σ post := by
  refine e_ofWi (cc := cX10_means) (maxL := 6) (ret := (some .int)) (by decide) rfl (Nat.le_of_ble_eq_true rfl) ?_
  intro p e s m below meth c ls C K G hl
  obtain ⟨hx, hb, hml, hown, hts, hr, hlocks⟩ := id C
  have hl : lv_has ls 6 [(0, .ref (ρ (0))), (1, .int (x1)), (2, .long (x2)), (4, .long (x4))] := hl
  unfold w_X10_means at h
  refine lv_aload_n hx hb dX10_means_0 rfl (lv_at hl 0 rfl) ?_
  refine lv_iload_n hx hb dX10_means_1 rfl (lv_at hl 1 rfl) ?_
  refine e_callVi (As := [.int (x1)]) (rest := []) ⟨hx, hb, hml, hown, hts⟩ K G 0 (by decide) gl_0 rfl (c_X10_isStreet h) (cwV 1 hts gX10_means_X10_isStreet rfl rfl rfl (by decide +kernel) ⟨Nat.le_of_ble_eq_true rfl, Nat.le_of_ble_eq_true rfl⟩) rfl hl.1 rfl (Nat.le_of_ble_eq_true rfl) dX10_means_2 ⟨Nat.zero_le _, Nat.zero_le _⟩ (fun r2 σ1 H locs h G => ?_)
  refine lv_if_eq (tgt := 20) hx hb dX10_means_5 (by decide) (fun c3 => ?_) (fun c3 => ?_)
  · have h := h.1 c3
    refine lv_iconst (v := (-1 : Int32)) hx hb dX10_means_20 (by decide) ?_
    exact e_iret hx hb hr hlocks G h dX10_means_21
  · have h := h.2 c3
    refine lv_lload_n hx hb dX10_means_8 rfl (lv_at hl 2 rfl) ?_
    refine lv_lload hx hb dX10_means_9 (lv_at hl 3 rfl) ?_
    refine lv_sipush (v := (1000 : Int32)) hx hb dX10_means_11 (by decide) ?_
    refine e_callSi (As := [.long (x2), .long (x4), .int ((1000 : Int32))]) (rest := []) ⟨hx, hb, hml, hown, hts⟩ K G (c_X10_isSpan h) (va_cwS 3 hts gX10_means_X10_isSpan rfl rfl rfl (by decide +kernel) ⟨Nat.le_of_ble_eq_true rfl, Nat.le_of_ble_eq_true rfl⟩) rfl hl.1 rfl (Nat.le_of_ble_eq_true rfl) dX10_means_14 ⟨Nat.zero_le _, Nat.zero_le _⟩ (fun r5 σ4 H locs h G => ?_)
    refine lv_if_ne (tgt := 22) hx hb dX10_means_17 (by decide) (fun c6 => ?_) (fun c6 => ?_)
    · have h := h.1 c6
      refine lv_aload_n hx hb dX10_means_22 rfl (lv_at hl 0 rfl) ?_
      refine lv_iload_n hx hb dX10_means_23 rfl (lv_at hl 1 rfl) ?_
      refine lv_lload_n hx hb dX10_means_24 rfl (lv_at hl 2 rfl) ?_
      refine lv_lload hx hb dX10_means_25 (lv_at hl 3 rfl) ?_
      refine lv_lload_n hx hb dX10_means_27 rfl (lv_at hl 2 rfl) ?_
      refine lv_lsub hx hb dX10_means_28 ?_
      refine lv_l2i hx hb dX10_means_29 rfl ?_
      refine lv_iconst (v := (1 : Int32)) hx hb dX10_means_30 (by decide) ?_
      refine lv_iadd hx hb dX10_means_31 ?_
      refine lv_iconst (v := (1 : Int32)) hx hb dX10_means_32 (by decide) ?_
      exact h.elim
    · have h := h.2 c6
      refine lv_iconst (v := (-1 : Int32)) hx hb dX10_means_20 (by decide) ?_
      exact e_iret hx hb hr hlocks G h dX10_means_21
abbrev rm_X11_areDays : Room := { frames := 2, cells := 0, slots := 0, locals := 46 }
def w_X11_areDays (σ : eS) (x0 : Int64) (x2 : Int64) (x4 : Int32) (post : Int32 → eS → Prop) : Prop := w_X11_isDay σ x0 (fun r2 σ1 => ((r2 = 0 → ((narrow .boolean (.int (0 : Int32)) = .int (0 : Int32)) ∧ post (0 : Int32) σ1)) ∧ (¬ (r2 = 0) → w_X11_isDay σ1 x2 (fun r5 σ4 => ((r5 = 0 → ((narrow .boolean (.int (0 : Int32)) = .int (0 : Int32)) ∧ post (0 : Int32) σ4)) ∧ (¬ (r5 = 0) → w_X11_in σ4 ((x2 - x0) + (1 : Int64)) (1 : Int64) (x4.toInt64) (fun r8 σ7 => ((r8 = 0 → ((narrow .boolean (.int (0 : Int32)) = .int (0 : Int32)) ∧ post (0 : Int32) σ7)) ∧ (¬ (r8 = 0) → ((narrow .boolean (.int (1 : Int32)) = .int (1 : Int32)) ∧ post (1 : Int32) σ7))))))))))
set_option maxHeartbeats 4000000 in
set_option maxRecDepth 100000 in
theorem c_X11_areDays {l : Launch} {D : va_G} {ρ : Nat → Nat} {κ : Nat → ClassId} {base : Nat} {σ : eS} {x0 : Int64} {x2 : Int64} {x4 : Int32} {post : Int32 → eS → Prop} (h : w_X11_areDays σ x0 x2 x4 post) : gMi l yX11_areDays wsX11_areDays rm_X11_areDays D ρ κ base [.long (x0), .long (x2), .int (x4)] σ post := by
  refine e_ofWi (cc := cX11_areDays) (maxL := 5) (ret := (some .boolean)) (by decide) rfl (Nat.le_of_ble_eq_true rfl) ?_
  intro p e s m below meth c ls C K G hl
  obtain ⟨hx, hb, hml, hown, hts, hr, hlocks⟩ := id C
  have hl : lv_has ls 5 [(0, .long (x0)), (2, .long (x2)), (4, .int (x4))] := hl
  unfold w_X11_areDays at h
  refine lv_lload_n hx hb dX11_areDays_0 rfl (lv_at hl 0 rfl) ?_
  refine e_callSi (As := [.long (x0)]) (rest := []) ⟨hx, hb, hml, hown, hts⟩ K G (c_X11_isDay h) (va_cwS 1 hts gX11_areDays_X11_isDay rfl rfl rfl (by decide +kernel) ⟨Nat.le_of_ble_eq_true rfl, Nat.le_of_ble_eq_true rfl⟩) rfl hl.1 rfl (Nat.le_of_ble_eq_true rfl) dX11_areDays_1 ⟨Nat.zero_le _, Nat.zero_le _⟩ (fun r2 σ1 H locs h G => ?_)
  refine lv_if_eq (tgt := 33) hx hb dX11_areDays_4 (by decide) (fun c3 => ?_) (fun c3 => ?_)
  · have h := h.1 c3
    refine lv_iconst (v := (0 : Int32)) hx hb dX11_areDays_33 (by decide) ?_
    exact e_zret hx hb hr hlocks G h.1 h.2 dX11_areDays_34
  · have h := h.2 c3
    refine lv_lload_n hx hb dX11_areDays_7 rfl (lv_at hl 1 rfl) ?_
    refine e_callSi (As := [.long (x2)]) (rest := []) ⟨hx, hb, hml, hown, hts⟩ K G (c_X11_isDay h) (va_cwS 1 hts gX11_areDays_X11_isDay rfl rfl rfl (by decide +kernel) ⟨Nat.le_of_ble_eq_true rfl, Nat.le_of_ble_eq_true rfl⟩) rfl hl.1 rfl (Nat.le_of_ble_eq_true rfl) dX11_areDays_8 ⟨Nat.zero_le _, Nat.zero_le _⟩ (fun r5 σ4 H locs h G => ?_)
    refine lv_if_eq (tgt := 33) hx hb dX11_areDays_11 (by decide) (fun c6 => ?_) (fun c6 => ?_)
    · have h := h.1 c6
      refine lv_iconst (v := (0 : Int32)) hx hb dX11_areDays_33 (by decide) ?_
      exact e_zret hx hb hr hlocks G h.1 h.2 dX11_areDays_34
    · have h := h.2 c6
      refine lv_lload_n hx hb dX11_areDays_14 rfl (lv_at hl 1 rfl) ?_
      refine lv_lload_n hx hb dX11_areDays_15 rfl (lv_at hl 0 rfl) ?_
      refine lv_lsub hx hb dX11_areDays_16 ?_
      refine lv_lconst (v := (1 : Int64)) hx hb dX11_areDays_17 (by decide) ?_
      refine lv_ladd hx hb dX11_areDays_18 ?_
      refine lv_lconst (v := (1 : Int64)) hx hb dX11_areDays_19 (by decide) ?_
      refine lv_iload hx hb dX11_areDays_20 (lv_at hl 2 rfl) ?_
      refine lv_i2l hx hb dX11_areDays_22 rfl ?_
      refine e_callSi (As := [.long ((x2 - x0) + (1 : Int64)), .long ((1 : Int64)), .long (x4.toInt64)]) (rest := []) ⟨hx, hb, hml, hown, hts⟩ K G (c_X11_in h) (va_cwS 3 hts gX11_areDays_X11_in rfl rfl rfl (by decide +kernel) ⟨Nat.le_of_ble_eq_true rfl, Nat.le_of_ble_eq_true rfl⟩) rfl hl.1 rfl (Nat.le_of_ble_eq_true rfl) dX11_areDays_23 ⟨Nat.zero_le _, Nat.zero_le _⟩ (fun r8 σ7 H locs h G => ?_)
      refine lv_if_eq (tgt := 33) hx hb dX11_areDays_26 (by decide) (fun c9 => ?_) (fun c9 => ?_)
      · have h := h.1 c9
        refine lv_iconst (v := (0 : Int32)) hx hb dX11_areDays_33 (by decide) ?_
        exact e_zret hx hb hr hlocks G h.1 h.2 dX11_areDays_34
      · have h := h.2 c9
        refine lv_iconst (v := (1 : Int32)) hx hb dX11_areDays_29 (by decide) ?_
        refine lv_goto (tgt := 34) hx hb dX11_areDays_30 (by decide) ?_
        exact e_zret hx hb hr hlocks G h.1 h.2 dX11_areDays_34
abbrev rm_X11_means : Room := { frames := 3, cells := 0, slots := 0, locals := 70 }
theorem in_X11_means_X11 : ∀ w ∈ wsX110, w ∈ wsX11_means := fun w h => List.mem_cons_of_mem _ (List.mem_append_right _ h)
def b_X11_means_61 (post : Int32 → eS → Prop) : Nat → eS → Int32 → Int64 → Int64 → Prop
  | 0, _, _, _, _ => False
  | n + 1, σ, x1, x4, x6 => ((0 < (lg_cmp x6 x4) → False) ∧ (¬ (0 < (lg_cmp x6 x4)) → False))
set_option maxHeartbeats 4000000 in
set_option maxRecDepth 100000 in
theorem l_X11_means_61 {p : Program} {l : Launch} {e : Env} {s : State} {m : MethodId} {args : Array Value} {below : List Frame} {meth : Method} {c : Code} {D : va_G} {ρ : Nat → Nat} {κ : Nat → ClassId} {base : Nat} {post : Int32 → eS → Prop} (C : eCx p s m args meth c cX11_means RX11 8 (some .int) wsX11_means) (K : gK D ρ κ base s) : ∀ (n : Nat) (σ : eS) (x1 : Int32) (x4 : Int64) (x6 : Int64) (H : Heap) (locs : List Loc) (ls : Array Slot), b_X11_means_61 post n σ x1 x4 x6 → gG D ρ κ base s σ H locs → lv_has ls 8 [(0, .ref (ρ (97))), (1, .int (x1)), (4, .long (x4)), (6, .long (x6))] → W p l e rm_X11_means s m args below meth c H locs 0 0 (gQi below args s D ρ κ base post) (F0 m 61 ls []) := by
  obtain ⟨hx, hb, hml, hown, hts, hr, hlocks⟩ := id C
  intro n
  induction n with
  | zero => intro σ x1 x4 x6 H locs ls h G hl; exact False.elim h
  | succ n ih =>
    intro σ x1 x4 x6 H locs ls h G hl
    rw [b_X11_means_61] at h
    refine lv_lload hx hb dX11_means_61 (lv_at hl 3 rfl) ?_
    refine lv_lload hx hb dX11_means_63 (lv_at hl 2 rfl) ?_
    refine W.lcmp hx hb dX11_means_65 ?_
    refine lv_if_gt (tgt := 94) hx hb dX11_means_66 (by decide) (fun c11 => ?_) (fun c11 => ?_)
    · have h := h.1 c11
      refine lv_aload_n hx hb dX11_means_94 rfl (lv_at hl 0 rfl) ?_
      exact h.elim
    · have h := h.2 c11
      refine lv_aload_n hx hb dX11_means_69 rfl (lv_at hl 0 rfl) ?_
      refine e_getq hx hb hts in_X11_means_X11 hown K G 97 (by decide) gl_97 rfl 27 (by decide) 111 rfl (hts (.fieldLink RX11 51 "StreetsStepOnModel" "many" "[I") (e_mem (n := 3) rfl)) dX11_means_70 ?_
      refine lv_aload_n hx hb dX11_means_73 rfl (lv_at hl 0 rfl) ?_
      refine lv_iload_n hx hb dX11_means_74 rfl (lv_at hl 1 rfl) ?_
      refine lv_lload hx hb dX11_means_75 (lv_at hl 3 rfl) ?_
      exact h.elim
def b_X11_means_35 (post : Int32 → eS → Prop) : Nat → eS → Int32 → Int64 → Int64 → Int32 → Prop
  | 0, _, _, _, _, _ => False
  | n + 1, σ, x1, x2, x4, x6 => (((σ.1 97 0) ≤ x6 → (∃ n12 : Nat, b_X11_means_61 post n12 σ x1 x4 x2)) ∧ (¬ ((σ.1 97 0) ≤ x6) → (vp_in x6 12) ∧ ∀ σ14 : eS, σ14 = e_ui σ 111 x6.toNatClampNeg (0 : Int32) → ∀ v15 : Int32, v15 = (x6 + (1 : Int32)) → b_X11_means_35 post n σ14 x1 x2 x4 v15))
set_option maxHeartbeats 4000000 in
set_option maxRecDepth 100000 in
theorem l_X11_means_35 {p : Program} {l : Launch} {e : Env} {s : State} {m : MethodId} {args : Array Value} {below : List Frame} {meth : Method} {c : Code} {D : va_G} {ρ : Nat → Nat} {κ : Nat → ClassId} {base : Nat} {post : Int32 → eS → Prop} (C : eCx p s m args meth c cX11_means RX11 8 (some .int) wsX11_means) (K : gK D ρ κ base s) : ∀ (n : Nat) (σ : eS) (x1 : Int32) (x2 : Int64) (x4 : Int64) (x6 : Int32) (H : Heap) (locs : List Loc) (ls : Array Slot), b_X11_means_35 post n σ x1 x2 x4 x6 → gG D ρ κ base s σ H locs → lv_has ls 8 [(0, .ref (ρ (97))), (1, .int (x1)), (2, .long (x2)), (4, .long (x4)), (6, .int (x6))] → W p l e rm_X11_means s m args below meth c H locs 0 0 (gQi below args s D ρ κ base post) (F0 m 35 ls []) := by
  obtain ⟨hx, hb, hml, hown, hts, hr, hlocks⟩ := id C
  intro n
  induction n with
  | zero => intro σ x1 x2 x4 x6 H locs ls h G hl; exact False.elim h
  | succ n ih =>
    intro σ x1 x2 x4 x6 H locs ls h G hl
    rw [b_X11_means_35] at h
    refine lv_iload hx hb dX11_means_35 (lv_at hl 4 rfl) ?_
    refine lv_aload_n hx hb dX11_means_37 rfl (lv_at hl 0 rfl) ?_
    refine e_geti hx hb hts in_X11_means_X11 hown K G 97 (by decide) gl_97 rfl 0 (by decide) rfl (hts (.fieldLink RX11 104 "StreetsStepOnModel" "streets" "I") (e_mem (n := 2) rfl)) dX11_means_38 ?_
    refine lv_icmp_ge (tgt := 58) hx hb dX11_means_41 (by decide) (fun c10 => ?_) (fun c10 => ?_)
    · have h := h.1 c10
      refine lv_lload_n hx hb dX11_means_58 rfl (lv_at hl 2 rfl) ?_
      refine lv_lstore (lv' := [(6, .long (x2)), (0, .ref (ρ (97))), (1, .int (x1)), (2, .long (x2)), (4, .long (x4))]) hx hb dX11_means_59 hl (by decide) rfl (fun ls hl => ?_)
      obtain ⟨n12, h⟩ := h
      exact l_X11_means_61 C K n12 σ x1 x4 x2 _ _ _  h G (lv_sub hl [1, 2, 4, 0] rfl)
    · have h := h.2 c10
      refine lv_aload_n hx hb dX11_means_44 rfl (lv_at hl 0 rfl) ?_
      refine e_getq hx hb hts in_X11_means_X11 hown K G 97 (by decide) gl_97 rfl 27 (by decide) 111 rfl (hts (.fieldLink RX11 51 "StreetsStepOnModel" "many" "[I") (e_mem (n := 3) rfl)) dX11_means_45 ?_
      refine lv_iload hx hb dX11_means_48 (lv_at hl 4 rfl) ?_
      refine lv_iconst (v := (0 : Int32)) hx hb dX11_means_50 (by decide) ?_
      have hi13 := h.1
      have h := h.2
      refine e_iast hx hb K G 111 0 0 12 (by decide) gl_111 rfl hi13 dX11_means_51 (fun H locs G => ?_)
      obtain ⟨σ14, eσ14⟩ : ∃ z : eS, z = e_ui σ 111 x6.toNatClampNeg (0 : Int32) := ⟨_, rfl⟩
      rw [← eσ14] at G
      have h := h σ14 eσ14
      obtain ⟨v15, ev15⟩ : ∃ y : Int32, y = x6 + (1 : Int32) := ⟨_, rfl⟩
      have h := h v15 ev15
      refine lv_iinc (v := v15) (lv' := [(6, .int (v15)), (0, .ref (ρ (97))), (1, .int (x1)), (2, .long (x2)), (4, .long (x4))]) hx hb dX11_means_52 hl (k := 4) rfl (by rw [ev15]; rfl) (by decide) rfl (fun ls hl => ?_)
      refine lv_goto (tgt := 35) hx hb dX11_means_55 (by decide) ?_
      exact ih σ14 x1 x2 x4 v15 _ _ _  h G (lv_sub hl [1, 2, 3, 4, 0] rfl)
def w_X11_means (σ : eS) (x1 : Int32) (x2 : Int64) (x4 : Int64) (post : Int32 → eS → Prop) : Prop := ∀ σ1 : eS, σ1 = e_ui σ 97 18 (0 : Int32) → w_X11_isStreet σ1 x1 (fun r3 σ2 => ((r3 = 0 → post (-1 : Int32) σ2) ∧ (¬ (r3 = 0) → w_X11_areDays σ2 x2 x4 (1000 : Int32) (fun r6 σ5 => ((¬ r6 = 0 → w_X11_layOut σ5 (0 : Int32) (fun σ8 => ∀ v9 : Int32, v9 = (0 : Int32) → (∃ n16 : Nat, b_X11_means_35 post n16 σ8 x1 x2 x4 v9))) ∧ (r6 = 0 → post (-1 : Int32) σ5))))))
set_option maxHeartbeats 4000000 in
set_option maxRecDepth 100000 in
theorem c_X11_means {l : Launch} {D : va_G} {ρ : Nat → Nat} {κ : Nat → ClassId} {base : Nat} {σ : eS} {x1 : Int32} {x2 : Int64} {x4 : Int64} {post : Int32 → eS → Prop} (h : w_X11_means σ x1 x2 x4 post) : gMi l yX11_means wsX11_means rm_X11_means D ρ κ base [.ref (ρ (97)), .int (x1), .long (x2), .long (x4)] σ post := by
  refine e_ofWi (cc := cX11_means) (maxL := 8) (ret := (some .int)) (by decide) rfl (Nat.le_of_ble_eq_true rfl) ?_
  intro p e s m below meth c ls C K G hl
  obtain ⟨hx, hb, hml, hown, hts, hr, hlocks⟩ := id C
  have hl : lv_has ls 8 [(0, .ref (ρ (97))), (1, .int (x1)), (2, .long (x2)), (4, .long (x4))] := hl
  unfold w_X11_means at h
  refine lv_aload_n hx hb dX11_means_0 rfl (lv_at hl 0 rfl) ?_
  refine lv_iconst (v := (0 : Int32)) hx hb dX11_means_1 (by decide) ?_
  refine e_puti hx hb hts in_X11_means_X11 tyX11 tyX11_ok nmX11 hown K G 97 (by decide) gl_97 rfl 18 (by decide) rfl (hts (.fieldLink RX11 98 "StreetsStepOnModel" "thrown" "I") (e_mem (n := 1) rfl)) rfl (tyX11_ok 18 (by decide)) rfl rfl dX11_means_2 (fun H locs G => ?_)
  obtain ⟨σ1, eσ1⟩ : ∃ z : eS, z = e_ui σ 97 18 (0 : Int32) := ⟨_, rfl⟩
  rw [← eσ1] at G
  have h := h σ1 eσ1
  refine lv_aload_n hx hb dX11_means_5 rfl (lv_at hl 0 rfl) ?_
  refine lv_iload_n hx hb dX11_means_6 rfl (lv_at hl 1 rfl) ?_
  refine e_callVi (As := [.int (x1)]) (rest := []) ⟨hx, hb, hml, hown, hts⟩ K G 97 (by decide) gl_97 rfl (c_X11_isStreet h) (cwV 1 hts gX11_means_X11_isStreet rfl rfl rfl (by decide +kernel) ⟨Nat.le_of_ble_eq_true rfl, Nat.le_of_ble_eq_true rfl⟩) rfl hl.1 rfl (Nat.le_of_ble_eq_true rfl) dX11_means_7 ⟨Nat.zero_le _, Nat.zero_le _⟩ (fun r3 σ2 H locs h G => ?_)
  refine lv_if_eq (tgt := 25) hx hb dX11_means_10 (by decide) (fun c4 => ?_) (fun c4 => ?_)
  · have h := h.1 c4
    refine lv_iconst (v := (-1 : Int32)) hx hb dX11_means_25 (by decide) ?_
    exact e_iret hx hb hr hlocks G h dX11_means_26
  · have h := h.2 c4
    refine lv_lload_n hx hb dX11_means_13 rfl (lv_at hl 2 rfl) ?_
    refine lv_lload hx hb dX11_means_14 (lv_at hl 3 rfl) ?_
    refine lv_sipush (v := (1000 : Int32)) hx hb dX11_means_16 (by decide) ?_
    refine e_callSi (As := [.long (x2), .long (x4), .int ((1000 : Int32))]) (rest := []) ⟨hx, hb, hml, hown, hts⟩ K G (c_X11_areDays h) (va_cwS 3 hts gX11_means_X11_areDays rfl rfl rfl (by decide +kernel) ⟨Nat.le_of_ble_eq_true rfl, Nat.le_of_ble_eq_true rfl⟩) rfl hl.1 rfl (Nat.le_of_ble_eq_true rfl) dX11_means_19 ⟨Nat.zero_le _, Nat.zero_le _⟩ (fun r6 σ5 H locs h G => ?_)
    refine lv_if_ne (tgt := 27) hx hb dX11_means_22 (by decide) (fun c7 => ?_) (fun c7 => ?_)
    · have h := h.1 c7
      refine lv_aload_n hx hb dX11_means_27 rfl (lv_at hl 0 rfl) ?_
      refine lv_iconst (v := (0 : Int32)) hx hb dX11_means_28 (by decide) ?_
      refine e_callVv (As := [.int ((0 : Int32))]) (rest := []) ⟨hx, hb, hml, hown, hts⟩ K G 97 (by decide) gl_97 rfl (c_X11_layOut h) (cwV 1 hts gX11_means_X11_layOut rfl rfl rfl (by decide +kernel) ⟨Nat.le_of_ble_eq_true rfl, Nat.le_of_ble_eq_true rfl⟩) rfl hl.1 rfl (Nat.le_of_ble_eq_true rfl) dX11_means_29 ⟨Nat.zero_le _, Nat.zero_le _⟩ (fun σ8 H locs h G => ?_)
      refine lv_iconst (v := (0 : Int32)) hx hb dX11_means_32 (by decide) ?_
      refine lv_topi (fun v9 ev9 => ?_)
      have h := h v9 ev9
      refine lv_istore (lv' := [(6, .int (v9)), (0, .ref (ρ (97))), (1, .int (x1)), (2, .long (x2)), (4, .long (x4))]) hx hb dX11_means_33 hl (by decide) rfl (fun ls hl => ?_)
      obtain ⟨n16, h⟩ := h
      exact l_X11_means_35 C K n16 σ8 x1 x2 x4 v9 _ _ _  h G (lv_sub hl [1, 2, 3, 4, 0] rfl)
    · have h := h.2 c7
      refine lv_iconst (v := (-1 : Int32)) hx hb dX11_means_25 (by decide) ?_
      exact e_iret hx hb hr hlocks G h dX11_means_26
abbrev rm_X10_smudge : Room := { frames := 1, cells := 0, slots := 0, locals := 21 }
theorem in_X10_smudge_X0 : ∀ w ∈ wsX00, w ∈ wsX10_smudge := fun w h => List.mem_cons_of_mem _ (List.mem_append_left _ (List.mem_append_left _ (List.mem_append_right _ h)))
theorem in_X10_smudge_X1 : ∀ w ∈ wsX10, w ∈ wsX10_smudge := fun w h => List.mem_cons_of_mem _ (List.mem_append_left _ (List.mem_append_right _ h))
theorem in_X10_smudge_X10 : ∀ w ∈ wsX100, w ∈ wsX10_smudge := fun w h => List.mem_cons_of_mem _ (List.mem_append_left _ (List.mem_append_left _ (List.mem_append_left _ (List.mem_append_right _ h))))
def w_X10_smudge (σ : eS) (x1 : Int32) (x2 : Int32) (post : Int32 → eS → Prop) : Prop := w_X10_isStreet σ x1 (fun r2 σ1 => ((r2 = 0 → post (-1 : Int32) σ1) ∧ (¬ (r2 = 0) → w_X10_isOrder σ1 x2 (fun r5 σ4 => ((¬ r5 = 0 → (¬ (σ4.1 5 5) = 0) ∧ False) ∧ (r5 = 0 → post (-1 : Int32) σ4))))))
set_option maxHeartbeats 4000000 in
set_option maxRecDepth 100000 in
theorem c_X10_smudge {l : Launch} {D : va_G} {ρ : Nat → Nat} {κ : Nat → ClassId} {base : Nat} {σ : eS} {x1 : Int32} {x2 : Int32} {post : Int32 → eS → Prop} (h : w_X10_smudge σ x1 x2 post) : gMi l yX10_smudge wsX10_smudge rm_X10_smudge D ρ κ base [.ref (ρ (0)), .int (x1), .int (x2)] σ post := by
  refine e_ofWi (cc := cX10_smudge) (maxL := 3) (ret := (some .int)) (by decide) rfl (Nat.le_of_ble_eq_true rfl) ?_
  intro p e s m below meth c ls C K G hl
  obtain ⟨hx, hb, hml, hown, hts, hr, hlocks⟩ := id C
  have hl : lv_has ls 3 [(0, .ref (ρ (0))), (1, .int (x1)), (2, .int (x2))] := hl
  unfold w_X10_smudge at h
  refine lv_aload_n hx hb dX10_smudge_0 rfl (lv_at hl 0 rfl) ?_
  refine lv_iload_n hx hb dX10_smudge_1 rfl (lv_at hl 1 rfl) ?_
  refine e_callVi (As := [.int (x1)]) (rest := []) ⟨hx, hb, hml, hown, hts⟩ K G 0 (by decide) gl_0 rfl (c_X10_isStreet h) (cwV 1 hts gX10_smudge_X10_isStreet rfl rfl rfl (by decide +kernel) ⟨Nat.le_of_ble_eq_true rfl, Nat.le_of_ble_eq_true rfl⟩) rfl hl.1 rfl (Nat.le_of_ble_eq_true rfl) dX10_smudge_2 ⟨Nat.zero_le _, Nat.zero_le _⟩ (fun r2 σ1 H locs h G => ?_)
  refine lv_if_eq (tgt := 16) hx hb dX10_smudge_5 (by decide) (fun c3 => ?_) (fun c3 => ?_)
  · have h := h.1 c3
    refine lv_iconst (v := (-1 : Int32)) hx hb dX10_smudge_16 (by decide) ?_
    exact e_iret hx hb hr hlocks G h dX10_smudge_17
  · have h := h.2 c3
    refine lv_aload_n hx hb dX10_smudge_8 rfl (lv_at hl 0 rfl) ?_
    refine lv_iload_n hx hb dX10_smudge_9 rfl (lv_at hl 2 rfl) ?_
    refine e_callVi (As := [.int (x2)]) (rest := []) ⟨hx, hb, hml, hown, hts⟩ K G 0 (by decide) gl_0 rfl (c_X10_isOrder h) (cwV 1 hts gX10_smudge_X10_isOrder rfl rfl rfl (by decide +kernel) ⟨Nat.le_of_ble_eq_true rfl, Nat.le_of_ble_eq_true rfl⟩) rfl hl.1 rfl (Nat.le_of_ble_eq_true rfl) dX10_smudge_10 ⟨Nat.zero_le _, Nat.zero_le _⟩ (fun r5 σ4 H locs h G => ?_)
    refine lv_if_ne (tgt := 18) hx hb dX10_smudge_13 (by decide) (fun c6 => ?_) (fun c6 => ?_)
    · have h := h.1 c6
      refine lv_aload_n hx hb dX10_smudge_18 rfl (lv_at hl 0 rfl) ?_
      refine lv_iload_n hx hb dX10_smudge_19 rfl (lv_at hl 1 rfl) ?_
      refine lv_iload_n hx hb dX10_smudge_20 rfl (lv_at hl 2 rfl) ?_
      refine lv_i2l hx hb dX10_smudge_21 rfl ?_
      refine lv_aload_n hx hb dX10_smudge_22 rfl (lv_at hl 0 rfl) ?_
      refine e_getq hx hb hts in_X10_smudge_X10 hown K G 0 (by decide) gl_0 rfl 5 (by decide) 32 rfl (hts (.fieldLink RX10 44 "StreetsStepOn" "almanac" "LStreetsStepOn$Almanac;") (e_mem (n := 1) rfl)) dX10_smudge_23 ?_
      refine e_getiN hx hb hts in_X10_smudge_X0 hown K G 32 (by decide) gl_32 rfl 2 (by decide) rfl (e_memq (n := 28) rfl) dX10_smudge_26 ?_
      refine lv_aload_n hx hb dX10_smudge_29 rfl (lv_at hl 0 rfl) ?_
      refine e_getq hx hb hts in_X10_smudge_X10 hown K G 0 (by decide) gl_0 rfl 2 (by decide) 5 rfl (hts (.fieldLink RX10 26 "StreetsStepOn" "book" "LStreetsStepOn$Book;") (e_mem (n := 2) rfl)) dX10_smudge_30 ?_
      refine e_getiN hx hb hts in_X10_smudge_X1 hown K G 5 (by decide) gl_5 rfl 5 (by decide) rfl (e_memq (n := 22) rfl) dX10_smudge_33 ?_
      have hn7 := h.1
      have h := h.2
      refine lv_idiv hx hb dX10_smudge_36 hn7 ?_
      refine lv_aload_n hx hb dX10_smudge_37 rfl (lv_at hl 0 rfl) ?_
      refine e_getq hx hb hts in_X10_smudge_X10 hown K G 0 (by decide) gl_0 rfl 2 (by decide) 5 rfl (hts (.fieldLink RX10 26 "StreetsStepOn" "book" "LStreetsStepOn$Book;") (e_mem (n := 2) rfl)) dX10_smudge_38 ?_
      refine e_getiN hx hb hts in_X10_smudge_X1 hown K G 5 (by decide) gl_5 rfl 5 (by decide) rfl (e_memq (n := 22) rfl) dX10_smudge_41 ?_
      exact h.elim
    · have h := h.2 c6
      refine lv_iconst (v := (-1 : Int32)) hx hb dX10_smudge_16 (by decide) ?_
      exact e_iret hx hb hr hlocks G h dX10_smudge_17
abbrev rm_X11_smudge : Room := { frames := 2, cells := 0, slots := 0, locals := 46 }
theorem in_X11_smudge_X11 : ∀ w ∈ wsX110, w ∈ wsX11_smudge := fun w h => List.mem_cons_of_mem _ (List.mem_append_right _ h)
def b_X11_smudge_53 (post : Int32 → eS → Prop) : Nat → eS → Int32 → Int32 → Prop
  | 0, _, _, _ => False
  | n + 1, σ, x1, x3 => (((σ.1 97 26) ≤ x3 → False) ∧ (¬ ((σ.1 97 26) ≤ x3) → False))
set_option maxHeartbeats 4000000 in
set_option maxRecDepth 100000 in
theorem l_X11_smudge_53 {p : Program} {l : Launch} {e : Env} {s : State} {m : MethodId} {args : Array Value} {below : List Frame} {meth : Method} {c : Code} {D : va_G} {ρ : Nat → Nat} {κ : Nat → ClassId} {base : Nat} {post : Int32 → eS → Prop} (C : eCx p s m args meth c cX11_smudge RX11 4 (some .int) wsX11_smudge) (K : gK D ρ κ base s) : ∀ (n : Nat) (σ : eS) (x1 : Int32) (x3 : Int32) (H : Heap) (locs : List Loc) (ls : Array Slot), b_X11_smudge_53 post n σ x1 x3 → gG D ρ κ base s σ H locs → lv_has ls 4 [(0, .ref (ρ (97))), (1, .int (x1)), (3, .int (x3))] → W p l e rm_X11_smudge s m args below meth c H locs 0 0 (gQi below args s D ρ κ base post) (F0 m 53 ls []) := by
  obtain ⟨hx, hb, hml, hown, hts, hr, hlocks⟩ := id C
  intro n
  induction n with
  | zero => intro σ x1 x3 H locs ls h G hl; exact False.elim h
  | succ n ih =>
    intro σ x1 x3 H locs ls h G hl
    rw [b_X11_smudge_53] at h
    refine lv_iload_n hx hb dX11_smudge_53 rfl (lv_at hl 2 rfl) ?_
    refine lv_aload_n hx hb dX11_smudge_54 rfl (lv_at hl 0 rfl) ?_
    refine e_geti hx hb hts in_X11_smudge_X11 hown K G 97 (by decide) gl_97 rfl 26 (by decide) rfl (hts (.fieldLink RX11 227 "StreetsStepOnModel" "round" "I") (e_mem (n := 4) rfl)) dX11_smudge_55 ?_
    refine lv_icmp_ge (tgt := 87) hx hb dX11_smudge_58 (by decide) (fun c11 => ?_) (fun c11 => ?_)
    · have h := h.1 c11
      refine lv_aload_n hx hb dX11_smudge_87 rfl (lv_at hl 0 rfl) ?_
      exact h.elim
    · have h := h.2 c11
      refine lv_aload_n hx hb dX11_smudge_61 rfl (lv_at hl 0 rfl) ?_
      refine e_getq hx hb hts in_X11_smudge_X11 hown K G 97 (by decide) gl_97 rfl 27 (by decide) 111 rfl (hts (.fieldLink RX11 51 "StreetsStepOnModel" "many" "[I") (e_mem (n := 3) rfl)) dX11_smudge_62 ?_
      refine lv_aload_n hx hb dX11_smudge_65 rfl (lv_at hl 0 rfl) ?_
      refine lv_iload_n hx hb dX11_smudge_66 rfl (lv_at hl 1 rfl) ?_
      refine lv_iload_n hx hb dX11_smudge_67 rfl (lv_at hl 2 rfl) ?_
      refine lv_i2l hx hb dX11_smudge_68 rfl ?_
      exact h.elim
def b_X11_smudge_30 (post : Int32 → eS → Prop) : Nat → eS → Int32 → Int32 → Int32 → Prop
  | 0, _, _, _, _ => False
  | n + 1, σ, x1, x2, x3 => (((σ.1 97 0) ≤ x3 → (∃ n12 : Nat, b_X11_smudge_53 post n12 σ x1 x2)) ∧ (¬ ((σ.1 97 0) ≤ x3) → (vp_in x3 12) ∧ ∀ σ14 : eS, σ14 = e_ui σ 111 x3.toNatClampNeg (0 : Int32) → ∀ v15 : Int32, v15 = (x3 + (1 : Int32)) → b_X11_smudge_30 post n σ14 x1 x2 v15))
set_option maxHeartbeats 4000000 in
set_option maxRecDepth 100000 in
theorem l_X11_smudge_30 {p : Program} {l : Launch} {e : Env} {s : State} {m : MethodId} {args : Array Value} {below : List Frame} {meth : Method} {c : Code} {D : va_G} {ρ : Nat → Nat} {κ : Nat → ClassId} {base : Nat} {post : Int32 → eS → Prop} (C : eCx p s m args meth c cX11_smudge RX11 4 (some .int) wsX11_smudge) (K : gK D ρ κ base s) : ∀ (n : Nat) (σ : eS) (x1 : Int32) (x2 : Int32) (x3 : Int32) (H : Heap) (locs : List Loc) (ls : Array Slot), b_X11_smudge_30 post n σ x1 x2 x3 → gG D ρ κ base s σ H locs → lv_has ls 4 [(0, .ref (ρ (97))), (1, .int (x1)), (2, .int (x2)), (3, .int (x3))] → W p l e rm_X11_smudge s m args below meth c H locs 0 0 (gQi below args s D ρ κ base post) (F0 m 30 ls []) := by
  obtain ⟨hx, hb, hml, hown, hts, hr, hlocks⟩ := id C
  intro n
  induction n with
  | zero => intro σ x1 x2 x3 H locs ls h G hl; exact False.elim h
  | succ n ih =>
    intro σ x1 x2 x3 H locs ls h G hl
    rw [b_X11_smudge_30] at h
    refine lv_iload_n hx hb dX11_smudge_30 rfl (lv_at hl 3 rfl) ?_
    refine lv_aload_n hx hb dX11_smudge_31 rfl (lv_at hl 0 rfl) ?_
    refine e_geti hx hb hts in_X11_smudge_X11 hown K G 97 (by decide) gl_97 rfl 0 (by decide) rfl (hts (.fieldLink RX11 104 "StreetsStepOnModel" "streets" "I") (e_mem (n := 2) rfl)) dX11_smudge_32 ?_
    refine lv_icmp_ge (tgt := 51) hx hb dX11_smudge_35 (by decide) (fun c10 => ?_) (fun c10 => ?_)
    · have h := h.1 c10
      refine lv_iload_n hx hb dX11_smudge_51 rfl (lv_at hl 2 rfl) ?_
      refine lv_istore_n (lv' := [(3, .int (x2)), (0, .ref (ρ (97))), (1, .int (x1)), (2, .int (x2))]) hx hb dX11_smudge_52 rfl hl (by decide) rfl (fun ls hl => ?_)
      obtain ⟨n12, h⟩ := h
      exact l_X11_smudge_53 C K n12 σ x1 x2 _ _ _  h G (lv_sub hl [1, 2, 0] rfl)
    · have h := h.2 c10
      refine lv_aload_n hx hb dX11_smudge_38 rfl (lv_at hl 0 rfl) ?_
      refine e_getq hx hb hts in_X11_smudge_X11 hown K G 97 (by decide) gl_97 rfl 27 (by decide) 111 rfl (hts (.fieldLink RX11 51 "StreetsStepOnModel" "many" "[I") (e_mem (n := 3) rfl)) dX11_smudge_39 ?_
      refine lv_iload_n hx hb dX11_smudge_42 rfl (lv_at hl 3 rfl) ?_
      refine lv_iconst (v := (0 : Int32)) hx hb dX11_smudge_43 (by decide) ?_
      have hi13 := h.1
      have h := h.2
      refine e_iast hx hb K G 111 0 0 12 (by decide) gl_111 rfl hi13 dX11_smudge_44 (fun H locs G => ?_)
      obtain ⟨σ14, eσ14⟩ : ∃ z : eS, z = e_ui σ 111 x3.toNatClampNeg (0 : Int32) := ⟨_, rfl⟩
      rw [← eσ14] at G
      have h := h σ14 eσ14
      obtain ⟨v15, ev15⟩ : ∃ y : Int32, y = x3 + (1 : Int32) := ⟨_, rfl⟩
      have h := h v15 ev15
      refine lv_iinc (v := v15) (lv' := [(3, .int (v15)), (0, .ref (ρ (97))), (1, .int (x1)), (2, .int (x2))]) hx hb dX11_smudge_45 hl (k := 3) rfl (by rw [ev15]; rfl) (by decide) rfl (fun ls hl => ?_)
      refine lv_goto (tgt := 30) hx hb dX11_smudge_48 (by decide) ?_
      exact ih σ14 x1 x2 v15 _ _ _  h G (lv_sub hl [1, 2, 3, 0] rfl)
def w_X11_smudge (σ : eS) (x1 : Int32) (x2 : Int32) (post : Int32 → eS → Prop) : Prop := ∀ σ1 : eS, σ1 = e_ui σ 97 18 (0 : Int32) → w_X11_isStreet σ1 x1 (fun r3 σ2 => ((r3 = 0 → post (-1 : Int32) σ2) ∧ (¬ (r3 = 0) → w_X11_isOrder σ2 x2 (fun r6 σ5 => ((¬ r6 = 0 → w_X11_layOut σ5 (0 : Int32) (fun σ8 => ∀ v9 : Int32, v9 = (0 : Int32) → (∃ n16 : Nat, b_X11_smudge_30 post n16 σ8 x1 x2 v9))) ∧ (r6 = 0 → post (-1 : Int32) σ5))))))
set_option maxHeartbeats 4000000 in
set_option maxRecDepth 100000 in
theorem c_X11_smudge {l : Launch} {D : va_G} {ρ : Nat → Nat} {κ : Nat → ClassId} {base : Nat} {σ : eS} {x1 : Int32} {x2 : Int32} {post : Int32 → eS → Prop} (h : w_X11_smudge σ x1 x2 post) : gMi l yX11_smudge wsX11_smudge rm_X11_smudge D ρ κ base [.ref (ρ (97)), .int (x1), .int (x2)] σ post := by
  refine e_ofWi (cc := cX11_smudge) (maxL := 4) (ret := (some .int)) (by decide) rfl (Nat.le_of_ble_eq_true rfl) ?_
  intro p e s m below meth c ls C K G hl
  obtain ⟨hx, hb, hml, hown, hts, hr, hlocks⟩ := id C
  have hl : lv_has ls 4 [(0, .ref (ρ (97))), (1, .int (x1)), (2, .int (x2))] := hl
  unfold w_X11_smudge at h
  refine lv_aload_n hx hb dX11_smudge_0 rfl (lv_at hl 0 rfl) ?_
  refine lv_iconst (v := (0 : Int32)) hx hb dX11_smudge_1 (by decide) ?_
  refine e_puti hx hb hts in_X11_smudge_X11 tyX11 tyX11_ok nmX11 hown K G 97 (by decide) gl_97 rfl 18 (by decide) rfl (hts (.fieldLink RX11 98 "StreetsStepOnModel" "thrown" "I") (e_mem (n := 1) rfl)) rfl (tyX11_ok 18 (by decide)) rfl rfl dX11_smudge_2 (fun H locs G => ?_)
  obtain ⟨σ1, eσ1⟩ : ∃ z : eS, z = e_ui σ 97 18 (0 : Int32) := ⟨_, rfl⟩
  rw [← eσ1] at G
  have h := h σ1 eσ1
  refine lv_aload_n hx hb dX11_smudge_5 rfl (lv_at hl 0 rfl) ?_
  refine lv_iload_n hx hb dX11_smudge_6 rfl (lv_at hl 1 rfl) ?_
  refine e_callVi (As := [.int (x1)]) (rest := []) ⟨hx, hb, hml, hown, hts⟩ K G 97 (by decide) gl_97 rfl (c_X11_isStreet h) (cwV 1 hts gX11_smudge_X11_isStreet rfl rfl rfl (by decide +kernel) ⟨Nat.le_of_ble_eq_true rfl, Nat.le_of_ble_eq_true rfl⟩) rfl hl.1 rfl (Nat.le_of_ble_eq_true rfl) dX11_smudge_7 ⟨Nat.zero_le _, Nat.zero_le _⟩ (fun r3 σ2 H locs h G => ?_)
  refine lv_if_eq (tgt := 21) hx hb dX11_smudge_10 (by decide) (fun c4 => ?_) (fun c4 => ?_)
  · have h := h.1 c4
    refine lv_iconst (v := (-1 : Int32)) hx hb dX11_smudge_21 (by decide) ?_
    exact e_iret hx hb hr hlocks G h dX11_smudge_22
  · have h := h.2 c4
    refine lv_aload_n hx hb dX11_smudge_13 rfl (lv_at hl 0 rfl) ?_
    refine lv_iload_n hx hb dX11_smudge_14 rfl (lv_at hl 2 rfl) ?_
    refine e_callVi (As := [.int (x2)]) (rest := []) ⟨hx, hb, hml, hown, hts⟩ K G 97 (by decide) gl_97 rfl (c_X11_isOrder h) (cwV 1 hts gX11_smudge_X11_isOrder rfl rfl rfl (by decide +kernel) ⟨Nat.le_of_ble_eq_true rfl, Nat.le_of_ble_eq_true rfl⟩) rfl hl.1 rfl (Nat.le_of_ble_eq_true rfl) dX11_smudge_15 ⟨Nat.zero_le _, Nat.zero_le _⟩ (fun r6 σ5 H locs h G => ?_)
    refine lv_if_ne (tgt := 23) hx hb dX11_smudge_18 (by decide) (fun c7 => ?_) (fun c7 => ?_)
    · have h := h.1 c7
      refine lv_aload_n hx hb dX11_smudge_23 rfl (lv_at hl 0 rfl) ?_
      refine lv_iconst (v := (0 : Int32)) hx hb dX11_smudge_24 (by decide) ?_
      refine e_callVv (As := [.int ((0 : Int32))]) (rest := []) ⟨hx, hb, hml, hown, hts⟩ K G 97 (by decide) gl_97 rfl (c_X11_layOut h) (cwV 1 hts gX11_smudge_X11_layOut rfl rfl rfl (by decide +kernel) ⟨Nat.le_of_ble_eq_true rfl, Nat.le_of_ble_eq_true rfl⟩) rfl hl.1 rfl (Nat.le_of_ble_eq_true rfl) dX11_smudge_25 ⟨Nat.zero_le _, Nat.zero_le _⟩ (fun σ8 H locs h G => ?_)
      refine lv_iconst (v := (0 : Int32)) hx hb dX11_smudge_28 (by decide) ?_
      refine lv_topi (fun v9 ev9 => ?_)
      have h := h v9 ev9
      refine lv_istore_n (lv' := [(3, .int (v9)), (0, .ref (ρ (97))), (1, .int (x1)), (2, .int (x2))]) hx hb dX11_smudge_29 rfl hl (by decide) rfl (fun ls hl => ?_)
      obtain ⟨n16, h⟩ := h
      exact l_X11_smudge_30 C K n16 σ8 x1 x2 v9 _ _ _  h G (lv_sub hl [1, 2, 3, 0] rfl)
    · have h := h.2 c7
      refine lv_iconst (v := (-1 : Int32)) hx hb dX11_smudge_21 (by decide) ?_
      exact e_iret hx hb hr hlocks G h dX11_smudge_22
