abbrev rm_X10_rule : Room := { frames := 2, cells := 0, slots := 0, locals := 62 }
theorem in_X10_rule_X10 : ∀ w ∈ wsX100, w ∈ wsX10_rule := fun w h => List.mem_cons_of_mem _ (List.mem_append_left _ (List.mem_append_left _ (List.mem_append_right _ h)))
def w_X10_rule (σ : eS) (post : Int32 → eS → Prop) : Prop := w_X6_read σ (fun r2 σ1 => w_X7_cut σ1 (0 : Int32) (fun r4 σ3 => post r2 σ3))
set_option maxHeartbeats 4000000 in
set_option maxRecDepth 100000 in
theorem c_X10_rule {l : Launch} {D : va_G} {ρ : Nat → Nat} {κ : Nat → ClassId} {base : Nat} {σ : eS} {post : Int32 → eS → Prop} (h : w_X10_rule σ post) : gMi l yX10_rule wsX10_rule rm_X10_rule D ρ κ base [.ref (ρ (0))] σ post := by
  refine e_ofWi (cc := cX10_rule) (maxL := 2) (ret := (some .int)) (by decide) rfl (Nat.le_of_ble_eq_true rfl) ?_
  intro p e s m below meth c ls C K G hl
  obtain ⟨hx, hb, hml, hown, hts, hr, hlocks⟩ := id C
  have hl : lv_has ls 2 [(0, .ref (ρ (0)))] := hl
  unfold w_X10_rule at h
  refine lv_aload_n hx hb dX10_rule_0 rfl (lv_at hl 0 rfl) ?_
  refine e_getq hx hb hts in_X10_rule_X10 hown K G 0 (by decide) gl_0 rfl 7 (by decide) 36 rfl (hts (.fieldLink RX10 58 "StreetsStepOn" "lateRule" "LStreetsStepOn$Rule;") (e_mem (n := 1) rfl)) dX10_rule_1 ?_
  refine lv_aload_n hx hb dX10_rule_4 rfl (lv_at hl 0 rfl) ?_
  refine e_getq hx hb hts in_X10_rule_X10 hown K G 0 (by decide) gl_0 rfl 0 (by decide) 1 rfl (hts (.fieldLink RX10 10 "StreetsStepOn" "text" "LStreetsStepOn$Text;") (e_mem (n := 2) rfl)) dX10_rule_5 ?_
  refine e_callVi (As := [.ref (ρ (1))]) (rest := []) ⟨hx, hb, hml, hown, hts⟩ K G 36 (by decide) gl_36 rfl (c_X6_read h) (cwV 1 hts gX10_rule_X6_read rfl rfl rfl (by decide +kernel) ⟨Nat.le_of_ble_eq_true rfl, Nat.le_of_ble_eq_true rfl⟩) rfl hl.1 rfl (Nat.le_of_ble_eq_true rfl) dX10_rule_8 ⟨Nat.zero_le _, Nat.zero_le _⟩ (fun r2 σ1 H locs h G => ?_)
  refine lv_istore_n (lv' := [(1, .int (r2)), (0, .ref (ρ (0)))]) hx hb dX10_rule_11 rfl hl (by decide) rfl (fun ls hl => ?_)
  refine lv_aload_n hx hb dX10_rule_12 rfl (lv_at hl 1 rfl) ?_
  refine e_getq hx hb hts in_X10_rule_X10 hown K G 0 (by decide) gl_0 rfl 0 (by decide) 1 rfl (hts (.fieldLink RX10 10 "StreetsStepOn" "text" "LStreetsStepOn$Text;") (e_mem (n := 2) rfl)) dX10_rule_13 ?_
  refine lv_iconst (v := (0 : Int32)) hx hb dX10_rule_16 (by decide) ?_
  refine e_callVi (As := [.int ((0 : Int32))]) (rest := []) ⟨hx, hb, hml, hown, hts⟩ K G 1 (by decide) gl_1 rfl (c_X7_cut h) (cwV 1 hts gX10_rule_X7_cut rfl rfl rfl (by decide +kernel) ⟨Nat.le_of_ble_eq_true rfl, Nat.le_of_ble_eq_true rfl⟩) rfl hl.1 rfl (Nat.le_of_ble_eq_true rfl) dX10_rule_17 ⟨Nat.zero_le _, Nat.zero_le _⟩ (fun r4 σ3 H locs h G => ?_)
  refine lv_pop hx hb dX10_rule_20 rfl ?_
  refine lv_iload_n hx hb dX10_rule_21 rfl (lv_at hl 0 rfl) ?_
  exact e_iret hx hb hr hlocks G h dX10_rule_22
abbrev rm_X11_rule : Room := { frames := 1, cells := 0, slots := 0, locals := 23 }
theorem in_X11_rule_X11 : ∀ w ∈ wsX110, w ∈ wsX11_rule := fun w h => List.mem_cons_of_mem _ (List.mem_append_right _ h)
def b_X11_rule_73 (post : Int32 → eS → Prop) : Nat → eS → Int32 → Int32 → Prop
  | 0, _, _, _ => False
  | n + 1, σ, x1, x2 => ((x1 ≤ x2 → ∀ σ9 : eS, σ9 = e_ui σ 97 43 x1 → post (0 : Int32) σ9) ∧ (¬ (x1 ≤ x2) → (vp_in x2 80) ∧ (vp_in x2 40) ∧ ∀ σ12 : eS, σ12 = e_ui σ 119 x2.toNatClampNeg (vp_nar .byte (σ.1 107 x2.toNatClampNeg)) → ∀ v13 : Int32, v13 = (x2 + (1 : Int32)) → b_X11_rule_73 post n σ12 x1 v13))
set_option maxHeartbeats 4000000 in
set_option maxRecDepth 100000 in
theorem l_X11_rule_73 {p : Program} {l : Launch} {e : Env} {s : State} {m : MethodId} {args : Array Value} {below : List Frame} {meth : Method} {c : Code} {D : va_G} {ρ : Nat → Nat} {κ : Nat → ClassId} {base : Nat} {post : Int32 → eS → Prop} (C : eCx p s m args meth c cX11_rule RX11 3 (some .int) wsX11_rule) (K : gK D ρ κ base s) : ∀ (n : Nat) (σ : eS) (x1 : Int32) (x2 : Int32) (H : Heap) (locs : List Loc) (ls : Array Slot), b_X11_rule_73 post n σ x1 x2 → gG D ρ κ base s σ H locs → lv_has ls 3 [(0, .ref (ρ (97))), (1, .int (x1)), (2, .int (x2))] → W p l e rm_X11_rule s m args below meth c H locs 0 0 (gQi below args s D ρ κ base post) (F0 m 73 ls []) := by
  obtain ⟨hx, hb, hml, hown, hts, hr, hlocks⟩ := id C
  intro n
  induction n with
  | zero => intro σ x1 x2 H locs ls h G hl; exact False.elim h
  | succ n ih =>
    intro σ x1 x2 H locs ls h G hl
    rw [b_X11_rule_73] at h
    refine lv_iload_n hx hb dX11_rule_73 rfl (lv_at hl 2 rfl) ?_
    refine lv_iload_n hx hb dX11_rule_74 rfl (lv_at hl 1 rfl) ?_
    refine lv_icmp_ge (tgt := 96) hx hb dX11_rule_75 (by decide) (fun c8 => ?_) (fun c8 => ?_)
    · have h := h.1 c8
      refine lv_aload_n hx hb dX11_rule_96 rfl (lv_at hl 0 rfl) ?_
      refine lv_iload_n hx hb dX11_rule_97 rfl (lv_at hl 1 rfl) ?_
      refine e_puti hx hb hts in_X11_rule_X11 tyX11 tyX11_ok nmX11 hown K G 97 (by decide) gl_97 rfl 43 (by decide) rfl (hts (.fieldLink RX11 403 "StreetsStepOnModel" "ruleSize" "I") (e_mem (n := 8) rfl)) rfl (tyX11_ok 43 (by decide)) rfl rfl dX11_rule_98 (fun H locs G => ?_)
      obtain ⟨σ9, eσ9⟩ : ∃ z : eS, z = e_ui σ 97 43 x1 := ⟨_, rfl⟩
      rw [← eσ9] at G
      have h := h σ9 eσ9
      refine lv_iconst (v := (0 : Int32)) hx hb dX11_rule_101 (by decide) ?_
      exact e_iret hx hb hr hlocks G h dX11_rule_102
    · have h := h.2 c8
      refine lv_aload_n hx hb dX11_rule_78 rfl (lv_at hl 0 rfl) ?_
      refine e_getq hx hb hts in_X11_rule_X11 hown K G 97 (by decide) gl_97 rfl 42 (by decide) 119 rfl (hts (.fieldLink RX11 75 "StreetsStepOnModel" "rule" "[B") (e_mem (n := 7) rfl)) dX11_rule_79 ?_
      refine lv_iload_n hx hb dX11_rule_82 rfl (lv_at hl 2 rfl) ?_
      refine lv_aload_n hx hb dX11_rule_83 rfl (lv_at hl 0 rfl) ?_
      refine e_getq hx hb hts in_X11_rule_X11 hown K G 97 (by decide) gl_97 rfl 14 (by decide) 107 rfl (hts (.fieldLink RX11 38 "StreetsStepOnModel" "text" "[B") (e_mem (n := 3) rfl)) dX11_rule_84 ?_
      refine lv_iload_n hx hb dX11_rule_87 rfl (lv_at hl 2 rfl) ?_
      have hi10 := h.1
      have h := h.2
      refine e_bald hx hb K G 107 3 3 80 (by decide) gl_107 rfl hi10 dX11_rule_88 ?_
      have hi11 := h.1
      have h := h.2
      refine e_bast hx hb K G 119 3 3 40 (by decide) gl_119 rfl hi11 dX11_rule_89 (fun H locs G => ?_)
      obtain ⟨σ12, eσ12⟩ : ∃ z : eS, z = e_ui σ 119 x2.toNatClampNeg (vp_nar .byte (σ.1 107 x2.toNatClampNeg)) := ⟨_, rfl⟩
      rw [← eσ12] at G
      have h := h σ12 eσ12
      obtain ⟨v13, ev13⟩ : ∃ y : Int32, y = x2 + (1 : Int32) := ⟨_, rfl⟩
      have h := h v13 ev13
      refine lv_iinc (v := v13) (lv' := [(2, .int (v13)), (0, .ref (ρ (97))), (1, .int (x1))]) hx hb dX11_rule_90 hl (k := 2) rfl (by rw [ev13]; rfl) (by decide) rfl (fun ls hl => ?_)
      refine lv_goto (tgt := 73) hx hb dX11_rule_93 (by decide) ?_
      exact ih σ12 x1 v13 _ _ _  h G (lv_sub hl [1, 2, 0] rfl)
def b_X11_rule_71 (post : Int32 → eS → Prop) (σ : eS) (x1 : Int32) : Prop := ∀ v7 : Int32, v7 = (0 : Int32) → (∃ n14 : Nat, b_X11_rule_73 post n14 σ x1 v7)
set_option maxHeartbeats 4000000 in
set_option maxRecDepth 100000 in
theorem l_X11_rule_71 {p : Program} {l : Launch} {e : Env} {s : State} {m : MethodId} {args : Array Value} {below : List Frame} {meth : Method} {c : Code} {D : va_G} {ρ : Nat → Nat} {κ : Nat → ClassId} {base : Nat} {post : Int32 → eS → Prop} (C : eCx p s m args meth c cX11_rule RX11 3 (some .int) wsX11_rule) (K : gK D ρ κ base s) : ∀ (σ : eS) (x1 : Int32) (H : Heap) (locs : List Loc) (ls : Array Slot), b_X11_rule_71 post σ x1 → gG D ρ κ base s σ H locs → lv_has ls 3 [(0, .ref (ρ (97))), (1, .int (x1))] → W p l e rm_X11_rule s m args below meth c H locs 0 0 (gQi below args s D ρ κ base post) (F0 m 71 ls []) := by
  obtain ⟨hx, hb, hml, hown, hts, hr, hlocks⟩ := id C
  intro σ x1 H locs ls h G hl
  unfold b_X11_rule_71 at h
  refine lv_iconst (v := (0 : Int32)) hx hb dX11_rule_71 (by decide) ?_
  refine lv_topi (fun v7 ev7 => ?_)
  have h := h v7 ev7
  refine lv_istore_n (lv' := [(2, .int (v7)), (0, .ref (ρ (97))), (1, .int (x1))]) hx hb dX11_rule_72 rfl hl (by decide) rfl (fun ls hl => ?_)
  obtain ⟨n14, h⟩ := h
  exact l_X11_rule_73 C K n14 σ x1 v7 _ _ _  h G (lv_sub hl [1, 2, 0] rfl)
def w_X11_rule (σ : eS) (post : Int32 → eS → Prop) : Prop := ∀ σ1 : eS, σ1 = e_ui σ 97 18 (0 : Int32) → ∀ v2 : Int32, v2 = (σ1.1 97 15) → w_X11_begin σ1 v2 (40 : Int32) (fun σ3 => ∀ σ4 : eS, σ4 = e_ui σ3 97 15 (0 : Int32) → ∀ σ5 : eS, σ5 = e_ui σ4 97 44 (-1 : Int32) → ((v2 ≤ 0 → b_X11_rule_71 post σ5 v2) ∧ (¬ (v2 ≤ 0) → False)))
set_option maxHeartbeats 4000000 in
set_option maxRecDepth 100000 in
theorem c_X11_rule {l : Launch} {D : va_G} {ρ : Nat → Nat} {κ : Nat → ClassId} {base : Nat} {σ : eS} {post : Int32 → eS → Prop} (h : w_X11_rule σ post) : gMi l yX11_rule wsX11_rule rm_X11_rule D ρ κ base [.ref (ρ (97))] σ post := by
  refine e_ofWi (cc := cX11_rule) (maxL := 3) (ret := (some .int)) (by decide) rfl (Nat.le_of_ble_eq_true rfl) ?_
  intro p e s m below meth c ls C K G hl
  obtain ⟨hx, hb, hml, hown, hts, hr, hlocks⟩ := id C
  have hl : lv_has ls 3 [(0, .ref (ρ (97)))] := hl
  unfold w_X11_rule at h
  refine lv_aload_n hx hb dX11_rule_0 rfl (lv_at hl 0 rfl) ?_
  refine lv_iconst (v := (0 : Int32)) hx hb dX11_rule_1 (by decide) ?_
  refine e_puti hx hb hts in_X11_rule_X11 tyX11 tyX11_ok nmX11 hown K G 97 (by decide) gl_97 rfl 18 (by decide) rfl (hts (.fieldLink RX11 98 "StreetsStepOnModel" "thrown" "I") (e_mem (n := 1) rfl)) rfl (tyX11_ok 18 (by decide)) rfl rfl dX11_rule_2 (fun H locs G => ?_)
  obtain ⟨σ1, eσ1⟩ : ∃ z : eS, z = e_ui σ 97 18 (0 : Int32) := ⟨_, rfl⟩
  rw [← eσ1] at G
  have h := h σ1 eσ1
  refine lv_aload_n hx hb dX11_rule_5 rfl (lv_at hl 0 rfl) ?_
  refine e_geti hx hb hts in_X11_rule_X11 hown K G 97 (by decide) gl_97 rfl 15 (by decide) rfl (hts (.fieldLink RX11 121 "StreetsStepOnModel" "typed" "I") (e_mem (n := 2) rfl)) dX11_rule_6 ?_
  refine lv_topi (fun v2 ev2 => ?_)
  have h := h v2 ev2
  refine lv_istore_n (lv' := [(1, .int (v2)), (0, .ref (ρ (97)))]) hx hb dX11_rule_9 rfl hl (by decide) rfl (fun ls hl => ?_)
  refine lv_aload_n hx hb dX11_rule_10 rfl (lv_at hl 1 rfl) ?_
  refine lv_aload_n hx hb dX11_rule_11 rfl (lv_at hl 1 rfl) ?_
  refine e_getq hx hb hts in_X11_rule_X11 hown K G 97 (by decide) gl_97 rfl 14 (by decide) 107 rfl (hts (.fieldLink RX11 38 "StreetsStepOnModel" "text" "[B") (e_mem (n := 3) rfl)) dX11_rule_12 ?_
  refine lv_iload_n hx hb dX11_rule_15 rfl (lv_at hl 0 rfl) ?_
  refine lv_bipush (v := (40 : Int32)) hx hb dX11_rule_16 (by decide) ?_
  refine e_callVv (As := [.ref (ρ (107)), .int (v2), .int ((40 : Int32))]) (rest := []) ⟨hx, hb, hml, hown, hts⟩ K G 97 (by decide) gl_97 rfl (c_X11_begin h) (cwV 3 hts gX11_rule_X11_begin rfl rfl rfl (by decide +kernel) ⟨Nat.le_of_ble_eq_true rfl, Nat.le_of_ble_eq_true rfl⟩) rfl hl.1 rfl (Nat.le_of_ble_eq_true rfl) dX11_rule_18 ⟨Nat.zero_le _, Nat.zero_le _⟩ (fun σ3 H locs h G => ?_)
  refine lv_aload_n hx hb dX11_rule_21 rfl (lv_at hl 1 rfl) ?_
  refine lv_iconst (v := (0 : Int32)) hx hb dX11_rule_22 (by decide) ?_
  refine e_puti hx hb hts in_X11_rule_X11 tyX11 tyX11_ok nmX11 hown K G 97 (by decide) gl_97 rfl 15 (by decide) rfl (hts (.fieldLink RX11 121 "StreetsStepOnModel" "typed" "I") (e_mem (n := 2) rfl)) rfl (tyX11_ok 15 (by decide)) rfl rfl dX11_rule_23 (fun H locs G => ?_)
  obtain ⟨σ4, eσ4⟩ : ∃ z : eS, z = e_ui σ3 97 15 (0 : Int32) := ⟨_, rfl⟩
  rw [← eσ4] at G
  have h := h σ4 eσ4
  refine lv_aload_n hx hb dX11_rule_26 rfl (lv_at hl 1 rfl) ?_
  refine lv_iconst (v := (-1 : Int32)) hx hb dX11_rule_27 (by decide) ?_
  refine e_puti hx hb hts in_X11_rule_X11 tyX11 tyX11_ok nmX11 hown K G 97 (by decide) gl_97 rfl 44 (by decide) rfl (hts (.fieldLink RX11 78 "StreetsStepOnModel" "ruleLetter" "I") (e_mem (n := 4) rfl)) rfl (tyX11_ok 44 (by decide)) rfl rfl dX11_rule_28 (fun H locs G => ?_)
  obtain ⟨σ5, eσ5⟩ : ∃ z : eS, z = e_ui σ4 97 44 (-1 : Int32) := ⟨_, rfl⟩
  rw [← eσ5] at G
  have h := h σ5 eσ5
  refine lv_iload_n hx hb dX11_rule_31 rfl (lv_at hl 0 rfl) ?_
  refine lv_if_le (tgt := 71) hx hb dX11_rule_32 (by decide) (fun c6 => ?_) (fun c6 => ?_)
  · have h := h.1 c6
    exact l_X11_rule_71 C K σ5 v2 _ _ _  h G (lv_sub hl [1, 0] rfl)
  · have h := h.2 c6
    refine lv_aload_n hx hb dX11_rule_35 rfl (lv_at hl 1 rfl) ?_
    refine lv_iconst (v := (0 : Int32)) hx hb dX11_rule_36 (by decide) ?_
    exact h.elim
abbrev rm_X11_late : Room := { frames := 2, cells := 0, slots := 0, locals := 46 }
theorem in_X11_late_X11 : ∀ w ∈ wsX110, w ∈ wsX11_late := fun w h => List.mem_cons_of_mem _ (List.mem_append_right _ h)
def b_X11_late_39 (post : Int32 → eS → Prop) (σ : eS) : Prop := w_X11_lost σ (fun r6 σ5 => post r6 σ5)
set_option maxHeartbeats 4000000 in
set_option maxRecDepth 100000 in
theorem l_X11_late_39 {p : Program} {l : Launch} {e : Env} {s : State} {m : MethodId} {args : Array Value} {below : List Frame} {meth : Method} {c : Code} {D : va_G} {ρ : Nat → Nat} {κ : Nat → ClassId} {base : Nat} {post : Int32 → eS → Prop} (C : eCx p s m args meth c cX11_late RX11 4 (some .int) wsX11_late) (K : gK D ρ κ base s) : ∀ (σ : eS) (H : Heap) (locs : List Loc) (ls : Array Slot), b_X11_late_39 post σ → gG D ρ κ base s σ H locs → lv_has ls 4 [(0, .ref (ρ (97)))] → W p l e rm_X11_late s m args below meth c H locs 0 0 (gQi below args s D ρ κ base post) (F0 m 39 ls []) := by
  obtain ⟨hx, hb, hml, hown, hts, hr, hlocks⟩ := id C
  intro σ H locs ls h G hl
  unfold b_X11_late_39 at h
  refine lv_aload_n hx hb dX11_late_39 rfl (lv_at hl 0 rfl) ?_
  refine e_callVi (As := []) (rest := []) ⟨hx, hb, hml, hown, hts⟩ K G 97 (by decide) gl_97 rfl (c_X11_lost h) (cwV 0 hts gX11_late_X11_lost rfl rfl rfl (by decide +kernel) ⟨Nat.le_of_ble_eq_true rfl, Nat.le_of_ble_eq_true rfl⟩) rfl hl.1 rfl (Nat.le_of_ble_eq_true rfl) dX11_late_40 ⟨Nat.zero_le _, Nat.zero_le _⟩ (fun r6 σ5 H locs h G => ?_)
  exact e_iret hx hb hr hlocks G h dX11_late_43
def w_X11_late (σ : eS) (x1 : Int32) (x2 : Int32) (x3 : Int32) (post : Int32 → eS → Prop) : Prop := ∀ σ1 : eS, σ1 = e_ui σ 97 18 (0 : Int32) → w_X11_isLetter σ1 x1 (fun r3 σ2 => ((r3 = 0 → b_X11_late_39 post σ2) ∧ (¬ (r3 = 0) → ((x2 < 0 → b_X11_late_39 post σ2) ∧ (¬ (x2 < 0) → w_X11_isStreet σ2 x3 (fun r9 σ8 => ((r9 = 0 → b_X11_late_39 post σ8) ∧ (¬ (r9 = 0) → False))))))))
set_option maxHeartbeats 4000000 in
set_option maxRecDepth 100000 in
theorem c_X11_late {l : Launch} {D : va_G} {ρ : Nat → Nat} {κ : Nat → ClassId} {base : Nat} {σ : eS} {x1 : Int32} {x2 : Int32} {x3 : Int32} {post : Int32 → eS → Prop} (h : w_X11_late σ x1 x2 x3 post) : gMi l yX11_late wsX11_late rm_X11_late D ρ κ base [.ref (ρ (97)), .int (x1), .int (x2), .int (x3)] σ post := by
  refine e_ofWi (cc := cX11_late) (maxL := 4) (ret := (some .int)) (by decide) rfl (Nat.le_of_ble_eq_true rfl) ?_
  intro p e s m below meth c ls C K G hl
  obtain ⟨hx, hb, hml, hown, hts, hr, hlocks⟩ := id C
  have hl : lv_has ls 4 [(0, .ref (ρ (97))), (1, .int (x1)), (2, .int (x2)), (3, .int (x3))] := hl
  unfold w_X11_late at h
  refine lv_aload_n hx hb dX11_late_0 rfl (lv_at hl 0 rfl) ?_
  refine lv_iconst (v := (0 : Int32)) hx hb dX11_late_1 (by decide) ?_
  refine e_puti hx hb hts in_X11_late_X11 tyX11 tyX11_ok nmX11 hown K G 97 (by decide) gl_97 rfl 18 (by decide) rfl (hts (.fieldLink RX11 98 "StreetsStepOnModel" "thrown" "I") (e_mem (n := 1) rfl)) rfl (tyX11_ok 18 (by decide)) rfl rfl dX11_late_2 (fun H locs G => ?_)
  obtain ⟨σ1, eσ1⟩ : ∃ z : eS, z = e_ui σ 97 18 (0 : Int32) := ⟨_, rfl⟩
  rw [← eσ1] at G
  have h := h σ1 eσ1
  refine lv_aload_n hx hb dX11_late_5 rfl (lv_at hl 0 rfl) ?_
  refine lv_iload_n hx hb dX11_late_6 rfl (lv_at hl 1 rfl) ?_
  refine e_callVi (As := [.int (x1)]) (rest := []) ⟨hx, hb, hml, hown, hts⟩ K G 97 (by decide) gl_97 rfl (c_X11_isLetter h) (cwV 1 hts gX11_late_X11_isLetter rfl rfl rfl (by decide +kernel) ⟨Nat.le_of_ble_eq_true rfl, Nat.le_of_ble_eq_true rfl⟩) rfl hl.1 rfl (Nat.le_of_ble_eq_true rfl) dX11_late_7 ⟨Nat.zero_le _, Nat.zero_le _⟩ (fun r3 σ2 H locs h G => ?_)
  refine lv_if_eq (tgt := 39) hx hb dX11_late_10 (by decide) (fun c4 => ?_) (fun c4 => ?_)
  · have h := h.1 c4
    exact l_X11_late_39 C K σ2 _ _ _  h G (lv_sub hl [0] rfl)
  · have h := h.2 c4
    refine lv_iload_n hx hb dX11_late_13 rfl (lv_at hl 2 rfl) ?_
    refine lv_if_lt (tgt := 39) hx hb dX11_late_14 (by decide) (fun c7 => ?_) (fun c7 => ?_)
    · have h := h.1 c7
      exact l_X11_late_39 C K σ2 _ _ _  h G (lv_sub hl [0] rfl)
    · have h := h.2 c7
      refine lv_aload_n hx hb dX11_late_17 rfl (lv_at hl 0 rfl) ?_
      refine lv_iload_n hx hb dX11_late_18 rfl (lv_at hl 3 rfl) ?_
      refine e_callVi (As := [.int (x3)]) (rest := []) ⟨hx, hb, hml, hown, hts⟩ K G 97 (by decide) gl_97 rfl (c_X11_isStreet h) (cwV 1 hts gX11_late_X11_isStreet rfl rfl rfl (by decide +kernel) ⟨Nat.le_of_ble_eq_true rfl, Nat.le_of_ble_eq_true rfl⟩) rfl hl.1 rfl (Nat.le_of_ble_eq_true rfl) dX11_late_19 ⟨Nat.zero_le _, Nat.zero_le _⟩ (fun r9 σ8 H locs h G => ?_)
      refine lv_if_eq (tgt := 39) hx hb dX11_late_22 (by decide) (fun c10 => ?_) (fun c10 => ?_)
      · have h := h.1 c10
        exact l_X11_late_39 C K σ8 _ _ _  h G (lv_sub hl [0] rfl)
      · have h := h.2 c10
        refine lv_aload_n hx hb dX11_late_25 rfl (lv_at hl 0 rfl) ?_
        refine lv_iload_n hx hb dX11_late_26 rfl (lv_at hl 1 rfl) ?_
        refine lv_iload_n hx hb dX11_late_27 rfl (lv_at hl 2 rfl) ?_
        refine lv_iload_n hx hb dX11_late_28 rfl (lv_at hl 3 rfl) ?_
        refine lv_aload_n hx hb dX11_late_29 rfl (lv_at hl 0 rfl) ?_
        refine e_getl hx hb hts in_X11_late_X11 hown K G 97 (by decide) gl_97 rfl 6 (by decide) rfl (hts (.fieldLink RX11 197 "StreetsStepOnModel" "today" "J") (e_mem (n := 2) rfl)) dX11_late_30 ?_
        exact h.elim
abbrev rm_X10_sends : Room := { frames := 1, cells := 0, slots := 0, locals := 21 }
def w_X10_sends (σ : eS) (x1 : Int32) (post : Int32 → eS → Prop) : Prop := w_X10_isLetter σ x1 (fun r2 σ1 => ((¬ r2 = 0 → False) ∧ (r2 = 0 → post (-1 : Int32) σ1)))
set_option maxHeartbeats 4000000 in
set_option maxRecDepth 100000 in
theorem c_X10_sends {l : Launch} {D : va_G} {ρ : Nat → Nat} {κ : Nat → ClassId} {base : Nat} {σ : eS} {x1 : Int32} {post : Int32 → eS → Prop} (h : w_X10_sends σ x1 post) : gMi l yX10_sends wsX10_sends rm_X10_sends D ρ κ base [.ref (ρ (0)), .int (x1)] σ post := by
  refine e_ofWi (cc := cX10_sends) (maxL := 2) (ret := (some .int)) (by decide) rfl (Nat.le_of_ble_eq_true rfl) ?_
  intro p e s m below meth c ls C K G hl
  obtain ⟨hx, hb, hml, hown, hts, hr, hlocks⟩ := id C
  have hl : lv_has ls 2 [(0, .ref (ρ (0))), (1, .int (x1))] := hl
  unfold w_X10_sends at h
  refine lv_aload_n hx hb dX10_sends_0 rfl (lv_at hl 0 rfl) ?_
  refine lv_iload_n hx hb dX10_sends_1 rfl (lv_at hl 1 rfl) ?_
  refine e_callVi (As := [.int (x1)]) (rest := []) ⟨hx, hb, hml, hown, hts⟩ K G 0 (by decide) gl_0 rfl (c_X10_isLetter h) (cwV 1 hts gX10_sends_X10_isLetter rfl rfl rfl (by decide +kernel) ⟨Nat.le_of_ble_eq_true rfl, Nat.le_of_ble_eq_true rfl⟩) rfl hl.1 rfl (Nat.le_of_ble_eq_true rfl) dX10_sends_2 ⟨Nat.zero_le _, Nat.zero_le _⟩ (fun r2 σ1 H locs h G => ?_)
  refine lv_if_ne (tgt := 10) hx hb dX10_sends_5 (by decide) (fun c3 => ?_) (fun c3 => ?_)
  · have h := h.1 c3
    refine lv_aload_n hx hb dX10_sends_10 rfl (lv_at hl 0 rfl) ?_
    refine lv_iload_n hx hb dX10_sends_11 rfl (lv_at hl 1 rfl) ?_
    refine lv_iconst (v := (0 : Int32)) hx hb dX10_sends_12 (by decide) ?_
    refine lv_iconst (v := (1 : Int32)) hx hb dX10_sends_13 (by decide) ?_
    exact h.elim
  · have h := h.2 c3
    refine lv_iconst (v := (-1 : Int32)) hx hb dX10_sends_8 (by decide) ?_
    exact e_iret hx hb hr hlocks G h dX10_sends_9
abbrev rm_X11_sends : Room := { frames := 2, cells := 0, slots := 0, locals := 46 }
theorem in_X11_sends_X11 : ∀ w ∈ wsX110, w ∈ wsX11_sends := fun w h => List.mem_cons_of_mem _ (List.mem_append_right _ h)
def w_X11_sends (σ : eS) (x1 : Int32) (post : Int32 → eS → Prop) : Prop := ∀ σ1 : eS, σ1 = e_ui σ 97 18 (0 : Int32) → w_X11_isLetter σ1 x1 (fun r3 σ2 => ((r3 = 0 → post (-1 : Int32) σ2) ∧ (¬ (r3 = 0) → False)))
set_option maxHeartbeats 4000000 in
set_option maxRecDepth 100000 in
theorem c_X11_sends {l : Launch} {D : va_G} {ρ : Nat → Nat} {κ : Nat → ClassId} {base : Nat} {σ : eS} {x1 : Int32} {post : Int32 → eS → Prop} (h : w_X11_sends σ x1 post) : gMi l yX11_sends wsX11_sends rm_X11_sends D ρ κ base [.ref (ρ (97)), .int (x1)] σ post := by
  refine e_ofWi (cc := cX11_sends) (maxL := 2) (ret := (some .int)) (by decide) rfl (Nat.le_of_ble_eq_true rfl) ?_
  intro p e s m below meth c ls C K G hl
  obtain ⟨hx, hb, hml, hown, hts, hr, hlocks⟩ := id C
  have hl : lv_has ls 2 [(0, .ref (ρ (97))), (1, .int (x1))] := hl
  unfold w_X11_sends at h
  refine lv_aload_n hx hb dX11_sends_0 rfl (lv_at hl 0 rfl) ?_
  refine lv_iconst (v := (0 : Int32)) hx hb dX11_sends_1 (by decide) ?_
  refine e_puti hx hb hts in_X11_sends_X11 tyX11 tyX11_ok nmX11 hown K G 97 (by decide) gl_97 rfl 18 (by decide) rfl (hts (.fieldLink RX11 98 "StreetsStepOnModel" "thrown" "I") (e_mem (n := 1) rfl)) rfl (tyX11_ok 18 (by decide)) rfl rfl dX11_sends_2 (fun H locs G => ?_)
  obtain ⟨σ1, eσ1⟩ : ∃ z : eS, z = e_ui σ 97 18 (0 : Int32) := ⟨_, rfl⟩
  rw [← eσ1] at G
  have h := h σ1 eσ1
  refine lv_aload_n hx hb dX11_sends_5 rfl (lv_at hl 0 rfl) ?_
  refine lv_iload_n hx hb dX11_sends_6 rfl (lv_at hl 1 rfl) ?_
  refine e_callVi (As := [.int (x1)]) (rest := []) ⟨hx, hb, hml, hown, hts⟩ K G 97 (by decide) gl_97 rfl (c_X11_isLetter h) (cwV 1 hts gX11_sends_X11_isLetter rfl rfl rfl (by decide +kernel) ⟨Nat.le_of_ble_eq_true rfl, Nat.le_of_ble_eq_true rfl⟩) rfl hl.1 rfl (Nat.le_of_ble_eq_true rfl) dX11_sends_7 ⟨Nat.zero_le _, Nat.zero_le _⟩ (fun r3 σ2 H locs h G => ?_)
  refine lv_if_eq (tgt := 22) hx hb dX11_sends_10 (by decide) (fun c4 => ?_) (fun c4 => ?_)
  · have h := h.1 c4
    refine lv_iconst (v := (-1 : Int32)) hx hb dX11_sends_22 (by decide) ?_
    exact e_iret hx hb hr hlocks G h dX11_sends_23
  · have h := h.2 c4
    refine lv_aload_n hx hb dX11_sends_13 rfl (lv_at hl 0 rfl) ?_
    refine lv_iload_n hx hb dX11_sends_14 rfl (lv_at hl 1 rfl) ?_
    refine lv_iconst (v := (-1 : Int32)) hx hb dX11_sends_15 (by decide) ?_
    exact h.elim
abbrev rm_X10_walk : Room := { frames := 2, cells := 0, slots := 0, locals := 42 }
theorem in_X10_walk_X1 : ∀ w ∈ wsX10, w ∈ wsX10_walk := fun w h => List.mem_cons_of_mem _ (List.mem_append_left _ (List.mem_append_left _ (List.mem_append_left _ (List.mem_append_right _ h))))
theorem in_X10_walk_X10 : ∀ w ∈ wsX100, w ∈ wsX10_walk := fun w h => List.mem_cons_of_mem _ (List.mem_append_left _ (List.mem_append_left _ (List.mem_append_left _ (List.mem_append_left _ (List.mem_append_right _ h)))))
def w_X10_walk (σ : eS) (x1 : Int32) (x2 : Int32) (post : Int32 → eS → Prop) : Prop := w_X10_isPlace σ x1 (fun r2 σ1 => ((r2 = 0 → post (-1 : Int32) σ1) ∧ (¬ (r2 = 0) → w_X10_isChoice σ1 x2 (σ1.1 5 4) (7 : Int32) (fun r5 σ4 => ((¬ r5 = 0 → False) ∧ (r5 = 0 → post (-1 : Int32) σ4))))))
set_option maxHeartbeats 4000000 in
set_option maxRecDepth 100000 in
theorem c_X10_walk {l : Launch} {D : va_G} {ρ : Nat → Nat} {κ : Nat → ClassId} {base : Nat} {σ : eS} {x1 : Int32} {x2 : Int32} {post : Int32 → eS → Prop} (h : w_X10_walk σ x1 x2 post) : gMi l yX10_walk wsX10_walk rm_X10_walk D ρ κ base [.ref (ρ (0)), .int (x1), .int (x2)] σ post := by
  refine e_ofWi (cc := cX10_walk) (maxL := 4) (ret := (some .int)) (by decide) rfl (Nat.le_of_ble_eq_true rfl) ?_
  intro p e s m below meth c ls C K G hl
  obtain ⟨hx, hb, hml, hown, hts, hr, hlocks⟩ := id C
  have hl : lv_has ls 4 [(0, .ref (ρ (0))), (1, .int (x1)), (2, .int (x2))] := hl
  unfold w_X10_walk at h
  refine lv_iload_n hx hb dX10_walk_0 rfl (lv_at hl 1 rfl) ?_
  refine e_callSi (As := [.int (x1)]) (rest := []) ⟨hx, hb, hml, hown, hts⟩ K G (c_X10_isPlace h) (va_cwS 1 hts gX10_walk_X10_isPlace rfl rfl rfl (by decide +kernel) ⟨Nat.le_of_ble_eq_true rfl, Nat.le_of_ble_eq_true rfl⟩) rfl hl.1 rfl (Nat.le_of_ble_eq_true rfl) dX10_walk_1 ⟨Nat.zero_le _, Nat.zero_le _⟩ (fun r2 σ1 H locs h G => ?_)
  refine lv_if_eq (tgt := 23) hx hb dX10_walk_4 (by decide) (fun c3 => ?_) (fun c3 => ?_)
  · have h := h.1 c3
    refine lv_iconst (v := (-1 : Int32)) hx hb dX10_walk_23 (by decide) ?_
    exact e_iret hx hb hr hlocks G h dX10_walk_24
  · have h := h.2 c3
    refine lv_iload_n hx hb dX10_walk_7 rfl (lv_at hl 2 rfl) ?_
    refine lv_aload_n hx hb dX10_walk_8 rfl (lv_at hl 0 rfl) ?_
    refine e_getq hx hb hts in_X10_walk_X10 hown K G 0 (by decide) gl_0 rfl 2 (by decide) 5 rfl (hts (.fieldLink RX10 26 "StreetsStepOn" "book" "LStreetsStepOn$Book;") (e_mem (n := 1) rfl)) dX10_walk_9 ?_
    refine e_getiN hx hb hts in_X10_walk_X1 hown K G 5 (by decide) gl_5 rfl 4 (by decide) rfl (e_memq (n := 18) rfl) dX10_walk_12 ?_
    refine lv_bipush (v := (7 : Int32)) hx hb dX10_walk_15 (by decide) ?_
    refine e_callSi (As := [.int (x2), .int (σ1.1 5 4), .int ((7 : Int32))]) (rest := []) ⟨hx, hb, hml, hown, hts⟩ K G (c_X10_isChoice h) (va_cwS 3 hts gX10_walk_X10_isChoice rfl rfl rfl (by decide +kernel) ⟨Nat.le_of_ble_eq_true rfl, Nat.le_of_ble_eq_true rfl⟩) rfl hl.1 rfl (Nat.le_of_ble_eq_true rfl) dX10_walk_17 ⟨Nat.zero_le _, Nat.zero_le _⟩ (fun r5 σ4 H locs h G => ?_)
    refine lv_if_ne (tgt := 25) hx hb dX10_walk_20 (by decide) (fun c6 => ?_) (fun c6 => ?_)
    · have h := h.1 c6
      refine lv_aload_n hx hb dX10_walk_25 rfl (lv_at hl 0 rfl) ?_
      refine e_getq hx hb hts in_X10_walk_X10 hown K G 0 (by decide) gl_0 rfl 10 (by decide) 55 rfl (hts (.fieldLink RX10 79 "StreetsStepOn" "tour" "LStreetsStepOn$Tour;") (e_mem (n := 2) rfl)) dX10_walk_26 ?_
      refine lv_iconst (v := (1 : Int32)) hx hb dX10_walk_29 (by decide) ?_
      refine lv_ldcw (v := (1000000 : Int32)) hx hb hown (hts (.constant RX10 301 (1000000)) (e_mem (n := 3) rfl)) dX10_walk_30 ?_
      exact h.elim
    · have h := h.2 c6
      refine lv_iconst (v := (-1 : Int32)) hx hb dX10_walk_23 (by decide) ?_
      exact e_iret hx hb hr hlocks G h dX10_walk_24
abbrev rm_X11_walk : Room := { frames := 2, cells := 0, slots := 0, locals := 45 }
theorem in_X11_walk_X11 : ∀ w ∈ wsX110, w ∈ wsX11_walk := fun w h => List.mem_cons_of_mem _ (List.mem_append_right _ h)
def w_X11_walk (σ : eS) (x1 : Int32) (x2 : Int32) (post : Int32 → eS → Prop) : Prop := ∀ σ1 : eS, σ1 = e_ui σ 97 18 (0 : Int32) → w_X11_isPlace σ1 x1 (fun r3 σ2 => ((r3 = 0 → post (-1 : Int32) σ2) ∧ (¬ (r3 = 0) → w_X11_in σ2 (x2.toInt64) (1 : Int64) ((((1 : Int32) <<< ((σ2.1 97 0) &&& 31)) - (1 : Int32)).toInt64) (fun r6 σ5 => ((r6 = 0 → post (-1 : Int32) σ5) ∧ (¬ (r6 = 0) → w_J6_bitCount_0f7a4 σ5 x2 (fun r9 σ8 => ((r9 ≤ (7 : Int32) → w_X11_findFar σ8 (fun σ11 => False)) ∧ (¬ (r9 ≤ (7 : Int32)) → post (-1 : Int32) σ8)))))))))
set_option maxHeartbeats 4000000 in
set_option maxRecDepth 100000 in
theorem c_X11_walk {l : Launch} {D : va_G} {ρ : Nat → Nat} {κ : Nat → ClassId} {base : Nat} {σ : eS} {x1 : Int32} {x2 : Int32} {post : Int32 → eS → Prop} (h : w_X11_walk σ x1 x2 post) : gMi l yX11_walk wsX11_walk rm_X11_walk D ρ κ base [.ref (ρ (97)), .int (x1), .int (x2)] σ post := by
  refine e_ofWi (cc := cX11_walk) (maxL := 3) (ret := (some .int)) (by decide) rfl (Nat.le_of_ble_eq_true rfl) ?_
  intro p e s m below meth c ls C K G hl
  obtain ⟨hx, hb, hml, hown, hts, hr, hlocks⟩ := id C
  have hl : lv_has ls 3 [(0, .ref (ρ (97))), (1, .int (x1)), (2, .int (x2))] := hl
  unfold w_X11_walk at h
  refine lv_aload_n hx hb dX11_walk_0 rfl (lv_at hl 0 rfl) ?_
  refine lv_iconst (v := (0 : Int32)) hx hb dX11_walk_1 (by decide) ?_
  refine e_puti hx hb hts in_X11_walk_X11 tyX11 tyX11_ok nmX11 hown K G 97 (by decide) gl_97 rfl 18 (by decide) rfl (hts (.fieldLink RX11 98 "StreetsStepOnModel" "thrown" "I") (e_mem (n := 1) rfl)) rfl (tyX11_ok 18 (by decide)) rfl rfl dX11_walk_2 (fun H locs G => ?_)
  obtain ⟨σ1, eσ1⟩ : ∃ z : eS, z = e_ui σ 97 18 (0 : Int32) := ⟨_, rfl⟩
  rw [← eσ1] at G
  have h := h σ1 eσ1
  refine lv_iload_n hx hb dX11_walk_5 rfl (lv_at hl 1 rfl) ?_
  refine e_callSi (As := [.int (x1)]) (rest := []) ⟨hx, hb, hml, hown, hts⟩ K G (c_X11_isPlace h) (va_cwS 1 hts gX11_walk_X11_isPlace rfl rfl rfl (by decide +kernel) ⟨Nat.le_of_ble_eq_true rfl, Nat.le_of_ble_eq_true rfl⟩) rfl hl.1 rfl (Nat.le_of_ble_eq_true rfl) dX11_walk_6 ⟨Nat.zero_le _, Nat.zero_le _⟩ (fun r3 σ2 H locs h G => ?_)
  refine lv_if_eq (tgt := 39) hx hb dX11_walk_9 (by decide) (fun c4 => ?_) (fun c4 => ?_)
  · have h := h.1 c4
    refine lv_iconst (v := (-1 : Int32)) hx hb dX11_walk_39 (by decide) ?_
    exact e_iret hx hb hr hlocks G h dX11_walk_40
  · have h := h.2 c4
    refine lv_iload_n hx hb dX11_walk_12 rfl (lv_at hl 2 rfl) ?_
    refine lv_i2l hx hb dX11_walk_13 rfl ?_
    refine lv_lconst (v := (1 : Int64)) hx hb dX11_walk_14 (by decide) ?_
    refine lv_iconst (v := (1 : Int32)) hx hb dX11_walk_15 (by decide) ?_
    refine lv_aload_n hx hb dX11_walk_16 rfl (lv_at hl 0 rfl) ?_
    refine e_geti hx hb hts in_X11_walk_X11 hown K G 97 (by decide) gl_97 rfl 0 (by decide) rfl (hts (.fieldLink RX11 104 "StreetsStepOnModel" "streets" "I") (e_mem (n := 2) rfl)) dX11_walk_17 ?_
    refine lv_ishl hx hb dX11_walk_20 ?_
    refine lv_iconst (v := (1 : Int32)) hx hb dX11_walk_21 (by decide) ?_
    refine lv_isub hx hb dX11_walk_22 ?_
    refine lv_i2l hx hb dX11_walk_23 rfl ?_
    refine e_callSi (As := [.long (x2.toInt64), .long ((1 : Int64)), .long ((((1 : Int32) <<< ((σ2.1 97 0) &&& 31)) - (1 : Int32)).toInt64)]) (rest := []) ⟨hx, hb, hml, hown, hts⟩ K G (c_X11_in h) (va_cwS 3 hts gX11_walk_X11_in rfl rfl rfl (by decide +kernel) ⟨Nat.le_of_ble_eq_true rfl, Nat.le_of_ble_eq_true rfl⟩) rfl hl.1 rfl (Nat.le_of_ble_eq_true rfl) dX11_walk_24 ⟨Nat.zero_le _, Nat.zero_le _⟩ (fun r6 σ5 H locs h G => ?_)
    refine lv_if_eq (tgt := 39) hx hb dX11_walk_27 (by decide) (fun c7 => ?_) (fun c7 => ?_)
    · have h := h.1 c7
      refine lv_iconst (v := (-1 : Int32)) hx hb dX11_walk_39 (by decide) ?_
      exact e_iret hx hb hr hlocks G h dX11_walk_40
    · have h := h.2 c7
      refine lv_iload_n hx hb dX11_walk_30 rfl (lv_at hl 2 rfl) ?_
      refine e_callSi (As := [.int (x2)]) (rest := []) ⟨hx, hb, hml, hown, hts⟩ K G (c_J6_bitCount_0f7a4 h) (va_cwS 1 hts gX11_walk_J6_bitCount_0f7a4 rfl rfl rfl (by decide +kernel) ⟨Nat.le_of_ble_eq_true rfl, Nat.le_of_ble_eq_true rfl⟩) rfl hl.1 rfl (Nat.le_of_ble_eq_true rfl) dX11_walk_31 ⟨Nat.zero_le _, Nat.zero_le _⟩ (fun r9 σ8 H locs h G => ?_)
      refine lv_bipush (v := (7 : Int32)) hx hb dX11_walk_34 (by decide) ?_
      refine lv_icmp_le (tgt := 41) hx hb dX11_walk_36 (by decide) (fun c10 => ?_) (fun c10 => ?_)
      · have h := h.1 c10
        refine lv_aload_n hx hb dX11_walk_41 rfl (lv_at hl 0 rfl) ?_
        refine e_callVv (As := []) (rest := []) ⟨hx, hb, hml, hown, hts⟩ K G 97 (by decide) gl_97 rfl (c_X11_findFar h) (cwV 0 hts gX11_walk_X11_findFar rfl rfl rfl (by decide +kernel) ⟨Nat.le_of_ble_eq_true rfl, Nat.le_of_ble_eq_true rfl⟩) rfl hl.1 rfl (Nat.le_of_ble_eq_true rfl) dX11_walk_42 ⟨Nat.zero_le _, Nat.zero_le _⟩ (fun σ11 H locs h G => ?_)
        refine lv_aload_n hx hb dX11_walk_45 rfl (lv_at hl 0 rfl) ?_
        refine lv_iload_n hx hb dX11_walk_46 rfl (lv_at hl 2 rfl) ?_
        refine lv_aload_n hx hb dX11_walk_47 rfl (lv_at hl 0 rfl) ?_
        refine e_geti hx hb hts in_X11_walk_X11 hown K G 97 (by decide) gl_97 rfl 0 (by decide) rfl (hts (.fieldLink RX11 104 "StreetsStepOnModel" "streets" "I") (e_mem (n := 2) rfl)) dX11_walk_48 ?_
        exact h.elim
      · have h := h.2 c10
        refine lv_iconst (v := (-1 : Int32)) hx hb dX11_walk_39 (by decide) ?_
        exact e_iret hx hb hr hlocks G h dX11_walk_40
abbrev rm_X10_meet : Room := { frames := 2, cells := 0, slots := 0, locals := 42 }
theorem in_X10_meet_X1 : ∀ w ∈ wsX10, w ∈ wsX10_meet := fun w h => List.mem_cons_of_mem _ (List.mem_append_left _ (List.mem_append_left _ (List.mem_append_left _ (List.mem_append_right _ h))))
theorem in_X10_meet_X10 : ∀ w ∈ wsX100, w ∈ wsX10_meet := fun w h => List.mem_cons_of_mem _ (List.mem_append_left _ (List.mem_append_left _ (List.mem_append_left _ (List.mem_append_left _ (List.mem_append_right _ h)))))
def b_X10_meet_26 (post : Int32 → eS → Prop) : Nat → eS → Int32 → Int32 → Int32 → Int32 → Prop
  | 0, _, _, _, _, _ => False
  | n + 1, σ, x1, x2, x3, x4 => (((10 : Int32) ≤ x4 → ((x2 < 0 → post x2 σ) ∧ (¬ (x2 < 0) → False))) ∧ (¬ ((10 : Int32) ≤ x4) → False))
set_option maxHeartbeats 4000000 in
set_option maxRecDepth 100000 in
theorem l_X10_meet_26 {p : Program} {l : Launch} {e : Env} {s : State} {m : MethodId} {args : Array Value} {below : List Frame} {meth : Method} {c : Code} {D : va_G} {ρ : Nat → Nat} {κ : Nat → ClassId} {base : Nat} {post : Int32 → eS → Prop} (C : eCx p s m args meth c cX10_meet RX10 6 (some .int) wsX10_meet) (K : gK D ρ κ base s) : ∀ (n : Nat) (σ : eS) (x1 : Int32) (x2 : Int32) (x3 : Int32) (x4 : Int32) (H : Heap) (locs : List Loc) (ls : Array Slot), b_X10_meet_26 post n σ x1 x2 x3 x4 → gG D ρ κ base s σ H locs → lv_has ls 6 [(0, .ref (ρ (0))), (1, .int (x1)), (2, .int (x2)), (3, .int (x3)), (4, .int (x4))] → W p l e rm_X10_meet s m args below meth c H locs 0 0 (gQi below args s D ρ κ base post) (F0 m 26 ls []) := by
  obtain ⟨hx, hb, hml, hown, hts, hr, hlocks⟩ := id C
  intro n
  induction n with
  | zero => intro σ x1 x2 x3 x4 H locs ls h G hl; exact False.elim h
  | succ n ih =>
    intro σ x1 x2 x3 x4 H locs ls h G hl
    rw [b_X10_meet_26] at h
    refine lv_iload hx hb dX10_meet_26 (lv_at hl 4 rfl) ?_
    refine lv_bipush (v := (10 : Int32)) hx hb dX10_meet_28 (by decide) ?_
    refine lv_icmp_ge (tgt := 69) hx hb dX10_meet_30 (by decide) (fun c7 => ?_) (fun c7 => ?_)
    · have h := h.1 c7
      refine lv_iload_n hx hb dX10_meet_69 rfl (lv_at hl 2 rfl) ?_
      refine lv_if_lt (tgt := 89) hx hb dX10_meet_70 (by decide) (fun c8 => ?_) (fun c8 => ?_)
      · have h := h.1 c8
        refine lv_iload_n hx hb dX10_meet_89 rfl (lv_at hl 2 rfl) ?_
        exact e_iret hx hb hr hlocks G h dX10_meet_90
      · have h := h.2 c8
        refine lv_aload_n hx hb dX10_meet_73 rfl (lv_at hl 0 rfl) ?_
        refine e_getq hx hb hts in_X10_meet_X10 hown K G 0 (by decide) gl_0 rfl 1 (by decide) 3 rfl (hts (.fieldLink RX10 19 "StreetsStepOn" "told" "LStreetsStepOn$Row;") (e_mem (n := 2) rfl)) dX10_meet_74 ?_
        refine lv_iload_n hx hb dX10_meet_77 rfl (lv_at hl 3 rfl) ?_
        refine lv_i2l hx hb dX10_meet_78 rfl ?_
        refine lv_aload_n hx hb dX10_meet_79 rfl (lv_at hl 0 rfl) ?_
        refine lv_iload_n hx hb dX10_meet_80 rfl (lv_at hl 2 rfl) ?_
        refine lv_iload_n hx hb dX10_meet_81 rfl (lv_at hl 1 rfl) ?_
        exact h.elim
    · have h := h.2 c7
      refine lv_aload_n hx hb dX10_meet_33 rfl (lv_at hl 0 rfl) ?_
      refine lv_iload hx hb dX10_meet_34 (lv_at hl 4 rfl) ?_
      refine lv_iload_n hx hb dX10_meet_36 rfl (lv_at hl 1 rfl) ?_
      exact h.elim
def w_X10_meet (σ : eS) (x1 : Int32) (post : Int32 → eS → Prop) : Prop := w_X10_isChoice σ x1 (σ.1 5 6) (12 : Int32) (fun r2 σ1 => ((¬ r2 = 0 → ∀ v4 : Int32, v4 = (-2 : Int32) → ∀ v5 : Int32, v5 = (0 : Int32) → ∀ v6 : Int32, v6 = (0 : Int32) → (∃ n9 : Nat, b_X10_meet_26 post n9 σ1 x1 v4 v5 v6)) ∧ (r2 = 0 → post (-1 : Int32) σ1)))
set_option maxHeartbeats 4000000 in
set_option maxRecDepth 100000 in
theorem c_X10_meet {l : Launch} {D : va_G} {ρ : Nat → Nat} {κ : Nat → ClassId} {base : Nat} {σ : eS} {x1 : Int32} {post : Int32 → eS → Prop} (h : w_X10_meet σ x1 post) : gMi l yX10_meet wsX10_meet rm_X10_meet D ρ κ base [.ref (ρ (0)), .int (x1)] σ post := by
  refine e_ofWi (cc := cX10_meet) (maxL := 6) (ret := (some .int)) (by decide) rfl (Nat.le_of_ble_eq_true rfl) ?_
  intro p e s m below meth c ls C K G hl
  obtain ⟨hx, hb, hml, hown, hts, hr, hlocks⟩ := id C
  have hl : lv_has ls 6 [(0, .ref (ρ (0))), (1, .int (x1))] := hl
  unfold w_X10_meet at h
  refine lv_iload_n hx hb dX10_meet_0 rfl (lv_at hl 1 rfl) ?_
  refine lv_aload_n hx hb dX10_meet_1 rfl (lv_at hl 0 rfl) ?_
  refine e_getq hx hb hts in_X10_meet_X10 hown K G 0 (by decide) gl_0 rfl 2 (by decide) 5 rfl (hts (.fieldLink RX10 26 "StreetsStepOn" "book" "LStreetsStepOn$Book;") (e_mem (n := 1) rfl)) dX10_meet_2 ?_
  refine e_getiN hx hb hts in_X10_meet_X1 hown K G 5 (by decide) gl_5 rfl 6 (by decide) rfl (e_memq (n := 23) rfl) dX10_meet_5 ?_
  refine lv_bipush (v := (12 : Int32)) hx hb dX10_meet_8 (by decide) ?_
  refine e_callSi (As := [.int (x1), .int (σ.1 5 6), .int ((12 : Int32))]) (rest := []) ⟨hx, hb, hml, hown, hts⟩ K G (c_X10_isChoice h) (va_cwS 3 hts gX10_meet_X10_isChoice rfl rfl rfl (by decide +kernel) ⟨Nat.le_of_ble_eq_true rfl, Nat.le_of_ble_eq_true rfl⟩) rfl hl.1 rfl (Nat.le_of_ble_eq_true rfl) dX10_meet_10 ⟨Nat.zero_le _, Nat.zero_le _⟩ (fun r2 σ1 H locs h G => ?_)
  refine lv_if_ne (tgt := 18) hx hb dX10_meet_13 (by decide) (fun c3 => ?_) (fun c3 => ?_)
  · have h := h.1 c3
    refine lv_bipush (v := (-2 : Int32)) hx hb dX10_meet_18 (by decide) ?_
    refine lv_topi (fun v4 ev4 => ?_)
    have h := h v4 ev4
    refine lv_istore_n (lv' := [(2, .int (v4)), (0, .ref (ρ (0))), (1, .int (x1))]) hx hb dX10_meet_20 rfl hl (by decide) rfl (fun ls hl => ?_)
    refine lv_iconst (v := (0 : Int32)) hx hb dX10_meet_21 (by decide) ?_
    refine lv_topi (fun v5 ev5 => ?_)
    have h := h v5 ev5
    refine lv_istore_n (lv' := [(3, .int (v5)), (2, .int (v4)), (0, .ref (ρ (0))), (1, .int (x1))]) hx hb dX10_meet_22 rfl hl (by decide) rfl (fun ls hl => ?_)
    refine lv_iconst (v := (0 : Int32)) hx hb dX10_meet_23 (by decide) ?_
    refine lv_topi (fun v6 ev6 => ?_)
    have h := h v6 ev6
    refine lv_istore (lv' := [(4, .int (v6)), (3, .int (v5)), (2, .int (v4)), (0, .ref (ρ (0))), (1, .int (x1))]) hx hb dX10_meet_24 hl (by decide) rfl (fun ls hl => ?_)
    obtain ⟨n9, h⟩ := h
    exact l_X10_meet_26 C K n9 σ1 x1 v4 v5 v6 _ _ _  h G (lv_sub hl [3, 4, 2, 1, 0] rfl)
  · have h := h.2 c3
    refine lv_iconst (v := (-1 : Int32)) hx hb dX10_meet_16 (by decide) ?_
    exact e_iret hx hb hr hlocks G h dX10_meet_17
abbrev rm_X11_meet : Room := { frames := 2, cells := 0, slots := 0, locals := 39 }
theorem in_X11_meet_X11 : ∀ w ∈ wsX110, w ∈ wsX11_meet := fun w h => List.mem_cons_of_mem _ (List.mem_append_right _ h)
def b_X11_meet_179 (post : Int32 → eS → Prop) (K45 : eS → Int32 → Int32 → Int32 → Int32 → Int32 → Prop) (σ : eS) (x1 : Int32) (x2 : Int32) (x3 : Int32) (x4 : Int32) (x5 : Int32) : Prop := ∀ v22 : Int32, v22 = (x5 + (1 : Int32)) → K45 σ x1 x2 x3 x4 v22
set_option maxHeartbeats 4000000 in
set_option maxRecDepth 100000 in
theorem l_X11_meet_179 {p : Program} {l : Launch} {e : Env} {s : State} {m : MethodId} {args : Array Value} {below : List Frame} {meth : Method} {c : Code} {D : va_G} {ρ : Nat → Nat} {κ : Nat → ClassId} {base : Nat} {post : Int32 → eS → Prop} (C : eCx p s m args meth c cX11_meet RX11 11 (some .int) wsX11_meet) (K : gK D ρ κ base s) {K45 : eS → Int32 → Int32 → Int32 → Int32 → Int32 → Prop} (hK45 : ∀ (σ : eS) (x1 : Int32) (x2 : Int32) (x3 : Int32) (x4 : Int32) (x5 : Int32) (H : Heap) (locs : List Loc) (ls : Array Slot), K45 σ x1 x2 x3 x4 x5 → gG D ρ κ base s σ H locs → lv_has ls 11 [(0, .ref (ρ (97))), (1, .int (x1)), (2, .int (x2)), (3, .int (x3)), (4, .int (x4)), (5, .int (x5))] → W p l e rm_X11_meet s m args below meth c H locs 0 0 (gQi below args s D ρ κ base post) (F0 m 45 ls [])) : ∀ (σ : eS) (x1 : Int32) (x2 : Int32) (x3 : Int32) (x4 : Int32) (x5 : Int32) (H : Heap) (locs : List Loc) (ls : Array Slot), b_X11_meet_179 post K45 σ x1 x2 x3 x4 x5 → gG D ρ κ base s σ H locs → lv_has ls 11 [(0, .ref (ρ (97))), (1, .int (x1)), (2, .int (x2)), (3, .int (x3)), (4, .int (x4)), (5, .int (x5))] → W p l e rm_X11_meet s m args below meth c H locs 0 0 (gQi below args s D ρ κ base post) (F0 m 179 ls []) := by
  obtain ⟨hx, hb, hml, hown, hts, hr, hlocks⟩ := id C
  intro σ x1 x2 x3 x4 x5 H locs ls h G hl
  unfold b_X11_meet_179 at h
  obtain ⟨v22, ev22⟩ : ∃ y : Int32, y = x5 + (1 : Int32) := ⟨_, rfl⟩
  have h := h v22 ev22
  refine lv_iinc (v := v22) (lv' := [(5, .int (v22)), (0, .ref (ρ (97))), (1, .int (x1)), (2, .int (x2)), (3, .int (x3)), (4, .int (x4))]) hx hb dX11_meet_179 hl (k := 5) rfl (by rw [ev22]; rfl) (by decide) rfl (fun ls hl => ?_)
  refine lv_goto (tgt := 45) hx hb dX11_meet_182 (by decide) ?_
  exact hK45 σ x1 x2 x3 x4 v22 _ _ _  h G (lv_sub hl [1, 2, 3, 4, 5, 0] rfl)
def b_X11_meet_169 (post : Int32 → eS → Prop) (K45 : eS → Int32 → Int32 → Int32 → Int32 → Int32 → Prop) (σ : eS) (x1 : Int32) (x5 : Int32) (x6 : Int32) (x7 : Int32) : Prop := b_X11_meet_179 post K45 σ x1 x5 x6 x7 x5
set_option maxHeartbeats 4000000 in
set_option maxRecDepth 100000 in
theorem l_X11_meet_169 {p : Program} {l : Launch} {e : Env} {s : State} {m : MethodId} {args : Array Value} {below : List Frame} {meth : Method} {c : Code} {D : va_G} {ρ : Nat → Nat} {κ : Nat → ClassId} {base : Nat} {post : Int32 → eS → Prop} (C : eCx p s m args meth c cX11_meet RX11 11 (some .int) wsX11_meet) (K : gK D ρ κ base s) {K45 : eS → Int32 → Int32 → Int32 → Int32 → Int32 → Prop} (hK45 : ∀ (σ : eS) (x1 : Int32) (x2 : Int32) (x3 : Int32) (x4 : Int32) (x5 : Int32) (H : Heap) (locs : List Loc) (ls : Array Slot), K45 σ x1 x2 x3 x4 x5 → gG D ρ κ base s σ H locs → lv_has ls 11 [(0, .ref (ρ (97))), (1, .int (x1)), (2, .int (x2)), (3, .int (x3)), (4, .int (x4)), (5, .int (x5))] → W p l e rm_X11_meet s m args below meth c H locs 0 0 (gQi below args s D ρ κ base post) (F0 m 45 ls [])) : ∀ (σ : eS) (x1 : Int32) (x5 : Int32) (x6 : Int32) (x7 : Int32) (H : Heap) (locs : List Loc) (ls : Array Slot), b_X11_meet_169 post K45 σ x1 x5 x6 x7 → gG D ρ κ base s σ H locs → lv_has ls 11 [(0, .ref (ρ (97))), (1, .int (x1)), (5, .int (x5)), (6, .int (x6)), (7, .int (x7))] → W p l e rm_X11_meet s m args below meth c H locs 0 0 (gQi below args s D ρ κ base post) (F0 m 169 ls []) := by
  obtain ⟨hx, hb, hml, hown, hts, hr, hlocks⟩ := id C
  intro σ x1 x5 x6 x7 H locs ls h G hl
  unfold b_X11_meet_169 at h
  refine lv_iload hx hb dX11_meet_169 (lv_at hl 2 rfl) ?_
  refine lv_istore_n (lv' := [(2, .int (x5)), (0, .ref (ρ (97))), (1, .int (x1)), (5, .int (x5)), (6, .int (x6)), (7, .int (x7))]) hx hb dX11_meet_171 rfl hl (by decide) rfl (fun ls hl => ?_)
  refine lv_iload hx hb dX11_meet_172 (lv_at hl 4 rfl) ?_
  refine lv_istore_n (lv' := [(3, .int (x6)), (2, .int (x5)), (0, .ref (ρ (97))), (1, .int (x1)), (5, .int (x5)), (6, .int (x6)), (7, .int (x7))]) hx hb dX11_meet_174 rfl hl (by decide) rfl (fun ls hl => ?_)
  refine lv_iload hx hb dX11_meet_175 (lv_at hl 6 rfl) ?_
  refine lv_istore (lv' := [(4, .int (x7)), (3, .int (x6)), (2, .int (x5)), (0, .ref (ρ (97))), (1, .int (x1)), (5, .int (x5)), (6, .int (x6)), (7, .int (x7))]) hx hb dX11_meet_177 hl (by decide) rfl (fun ls hl => ?_)
  exact l_X11_meet_179 C K (hK45 := hK45) σ x1 x5 x6 x7 x5 _ _ _  h G (lv_sub hl [3, 4, 2, 1, 0, 5] rfl)
def b_X11_meet_145 (post : Int32 → eS → Prop) (K45 : eS → Int32 → Int32 → Int32 → Int32 → Int32 → Prop) (K64 : eS → Int32 → Int32 → Int32 → Int32 → Int32 → Int32 → Int32 → Int32 → Int32 → Prop) (σ : eS) (x1 : Int32) (x2 : Int32) (x3 : Int32) (x4 : Int32) (x5 : Int32) (x6 : Int32) (x7 : Int32) (x8 : Int32) (x9 : Int32) : Prop := ∀ v28 : Int32, v28 = (x9 + (1 : Int32)) → K64 σ x1 x2 x3 x4 x5 x6 x7 x8 v28
set_option maxHeartbeats 4000000 in
set_option maxRecDepth 100000 in
theorem l_X11_meet_145 {p : Program} {l : Launch} {e : Env} {s : State} {m : MethodId} {args : Array Value} {below : List Frame} {meth : Method} {c : Code} {D : va_G} {ρ : Nat → Nat} {κ : Nat → ClassId} {base : Nat} {post : Int32 → eS → Prop} (C : eCx p s m args meth c cX11_meet RX11 11 (some .int) wsX11_meet) (K : gK D ρ κ base s) {K45 : eS → Int32 → Int32 → Int32 → Int32 → Int32 → Prop} (hK45 : ∀ (σ : eS) (x1 : Int32) (x2 : Int32) (x3 : Int32) (x4 : Int32) (x5 : Int32) (H : Heap) (locs : List Loc) (ls : Array Slot), K45 σ x1 x2 x3 x4 x5 → gG D ρ κ base s σ H locs → lv_has ls 11 [(0, .ref (ρ (97))), (1, .int (x1)), (2, .int (x2)), (3, .int (x3)), (4, .int (x4)), (5, .int (x5))] → W p l e rm_X11_meet s m args below meth c H locs 0 0 (gQi below args s D ρ κ base post) (F0 m 45 ls [])) {K64 : eS → Int32 → Int32 → Int32 → Int32 → Int32 → Int32 → Int32 → Int32 → Int32 → Prop} (hK64 : ∀ (σ : eS) (x1 : Int32) (x2 : Int32) (x3 : Int32) (x4 : Int32) (x5 : Int32) (x6 : Int32) (x7 : Int32) (x8 : Int32) (x9 : Int32) (H : Heap) (locs : List Loc) (ls : Array Slot), K64 σ x1 x2 x3 x4 x5 x6 x7 x8 x9 → gG D ρ κ base s σ H locs → lv_has ls 11 [(0, .ref (ρ (97))), (1, .int (x1)), (2, .int (x2)), (3, .int (x3)), (4, .int (x4)), (5, .int (x5)), (6, .int (x6)), (7, .int (x7)), (8, .int (x8)), (9, .int (x9))] → W p l e rm_X11_meet s m args below meth c H locs 0 0 (gQi below args s D ρ κ base post) (F0 m 64 ls [])) : ∀ (σ : eS) (x1 : Int32) (x2 : Int32) (x3 : Int32) (x4 : Int32) (x5 : Int32) (x6 : Int32) (x7 : Int32) (x8 : Int32) (x9 : Int32) (H : Heap) (locs : List Loc) (ls : Array Slot), b_X11_meet_145 post K45 K64 σ x1 x2 x3 x4 x5 x6 x7 x8 x9 → gG D ρ κ base s σ H locs → lv_has ls 11 [(0, .ref (ρ (97))), (1, .int (x1)), (2, .int (x2)), (3, .int (x3)), (4, .int (x4)), (5, .int (x5)), (6, .int (x6)), (7, .int (x7)), (8, .int (x8)), (9, .int (x9))] → W p l e rm_X11_meet s m args below meth c H locs 0 0 (gQi below args s D ρ κ base post) (F0 m 145 ls []) := by
  obtain ⟨hx, hb, hml, hown, hts, hr, hlocks⟩ := id C
  intro σ x1 x2 x3 x4 x5 x6 x7 x8 x9 H locs ls h G hl
  unfold b_X11_meet_145 at h
  obtain ⟨v28, ev28⟩ : ∃ y : Int32, y = x9 + (1 : Int32) := ⟨_, rfl⟩
  have h := h v28 ev28
  refine lv_iinc (v := v28) (lv' := [(9, .int (v28)), (0, .ref (ρ (97))), (1, .int (x1)), (2, .int (x2)), (3, .int (x3)), (4, .int (x4)), (5, .int (x5)), (6, .int (x6)), (7, .int (x7)), (8, .int (x8))]) hx hb dX11_meet_145 hl (k := 9) rfl (by rw [ev28]; rfl) (by decide) rfl (fun ls hl => ?_)
  refine lv_goto (tgt := 64) hx hb dX11_meet_148 (by decide) ?_
  exact hK64 σ x1 x2 x3 x4 x5 x6 x7 x8 v28 _ _ _  h G (lv_sub hl [1, 2, 3, 4, 5, 6, 7, 8, 9, 0] rfl)
def b_X11_meet_64 (post : Int32 → eS → Prop) (K45 : eS → Int32 → Int32 → Int32 → Int32 → Int32 → Prop) : Nat → eS → Int32 → Int32 → Int32 → Int32 → Int32 → Int32 → Int32 → Int32 → Int32 → Prop
  | 0, _, _, _, _, _, _, _, _, _, _ => False
  | n + 1, σ, x1, x2, x3, x4, x5, x6, x7, x8, x9 => (((σ.1 97 7) ≤ x9 → ((x8 = 0 → b_X11_meet_179 post K45 σ x1 x2 x3 x4 x5) ∧ (¬ (x8 = 0) → ((x2 < 0 → b_X11_meet_169 post K45 σ x1 x5 x6 x7) ∧ (¬ (x2 < 0) → ((x6 < x3 → b_X11_meet_169 post K45 σ x1 x5 x6 x7) ∧ (¬ (x6 < x3) → b_X11_meet_179 post K45 σ x1 x2 x3 x4 x5))))))) ∧ (¬ ((σ.1 97 7) ≤ x9) → w_X11_has σ x1 x9 (fun r26 σ25 => ((¬ r26 = 0 → False) ∧ (r26 = 0 → b_X11_meet_145 post K45 (fun s x1 x2 x3 x4 x5 x6 x7 x8 x9 => b_X11_meet_64 post K45 n s x1 x2 x3 x4 x5 x6 x7 x8 x9) σ25 x1 x2 x3 x4 x5 x6 x7 x8 x9)))))
set_option maxHeartbeats 4000000 in
set_option maxRecDepth 100000 in
theorem l_X11_meet_64 {p : Program} {l : Launch} {e : Env} {s : State} {m : MethodId} {args : Array Value} {below : List Frame} {meth : Method} {c : Code} {D : va_G} {ρ : Nat → Nat} {κ : Nat → ClassId} {base : Nat} {post : Int32 → eS → Prop} (C : eCx p s m args meth c cX11_meet RX11 11 (some .int) wsX11_meet) (K : gK D ρ κ base s) {K45 : eS → Int32 → Int32 → Int32 → Int32 → Int32 → Prop} (hK45 : ∀ (σ : eS) (x1 : Int32) (x2 : Int32) (x3 : Int32) (x4 : Int32) (x5 : Int32) (H : Heap) (locs : List Loc) (ls : Array Slot), K45 σ x1 x2 x3 x4 x5 → gG D ρ κ base s σ H locs → lv_has ls 11 [(0, .ref (ρ (97))), (1, .int (x1)), (2, .int (x2)), (3, .int (x3)), (4, .int (x4)), (5, .int (x5))] → W p l e rm_X11_meet s m args below meth c H locs 0 0 (gQi below args s D ρ κ base post) (F0 m 45 ls [])) : ∀ (n : Nat) (σ : eS) (x1 : Int32) (x2 : Int32) (x3 : Int32) (x4 : Int32) (x5 : Int32) (x6 : Int32) (x7 : Int32) (x8 : Int32) (x9 : Int32) (H : Heap) (locs : List Loc) (ls : Array Slot), b_X11_meet_64 post K45 n σ x1 x2 x3 x4 x5 x6 x7 x8 x9 → gG D ρ κ base s σ H locs → lv_has ls 11 [(0, .ref (ρ (97))), (1, .int (x1)), (2, .int (x2)), (3, .int (x3)), (4, .int (x4)), (5, .int (x5)), (6, .int (x6)), (7, .int (x7)), (8, .int (x8)), (9, .int (x9))] → W p l e rm_X11_meet s m args below meth c H locs 0 0 (gQi below args s D ρ κ base post) (F0 m 64 ls []) := by
  obtain ⟨hx, hb, hml, hown, hts, hr, hlocks⟩ := id C
  intro n
  induction n with
  | zero => intro σ x1 x2 x3 x4 x5 x6 x7 x8 x9 H locs ls h G hl; exact False.elim h
  | succ n ih =>
    intro σ x1 x2 x3 x4 x5 x6 x7 x8 x9 H locs ls h G hl
    rw [b_X11_meet_64] at h
    refine lv_iload hx hb dX11_meet_64 (lv_at hl 9 rfl) ?_
    refine lv_aload_n hx hb dX11_meet_66 rfl (lv_at hl 0 rfl) ?_
    refine e_geti hx hb hts in_X11_meet_X11 hown K G 97 (by decide) gl_97 rfl 7 (by decide) rfl (hts (.fieldLink RX11 114 "StreetsStepOnModel" "letters" "I") (e_mem (n := 2) rfl)) dX11_meet_67 ?_
    refine lv_icmp_ge (tgt := 151) hx hb dX11_meet_70 (by decide) (fun c20 => ?_) (fun c20 => ?_)
    · have h := h.1 c20
      refine lv_iload hx hb dX11_meet_151 (lv_at hl 8 rfl) ?_
      refine lv_if_eq (tgt := 179) hx hb dX11_meet_153 (by decide) (fun c21 => ?_) (fun c21 => ?_)
      · have h := h.1 c21
        exact l_X11_meet_179 C K (hK45 := hK45) σ x1 x2 x3 x4 x5 _ _ _  h G (lv_sub hl [0, 1, 2, 3, 4, 5] rfl)
      · have h := h.2 c21
        refine lv_iload_n hx hb dX11_meet_156 rfl (lv_at hl 2 rfl) ?_
        refine lv_if_lt (tgt := 169) hx hb dX11_meet_157 (by decide) (fun c23 => ?_) (fun c23 => ?_)
        · have h := h.1 c23
          exact l_X11_meet_169 C K (hK45 := hK45) σ x1 x5 x6 x7 _ _ _  h G (lv_sub hl [0, 1, 5, 6, 7] rfl)
        · have h := h.2 c23
          refine lv_iload hx hb dX11_meet_160 (lv_at hl 6 rfl) ?_
          refine lv_iload_n hx hb dX11_meet_162 rfl (lv_at hl 3 rfl) ?_
          refine lv_icmp_lt (tgt := 169) hx hb dX11_meet_163 (by decide) (fun c24 => ?_) (fun c24 => ?_)
          · have h := h.1 c24
            exact l_X11_meet_169 C K (hK45 := hK45) σ x1 x5 x6 x7 _ _ _  h G (lv_sub hl [0, 1, 5, 6, 7] rfl)
          · have h := h.2 c24
            refine lv_goto (tgt := 179) hx hb dX11_meet_166 (by decide) ?_
            exact l_X11_meet_179 C K (hK45 := hK45) σ x1 x2 x3 x4 x5 _ _ _  h G (lv_sub hl [0, 1, 2, 3, 4, 5] rfl)
    · have h := h.2 c20
      refine lv_iload_n hx hb dX11_meet_73 rfl (lv_at hl 1 rfl) ?_
      refine lv_iload hx hb dX11_meet_74 (lv_at hl 9 rfl) ?_
      refine e_callSi (As := [.int (x1), .int (x9)]) (rest := []) ⟨hx, hb, hml, hown, hts⟩ K G (c_X11_has h) (va_cwS 2 hts gX11_meet_X11_has rfl rfl rfl (by decide +kernel) ⟨Nat.le_of_ble_eq_true rfl, Nat.le_of_ble_eq_true rfl⟩) rfl hl.1 rfl (Nat.le_of_ble_eq_true rfl) dX11_meet_76 ⟨Nat.zero_le _, Nat.zero_le _⟩ (fun r26 σ25 H locs h G => ?_)
      refine lv_if_ne (tgt := 85) hx hb dX11_meet_79 (by decide) (fun c27 => ?_) (fun c27 => ?_)
      · have h := h.1 c27
        refine lv_aload_n hx hb dX11_meet_85 rfl (lv_at hl 0 rfl) ?_
        refine e_getq hx hb hts in_X11_meet_X11 hown K G 97 (by decide) gl_97 rfl 24 (by decide) 109 rfl (hts (.fieldLink RX11 45 "StreetsStepOnModel" "fars" "[I") (e_mem (n := 3) rfl)) dX11_meet_86 ?_
        refine lv_bipush (v := (10 : Int32)) hx hb dX11_meet_89 (by decide) ?_
        refine lv_iload hx hb dX11_meet_91 (lv_at hl 5 rfl) ?_
        refine lv_imul hx hb dX11_meet_93 ?_
        refine lv_aload_n hx hb dX11_meet_94 rfl (lv_at hl 0 rfl) ?_
        refine e_getq hx hb hts in_X11_meet_X11 hown K G 97 (by decide) gl_97 rfl 1 (by decide) 98 rfl (hts (.fieldLink RX11 9 "StreetsStepOnModel" "streetA" "[I") (e_mem (n := 4) rfl)) dX11_meet_95 ?_
        refine lv_aload_n hx hb dX11_meet_98 rfl (lv_at hl 0 rfl) ?_
        refine lv_iload hx hb dX11_meet_99 (lv_at hl 9 rfl) ?_
        exact h.elim
      · have h := h.2 c27
        refine lv_goto (tgt := 145) hx hb dX11_meet_82 (by decide) ?_
        exact l_X11_meet_145 C K (hK45 := hK45) (hK64 := ih) σ25 x1 x2 x3 x4 x5 x6 x7 x8 x9 _ _ _  h G (lv_sub hl [0, 1, 2, 3, 4, 5, 6, 7, 8, 9] rfl)
def b_X11_meet_45 (post : Int32 → eS → Prop) : Nat → eS → Int32 → Int32 → Int32 → Int32 → Int32 → Prop
  | 0, _, _, _, _, _, _ => False
  | n + 1, σ, x1, x2, x3, x4, x5 => (((10 : Int32) ≤ x5 → ((0 ≤ x2 → ∀ σ13 : eS, σ13 = e_ui σ 97 17 (0 : Int32) → w_X11_tell σ13 (x3.toInt64) (fun σ14 => w_X11_tell σ14 (x4.toInt64) (fun σ15 => post x2 σ15))) ∧ (¬ (0 ≤ x2) → post (-2 : Int32) σ))) ∧ (¬ ((10 : Int32) ≤ x5) → ∀ v16 : Int32, v16 = (0 : Int32) → ∀ v17 : Int32, v17 = (0 : Int32) → ∀ v18 : Int32, v18 = (1 : Int32) → ∀ v19 : Int32, v19 = (0 : Int32) → (∃ n29 : Nat, b_X11_meet_64 post (fun s x1 x2 x3 x4 x5 => b_X11_meet_45 post n s x1 x2 x3 x4 x5) n29 σ x1 x2 x3 x4 x5 v16 v17 v18 v19)))
set_option maxHeartbeats 4000000 in
set_option maxRecDepth 100000 in
theorem l_X11_meet_45 {p : Program} {l : Launch} {e : Env} {s : State} {m : MethodId} {args : Array Value} {below : List Frame} {meth : Method} {c : Code} {D : va_G} {ρ : Nat → Nat} {κ : Nat → ClassId} {base : Nat} {post : Int32 → eS → Prop} (C : eCx p s m args meth c cX11_meet RX11 11 (some .int) wsX11_meet) (K : gK D ρ κ base s) : ∀ (n : Nat) (σ : eS) (x1 : Int32) (x2 : Int32) (x3 : Int32) (x4 : Int32) (x5 : Int32) (H : Heap) (locs : List Loc) (ls : Array Slot), b_X11_meet_45 post n σ x1 x2 x3 x4 x5 → gG D ρ κ base s σ H locs → lv_has ls 11 [(0, .ref (ρ (97))), (1, .int (x1)), (2, .int (x2)), (3, .int (x3)), (4, .int (x4)), (5, .int (x5))] → W p l e rm_X11_meet s m args below meth c H locs 0 0 (gQi below args s D ρ κ base post) (F0 m 45 ls []) := by
  obtain ⟨hx, hb, hml, hown, hts, hr, hlocks⟩ := id C
  intro n
  induction n with
  | zero => intro σ x1 x2 x3 x4 x5 H locs ls h G hl; exact False.elim h
  | succ n ih =>
    intro σ x1 x2 x3 x4 x5 H locs ls h G hl
    rw [b_X11_meet_45] at h
    refine lv_iload hx hb dX11_meet_45 (lv_at hl 5 rfl) ?_
    refine lv_bipush (v := (10 : Int32)) hx hb dX11_meet_47 (by decide) ?_
    refine lv_icmp_ge (tgt := 185) hx hb dX11_meet_49 (by decide) (fun c11 => ?_) (fun c11 => ?_)
    · have h := h.1 c11
      refine lv_iload_n hx hb dX11_meet_185 rfl (lv_at hl 2 rfl) ?_
      refine lv_if_ge (tgt := 192) hx hb dX11_meet_186 (by decide) (fun c12 => ?_) (fun c12 => ?_)
      · have h := h.1 c12
        refine lv_aload_n hx hb dX11_meet_192 rfl (lv_at hl 0 rfl) ?_
        refine lv_iconst (v := (0 : Int32)) hx hb dX11_meet_193 (by decide) ?_
        refine e_puti hx hb hts in_X11_meet_X11 tyX11 tyX11_ok nmX11 hown K G 97 (by decide) gl_97 rfl 17 (by decide) rfl (hts (.fieldLink RX11 101 "StreetsStepOnModel" "rowMany" "I") (e_mem (n := 9) rfl)) rfl (tyX11_ok 17 (by decide)) rfl rfl dX11_meet_194 (fun H locs G => ?_)
        obtain ⟨σ13, eσ13⟩ : ∃ z : eS, z = e_ui σ 97 17 (0 : Int32) := ⟨_, rfl⟩
        rw [← eσ13] at G
        have h := h σ13 eσ13
        refine lv_aload_n hx hb dX11_meet_197 rfl (lv_at hl 0 rfl) ?_
        refine lv_iload_n hx hb dX11_meet_198 rfl (lv_at hl 3 rfl) ?_
        refine lv_i2l hx hb dX11_meet_199 rfl ?_
        refine e_callVv (As := [.long (x3.toInt64)]) (rest := []) ⟨hx, hb, hml, hown, hts⟩ K G 97 (by decide) gl_97 rfl (c_X11_tell h) (cwV 1 hts gX11_meet_X11_tell rfl rfl rfl (by decide +kernel) ⟨Nat.le_of_ble_eq_true rfl, Nat.le_of_ble_eq_true rfl⟩) rfl hl.1 rfl (Nat.le_of_ble_eq_true rfl) dX11_meet_200 ⟨Nat.zero_le _, Nat.zero_le _⟩ (fun σ14 H locs h G => ?_)
        refine lv_aload_n hx hb dX11_meet_203 rfl (lv_at hl 0 rfl) ?_
        refine lv_iload hx hb dX11_meet_204 (lv_at hl 4 rfl) ?_
        refine lv_i2l hx hb dX11_meet_206 rfl ?_
        refine e_callVv (As := [.long (x4.toInt64)]) (rest := []) ⟨hx, hb, hml, hown, hts⟩ K G 97 (by decide) gl_97 rfl (c_X11_tell h) (cwV 1 hts gX11_meet_X11_tell rfl rfl rfl (by decide +kernel) ⟨Nat.le_of_ble_eq_true rfl, Nat.le_of_ble_eq_true rfl⟩) rfl hl.1 rfl (Nat.le_of_ble_eq_true rfl) dX11_meet_207 ⟨Nat.zero_le _, Nat.zero_le _⟩ (fun σ15 H locs h G => ?_)
        refine lv_iload_n hx hb dX11_meet_210 rfl (lv_at hl 2 rfl) ?_
        exact e_iret hx hb hr hlocks G h dX11_meet_211
      · have h := h.2 c12
        refine lv_bipush (v := (-2 : Int32)) hx hb dX11_meet_189 (by decide) ?_
        exact e_iret hx hb hr hlocks G h dX11_meet_191
    · have h := h.2 c11
      refine lv_iconst (v := (0 : Int32)) hx hb dX11_meet_52 (by decide) ?_
      refine lv_topi (fun v16 ev16 => ?_)
      have h := h v16 ev16
      refine lv_istore (lv' := [(6, .int (v16)), (0, .ref (ρ (97))), (1, .int (x1)), (2, .int (x2)), (3, .int (x3)), (4, .int (x4)), (5, .int (x5))]) hx hb dX11_meet_53 hl (by decide) rfl (fun ls hl => ?_)
      refine lv_iconst (v := (0 : Int32)) hx hb dX11_meet_55 (by decide) ?_
      refine lv_topi (fun v17 ev17 => ?_)
      have h := h v17 ev17
      refine lv_istore (lv' := [(7, .int (v17)), (6, .int (v16)), (0, .ref (ρ (97))), (1, .int (x1)), (2, .int (x2)), (3, .int (x3)), (4, .int (x4)), (5, .int (x5))]) hx hb dX11_meet_56 hl (by decide) rfl (fun ls hl => ?_)
      refine lv_iconst (v := (1 : Int32)) hx hb dX11_meet_58 (by decide) ?_
      refine lv_topi (fun v18 ev18 => ?_)
      have h := h v18 ev18
      refine lv_istore (lv' := [(8, .int (v18)), (7, .int (v17)), (6, .int (v16)), (0, .ref (ρ (97))), (1, .int (x1)), (2, .int (x2)), (3, .int (x3)), (4, .int (x4)), (5, .int (x5))]) hx hb dX11_meet_59 hl (by decide) rfl (fun ls hl => ?_)
      refine lv_iconst (v := (0 : Int32)) hx hb dX11_meet_61 (by decide) ?_
      refine lv_topi (fun v19 ev19 => ?_)
      have h := h v19 ev19
      refine lv_istore (lv' := [(9, .int (v19)), (8, .int (v18)), (7, .int (v17)), (6, .int (v16)), (0, .ref (ρ (97))), (1, .int (x1)), (2, .int (x2)), (3, .int (x3)), (4, .int (x4)), (5, .int (x5))]) hx hb dX11_meet_62 hl (by decide) rfl (fun ls hl => ?_)
      obtain ⟨n29, h⟩ := h
      exact l_X11_meet_64 C K (hK45 := ih) n29 σ x1 x2 x3 x4 x5 v16 v17 v18 v19 _ _ _  h G (lv_sub hl [4, 5, 6, 7, 8, 9, 3, 2, 1, 0] rfl)
def w_X11_meet (σ : eS) (x1 : Int32) (post : Int32 → eS → Prop) : Prop := ∀ σ1 : eS, σ1 = e_ui σ 97 18 (0 : Int32) → w_X11_in σ1 (x1.toInt64) (1 : Int64) ((((1 : Int32) <<< ((σ1.1 97 7) &&& 31)) - (1 : Int32)).toInt64) (fun r3 σ2 => ((¬ r3 = 0 → w_X11_layOut σ2 (0 : Int32) (fun σ5 => w_X11_findFar σ5 (fun σ6 => ∀ v7 : Int32, v7 = (-2 : Int32) → ∀ v8 : Int32, v8 = (0 : Int32) → ∀ v9 : Int32, v9 = (0 : Int32) → ∀ v10 : Int32, v10 = (0 : Int32) → (∃ n30 : Nat, b_X11_meet_45 post n30 σ6 x1 v7 v8 v9 v10)))) ∧ (r3 = 0 → post (-1 : Int32) σ2)))
set_option maxHeartbeats 4000000 in
set_option maxRecDepth 100000 in
theorem c_X11_meet {l : Launch} {D : va_G} {ρ : Nat → Nat} {κ : Nat → ClassId} {base : Nat} {σ : eS} {x1 : Int32} {post : Int32 → eS → Prop} (h : w_X11_meet σ x1 post) : gMi l yX11_meet wsX11_meet rm_X11_meet D ρ κ base [.ref (ρ (97)), .int (x1)] σ post := by
  refine e_ofWi (cc := cX11_meet) (maxL := 11) (ret := (some .int)) (by decide) rfl (Nat.le_of_ble_eq_true rfl) ?_
  intro p e s m below meth c ls C K G hl
  obtain ⟨hx, hb, hml, hown, hts, hr, hlocks⟩ := id C
  have hl : lv_has ls 11 [(0, .ref (ρ (97))), (1, .int (x1))] := hl
  unfold w_X11_meet at h
  refine lv_aload_n hx hb dX11_meet_0 rfl (lv_at hl 0 rfl) ?_
  refine lv_iconst (v := (0 : Int32)) hx hb dX11_meet_1 (by decide) ?_
  refine e_puti hx hb hts in_X11_meet_X11 tyX11 tyX11_ok nmX11 hown K G 97 (by decide) gl_97 rfl 18 (by decide) rfl (hts (.fieldLink RX11 98 "StreetsStepOnModel" "thrown" "I") (e_mem (n := 1) rfl)) rfl (tyX11_ok 18 (by decide)) rfl rfl dX11_meet_2 (fun H locs G => ?_)
  obtain ⟨σ1, eσ1⟩ : ∃ z : eS, z = e_ui σ 97 18 (0 : Int32) := ⟨_, rfl⟩
  rw [← eσ1] at G
  have h := h σ1 eσ1
  refine lv_iload_n hx hb dX11_meet_5 rfl (lv_at hl 1 rfl) ?_
  refine lv_i2l hx hb dX11_meet_6 rfl ?_
  refine lv_lconst (v := (1 : Int64)) hx hb dX11_meet_7 (by decide) ?_
  refine lv_iconst (v := (1 : Int32)) hx hb dX11_meet_8 (by decide) ?_
  refine lv_aload_n hx hb dX11_meet_9 rfl (lv_at hl 0 rfl) ?_
  refine e_geti hx hb hts in_X11_meet_X11 hown K G 97 (by decide) gl_97 rfl 7 (by decide) rfl (hts (.fieldLink RX11 114 "StreetsStepOnModel" "letters" "I") (e_mem (n := 2) rfl)) dX11_meet_10 ?_
  refine lv_ishl hx hb dX11_meet_13 ?_
  refine lv_iconst (v := (1 : Int32)) hx hb dX11_meet_14 (by decide) ?_
  refine lv_isub hx hb dX11_meet_15 ?_
  refine lv_i2l hx hb dX11_meet_16 rfl ?_
  refine e_callSi (As := [.long (x1.toInt64), .long ((1 : Int64)), .long ((((1 : Int32) <<< ((σ1.1 97 7) &&& 31)) - (1 : Int32)).toInt64)]) (rest := []) ⟨hx, hb, hml, hown, hts⟩ K G (c_X11_in h) (va_cwS 3 hts gX11_meet_X11_in rfl rfl rfl (by decide +kernel) ⟨Nat.le_of_ble_eq_true rfl, Nat.le_of_ble_eq_true rfl⟩) rfl hl.1 rfl (Nat.le_of_ble_eq_true rfl) dX11_meet_17 ⟨Nat.zero_le _, Nat.zero_le _⟩ (fun r3 σ2 H locs h G => ?_)
  refine lv_if_ne (tgt := 25) hx hb dX11_meet_20 (by decide) (fun c4 => ?_) (fun c4 => ?_)
  · have h := h.1 c4
    refine lv_aload_n hx hb dX11_meet_25 rfl (lv_at hl 0 rfl) ?_
    refine lv_iconst (v := (0 : Int32)) hx hb dX11_meet_26 (by decide) ?_
    refine e_callVv (As := [.int ((0 : Int32))]) (rest := []) ⟨hx, hb, hml, hown, hts⟩ K G 97 (by decide) gl_97 rfl (c_X11_layOut h) (cwV 1 hts gX11_meet_X11_layOut rfl rfl rfl (by decide +kernel) ⟨Nat.le_of_ble_eq_true rfl, Nat.le_of_ble_eq_true rfl⟩) rfl hl.1 rfl (Nat.le_of_ble_eq_true rfl) dX11_meet_27 ⟨Nat.zero_le _, Nat.zero_le _⟩ (fun σ5 H locs h G => ?_)
    refine lv_aload_n hx hb dX11_meet_30 rfl (lv_at hl 0 rfl) ?_
    refine e_callVv (As := []) (rest := []) ⟨hx, hb, hml, hown, hts⟩ K G 97 (by decide) gl_97 rfl (c_X11_findFar h) (cwV 0 hts gX11_meet_X11_findFar rfl rfl rfl (by decide +kernel) ⟨Nat.le_of_ble_eq_true rfl, Nat.le_of_ble_eq_true rfl⟩) rfl hl.1 rfl (Nat.le_of_ble_eq_true rfl) dX11_meet_31 ⟨Nat.zero_le _, Nat.zero_le _⟩ (fun σ6 H locs h G => ?_)
    refine lv_bipush (v := (-2 : Int32)) hx hb dX11_meet_34 (by decide) ?_
    refine lv_topi (fun v7 ev7 => ?_)
    have h := h v7 ev7
    refine lv_istore_n (lv' := [(2, .int (v7)), (0, .ref (ρ (97))), (1, .int (x1))]) hx hb dX11_meet_36 rfl hl (by decide) rfl (fun ls hl => ?_)
    refine lv_iconst (v := (0 : Int32)) hx hb dX11_meet_37 (by decide) ?_
    refine lv_topi (fun v8 ev8 => ?_)
    have h := h v8 ev8
    refine lv_istore_n (lv' := [(3, .int (v8)), (2, .int (v7)), (0, .ref (ρ (97))), (1, .int (x1))]) hx hb dX11_meet_38 rfl hl (by decide) rfl (fun ls hl => ?_)
    refine lv_iconst (v := (0 : Int32)) hx hb dX11_meet_39 (by decide) ?_
    refine lv_topi (fun v9 ev9 => ?_)
    have h := h v9 ev9
    refine lv_istore (lv' := [(4, .int (v9)), (3, .int (v8)), (2, .int (v7)), (0, .ref (ρ (97))), (1, .int (x1))]) hx hb dX11_meet_40 hl (by decide) rfl (fun ls hl => ?_)
    refine lv_iconst (v := (0 : Int32)) hx hb dX11_meet_42 (by decide) ?_
    refine lv_topi (fun v10 ev10 => ?_)
    have h := h v10 ev10
    refine lv_istore (lv' := [(5, .int (v10)), (4, .int (v9)), (3, .int (v8)), (2, .int (v7)), (0, .ref (ρ (97))), (1, .int (x1))]) hx hb dX11_meet_43 hl (by decide) rfl (fun ls hl => ?_)
    obtain ⟨n30, h⟩ := h
    exact l_X11_meet_45 C K n30 σ6 x1 v7 v8 v9 v10 _ _ _  h G (lv_sub hl [4, 5, 3, 2, 1, 0] rfl)
  · have h := h.2 c4
    refine lv_iconst (v := (-1 : Int32)) hx hb dX11_meet_23 (by decide) ?_
    exact e_iret hx hb hr hlocks G h dX11_meet_24
abbrev rm_X10_wish : Room := { frames := 1, cells := 0, slots := 0, locals := 21 }
theorem in_X10_wish_X10 : ∀ w ∈ wsX100, w ∈ wsX10_wish := fun w h => List.mem_cons_of_mem _ (List.mem_append_left _ (List.mem_append_left _ (List.mem_append_right _ h)))
def b_X10_wish_97 (post : Int32 → eS → Prop) (σ : eS) (x1 : Int32) (x2 : Int32) (x3 : Int32) (x4 : Int32) : Prop := ((x4 = 0 → post (-1 : Int32) σ) ∧ (¬ (x4 = 0) → False))
set_option maxHeartbeats 4000000 in
set_option maxRecDepth 100000 in
theorem l_X10_wish_97 {p : Program} {l : Launch} {e : Env} {s : State} {m : MethodId} {args : Array Value} {below : List Frame} {meth : Method} {c : Code} {D : va_G} {ρ : Nat → Nat} {κ : Nat → ClassId} {base : Nat} {post : Int32 → eS → Prop} (C : eCx p s m args meth c cX10_wish RX10 5 (some .int) wsX10_wish) (K : gK D ρ κ base s) : ∀ (σ : eS) (x1 : Int32) (x2 : Int32) (x3 : Int32) (x4 : Int32) (H : Heap) (locs : List Loc) (ls : Array Slot), b_X10_wish_97 post σ x1 x2 x3 x4 → gG D ρ κ base s σ H locs → lv_has ls 5 [(0, .ref (ρ (0))), (1, .int (x1)), (2, .int (x2)), (3, .int (x3)), (4, .int (x4))] → W p l e rm_X10_wish s m args below meth c H locs 0 0 (gQi below args s D ρ κ base post) (F0 m 97 ls []) := by
  obtain ⟨hx, hb, hml, hown, hts, hr, hlocks⟩ := id C
  intro σ x1 x2 x3 x4 H locs ls h G hl
  unfold b_X10_wish_97 at h
  refine lv_iload hx hb dX10_wish_97 (lv_at hl 4 rfl) ?_
  refine lv_if_eq (tgt := 115) hx hb dX10_wish_99 (by decide) (fun c8 => ?_) (fun c8 => ?_)
  · have h := h.1 c8
    refine lv_iconst (v := (-1 : Int32)) hx hb dX10_wish_115 (by decide) ?_
    exact e_iret hx hb hr hlocks G h dX10_wish_116
  · have h := h.2 c8
    refine lv_aload_n hx hb dX10_wish_102 rfl (lv_at hl 0 rfl) ?_
    refine e_getq hx hb hts in_X10_wish_X10 hown K G 0 (by decide) gl_0 rfl 8 (by decide) 41 rfl (hts (.fieldLink RX10 65 "StreetsStepOn" "council" "LStreetsStepOn$Council;") (e_mem (n := 1) rfl)) dX10_wish_103 ?_
    refine lv_iload_n hx hb dX10_wish_106 rfl (lv_at hl 1 rfl) ?_
    refine lv_iload_n hx hb dX10_wish_107 rfl (lv_at hl 2 rfl) ?_
    refine lv_iload_n hx hb dX10_wish_108 rfl (lv_at hl 3 rfl) ?_
    exact h.elim
def b_X10_wish_58 (post : Int32 → eS → Prop) (σ : eS) (x1 : Int32) (x2 : Int32) (x3 : Int32) (y0 : Int32) : Prop := b_X10_wish_97 post σ x1 x2 x3 y0
set_option maxHeartbeats 4000000 in
set_option maxRecDepth 100000 in
theorem l_X10_wish_58 {p : Program} {l : Launch} {e : Env} {s : State} {m : MethodId} {args : Array Value} {below : List Frame} {meth : Method} {c : Code} {D : va_G} {ρ : Nat → Nat} {κ : Nat → ClassId} {base : Nat} {post : Int32 → eS → Prop} (C : eCx p s m args meth c cX10_wish RX10 5 (some .int) wsX10_wish) (K : gK D ρ κ base s) : ∀ (σ : eS) (x1 : Int32) (x2 : Int32) (x3 : Int32) (y0 : Int32) (H : Heap) (locs : List Loc) (ls : Array Slot), b_X10_wish_58 post σ x1 x2 x3 y0 → gG D ρ κ base s σ H locs → lv_has ls 5 [(0, .ref (ρ (0))), (1, .int (x1)), (2, .int (x2)), (3, .int (x3))] → W p l e rm_X10_wish s m args below meth c H locs 0 0 (gQi below args s D ρ κ base post) (F0 m 58 ls [.int (y0)]) := by
  obtain ⟨hx, hb, hml, hown, hts, hr, hlocks⟩ := id C
  intro σ x1 x2 x3 y0 H locs ls h G hl
  unfold b_X10_wish_58 at h
  refine lv_istore (lv' := [(4, .int (y0)), (0, .ref (ρ (0))), (1, .int (x1)), (2, .int (x2)), (3, .int (x3))]) hx hb dX10_wish_58 hl (by decide) rfl (fun ls hl => ?_)
  refine lv_goto (tgt := 97) hx hb dX10_wish_60 (by decide) ?_
  exact l_X10_wish_97 C K σ x1 x2 x3 y0 _ _ _  h G (lv_sub hl [1, 2, 3, 4, 0] rfl)
def b_X10_wish_57 (post : Int32 → eS → Prop) (σ : eS) (x1 : Int32) (x2 : Int32) (x3 : Int32) : Prop := b_X10_wish_58 post σ x1 x2 x3 (0 : Int32)
set_option maxHeartbeats 4000000 in
set_option maxRecDepth 100000 in
theorem l_X10_wish_57 {p : Program} {l : Launch} {e : Env} {s : State} {m : MethodId} {args : Array Value} {below : List Frame} {meth : Method} {c : Code} {D : va_G} {ρ : Nat → Nat} {κ : Nat → ClassId} {base : Nat} {post : Int32 → eS → Prop} (C : eCx p s m args meth c cX10_wish RX10 5 (some .int) wsX10_wish) (K : gK D ρ κ base s) : ∀ (σ : eS) (x1 : Int32) (x2 : Int32) (x3 : Int32) (H : Heap) (locs : List Loc) (ls : Array Slot), b_X10_wish_57 post σ x1 x2 x3 → gG D ρ κ base s σ H locs → lv_has ls 5 [(0, .ref (ρ (0))), (1, .int (x1)), (2, .int (x2)), (3, .int (x3))] → W p l e rm_X10_wish s m args below meth c H locs 0 0 (gQi below args s D ρ κ base post) (F0 m 57 ls []) := by
  obtain ⟨hx, hb, hml, hown, hts, hr, hlocks⟩ := id C
  intro σ x1 x2 x3 H locs ls h G hl
  unfold b_X10_wish_57 at h
  refine lv_iconst (v := (0 : Int32)) hx hb dX10_wish_57 (by decide) ?_
  exact l_X10_wish_58 C K σ x1 x2 x3 (0 : Int32) _ _ _  h G (lv_sub hl [0, 1, 2, 3] rfl)
def b_X10_wish_79 (post : Int32 → eS → Prop) (σ : eS) (x1 : Int32) (x2 : Int32) (x3 : Int32) (y0 : Int32) : Prop := b_X10_wish_97 post σ x1 x2 x3 y0
set_option maxHeartbeats 4000000 in
set_option maxRecDepth 100000 in
theorem l_X10_wish_79 {p : Program} {l : Launch} {e : Env} {s : State} {m : MethodId} {args : Array Value} {below : List Frame} {meth : Method} {c : Code} {D : va_G} {ρ : Nat → Nat} {κ : Nat → ClassId} {base : Nat} {post : Int32 → eS → Prop} (C : eCx p s m args meth c cX10_wish RX10 5 (some .int) wsX10_wish) (K : gK D ρ κ base s) : ∀ (σ : eS) (x1 : Int32) (x2 : Int32) (x3 : Int32) (y0 : Int32) (H : Heap) (locs : List Loc) (ls : Array Slot), b_X10_wish_79 post σ x1 x2 x3 y0 → gG D ρ κ base s σ H locs → lv_has ls 5 [(0, .ref (ρ (0))), (1, .int (x1)), (2, .int (x2)), (3, .int (x3))] → W p l e rm_X10_wish s m args below meth c H locs 0 0 (gQi below args s D ρ κ base post) (F0 m 79 ls [.int (y0)]) := by
  obtain ⟨hx, hb, hml, hown, hts, hr, hlocks⟩ := id C
  intro σ x1 x2 x3 y0 H locs ls h G hl
  unfold b_X10_wish_79 at h
  refine lv_istore (lv' := [(4, .int (y0)), (0, .ref (ρ (0))), (1, .int (x1)), (2, .int (x2)), (3, .int (x3))]) hx hb dX10_wish_79 hl (by decide) rfl (fun ls hl => ?_)
  refine lv_goto (tgt := 97) hx hb dX10_wish_81 (by decide) ?_
  exact l_X10_wish_97 C K σ x1 x2 x3 y0 _ _ _  h G (lv_sub hl [1, 2, 3, 4, 0] rfl)
def b_X10_wish_78 (post : Int32 → eS → Prop) (σ : eS) (x1 : Int32) (x2 : Int32) (x3 : Int32) : Prop := b_X10_wish_79 post σ x1 x2 x3 (0 : Int32)
set_option maxHeartbeats 4000000 in
set_option maxRecDepth 100000 in
theorem l_X10_wish_78 {p : Program} {l : Launch} {e : Env} {s : State} {m : MethodId} {args : Array Value} {below : List Frame} {meth : Method} {c : Code} {D : va_G} {ρ : Nat → Nat} {κ : Nat → ClassId} {base : Nat} {post : Int32 → eS → Prop} (C : eCx p s m args meth c cX10_wish RX10 5 (some .int) wsX10_wish) (K : gK D ρ κ base s) : ∀ (σ : eS) (x1 : Int32) (x2 : Int32) (x3 : Int32) (H : Heap) (locs : List Loc) (ls : Array Slot), b_X10_wish_78 post σ x1 x2 x3 → gG D ρ κ base s σ H locs → lv_has ls 5 [(0, .ref (ρ (0))), (1, .int (x1)), (2, .int (x2)), (3, .int (x3))] → W p l e rm_X10_wish s m args below meth c H locs 0 0 (gQi below args s D ρ κ base post) (F0 m 78 ls []) := by
  obtain ⟨hx, hb, hml, hown, hts, hr, hlocks⟩ := id C
  intro σ x1 x2 x3 H locs ls h G hl
  unfold b_X10_wish_78 at h
  refine lv_iconst (v := (0 : Int32)) hx hb dX10_wish_78 (by decide) ?_
  exact l_X10_wish_79 C K σ x1 x2 x3 (0 : Int32) _ _ _  h G (lv_sub hl [0, 1, 2, 3] rfl)
def b_X10_wish_63 (post : Int32 → eS → Prop) (σ : eS) (x1 : Int32) (x2 : Int32) (x3 : Int32) : Prop := ((x3 < (1 : Int32) → b_X10_wish_78 post σ x1 x2 x3) ∧ (¬ (x3 < (1 : Int32)) → (((12 : Int32) < x3 → b_X10_wish_78 post σ x1 x2 x3) ∧ (¬ ((12 : Int32) < x3) → b_X10_wish_79 post σ x1 x2 x3 (1 : Int32)))))
set_option maxHeartbeats 4000000 in
set_option maxRecDepth 100000 in
theorem l_X10_wish_63 {p : Program} {l : Launch} {e : Env} {s : State} {m : MethodId} {args : Array Value} {below : List Frame} {meth : Method} {c : Code} {D : va_G} {ρ : Nat → Nat} {κ : Nat → ClassId} {base : Nat} {post : Int32 → eS → Prop} (C : eCx p s m args meth c cX10_wish RX10 5 (some .int) wsX10_wish) (K : gK D ρ κ base s) : ∀ (σ : eS) (x1 : Int32) (x2 : Int32) (x3 : Int32) (H : Heap) (locs : List Loc) (ls : Array Slot), b_X10_wish_63 post σ x1 x2 x3 → gG D ρ κ base s σ H locs → lv_has ls 5 [(0, .ref (ρ (0))), (1, .int (x1)), (2, .int (x2)), (3, .int (x3))] → W p l e rm_X10_wish s m args below meth c H locs 0 0 (gQi below args s D ρ κ base post) (F0 m 63 ls []) := by
  obtain ⟨hx, hb, hml, hown, hts, hr, hlocks⟩ := id C
  intro σ x1 x2 x3 H locs ls h G hl
  unfold b_X10_wish_63 at h
  refine lv_iload_n hx hb dX10_wish_63 rfl (lv_at hl 3 rfl) ?_
  refine lv_iconst (v := (1 : Int32)) hx hb dX10_wish_64 (by decide) ?_
  refine lv_icmp_lt (tgt := 78) hx hb dX10_wish_65 (by decide) (fun c11 => ?_) (fun c11 => ?_)
  · have h := h.1 c11
    exact l_X10_wish_78 C K σ x1 x2 x3 _ _ _  h G (lv_sub hl [0, 1, 2, 3] rfl)
  · have h := h.2 c11
    refine lv_iload_n hx hb dX10_wish_68 rfl (lv_at hl 3 rfl) ?_
    refine lv_bipush (v := (12 : Int32)) hx hb dX10_wish_69 (by decide) ?_
    refine lv_icmp_gt (tgt := 78) hx hb dX10_wish_71 (by decide) (fun c12 => ?_) (fun c12 => ?_)
    · have h := h.1 c12
      exact l_X10_wish_78 C K σ x1 x2 x3 _ _ _  h G (lv_sub hl [0, 1, 2, 3] rfl)
    · have h := h.2 c12
      refine lv_iconst (v := (1 : Int32)) hx hb dX10_wish_74 (by decide) ?_
      refine lv_goto (tgt := 79) hx hb dX10_wish_75 (by decide) ?_
      exact l_X10_wish_79 C K σ x1 x2 x3 (1 : Int32) _ _ _  h G (lv_sub hl [0, 1, 2, 3] rfl)
def w_X10_wish (σ : eS) (x1 : Int32) (x2 : Int32) (x3 : Int32) (post : Int32 → eS → Prop) : Prop := w_X10_isStreet σ x2 (fun r2 σ1 => ((¬ r2 = 0 → ((x1 = (0 : Int32) → w_X10_isStreet σ1 x3 (fun r6 σ5 => ((r6 = 0 → b_X10_wish_57 post σ5 x1 x2 x3) ∧ (¬ (r6 = 0) → ((x3 = x2 → b_X10_wish_57 post σ5 x1 x2 x3) ∧ (¬ (x3 = x2) → b_X10_wish_58 post σ5 x1 x2 x3 (1 : Int32))))))) ∧ (¬ (x1 = (0 : Int32)) → ((x1 = (1 : Int32) → b_X10_wish_63 post σ1 x1 x2 x3) ∧ (¬ (x1 = (1 : Int32)) → ((x1 = (2 : Int32) → b_X10_wish_63 post σ1 x1 x2 x3) ∧ (¬ (x1 = (2 : Int32)) → ((x1 = (3 : Int32) → w_X10_isStreet σ1 x3 (fun r16 σ15 => b_X10_wish_97 post σ15 x1 x2 x3 r16)) ∧ (¬ (x1 = (3 : Int32)) → ∀ v17 : Int32, v17 = (0 : Int32) → b_X10_wish_97 post σ1 x1 x2 x3 v17))))))))) ∧ (r2 = 0 → post (-1 : Int32) σ1)))
set_option maxHeartbeats 4000000 in
set_option maxRecDepth 100000 in
theorem c_X10_wish {l : Launch} {D : va_G} {ρ : Nat → Nat} {κ : Nat → ClassId} {base : Nat} {σ : eS} {x1 : Int32} {x2 : Int32} {x3 : Int32} {post : Int32 → eS → Prop} (h : w_X10_wish σ x1 x2 x3 post) : gMi l yX10_wish wsX10_wish rm_X10_wish D ρ κ base [.ref (ρ (0)), .int (x1), .int (x2), .int (x3)] σ post := by
  refine e_ofWi (cc := cX10_wish) (maxL := 5) (ret := (some .int)) (by decide) rfl (Nat.le_of_ble_eq_true rfl) ?_
  intro p e s m below meth c ls C K G hl
  obtain ⟨hx, hb, hml, hown, hts, hr, hlocks⟩ := id C
  have hl : lv_has ls 5 [(0, .ref (ρ (0))), (1, .int (x1)), (2, .int (x2)), (3, .int (x3))] := hl
  unfold w_X10_wish at h
  refine lv_aload_n hx hb dX10_wish_0 rfl (lv_at hl 0 rfl) ?_
  refine lv_iload_n hx hb dX10_wish_1 rfl (lv_at hl 2 rfl) ?_
  refine e_callVi (As := [.int (x2)]) (rest := []) ⟨hx, hb, hml, hown, hts⟩ K G 0 (by decide) gl_0 rfl (c_X10_isStreet h) (cwV 1 hts gX10_wish_X10_isStreet rfl rfl rfl (by decide +kernel) ⟨Nat.le_of_ble_eq_true rfl, Nat.le_of_ble_eq_true rfl⟩) rfl hl.1 rfl (Nat.le_of_ble_eq_true rfl) dX10_wish_2 ⟨Nat.zero_le _, Nat.zero_le _⟩ (fun r2 σ1 H locs h G => ?_)
  refine lv_if_ne (tgt := 10) hx hb dX10_wish_5 (by decide) (fun c3 => ?_) (fun c3 => ?_)
  · have h := h.1 c3
    refine lv_iload_n hx hb dX10_wish_10 rfl (lv_at hl 1 rfl) ?_
    by_cases c4 : x1 = (0 : Int32)
    · have h := h.1 c4
      refine lv_tableIn (tgt := 40) hx hb dX10_wish_11 (by rw [c4]; decide) (by rw [c4]; decide) (by rw [c4]; rfl) (by decide) ?_
      refine lv_aload_n hx hb dX10_wish_40 rfl (lv_at hl 0 rfl) ?_
      refine lv_iload_n hx hb dX10_wish_41 rfl (lv_at hl 3 rfl) ?_
      refine e_callVi (As := [.int (x3)]) (rest := []) ⟨hx, hb, hml, hown, hts⟩ K G 0 (by decide) gl_0 rfl (c_X10_isStreet h) (cwV 1 hts gX10_wish_X10_isStreet rfl rfl rfl (by decide +kernel) ⟨Nat.le_of_ble_eq_true rfl, Nat.le_of_ble_eq_true rfl⟩) rfl hl.1 rfl (Nat.le_of_ble_eq_true rfl) dX10_wish_42 ⟨Nat.zero_le _, Nat.zero_le _⟩ (fun r6 σ5 H locs h G => ?_)
      refine lv_if_eq (tgt := 57) hx hb dX10_wish_45 (by decide) (fun c7 => ?_) (fun c7 => ?_)
      · have h := h.1 c7
        exact l_X10_wish_57 C K σ5 x1 x2 x3 _ _ _  h G (lv_sub hl [0, 1, 2, 3] rfl)
      · have h := h.2 c7
        refine lv_iload_n hx hb dX10_wish_48 rfl (lv_at hl 3 rfl) ?_
        refine lv_iload_n hx hb dX10_wish_49 rfl (lv_at hl 2 rfl) ?_
        refine lv_icmp_eq (tgt := 57) hx hb dX10_wish_50 (by decide) (fun c9 => ?_) (fun c9 => ?_)
        · have h := h.1 c9
          exact l_X10_wish_57 C K σ5 x1 x2 x3 _ _ _  h G (lv_sub hl [0, 1, 2, 3] rfl)
        · have h := h.2 c9
          refine lv_iconst (v := (1 : Int32)) hx hb dX10_wish_53 (by decide) ?_
          refine lv_goto (tgt := 58) hx hb dX10_wish_54 (by decide) ?_
          exact l_X10_wish_58 C K σ5 x1 x2 x3 (1 : Int32) _ _ _  h G (lv_sub hl [0, 1, 2, 3] rfl)
    · have h := h.2 c4
      by_cases c10 : x1 = (1 : Int32)
      · have h := h.1 c10
        refine lv_tableIn (tgt := 63) hx hb dX10_wish_11 (by rw [c10]; decide) (by rw [c10]; decide) (by rw [c10]; rfl) (by decide) ?_
        exact l_X10_wish_63 C K σ1 x1 x2 x3 _ _ _  h G (lv_sub hl [0, 1, 2, 3] rfl)
      · have h := h.2 c10
        by_cases c13 : x1 = (2 : Int32)
        · have h := h.1 c13
          refine lv_tableIn (tgt := 63) hx hb dX10_wish_11 (by rw [c13]; decide) (by rw [c13]; decide) (by rw [c13]; rfl) (by decide) ?_
          exact l_X10_wish_63 C K σ1 x1 x2 x3 _ _ _  h G (lv_sub hl [0, 1, 2, 3] rfl)
        · have h := h.2 c13
          by_cases c14 : x1 = (3 : Int32)
          · have h := h.1 c14
            refine lv_tableIn (tgt := 84) hx hb dX10_wish_11 (by rw [c14]; decide) (by rw [c14]; decide) (by rw [c14]; rfl) (by decide) ?_
            refine lv_aload_n hx hb dX10_wish_84 rfl (lv_at hl 0 rfl) ?_
            refine lv_iload_n hx hb dX10_wish_85 rfl (lv_at hl 3 rfl) ?_
            refine e_callVi (As := [.int (x3)]) (rest := []) ⟨hx, hb, hml, hown, hts⟩ K G 0 (by decide) gl_0 rfl (c_X10_isStreet h) (cwV 1 hts gX10_wish_X10_isStreet rfl rfl rfl (by decide +kernel) ⟨Nat.le_of_ble_eq_true rfl, Nat.le_of_ble_eq_true rfl⟩) rfl hl.1 rfl (Nat.le_of_ble_eq_true rfl) dX10_wish_86 ⟨Nat.zero_le _, Nat.zero_le _⟩ (fun r16 σ15 H locs h G => ?_)
            refine lv_istore (lv' := [(4, .int (r16)), (0, .ref (ρ (0))), (1, .int (x1)), (2, .int (x2)), (3, .int (x3))]) hx hb dX10_wish_89 hl (by decide) rfl (fun ls hl => ?_)
            refine lv_goto (tgt := 97) hx hb dX10_wish_91 (by decide) ?_
            exact l_X10_wish_97 C K σ15 x1 x2 x3 r16 _ _ _  h G (lv_sub hl [1, 2, 3, 4, 0] rfl)
          · have h := h.2 c14
            refine lv_tableOut (tgt := 94) hx hb dX10_wish_11 (by have := e_ne c4; have := e_ne c10; have := e_ne c13; have := e_ne c14; have : ∀ n : Int32, n.toInt = n.toInt := fun _ => rfl; simp only [Int32.reduceToInt] at *; omega) (by decide) ?_
            refine lv_iconst (v := (0 : Int32)) hx hb dX10_wish_94 (by decide) ?_
            refine lv_topi (fun v17 ev17 => ?_)
            have h := h v17 ev17
            refine lv_istore (lv' := [(4, .int (v17)), (0, .ref (ρ (0))), (1, .int (x1)), (2, .int (x2)), (3, .int (x3))]) hx hb dX10_wish_95 hl (by decide) rfl (fun ls hl => ?_)
            exact l_X10_wish_97 C K σ1 x1 x2 x3 v17 _ _ _  h G (lv_sub hl [1, 2, 3, 4, 0] rfl)
  · have h := h.2 c3
    refine lv_iconst (v := (-1 : Int32)) hx hb dX10_wish_8 (by decide) ?_
    exact e_iret hx hb hr hlocks G h dX10_wish_9
abbrev rm_X11_wish : Room := { frames := 2, cells := 0, slots := 0, locals := 46 }
theorem in_X11_wish_X11 : ∀ w ∈ wsX110, w ∈ wsX11_wish := fun w h => List.mem_cons_of_mem _ (List.mem_append_right _ h)
def b_X11_wish_80 (post : Int32 → eS → Prop) (σ : eS) (x1 : Int32) (x2 : Int32) (x3 : Int32) : Prop := (vp_in (σ.1 97 10) 6) ∧ ∀ σ15 : eS, σ15 = e_ui σ 104 (σ.1 97 10).toNatClampNeg x1 → (vp_in (σ15.1 97 10) 6) ∧ ∀ σ17 : eS, σ17 = e_ui σ15 105 (σ15.1 97 10).toNatClampNeg x2 → (vp_in (σ17.1 97 10) 6) ∧ ∀ σ19 : eS, σ19 = e_ui σ17 106 (σ17.1 97 10).toNatClampNeg x3 → ∀ σ20 : eS, σ20 = e_ui σ19 97 10 ((σ19.1 97 10) + (1 : Int32)) → post ((σ20.1 97 10) - (1 : Int32)) σ20
set_option maxHeartbeats 4000000 in
set_option maxRecDepth 100000 in
theorem l_X11_wish_80 {p : Program} {l : Launch} {e : Env} {s : State} {m : MethodId} {args : Array Value} {below : List Frame} {meth : Method} {c : Code} {D : va_G} {ρ : Nat → Nat} {κ : Nat → ClassId} {base : Nat} {post : Int32 → eS → Prop} (C : eCx p s m args meth c cX11_wish RX11 5 (some .int) wsX11_wish) (K : gK D ρ κ base s) : ∀ (σ : eS) (x1 : Int32) (x2 : Int32) (x3 : Int32) (H : Heap) (locs : List Loc) (ls : Array Slot), b_X11_wish_80 post σ x1 x2 x3 → gG D ρ κ base s σ H locs → lv_has ls 5 [(0, .ref (ρ (97))), (1, .int (x1)), (2, .int (x2)), (3, .int (x3))] → W p l e rm_X11_wish s m args below meth c H locs 0 0 (gQi below args s D ρ κ base post) (F0 m 80 ls []) := by
  obtain ⟨hx, hb, hml, hown, hts, hr, hlocks⟩ := id C
  intro σ x1 x2 x3 H locs ls h G hl
  unfold b_X11_wish_80 at h
  refine lv_aload_n hx hb dX11_wish_80 rfl (lv_at hl 0 rfl) ?_
  refine e_getq hx hb hts in_X11_wish_X11 hown K G 97 (by decide) gl_97 rfl 11 (by decide) 104 rfl (hts (.fieldLink RX11 29 "StreetsStepOnModel" "wishSort" "[I") (e_mem (n := 5) rfl)) dX11_wish_81 ?_
  refine lv_aload_n hx hb dX11_wish_84 rfl (lv_at hl 0 rfl) ?_
  refine e_geti hx hb hts in_X11_wish_X11 hown K G 97 (by decide) gl_97 rfl 10 (by decide) rfl (hts (.fieldLink RX11 406 "StreetsStepOnModel" "wishes" "I") (e_mem (n := 3) rfl)) dX11_wish_85 ?_
  refine lv_iload_n hx hb dX11_wish_88 rfl (lv_at hl 1 rfl) ?_
  have hi14 := h.1
  have h := h.2
  refine e_iast hx hb K G 104 0 0 6 (by decide) gl_104 rfl hi14 dX11_wish_89 (fun H locs G => ?_)
  obtain ⟨σ15, eσ15⟩ : ∃ z : eS, z = e_ui σ 104 (σ.1 97 10).toNatClampNeg x1 := ⟨_, rfl⟩
  rw [← eσ15] at G
  have h := h σ15 eσ15
  refine lv_aload_n hx hb dX11_wish_90 rfl (lv_at hl 0 rfl) ?_
  refine e_getq hx hb hts in_X11_wish_X11 hown K G 97 (by decide) gl_97 rfl 12 (by decide) 105 rfl (hts (.fieldLink RX11 32 "StreetsStepOnModel" "wishStreet" "[I") (e_mem (n := 6) rfl)) dX11_wish_91 ?_
  refine lv_aload_n hx hb dX11_wish_94 rfl (lv_at hl 0 rfl) ?_
  refine e_geti hx hb hts in_X11_wish_X11 hown K G 97 (by decide) gl_97 rfl 10 (by decide) rfl (hts (.fieldLink RX11 406 "StreetsStepOnModel" "wishes" "I") (e_mem (n := 3) rfl)) dX11_wish_95 ?_
  refine lv_iload_n hx hb dX11_wish_98 rfl (lv_at hl 2 rfl) ?_
  have hi16 := h.1
  have h := h.2
  refine e_iast hx hb K G 105 0 0 6 (by decide) gl_105 rfl hi16 dX11_wish_99 (fun H locs G => ?_)
  obtain ⟨σ17, eσ17⟩ : ∃ z : eS, z = e_ui σ15 105 (σ15.1 97 10).toNatClampNeg x2 := ⟨_, rfl⟩
  rw [← eσ17] at G
  have h := h σ17 eσ17
  refine lv_aload_n hx hb dX11_wish_100 rfl (lv_at hl 0 rfl) ?_
  refine e_getq hx hb hts in_X11_wish_X11 hown K G 97 (by decide) gl_97 rfl 13 (by decide) 106 rfl (hts (.fieldLink RX11 35 "StreetsStepOnModel" "wishNumber" "[I") (e_mem (n := 7) rfl)) dX11_wish_101 ?_
  refine lv_aload_n hx hb dX11_wish_104 rfl (lv_at hl 0 rfl) ?_
  refine e_geti hx hb hts in_X11_wish_X11 hown K G 97 (by decide) gl_97 rfl 10 (by decide) rfl (hts (.fieldLink RX11 406 "StreetsStepOnModel" "wishes" "I") (e_mem (n := 3) rfl)) dX11_wish_105 ?_
  refine lv_iload_n hx hb dX11_wish_108 rfl (lv_at hl 3 rfl) ?_
  have hi18 := h.1
  have h := h.2
  refine e_iast hx hb K G 106 0 0 6 (by decide) gl_106 rfl hi18 dX11_wish_109 (fun H locs G => ?_)
  obtain ⟨σ19, eσ19⟩ : ∃ z : eS, z = e_ui σ17 106 (σ17.1 97 10).toNatClampNeg x3 := ⟨_, rfl⟩
  rw [← eσ19] at G
  have h := h σ19 eσ19
  refine lv_aload_n hx hb dX11_wish_110 rfl (lv_at hl 0 rfl) ?_
  refine lv_dup hx hb dX11_wish_111 rfl ?_
  refine e_geti hx hb hts in_X11_wish_X11 hown K G 97 (by decide) gl_97 rfl 10 (by decide) rfl (hts (.fieldLink RX11 406 "StreetsStepOnModel" "wishes" "I") (e_mem (n := 3) rfl)) dX11_wish_112 ?_
  refine lv_iconst (v := (1 : Int32)) hx hb dX11_wish_115 (by decide) ?_
  refine lv_iadd hx hb dX11_wish_116 ?_
  refine e_puti hx hb hts in_X11_wish_X11 tyX11 tyX11_ok nmX11 hown K G 97 (by decide) gl_97 rfl 10 (by decide) rfl (hts (.fieldLink RX11 406 "StreetsStepOnModel" "wishes" "I") (e_mem (n := 3) rfl)) rfl (tyX11_ok 10 (by decide)) rfl rfl dX11_wish_117 (fun H locs G => ?_)
  obtain ⟨σ20, eσ20⟩ : ∃ z : eS, z = e_ui σ19 97 10 ((σ19.1 97 10) + (1 : Int32)) := ⟨_, rfl⟩
  rw [← eσ20] at G
  have h := h σ20 eσ20
  refine lv_aload_n hx hb dX11_wish_120 rfl (lv_at hl 0 rfl) ?_
  refine e_geti hx hb hts in_X11_wish_X11 hown K G 97 (by decide) gl_97 rfl 10 (by decide) rfl (hts (.fieldLink RX11 406 "StreetsStepOnModel" "wishes" "I") (e_mem (n := 3) rfl)) dX11_wish_121 ?_
  refine lv_iconst (v := (1 : Int32)) hx hb dX11_wish_124 (by decide) ?_
  refine lv_isub hx hb dX11_wish_125 ?_
  exact e_iret hx hb hr hlocks G h dX11_wish_126
def b_X11_wish_62 (post : Int32 → eS → Prop) (σ : eS) (x1 : Int32) (x2 : Int32) (x3 : Int32) (y0 : Int32) : Prop := ((y0 = 0 → post (-1 : Int32) σ) ∧ (¬ (y0 = 0) → ((¬ x1 = 0 → b_X11_wish_80 post σ x1 x2 x3) ∧ (x1 = 0 → ((¬ x3 = x2 → b_X11_wish_80 post σ x1 x2 x3) ∧ (x3 = x2 → post (-1 : Int32) σ))))))
set_option maxHeartbeats 4000000 in
set_option maxRecDepth 100000 in
theorem l_X11_wish_62 {p : Program} {l : Launch} {e : Env} {s : State} {m : MethodId} {args : Array Value} {below : List Frame} {meth : Method} {c : Code} {D : va_G} {ρ : Nat → Nat} {κ : Nat → ClassId} {base : Nat} {post : Int32 → eS → Prop} (C : eCx p s m args meth c cX11_wish RX11 5 (some .int) wsX11_wish) (K : gK D ρ κ base s) : ∀ (σ : eS) (x1 : Int32) (x2 : Int32) (x3 : Int32) (y0 : Int32) (H : Heap) (locs : List Loc) (ls : Array Slot), b_X11_wish_62 post σ x1 x2 x3 y0 → gG D ρ κ base s σ H locs → lv_has ls 5 [(0, .ref (ρ (97))), (1, .int (x1)), (2, .int (x2)), (3, .int (x3))] → W p l e rm_X11_wish s m args below meth c H locs 0 0 (gQi below args s D ρ κ base post) (F0 m 62 ls [.int (y0)]) := by
  obtain ⟨hx, hb, hml, hown, hts, hr, hlocks⟩ := id C
  intro σ x1 x2 x3 y0 H locs ls h G hl
  unfold b_X11_wish_62 at h
  refine lv_istore (lv' := [(4, .int (y0)), (0, .ref (ρ (97))), (1, .int (x1)), (2, .int (x2)), (3, .int (x3))]) hx hb dX11_wish_62 hl (by decide) rfl (fun ls hl => ?_)
  refine lv_iload hx hb dX11_wish_64 (lv_at hl 0 rfl) ?_
  refine lv_if_eq (tgt := 78) hx hb dX11_wish_66 (by decide) (fun c12 => ?_) (fun c12 => ?_)
  · have h := h.1 c12
    refine lv_iconst (v := (-1 : Int32)) hx hb dX11_wish_78 (by decide) ?_
    exact e_iret hx hb hr hlocks G h dX11_wish_79
  · have h := h.2 c12
    refine lv_iload_n hx hb dX11_wish_69 rfl (lv_at hl 2 rfl) ?_
    refine lv_if_ne (tgt := 80) hx hb dX11_wish_70 (by decide) (fun c13 => ?_) (fun c13 => ?_)
    · have h := h.1 c13
      exact l_X11_wish_80 C K σ x1 x2 x3 _ _ _  h G (lv_sub hl [1, 2, 3, 4] rfl)
    · have h := h.2 c13
      refine lv_iload_n hx hb dX11_wish_73 rfl (lv_at hl 4 rfl) ?_
      refine lv_iload_n hx hb dX11_wish_74 rfl (lv_at hl 3 rfl) ?_
      refine lv_icmp_ne (tgt := 80) hx hb dX11_wish_75 (by decide) (fun c21 => ?_) (fun c21 => ?_)
      · have h := h.1 c21
        exact l_X11_wish_80 C K σ x1 x2 x3 _ _ _  h G (lv_sub hl [1, 2, 3, 4] rfl)
      · have h := h.2 c21
        refine lv_iconst (v := (-1 : Int32)) hx hb dX11_wish_78 (by decide) ?_
        exact e_iret hx hb hr hlocks G h dX11_wish_79
def b_X11_wish_45 (post : Int32 → eS → Prop) (σ : eS) (x1 : Int32) (x2 : Int32) (x3 : Int32) : Prop := w_X11_isStreet σ x3 (fun r11 σ10 => b_X11_wish_62 post σ10 x1 x2 x3 r11)
set_option maxHeartbeats 4000000 in
set_option maxRecDepth 100000 in
theorem l_X11_wish_45 {p : Program} {l : Launch} {e : Env} {s : State} {m : MethodId} {args : Array Value} {below : List Frame} {meth : Method} {c : Code} {D : va_G} {ρ : Nat → Nat} {κ : Nat → ClassId} {base : Nat} {post : Int32 → eS → Prop} (C : eCx p s m args meth c cX11_wish RX11 5 (some .int) wsX11_wish) (K : gK D ρ κ base s) : ∀ (σ : eS) (x1 : Int32) (x2 : Int32) (x3 : Int32) (H : Heap) (locs : List Loc) (ls : Array Slot), b_X11_wish_45 post σ x1 x2 x3 → gG D ρ κ base s σ H locs → lv_has ls 5 [(0, .ref (ρ (97))), (1, .int (x1)), (2, .int (x2)), (3, .int (x3))] → W p l e rm_X11_wish s m args below meth c H locs 0 0 (gQi below args s D ρ κ base post) (F0 m 45 ls []) := by
  obtain ⟨hx, hb, hml, hown, hts, hr, hlocks⟩ := id C
  intro σ x1 x2 x3 H locs ls h G hl
  unfold b_X11_wish_45 at h
  refine lv_aload_n hx hb dX11_wish_45 rfl (lv_at hl 0 rfl) ?_
  refine lv_iload_n hx hb dX11_wish_46 rfl (lv_at hl 3 rfl) ?_
  refine e_callVi (As := [.int (x3)]) (rest := []) ⟨hx, hb, hml, hown, hts⟩ K G 97 (by decide) gl_97 rfl (c_X11_isStreet h) (cwV 1 hts gX11_wish_X11_isStreet rfl rfl rfl (by decide +kernel) ⟨Nat.le_of_ble_eq_true rfl, Nat.le_of_ble_eq_true rfl⟩) rfl hl.1 rfl (Nat.le_of_ble_eq_true rfl) dX11_wish_47 ⟨Nat.zero_le _, Nat.zero_le _⟩ (fun r11 σ10 H locs h G => ?_)
  refine lv_goto (tgt := 62) hx hb dX11_wish_50 (by decide) ?_
  exact l_X11_wish_62 C K σ10 x1 x2 x3 r11 _ _ _  h G (lv_sub hl [0, 1, 2, 3] rfl)
def w_X11_wish (σ : eS) (x1 : Int32) (x2 : Int32) (x3 : Int32) (post : Int32 → eS → Prop) : Prop := ∀ σ1 : eS, σ1 = e_ui σ 97 18 (0 : Int32) → w_X11_in σ1 (x1.toInt64) (0 : Int64) (3 : Int64) (fun r3 σ2 => ((r3 = 0 → post (-1 : Int32) σ2) ∧ (¬ (r3 = 0) → w_X11_isStreet σ2 x2 (fun r6 σ5 => ((r6 = 0 → post (-1 : Int32) σ5) ∧ (¬ (r6 = 0) → ((¬ (σ5.1 97 10) = (6 : Int32) → ((x1 = 0 → b_X11_wish_45 post σ5 x1 x2 x3) ∧ (¬ (x1 = 0) → ((¬ x1 = (3 : Int32) → w_X11_in σ5 (x3.toInt64) (1 : Int64) (12 : Int64) (fun r24 σ23 => b_X11_wish_62 post σ23 x1 x2 x3 r24)) ∧ (x1 = (3 : Int32) → b_X11_wish_45 post σ5 x1 x2 x3))))) ∧ ((σ5.1 97 10) = (6 : Int32) → post (-1 : Int32) σ5))))))))
set_option maxHeartbeats 4000000 in
set_option maxRecDepth 100000 in
theorem c_X11_wish {l : Launch} {D : va_G} {ρ : Nat → Nat} {κ : Nat → ClassId} {base : Nat} {σ : eS} {x1 : Int32} {x2 : Int32} {x3 : Int32} {post : Int32 → eS → Prop} (h : w_X11_wish σ x1 x2 x3 post) : gMi l yX11_wish wsX11_wish rm_X11_wish D ρ κ base [.ref (ρ (97)), .int (x1), .int (x2), .int (x3)] σ post := by
  refine e_ofWi (cc := cX11_wish) (maxL := 5) (ret := (some .int)) (by decide) rfl (Nat.le_of_ble_eq_true rfl) ?_
  intro p e s m below meth c ls C K G hl
  obtain ⟨hx, hb, hml, hown, hts, hr, hlocks⟩ := id C
  have hl : lv_has ls 5 [(0, .ref (ρ (97))), (1, .int (x1)), (2, .int (x2)), (3, .int (x3))] := hl
  unfold w_X11_wish at h
  refine lv_aload_n hx hb dX11_wish_0 rfl (lv_at hl 0 rfl) ?_
  refine lv_iconst (v := (0 : Int32)) hx hb dX11_wish_1 (by decide) ?_
  refine e_puti hx hb hts in_X11_wish_X11 tyX11 tyX11_ok nmX11 hown K G 97 (by decide) gl_97 rfl 18 (by decide) rfl (hts (.fieldLink RX11 98 "StreetsStepOnModel" "thrown" "I") (e_mem (n := 1) rfl)) rfl (tyX11_ok 18 (by decide)) rfl rfl dX11_wish_2 (fun H locs G => ?_)
  obtain ⟨σ1, eσ1⟩ : ∃ z : eS, z = e_ui σ 97 18 (0 : Int32) := ⟨_, rfl⟩
  rw [← eσ1] at G
  have h := h σ1 eσ1
  refine lv_iload_n hx hb dX11_wish_5 rfl (lv_at hl 1 rfl) ?_
  refine lv_i2l hx hb dX11_wish_6 rfl ?_
  refine lv_lconst (v := (0 : Int64)) hx hb dX11_wish_7 (by decide) ?_
  refine lv_ldc2 (v := (3 : Int64)) hx hb hown (hts (.constantLong RX11 192 (3)) (e_mem (n := 2) rfl)) dX11_wish_8 ?_
  refine e_callSi (As := [.long (x1.toInt64), .long ((0 : Int64)), .long ((3 : Int64))]) (rest := []) ⟨hx, hb, hml, hown, hts⟩ K G (c_X11_in h) (va_cwS 3 hts gX11_wish_X11_in rfl rfl rfl (by decide +kernel) ⟨Nat.le_of_ble_eq_true rfl, Nat.le_of_ble_eq_true rfl⟩) rfl hl.1 rfl (Nat.le_of_ble_eq_true rfl) dX11_wish_11 ⟨Nat.zero_le _, Nat.zero_le _⟩ (fun r3 σ2 H locs h G => ?_)
  refine lv_if_eq (tgt := 34) hx hb dX11_wish_14 (by decide) (fun c4 => ?_) (fun c4 => ?_)
  · have h := h.1 c4
    refine lv_iconst (v := (-1 : Int32)) hx hb dX11_wish_34 (by decide) ?_
    exact e_iret hx hb hr hlocks G h dX11_wish_35
  · have h := h.2 c4
    refine lv_aload_n hx hb dX11_wish_17 rfl (lv_at hl 0 rfl) ?_
    refine lv_iload_n hx hb dX11_wish_18 rfl (lv_at hl 2 rfl) ?_
    refine e_callVi (As := [.int (x2)]) (rest := []) ⟨hx, hb, hml, hown, hts⟩ K G 97 (by decide) gl_97 rfl (c_X11_isStreet h) (cwV 1 hts gX11_wish_X11_isStreet rfl rfl rfl (by decide +kernel) ⟨Nat.le_of_ble_eq_true rfl, Nat.le_of_ble_eq_true rfl⟩) rfl hl.1 rfl (Nat.le_of_ble_eq_true rfl) dX11_wish_19 ⟨Nat.zero_le _, Nat.zero_le _⟩ (fun r6 σ5 H locs h G => ?_)
    refine lv_if_eq (tgt := 34) hx hb dX11_wish_22 (by decide) (fun c7 => ?_) (fun c7 => ?_)
    · have h := h.1 c7
      refine lv_iconst (v := (-1 : Int32)) hx hb dX11_wish_34 (by decide) ?_
      exact e_iret hx hb hr hlocks G h dX11_wish_35
    · have h := h.2 c7
      refine lv_aload_n hx hb dX11_wish_25 rfl (lv_at hl 0 rfl) ?_
      refine e_geti hx hb hts in_X11_wish_X11 hown K G 97 (by decide) gl_97 rfl 10 (by decide) rfl (hts (.fieldLink RX11 406 "StreetsStepOnModel" "wishes" "I") (e_mem (n := 3) rfl)) dX11_wish_26 ?_
      refine lv_bipush (v := (6 : Int32)) hx hb dX11_wish_29 (by decide) ?_
      refine lv_icmp_ne (tgt := 36) hx hb dX11_wish_31 (by decide) (fun c8 => ?_) (fun c8 => ?_)
      · have h := h.1 c8
        refine lv_iload_n hx hb dX11_wish_36 rfl (lv_at hl 1 rfl) ?_
        refine lv_if_eq (tgt := 45) hx hb dX11_wish_37 (by decide) (fun c9 => ?_) (fun c9 => ?_)
        · have h := h.1 c9
          exact l_X11_wish_45 C K σ5 x1 x2 x3 _ _ _  h G (lv_sub hl [0, 1, 2, 3] rfl)
        · have h := h.2 c9
          refine lv_iload_n hx hb dX11_wish_40 rfl (lv_at hl 1 rfl) ?_
          refine lv_iconst (v := (3 : Int32)) hx hb dX11_wish_41 (by decide) ?_
          refine lv_icmp_ne (tgt := 53) hx hb dX11_wish_42 (by decide) (fun c22 => ?_) (fun c22 => ?_)
          · have h := h.1 c22
            refine lv_iload_n hx hb dX11_wish_53 rfl (lv_at hl 3 rfl) ?_
            refine lv_i2l hx hb dX11_wish_54 rfl ?_
            refine lv_lconst (v := (1 : Int64)) hx hb dX11_wish_55 (by decide) ?_
            refine lv_ldc2 (v := (12 : Int64)) hx hb hown (hts (.constantLong RX11 309 (12)) (e_mem (n := 4) rfl)) dX11_wish_56 ?_
            refine e_callSi (As := [.long (x3.toInt64), .long ((1 : Int64)), .long ((12 : Int64))]) (rest := []) ⟨hx, hb, hml, hown, hts⟩ K G (c_X11_in h) (va_cwS 3 hts gX11_wish_X11_in rfl rfl rfl (by decide +kernel) ⟨Nat.le_of_ble_eq_true rfl, Nat.le_of_ble_eq_true rfl⟩) rfl hl.1 rfl (Nat.le_of_ble_eq_true rfl) dX11_wish_59 ⟨Nat.zero_le _, Nat.zero_le _⟩ (fun r24 σ23 H locs h G => ?_)
            exact l_X11_wish_62 C K σ23 x1 x2 x3 r24 _ _ _  h G (lv_sub hl [0, 1, 2, 3] rfl)
          · have h := h.2 c22
            exact l_X11_wish_45 C K σ5 x1 x2 x3 _ _ _  h G (lv_sub hl [0, 1, 2, 3] rfl)
      · have h := h.2 c8
        refine lv_iconst (v := (-1 : Int32)) hx hb dX11_wish_34 (by decide) ?_
        exact e_iret hx hb hr hlocks G h dX11_wish_35
abbrev rm_X10_kept : Room := { frames := 0, cells := 0, slots := 0, locals := 0 }
theorem in_X10_kept_X10 : ∀ w ∈ wsX100, w ∈ wsX10_kept := fun w h => List.mem_cons_of_mem _ (List.mem_append_left _ (List.mem_append_left _ (List.mem_append_left _ (List.mem_append_right _ h))))
theorem in_X10_kept_X2 : ∀ w ∈ wsX20, w ∈ wsX10_kept := fun w h => List.mem_cons_of_mem _ (List.mem_append_left _ (List.mem_append_left _ (List.mem_append_right _ h)))
def b_X10_kept_4 (post : Int32 → eS → Prop) : Nat → eS → Int32 → Int32 → Prop
  | 0, _, _, _ => False
  | n + 1, σ, x1, x2 => (((σ.1 41 3) ≤ x2 → post x1 σ) ∧ (¬ ((σ.1 41 3) ≤ x2) → False))
set_option maxHeartbeats 4000000 in
set_option maxRecDepth 100000 in
theorem l_X10_kept_4 {p : Program} {l : Launch} {e : Env} {s : State} {m : MethodId} {args : Array Value} {below : List Frame} {meth : Method} {c : Code} {D : va_G} {ρ : Nat → Nat} {κ : Nat → ClassId} {base : Nat} {post : Int32 → eS → Prop} (C : eCx p s m args meth c cX10_kept RX10 3 (some .int) wsX10_kept) (K : gK D ρ κ base s) : ∀ (n : Nat) (σ : eS) (x1 : Int32) (x2 : Int32) (H : Heap) (locs : List Loc) (ls : Array Slot), b_X10_kept_4 post n σ x1 x2 → gG D ρ κ base s σ H locs → lv_has ls 3 [(0, .ref (ρ (0))), (1, .int (x1)), (2, .int (x2))] → W p l e rm_X10_kept s m args below meth c H locs 0 0 (gQi below args s D ρ κ base post) (F0 m 4 ls []) := by
  obtain ⟨hx, hb, hml, hown, hts, hr, hlocks⟩ := id C
  intro n
  induction n with
  | zero => intro σ x1 x2 H locs ls h G hl; exact False.elim h
  | succ n ih =>
    intro σ x1 x2 H locs ls h G hl
    rw [b_X10_kept_4] at h
    refine lv_iload_n hx hb dX10_kept_4 rfl (lv_at hl 2 rfl) ?_
    refine lv_aload_n hx hb dX10_kept_5 rfl (lv_at hl 0 rfl) ?_
    refine e_getq hx hb hts in_X10_kept_X10 hown K G 0 (by decide) gl_0 rfl 8 (by decide) 41 rfl (hts (.fieldLink RX10 65 "StreetsStepOn" "council" "LStreetsStepOn$Council;") (e_mem (n := 1) rfl)) dX10_kept_6 ?_
    refine e_getiN hx hb hts in_X10_kept_X2 hown K G 41 (by decide) gl_41 rfl 3 (by decide) rfl (e_memq (n := 31) rfl) dX10_kept_9 ?_
    refine lv_icmp_ge (tgt := 46) hx hb dX10_kept_12 (by decide) (fun c3 => ?_) (fun c3 => ?_)
    · have h := h.1 c3
      refine lv_iload_n hx hb dX10_kept_46 rfl (lv_at hl 1 rfl) ?_
      exact e_iret hx hb hr hlocks G h dX10_kept_47
    · have h := h.2 c3
      refine lv_aload_n hx hb dX10_kept_15 rfl (lv_at hl 0 rfl) ?_
      refine e_getq hx hb hts in_X10_kept_X10 hown K G 0 (by decide) gl_0 rfl 8 (by decide) 41 rfl (hts (.fieldLink RX10 65 "StreetsStepOn" "council" "LStreetsStepOn$Council;") (e_mem (n := 1) rfl)) dX10_kept_16 ?_
      refine lv_iload_n hx hb dX10_kept_19 rfl (lv_at hl 2 rfl) ?_
      refine lv_aload_n hx hb dX10_kept_20 rfl (lv_at hl 0 rfl) ?_
      refine e_getq hx hb hts in_X10_kept_X10 hown K G 0 (by decide) gl_0 rfl 2 (by decide) 5 rfl (hts (.fieldLink RX10 26 "StreetsStepOn" "book" "LStreetsStepOn$Book;") (e_mem (n := 2) rfl)) dX10_kept_21 ?_
      refine lv_aload_n hx hb dX10_kept_24 rfl (lv_at hl 0 rfl) ?_
      refine e_getq hx hb hts in_X10_kept_X10 hown K G 0 (by decide) gl_0 rfl 5 (by decide) 32 rfl (hts (.fieldLink RX10 44 "StreetsStepOn" "almanac" "LStreetsStepOn$Almanac;") (e_mem (n := 3) rfl)) dX10_kept_25 ?_
      exact h.elim
def w_X10_kept (σ : eS) (post : Int32 → eS → Prop) : Prop := ∀ v1 : Int32, v1 = (0 : Int32) → ∀ v2 : Int32, v2 = (0 : Int32) → (∃ n4 : Nat, b_X10_kept_4 post n4 σ v1 v2)
set_option maxHeartbeats 4000000 in
set_option maxRecDepth 100000 in
theorem c_X10_kept {l : Launch} {D : va_G} {ρ : Nat → Nat} {κ : Nat → ClassId} {base : Nat} {σ : eS} {post : Int32 → eS → Prop} (h : w_X10_kept σ post) : gMi l yX10_kept wsX10_kept rm_X10_kept D ρ κ base [.ref (ρ (0))] σ post := by
  refine e_ofWi (cc := cX10_kept) (maxL := 3) (ret := (some .int)) (by decide) rfl (Nat.le_of_ble_eq_true rfl) ?_
  intro p e s m below meth c ls C K G hl
  obtain ⟨hx, hb, hml, hown, hts, hr, hlocks⟩ := id C
  have hl : lv_has ls 3 [(0, .ref (ρ (0)))] := hl
  unfold w_X10_kept at h
  refine lv_iconst (v := (0 : Int32)) hx hb dX10_kept_0 (by decide) ?_
  refine lv_topi (fun v1 ev1 => ?_)
  have h := h v1 ev1
  refine lv_istore_n (lv' := [(1, .int (v1)), (0, .ref (ρ (0)))]) hx hb dX10_kept_1 rfl hl (by decide) rfl (fun ls hl => ?_)
  refine lv_iconst (v := (0 : Int32)) hx hb dX10_kept_2 (by decide) ?_
  refine lv_topi (fun v2 ev2 => ?_)
  have h := h v2 ev2
  refine lv_istore_n (lv' := [(2, .int (v2)), (1, .int (v1)), (0, .ref (ρ (0)))]) hx hb dX10_kept_3 rfl hl (by decide) rfl (fun ls hl => ?_)
  obtain ⟨n4, h⟩ := h
  exact l_X10_kept_4 C K n4 σ v1 v2 _ _ _  h G (lv_sub hl [2, 1, 0] rfl)
abbrev rm_X11_kept : Room := { frames := 1, cells := 0, slots := 0, locals := 25 }
theorem in_X11_kept_X11 : ∀ w ∈ wsX110, w ∈ wsX11_kept := fun w h => List.mem_cons_of_mem _ (List.mem_append_right _ h)
def b_X11_kept_14 (post : Int32 → eS → Prop) : Nat → eS → Int32 → Int32 → Prop
  | 0, _, _, _ => False
  | n + 1, σ, x1, x2 => (((σ.1 97 10) ≤ x2 → post x1 σ) ∧ (¬ ((σ.1 97 10) ≤ x2) → False))
set_option maxHeartbeats 4000000 in
set_option maxRecDepth 100000 in
theorem l_X11_kept_14 {p : Program} {l : Launch} {e : Env} {s : State} {m : MethodId} {args : Array Value} {below : List Frame} {meth : Method} {c : Code} {D : va_G} {ρ : Nat → Nat} {κ : Nat → ClassId} {base : Nat} {post : Int32 → eS → Prop} (C : eCx p s m args meth c cX11_kept RX11 3 (some .int) wsX11_kept) (K : gK D ρ κ base s) : ∀ (n : Nat) (σ : eS) (x1 : Int32) (x2 : Int32) (H : Heap) (locs : List Loc) (ls : Array Slot), b_X11_kept_14 post n σ x1 x2 → gG D ρ κ base s σ H locs → lv_has ls 3 [(0, .ref (ρ (97))), (1, .int (x1)), (2, .int (x2))] → W p l e rm_X11_kept s m args below meth c H locs 0 0 (gQi below args s D ρ κ base post) (F0 m 14 ls []) := by
  obtain ⟨hx, hb, hml, hown, hts, hr, hlocks⟩ := id C
  intro n
  induction n with
  | zero => intro σ x1 x2 H locs ls h G hl; exact False.elim h
  | succ n ih =>
    intro σ x1 x2 H locs ls h G hl
    rw [b_X11_kept_14] at h
    refine lv_iload_n hx hb dX11_kept_14 rfl (lv_at hl 2 rfl) ?_
    refine lv_aload_n hx hb dX11_kept_15 rfl (lv_at hl 0 rfl) ?_
    refine e_geti hx hb hts in_X11_kept_X11 hown K G 97 (by decide) gl_97 rfl 10 (by decide) rfl (hts (.fieldLink RX11 406 "StreetsStepOnModel" "wishes" "I") (e_mem (n := 2) rfl)) dX11_kept_16 ?_
    refine lv_icmp_ge (tgt := 46) hx hb dX11_kept_19 (by decide) (fun c5 => ?_) (fun c5 => ?_)
    · have h := h.1 c5
      refine lv_iload_n hx hb dX11_kept_46 rfl (lv_at hl 1 rfl) ?_
      exact e_iret hx hb hr hlocks G h dX11_kept_47
    · have h := h.2 c5
      refine lv_iload_n hx hb dX11_kept_22 rfl (lv_at hl 1 rfl) ?_
      refine lv_aload_n hx hb dX11_kept_23 rfl (lv_at hl 0 rfl) ?_
      refine lv_iload_n hx hb dX11_kept_24 rfl (lv_at hl 2 rfl) ?_
      exact h.elim
def w_X11_kept (σ : eS) (post : Int32 → eS → Prop) : Prop := ∀ σ1 : eS, σ1 = e_ui σ 97 18 (0 : Int32) → w_X11_layOut σ1 (0 : Int32) (fun σ2 => ∀ v3 : Int32, v3 = (0 : Int32) → ∀ v4 : Int32, v4 = (0 : Int32) → (∃ n6 : Nat, b_X11_kept_14 post n6 σ2 v3 v4))
set_option maxHeartbeats 4000000 in
set_option maxRecDepth 100000 in
theorem c_X11_kept {l : Launch} {D : va_G} {ρ : Nat → Nat} {κ : Nat → ClassId} {base : Nat} {σ : eS} {post : Int32 → eS → Prop} (h : w_X11_kept σ post) : gMi l yX11_kept wsX11_kept rm_X11_kept D ρ κ base [.ref (ρ (97))] σ post := by
  refine e_ofWi (cc := cX11_kept) (maxL := 3) (ret := (some .int)) (by decide) rfl (Nat.le_of_ble_eq_true rfl) ?_
  intro p e s m below meth c ls C K G hl
  obtain ⟨hx, hb, hml, hown, hts, hr, hlocks⟩ := id C
  have hl : lv_has ls 3 [(0, .ref (ρ (97)))] := hl
  unfold w_X11_kept at h
  refine lv_aload_n hx hb dX11_kept_0 rfl (lv_at hl 0 rfl) ?_
  refine lv_iconst (v := (0 : Int32)) hx hb dX11_kept_1 (by decide) ?_
  refine e_puti hx hb hts in_X11_kept_X11 tyX11 tyX11_ok nmX11 hown K G 97 (by decide) gl_97 rfl 18 (by decide) rfl (hts (.fieldLink RX11 98 "StreetsStepOnModel" "thrown" "I") (e_mem (n := 1) rfl)) rfl (tyX11_ok 18 (by decide)) rfl rfl dX11_kept_2 (fun H locs G => ?_)
  obtain ⟨σ1, eσ1⟩ : ∃ z : eS, z = e_ui σ 97 18 (0 : Int32) := ⟨_, rfl⟩
  rw [← eσ1] at G
  have h := h σ1 eσ1
  refine lv_aload_n hx hb dX11_kept_5 rfl (lv_at hl 0 rfl) ?_
  refine lv_iconst (v := (0 : Int32)) hx hb dX11_kept_6 (by decide) ?_
  refine e_callVv (As := [.int ((0 : Int32))]) (rest := []) ⟨hx, hb, hml, hown, hts⟩ K G 97 (by decide) gl_97 rfl (c_X11_layOut h) (cwV 1 hts gX11_kept_X11_layOut rfl rfl rfl (by decide +kernel) ⟨Nat.le_of_ble_eq_true rfl, Nat.le_of_ble_eq_true rfl⟩) rfl hl.1 rfl (Nat.le_of_ble_eq_true rfl) dX11_kept_7 ⟨Nat.zero_le _, Nat.zero_le _⟩ (fun σ2 H locs h G => ?_)
  refine lv_iconst (v := (0 : Int32)) hx hb dX11_kept_10 (by decide) ?_
  refine lv_topi (fun v3 ev3 => ?_)
  have h := h v3 ev3
  refine lv_istore_n (lv' := [(1, .int (v3)), (0, .ref (ρ (97)))]) hx hb dX11_kept_11 rfl hl (by decide) rfl (fun ls hl => ?_)
  refine lv_iconst (v := (0 : Int32)) hx hb dX11_kept_12 (by decide) ?_
  refine lv_topi (fun v4 ev4 => ?_)
  have h := h v4 ev4
  refine lv_istore_n (lv' := [(2, .int (v4)), (1, .int (v3)), (0, .ref (ρ (97)))]) hx hb dX11_kept_13 rfl hl (by decide) rfl (fun ls hl => ?_)
  obtain ⟨n6, h⟩ := h
  exact l_X11_kept_14 C K n6 σ2 v3 v4 _ _ _  h G (lv_sub hl [2, 1, 0] rfl)
abbrev rm_X2_startWays : Room := { frames := 1, cells := 0, slots := 0, locals := 14 }
theorem in_X2_startWays_X2 : ∀ w ∈ wsX20, w ∈ wsX2_startWays := fun w h => List.mem_cons_of_mem _ (List.mem_append_right _ h)
def b_X2_startWays_20 (post : eS → Prop) : Nat → eS → Int32 → Prop
  | 0, _, _ => False
  | n + 1, σ, x2 => (((σ.1 41 5) ≤ x2 → post σ) ∧ (¬ ((σ.1 41 5) ≤ x2) → (vp_in x2 6) ∧ ∀ σ6 : eS, σ6 = e_ui σ 45 x2.toNatClampNeg x2 → ∀ v7 : Int32, v7 = (x2 + (1 : Int32)) → b_X2_startWays_20 post n σ6 v7))
set_option maxHeartbeats 4000000 in
set_option maxRecDepth 100000 in
theorem l_X2_startWays_20 {p : Program} {l : Launch} {e : Env} {s : State} {m : MethodId} {args : Array Value} {below : List Frame} {meth : Method} {c : Code} {D : va_G} {ρ : Nat → Nat} {κ : Nat → ClassId} {base : Nat} {post : eS → Prop} (C : eCx p s m args meth c cX2_startWays RX2 3 none wsX2_startWays) (K : gK D ρ κ base s) : ∀ (n : Nat) (σ : eS) (x2 : Int32) (H : Heap) (locs : List Loc) (ls : Array Slot), b_X2_startWays_20 post n σ x2 → gG D ρ κ base s σ H locs → lv_has ls 3 [(0, .ref (ρ (41))), (2, .int (x2))] → W p l e rm_X2_startWays s m args below meth c H locs 0 0 (gQv below args s D ρ κ base post) (F0 m 20 ls []) := by
  obtain ⟨hx, hb, hml, hown, hts, hr, hlocks⟩ := id C
  intro n
  induction n with
  | zero => intro σ x2 H locs ls h G hl; exact False.elim h
  | succ n ih =>
    intro σ x2 H locs ls h G hl
    rw [b_X2_startWays_20] at h
    refine lv_iload_n hx hb dX2_startWays_20 rfl (lv_at hl 1 rfl) ?_
    refine lv_aload_n hx hb dX2_startWays_21 rfl (lv_at hl 0 rfl) ?_
    refine e_geti hx hb hts in_X2_startWays_X2 hown K G 41 (by decide) gl_41 rfl 5 (by decide) rfl (hts (.fieldLink RX2 91 "StreetsStepOn$Council" "waySize" "I") (e_mem (n := 6) rfl)) dX2_startWays_22 ?_
    refine lv_icmp_ge (tgt := 41) hx hb dX2_startWays_25 (by decide) (fun c4 => ?_) (fun c4 => ?_)
    · have h := h.1 c4
      exact e_vret hx hb hr hlocks G h dX2_startWays_41
    · have h := h.2 c4
      refine lv_aload_n hx hb dX2_startWays_28 rfl (lv_at hl 0 rfl) ?_
      refine e_getq hx hb hts in_X2_startWays_X2 hown K G 41 (by decide) gl_41 rfl 4 (by decide) 45 rfl (hts (.fieldLink RX2 21 "StreetsStepOn$Council" "way" "[I") (e_mem (n := 1) rfl)) dX2_startWays_29 ?_
      refine lv_iload_n hx hb dX2_startWays_32 rfl (lv_at hl 1 rfl) ?_
      refine lv_iload_n hx hb dX2_startWays_33 rfl (lv_at hl 1 rfl) ?_
      have hi5 := h.1
      have h := h.2
      refine e_iast hx hb K G 45 0 0 6 (by decide) gl_45 rfl hi5 dX2_startWays_34 (fun H locs G => ?_)
      obtain ⟨σ6, eσ6⟩ : ∃ z : eS, z = e_ui σ 45 x2.toNatClampNeg x2 := ⟨_, rfl⟩
      rw [← eσ6] at G
      have h := h σ6 eσ6
      obtain ⟨v7, ev7⟩ : ∃ y : Int32, y = x2 + (1 : Int32) := ⟨_, rfl⟩
      have h := h v7 ev7
      refine lv_iinc (v := v7) (lv' := [(2, .int (v7)), (0, .ref (ρ (41)))]) hx hb dX2_startWays_35 hl (k := 1) rfl (by rw [ev7]; rfl) (by decide) rfl (fun ls hl => ?_)
      refine lv_goto (tgt := 20) hx hb dX2_startWays_38 (by decide) ?_
      exact ih σ6 v7 _ _ _  h G (lv_sub hl [1, 0] rfl)
def w_X2_startWays (σ : eS) (x1 : Int32) (post : eS → Prop) : Prop := ∀ σ1 : eS, σ1 = e_ui σ 41 5 (if 6 < x1 then 6 else x1) → ∀ σ2 : eS, σ2 = e_ui σ1 41 7 (0 : Int32) → ∀ v3 : Int32, v3 = (0 : Int32) → (∃ n8 : Nat, b_X2_startWays_20 post n8 σ2 v3)
set_option maxHeartbeats 4000000 in
set_option maxRecDepth 100000 in
theorem c_X2_startWays {l : Launch} {D : va_G} {ρ : Nat → Nat} {κ : Nat → ClassId} {base : Nat} {σ : eS} {x1 : Int32} {post : eS → Prop} (h : w_X2_startWays σ x1 post) : gMv l yX2_startWays wsX2_startWays rm_X2_startWays D ρ κ base [.ref (ρ (41)), .int (x1)] σ post := by
  refine e_ofWv (cc := cX2_startWays) (maxL := 3) (ret := none) (by decide) rfl (Nat.le_of_ble_eq_true rfl) ?_
  intro p e s m below meth c ls C K G hl
  obtain ⟨hx, hb, hml, hown, hts, hr, hlocks⟩ := id C
  have hl : lv_has ls 3 [(0, .ref (ρ (41))), (1, .int (x1))] := hl
  unfold w_X2_startWays at h
  refine lv_aload_n hx hb dX2_startWays_0 rfl (lv_at hl 0 rfl) ?_
  refine lv_iload_n hx hb dX2_startWays_1 rfl (lv_at hl 1 rfl) ?_
  refine lv_aload_n hx hb dX2_startWays_2 rfl (lv_at hl 0 rfl) ?_
  refine e_getq hx hb hts in_X2_startWays_X2 hown K G 41 (by decide) gl_41 rfl 4 (by decide) 45 rfl (hts (.fieldLink RX2 21 "StreetsStepOn$Council" "way" "[I") (e_mem (n := 1) rfl)) dX2_startWays_3 ?_
  refine e_alen (v := 6) hx hb K G 45 0 0 6 (by decide) gl_45 rfl rfl dX2_startWays_6 ?_
  refine va_mmin hx hb (hml.trans hl.1.symm) hown (hts (.methodLink RX2 94 Lib.Math.min.name) (e_mem (n := 2) rfl)) (hts (.static Lib.Math.min.name) (e_mem (n := 3) rfl)) (hts (.initialized "java/lang/Math") (e_mem (n := 4) rfl)) (hts (.code Lib.Math.min.name Lib.Math.min.code 2 (some .int)) (e_mem (n := 5) rfl)) (Nat.le_of_ble_eq_true rfl) (Nat.le_of_ble_eq_true rfl) (Nat.zero_le _) (Nat.zero_le _) dX2_startWays_7 ?_
  refine e_puti hx hb hts in_X2_startWays_X2 tyX2 tyX2_ok nmX2 hown K G 41 (by decide) gl_41 rfl 5 (by decide) rfl (hts (.fieldLink RX2 91 "StreetsStepOn$Council" "waySize" "I") (e_mem (n := 6) rfl)) rfl (tyX2_ok 5 (by decide)) rfl rfl dX2_startWays_10 (fun H locs G => ?_)
  obtain ⟨σ1, eσ1⟩ : ∃ z : eS, z = e_ui σ 41 5 (if 6 < x1 then 6 else x1) := ⟨_, rfl⟩
  rw [← eσ1] at G
  have h := h σ1 eσ1
  refine lv_aload_n hx hb dX2_startWays_13 rfl (lv_at hl 0 rfl) ?_
  refine lv_iconst (v := (0 : Int32)) hx hb dX2_startWays_14 (by decide) ?_
  refine e_puti hx hb hts in_X2_startWays_X2 tyX2 tyX2_ok nmX2 hown K G 41 (by decide) gl_41 rfl 7 (by decide) rfl (hts (.fieldLink RX2 100 "StreetsStepOn$Council" "foundSize" "I") (e_mem (n := 7) rfl)) rfl (tyX2_ok 7 (by decide)) rfl rfl dX2_startWays_15 (fun H locs G => ?_)
  obtain ⟨σ2, eσ2⟩ : ∃ z : eS, z = e_ui σ1 41 7 (0 : Int32) := ⟨_, rfl⟩
  rw [← eσ2] at G
  have h := h σ2 eσ2
  refine lv_iconst (v := (0 : Int32)) hx hb dX2_startWays_18 (by decide) ?_
  refine lv_topi (fun v3 ev3 => ?_)
  have h := h v3 ev3
  refine lv_istore_n (lv' := [(2, .int (v3)), (0, .ref (ρ (41))), (1, .int (x1))]) hx hb dX2_startWays_19 rfl hl (by decide) rfl (fun ls hl => ?_)
  obtain ⟨n8, h⟩ := h
  exact l_X2_startWays_20 C K n8 σ2 v3 _ _ _  h G (lv_sub hl [1, 0] rfl)
abbrev rm_X2_keptByWay : Room := { frames := 0, cells := 0, slots := 0, locals := 0 }
theorem in_X2_keptByWay_X2 : ∀ w ∈ wsX20, w ∈ wsX2_keptByWay := fun w h => List.mem_cons_of_mem _ (List.mem_append_right _ h)
def b_X2_keptByWay_4 (post : Int32 → eS → Prop) : Nat → eS → Int32 → Int32 → Prop
  | 0, _, _, _ => False
  | n + 1, σ, x1, x2 => (((σ.1 41 3) ≤ x2 → post x1 σ) ∧ (¬ ((σ.1 41 3) ≤ x2) → False))
set_option maxHeartbeats 4000000 in
set_option maxRecDepth 100000 in
theorem l_X2_keptByWay_4 {p : Program} {l : Launch} {e : Env} {s : State} {m : MethodId} {args : Array Value} {below : List Frame} {meth : Method} {c : Code} {D : va_G} {ρ : Nat → Nat} {κ : Nat → ClassId} {base : Nat} {post : Int32 → eS → Prop} (C : eCx p s m args meth c cX2_keptByWay RX2 3 (some .int) wsX2_keptByWay) (K : gK D ρ κ base s) : ∀ (n : Nat) (σ : eS) (x1 : Int32) (x2 : Int32) (H : Heap) (locs : List Loc) (ls : Array Slot), b_X2_keptByWay_4 post n σ x1 x2 → gG D ρ κ base s σ H locs → lv_has ls 3 [(0, .ref (ρ (41))), (1, .int (x1)), (2, .int (x2))] → W p l e rm_X2_keptByWay s m args below meth c H locs 0 0 (gQi below args s D ρ κ base post) (F0 m 4 ls []) := by
  obtain ⟨hx, hb, hml, hown, hts, hr, hlocks⟩ := id C
  intro n
  induction n with
  | zero => intro σ x1 x2 H locs ls h G hl; exact False.elim h
  | succ n ih =>
    intro σ x1 x2 H locs ls h G hl
    rw [b_X2_keptByWay_4] at h
    refine lv_iload_n hx hb dX2_keptByWay_4 rfl (lv_at hl 2 rfl) ?_
    refine lv_aload_n hx hb dX2_keptByWay_5 rfl (lv_at hl 0 rfl) ?_
    refine e_geti hx hb hts in_X2_keptByWay_X2 hown K G 41 (by decide) gl_41 rfl 3 (by decide) rfl (hts (.fieldLink RX2 27 "StreetsStepOn$Council" "size" "I") (e_mem (n := 1) rfl)) dX2_keptByWay_6 ?_
    refine lv_icmp_ge (tgt := 32) hx hb dX2_keptByWay_9 (by decide) (fun c3 => ?_) (fun c3 => ?_)
    · have h := h.1 c3
      refine lv_iload_n hx hb dX2_keptByWay_32 rfl (lv_at hl 1 rfl) ?_
      exact e_iret hx hb hr hlocks G h dX2_keptByWay_33
    · have h := h.2 c3
      refine lv_aload_n hx hb dX2_keptByWay_12 rfl (lv_at hl 0 rfl) ?_
      refine lv_iload_n hx hb dX2_keptByWay_13 rfl (lv_at hl 2 rfl) ?_
      exact h.elim
def w_X2_keptByWay (σ : eS) (post : Int32 → eS → Prop) : Prop := ∀ v1 : Int32, v1 = (0 : Int32) → ∀ v2 : Int32, v2 = (0 : Int32) → (∃ n4 : Nat, b_X2_keptByWay_4 post n4 σ v1 v2)
set_option maxHeartbeats 4000000 in
set_option maxRecDepth 100000 in
theorem c_X2_keptByWay {l : Launch} {D : va_G} {ρ : Nat → Nat} {κ : Nat → ClassId} {base : Nat} {σ : eS} {post : Int32 → eS → Prop} (h : w_X2_keptByWay σ post) : gMi l yX2_keptByWay wsX2_keptByWay rm_X2_keptByWay D ρ κ base [.ref (ρ (41))] σ post := by
  refine e_ofWi (cc := cX2_keptByWay) (maxL := 3) (ret := (some .int)) (by decide) rfl (Nat.le_of_ble_eq_true rfl) ?_
  intro p e s m below meth c ls C K G hl
  obtain ⟨hx, hb, hml, hown, hts, hr, hlocks⟩ := id C
  have hl : lv_has ls 3 [(0, .ref (ρ (41)))] := hl
  unfold w_X2_keptByWay at h
  refine lv_iconst (v := (0 : Int32)) hx hb dX2_keptByWay_0 (by decide) ?_
  refine lv_topi (fun v1 ev1 => ?_)
  have h := h v1 ev1
  refine lv_istore_n (lv' := [(1, .int (v1)), (0, .ref (ρ (41)))]) hx hb dX2_keptByWay_1 rfl hl (by decide) rfl (fun ls hl => ?_)
  refine lv_iconst (v := (0 : Int32)) hx hb dX2_keptByWay_2 (by decide) ?_
  refine lv_topi (fun v2 ev2 => ?_)
  have h := h v2 ev2
  refine lv_istore_n (lv' := [(2, .int (v2)), (1, .int (v1)), (0, .ref (ρ (41)))]) hx hb dX2_keptByWay_3 rfl hl (by decide) rfl (fun ls hl => ?_)
  obtain ⟨n4, h⟩ := h
  exact l_X2_keptByWay_4 C K n4 σ v1 v2 _ _ _  h G (lv_sub hl [2, 1, 0] rfl)
abbrev rm_X2_advance : Room := { frames := 0, cells := 0, slots := 0, locals := 0 }
theorem in_X2_advance_X2 : ∀ w ∈ wsX20, w ∈ wsX2_advance := fun w h => List.mem_cons_of_mem _ (List.mem_append_right _ h)
def b_X2_advance_73 (post : Int32 → eS → Prop) (σ : eS) (x1 : Int32) (x2 : Int32) : Prop := False
set_option maxHeartbeats 4000000 in
set_option maxRecDepth 100000 in
theorem l_X2_advance_73 {p : Program} {l : Launch} {e : Env} {s : State} {m : MethodId} {args : Array Value} {below : List Frame} {meth : Method} {c : Code} {D : va_G} {ρ : Nat → Nat} {κ : Nat → ClassId} {base : Nat} {post : Int32 → eS → Prop} (C : eCx p s m args meth c cX2_advance RX2 5 (some .boolean) wsX2_advance) (K : gK D ρ κ base s) : ∀ (σ : eS) (x1 : Int32) (x2 : Int32) (H : Heap) (locs : List Loc) (ls : Array Slot), b_X2_advance_73 post σ x1 x2 → gG D ρ κ base s σ H locs → lv_has ls 5 [(0, .ref (ρ (41))), (1, .int (x1)), (2, .int (x2))] → W p l e rm_X2_advance s m args below meth c H locs 0 0 (gQi below args s D ρ κ base post) (F0 m 73 ls []) := by
  obtain ⟨hx, hb, hml, hown, hts, hr, hlocks⟩ := id C
  intro σ x1 x2 H locs ls h G hl
  unfold b_X2_advance_73 at h
  refine lv_aload_n hx hb dX2_advance_73 rfl (lv_at hl 0 rfl) ?_
  refine lv_iload_n hx hb dX2_advance_74 rfl (lv_at hl 1 rfl) ?_
  refine lv_iload_n hx hb dX2_advance_75 rfl (lv_at hl 2 rfl) ?_
  exact h.elim
def b_X2_advance_47 (post : Int32 → eS → Prop) : Nat → eS → Int32 → Int32 → Prop
  | 0, _, _, _ => False
  | n + 1, σ, x1, x2 => ((x2 ≤ x1 → b_X2_advance_73 post σ x1 x2) ∧ (¬ (x2 ≤ x1) → (vp_in x2 6) ∧ (vp_in x1 6) ∧ (((σ.1 45 x1.toNatClampNeg) ≤ (σ.1 45 x2.toNatClampNeg) → b_X2_advance_73 post σ x1 x2) ∧ (¬ ((σ.1 45 x1.toNatClampNeg) ≤ (σ.1 45 x2.toNatClampNeg)) → ∀ v9 : Int32, v9 = (x2 + (-1 : Int32)) → b_X2_advance_47 post n σ x1 v9))))
set_option maxHeartbeats 4000000 in
set_option maxRecDepth 100000 in
theorem l_X2_advance_47 {p : Program} {l : Launch} {e : Env} {s : State} {m : MethodId} {args : Array Value} {below : List Frame} {meth : Method} {c : Code} {D : va_G} {ρ : Nat → Nat} {κ : Nat → ClassId} {base : Nat} {post : Int32 → eS → Prop} (C : eCx p s m args meth c cX2_advance RX2 5 (some .boolean) wsX2_advance) (K : gK D ρ κ base s) : ∀ (n : Nat) (σ : eS) (x1 : Int32) (x2 : Int32) (H : Heap) (locs : List Loc) (ls : Array Slot), b_X2_advance_47 post n σ x1 x2 → gG D ρ κ base s σ H locs → lv_has ls 5 [(0, .ref (ρ (41))), (1, .int (x1)), (2, .int (x2))] → W p l e rm_X2_advance s m args below meth c H locs 0 0 (gQi below args s D ρ κ base post) (F0 m 47 ls []) := by
  obtain ⟨hx, hb, hml, hown, hts, hr, hlocks⟩ := id C
  intro n
  induction n with
  | zero => intro σ x1 x2 H locs ls h G hl; exact False.elim h
  | succ n ih =>
    intro σ x1 x2 H locs ls h G hl
    rw [b_X2_advance_47] at h
    refine lv_iload_n hx hb dX2_advance_47 rfl (lv_at hl 2 rfl) ?_
    refine lv_iload_n hx hb dX2_advance_48 rfl (lv_at hl 1 rfl) ?_
    refine lv_icmp_le (tgt := 73) hx hb dX2_advance_49 (by decide) (fun c5 => ?_) (fun c5 => ?_)
    · have h := h.1 c5
      exact l_X2_advance_73 C K σ x1 x2 _ _ _  h G (lv_sub hl [0, 1, 2] rfl)
    · have h := h.2 c5
      refine lv_aload_n hx hb dX2_advance_52 rfl (lv_at hl 0 rfl) ?_
      refine e_getq hx hb hts in_X2_advance_X2 hown K G 41 (by decide) gl_41 rfl 4 (by decide) 45 rfl (hts (.fieldLink RX2 21 "StreetsStepOn$Council" "way" "[I") (e_mem (n := 2) rfl)) dX2_advance_53 ?_
      refine lv_iload_n hx hb dX2_advance_56 rfl (lv_at hl 2 rfl) ?_
      have hi6 := h.1
      have h := h.2
      refine e_iald hx hb K G 45 0 0 6 (by decide) gl_45 rfl hi6 dX2_advance_57 ?_
      refine lv_aload_n hx hb dX2_advance_58 rfl (lv_at hl 0 rfl) ?_
      refine e_getq hx hb hts in_X2_advance_X2 hown K G 41 (by decide) gl_41 rfl 4 (by decide) 45 rfl (hts (.fieldLink RX2 21 "StreetsStepOn$Council" "way" "[I") (e_mem (n := 2) rfl)) dX2_advance_59 ?_
      refine lv_iload_n hx hb dX2_advance_62 rfl (lv_at hl 1 rfl) ?_
      have hi7 := h.1
      have h := h.2
      refine e_iald hx hb K G 45 0 0 6 (by decide) gl_45 rfl hi7 dX2_advance_63 ?_
      refine lv_icmp_ge (tgt := 73) hx hb dX2_advance_64 (by decide) (fun c8 => ?_) (fun c8 => ?_)
      · have h := h.1 c8
        exact l_X2_advance_73 C K σ x1 x2 _ _ _  h G (lv_sub hl [0, 1, 2] rfl)
      · have h := h.2 c8
        obtain ⟨v9, ev9⟩ : ∃ y : Int32, y = x2 + (-1 : Int32) := ⟨_, rfl⟩
        have h := h v9 ev9
        refine lv_iinc (v := v9) (lv' := [(2, .int (v9)), (0, .ref (ρ (41))), (1, .int (x1))]) hx hb dX2_advance_67 hl (k := 2) rfl (by rw [ev9]; rfl) (by decide) rfl (fun ls hl => ?_)
        refine lv_goto (tgt := 47) hx hb dX2_advance_70 (by decide) ?_
        exact ih σ x1 v9 _ _ _  h G (lv_sub hl [1, 2, 0] rfl)
def b_X2_advance_34 (post : Int32 → eS → Prop) (σ : eS) (x1 : Int32) : Prop := ((0 ≤ x1 → ∀ v4 : Int32, v4 = ((σ.1 41 5) - (1 : Int32)) → (∃ n10 : Nat, b_X2_advance_47 post n10 σ x1 v4)) ∧ (¬ (0 ≤ x1) → ((narrow .boolean (.int (0 : Int32)) = .int (0 : Int32)) ∧ post (0 : Int32) σ)))
set_option maxHeartbeats 4000000 in
set_option maxRecDepth 100000 in
theorem l_X2_advance_34 {p : Program} {l : Launch} {e : Env} {s : State} {m : MethodId} {args : Array Value} {below : List Frame} {meth : Method} {c : Code} {D : va_G} {ρ : Nat → Nat} {κ : Nat → ClassId} {base : Nat} {post : Int32 → eS → Prop} (C : eCx p s m args meth c cX2_advance RX2 5 (some .boolean) wsX2_advance) (K : gK D ρ κ base s) : ∀ (σ : eS) (x1 : Int32) (H : Heap) (locs : List Loc) (ls : Array Slot), b_X2_advance_34 post σ x1 → gG D ρ κ base s σ H locs → lv_has ls 5 [(0, .ref (ρ (41))), (1, .int (x1))] → W p l e rm_X2_advance s m args below meth c H locs 0 0 (gQi below args s D ρ κ base post) (F0 m 34 ls []) := by
  obtain ⟨hx, hb, hml, hown, hts, hr, hlocks⟩ := id C
  intro σ x1 H locs ls h G hl
  unfold b_X2_advance_34 at h
  refine lv_iload_n hx hb dX2_advance_34 rfl (lv_at hl 1 rfl) ?_
  refine lv_if_ge (tgt := 40) hx hb dX2_advance_35 (by decide) (fun c3 => ?_) (fun c3 => ?_)
  · have h := h.1 c3
    refine lv_aload_n hx hb dX2_advance_40 rfl (lv_at hl 0 rfl) ?_
    refine e_geti hx hb hts in_X2_advance_X2 hown K G 41 (by decide) gl_41 rfl 5 (by decide) rfl (hts (.fieldLink RX2 91 "StreetsStepOn$Council" "waySize" "I") (e_mem (n := 1) rfl)) dX2_advance_41 ?_
    refine lv_iconst (v := (1 : Int32)) hx hb dX2_advance_44 (by decide) ?_
    refine lv_isub hx hb dX2_advance_45 ?_
    refine lv_topi (fun v4 ev4 => ?_)
    have h := h v4 ev4
    refine lv_istore_n (lv' := [(2, .int (v4)), (0, .ref (ρ (41))), (1, .int (x1))]) hx hb dX2_advance_46 rfl hl (by decide) rfl (fun ls hl => ?_)
    obtain ⟨n10, h⟩ := h
    exact l_X2_advance_47 C K n10 σ x1 v4 _ _ _  h G (lv_sub hl [1, 2, 0] rfl)
  · have h := h.2 c3
    refine lv_iconst (v := (0 : Int32)) hx hb dX2_advance_38 (by decide) ?_
    exact e_zret hx hb hr hlocks G h.1 h.2 dX2_advance_39
def b_X2_advance_7 (post : Int32 → eS → Prop) : Nat → eS → Int32 → Prop
  | 0, _, _ => False
  | n + 1, σ, x1 => ((x1 < 0 → b_X2_advance_34 post σ x1) ∧ (¬ (x1 < 0) → (vp_in x1 6) ∧ (vp_in (x1 + (1 : Int32)) 6) ∧ (((σ.1 45 x1.toNatClampNeg) ≤ (σ.1 45 (x1 + (1 : Int32)).toNatClampNeg) → b_X2_advance_34 post σ x1) ∧ (¬ ((σ.1 45 x1.toNatClampNeg) ≤ (σ.1 45 (x1 + (1 : Int32)).toNatClampNeg)) → ∀ v14 : Int32, v14 = (x1 + (-1 : Int32)) → b_X2_advance_7 post n σ v14))))
set_option maxHeartbeats 4000000 in
set_option maxRecDepth 100000 in
theorem l_X2_advance_7 {p : Program} {l : Launch} {e : Env} {s : State} {m : MethodId} {args : Array Value} {below : List Frame} {meth : Method} {c : Code} {D : va_G} {ρ : Nat → Nat} {κ : Nat → ClassId} {base : Nat} {post : Int32 → eS → Prop} (C : eCx p s m args meth c cX2_advance RX2 5 (some .boolean) wsX2_advance) (K : gK D ρ κ base s) : ∀ (n : Nat) (σ : eS) (x1 : Int32) (H : Heap) (locs : List Loc) (ls : Array Slot), b_X2_advance_7 post n σ x1 → gG D ρ κ base s σ H locs → lv_has ls 5 [(0, .ref (ρ (41))), (1, .int (x1))] → W p l e rm_X2_advance s m args below meth c H locs 0 0 (gQi below args s D ρ κ base post) (F0 m 7 ls []) := by
  obtain ⟨hx, hb, hml, hown, hts, hr, hlocks⟩ := id C
  intro n
  induction n with
  | zero => intro σ x1 H locs ls h G hl; exact False.elim h
  | succ n ih =>
    intro σ x1 H locs ls h G hl
    rw [b_X2_advance_7] at h
    refine lv_iload_n hx hb dX2_advance_7 rfl (lv_at hl 1 rfl) ?_
    refine lv_if_lt (tgt := 34) hx hb dX2_advance_8 (by decide) (fun c2 => ?_) (fun c2 => ?_)
    · have h := h.1 c2
      exact l_X2_advance_34 C K σ x1 _ _ _  h G (lv_sub hl [0, 1] rfl)
    · have h := h.2 c2
      refine lv_aload_n hx hb dX2_advance_11 rfl (lv_at hl 0 rfl) ?_
      refine e_getq hx hb hts in_X2_advance_X2 hown K G 41 (by decide) gl_41 rfl 4 (by decide) 45 rfl (hts (.fieldLink RX2 21 "StreetsStepOn$Council" "way" "[I") (e_mem (n := 2) rfl)) dX2_advance_12 ?_
      refine lv_iload_n hx hb dX2_advance_15 rfl (lv_at hl 1 rfl) ?_
      have hi11 := h.1
      have h := h.2
      refine e_iald hx hb K G 45 0 0 6 (by decide) gl_45 rfl hi11 dX2_advance_16 ?_
      refine lv_aload_n hx hb dX2_advance_17 rfl (lv_at hl 0 rfl) ?_
      refine e_getq hx hb hts in_X2_advance_X2 hown K G 41 (by decide) gl_41 rfl 4 (by decide) 45 rfl (hts (.fieldLink RX2 21 "StreetsStepOn$Council" "way" "[I") (e_mem (n := 2) rfl)) dX2_advance_18 ?_
      refine lv_iload_n hx hb dX2_advance_21 rfl (lv_at hl 1 rfl) ?_
      refine lv_iconst (v := (1 : Int32)) hx hb dX2_advance_22 (by decide) ?_
      refine lv_iadd hx hb dX2_advance_23 ?_
      have hi12 := h.1
      have h := h.2
      refine e_iald hx hb K G 45 0 0 6 (by decide) gl_45 rfl hi12 dX2_advance_24 ?_
      refine lv_icmp_le (tgt := 34) hx hb dX2_advance_25 (by decide) (fun c13 => ?_) (fun c13 => ?_)
      · have h := h.1 c13
        exact l_X2_advance_34 C K σ x1 _ _ _  h G (lv_sub hl [0, 1] rfl)
      · have h := h.2 c13
        obtain ⟨v14, ev14⟩ : ∃ y : Int32, y = x1 + (-1 : Int32) := ⟨_, rfl⟩
        have h := h v14 ev14
        refine lv_iinc (v := v14) (lv' := [(1, .int (v14)), (0, .ref (ρ (41)))]) hx hb dX2_advance_28 hl (k := 1) rfl (by rw [ev14]; rfl) (by decide) rfl (fun ls hl => ?_)
        refine lv_goto (tgt := 7) hx hb dX2_advance_31 (by decide) ?_
        exact ih σ v14 _ _ _  h G (lv_sub hl [1, 0] rfl)
def w_X2_advance (σ : eS) (post : Int32 → eS → Prop) : Prop := ∀ v1 : Int32, v1 = ((σ.1 41 5) - (2 : Int32)) → (∃ n15 : Nat, b_X2_advance_7 post n15 σ v1)
set_option maxHeartbeats 4000000 in
set_option maxRecDepth 100000 in
theorem c_X2_advance {l : Launch} {D : va_G} {ρ : Nat → Nat} {κ : Nat → ClassId} {base : Nat} {σ : eS} {post : Int32 → eS → Prop} (h : w_X2_advance σ post) : gMi l yX2_advance wsX2_advance rm_X2_advance D ρ κ base [.ref (ρ (41))] σ post := by
  refine e_ofWi (cc := cX2_advance) (maxL := 5) (ret := (some .boolean)) (by decide) rfl (Nat.le_of_ble_eq_true rfl) ?_
  intro p e s m below meth c ls C K G hl
  obtain ⟨hx, hb, hml, hown, hts, hr, hlocks⟩ := id C
  have hl : lv_has ls 5 [(0, .ref (ρ (41)))] := hl
  unfold w_X2_advance at h
  refine lv_aload_n hx hb dX2_advance_0 rfl (lv_at hl 0 rfl) ?_
  refine e_geti hx hb hts in_X2_advance_X2 hown K G 41 (by decide) gl_41 rfl 5 (by decide) rfl (hts (.fieldLink RX2 91 "StreetsStepOn$Council" "waySize" "I") (e_mem (n := 1) rfl)) dX2_advance_1 ?_
  refine lv_iconst (v := (2 : Int32)) hx hb dX2_advance_4 (by decide) ?_
  refine lv_isub hx hb dX2_advance_5 ?_
  refine lv_topi (fun v1 ev1 => ?_)
  have h := h v1 ev1
  refine lv_istore_n (lv' := [(1, .int (v1)), (0, .ref (ρ (41)))]) hx hb dX2_advance_6 rfl hl (by decide) rfl (fun ls hl => ?_)
  obtain ⟨n15, h⟩ := h
  exact l_X2_advance_7 C K n15 σ v1 _ _ _  h G (lv_sub hl [1, 0] rfl)
abbrev rm_X2_noteFound : Room := { frames := 1, cells := 0, slots := 0, locals := 40 }
theorem in_X2_noteFound_X2 : ∀ w ∈ wsX20, w ∈ wsX2_noteFound := fun w h => List.mem_cons_of_mem _ (List.mem_append_right _ h)
def w_X2_noteFound (σ : eS) (x1 : Int32) (post : eS → Prop) : Prop := ((¬ x1 = (1 : Int32) → post σ) ∧ (x1 = (1 : Int32) → (¬ (0 : Int32) < 0) ∧ (¬ (0 : Int32) < 0) ∧ (¬ (σ.1 41 5) < 0) ∧ (((0 : Int32)).toNatClampNeg + (σ.1 41 5).toNatClampNeg ≤ 6) ∧ (((0 : Int32)).toNatClampNeg + (σ.1 41 5).toNatClampNeg ≤ 6) ∧ ∀ σ7 : eS, σ7 = e_ua σ 46 (va_cpy (σ.1 45) (σ.1 46) ((0 : Int32)).toNatClampNeg ((0 : Int32)).toNatClampNeg (σ.1 41 5).toNatClampNeg) → ∀ σ8 : eS, σ8 = e_ui σ7 41 7 (σ7.1 41 5) → post σ8))
set_option maxHeartbeats 4000000 in
set_option maxRecDepth 100000 in
theorem c_X2_noteFound {l : Launch} {D : va_G} {ρ : Nat → Nat} {κ : Nat → ClassId} {base : Nat} {σ : eS} {x1 : Int32} {post : eS → Prop} (h : w_X2_noteFound σ x1 post) : gMv l yX2_noteFound wsX2_noteFound rm_X2_noteFound D ρ κ base [.ref (ρ (41)), .int (x1)] σ post := by
  refine e_ofWv (cc := cX2_noteFound) (maxL := 2) (ret := none) (by decide) rfl (Nat.le_of_ble_eq_true rfl) ?_
  intro p e s m below meth c ls C K G hl
  obtain ⟨hx, hb, hml, hown, hts, hr, hlocks⟩ := id C
  have hl : lv_has ls 2 [(0, .ref (ρ (41))), (1, .int (x1))] := hl
  unfold w_X2_noteFound at h
  refine lv_iload_n hx hb dX2_noteFound_0 rfl (lv_at hl 1 rfl) ?_
  refine lv_iconst (v := (1 : Int32)) hx hb dX2_noteFound_1 (by decide) ?_
  refine lv_icmp_ne (tgt := 30) hx hb dX2_noteFound_2 (by decide) (fun c1 => ?_) (fun c1 => ?_)
  · have h := h.1 c1
    exact e_vret hx hb hr hlocks G h dX2_noteFound_30
  · have h := h.2 c1
    refine lv_aload_n hx hb dX2_noteFound_5 rfl (lv_at hl 0 rfl) ?_
    refine e_getq hx hb hts in_X2_noteFound_X2 hown K G 41 (by decide) gl_41 rfl 4 (by decide) 45 rfl (hts (.fieldLink RX2 21 "StreetsStepOn$Council" "way" "[I") (e_mem (n := 1) rfl)) dX2_noteFound_6 ?_
    refine lv_iconst (v := (0 : Int32)) hx hb dX2_noteFound_9 (by decide) ?_
    refine lv_aload_n hx hb dX2_noteFound_10 rfl (lv_at hl 0 rfl) ?_
    refine e_getq hx hb hts in_X2_noteFound_X2 hown K G 41 (by decide) gl_41 rfl 6 (by decide) 46 rfl (hts (.fieldLink RX2 24 "StreetsStepOn$Council" "found" "[I") (e_mem (n := 2) rfl)) dX2_noteFound_11 ?_
    refine lv_iconst (v := (0 : Int32)) hx hb dX2_noteFound_14 (by decide) ?_
    refine lv_aload_n hx hb dX2_noteFound_15 rfl (lv_at hl 0 rfl) ?_
    refine e_geti hx hb hts in_X2_noteFound_X2 hown K G 41 (by decide) gl_41 rfl 5 (by decide) rfl (hts (.fieldLink RX2 91 "StreetsStepOn$Council" "waySize" "I") (e_mem (n := 3) rfl)) dX2_noteFound_16 ?_
    have ha2 := h.1
    have h := h.2
    have ha3 := h.1
    have h := h.2
    have ha4 := h.1
    have h := h.2
    have ha5 := h.1
    have h := h.2
    have ha6 := h.1
    have h := h.2
    refine e_copyi hx hb (hml.trans hl.1.symm) hown (hts (.methodLink RX2 103 arraycopyName) (e_mem (n := 4) rfl)) (hts (.native arraycopyName) (e_mem (n := 5) rfl)) (hts (.static arraycopyName) (e_mem (n := 6) rfl)) (hts (.initialized "java/lang/System") (e_mem (n := 7) rfl)) K G 45 46 0 0 6 6 (by decide) (by decide) gl_45 gl_46 rfl rfl ha2 ha3 ha4 ha5 ha6 (Nat.le_of_ble_eq_true rfl) (Nat.le_of_ble_eq_true rfl) dX2_noteFound_19 (fun H locs G => ?_)
    obtain ⟨σ7, eσ7⟩ : ∃ z : eS, z = e_ua σ 46 (va_cpy (σ.1 45) (σ.1 46) ((0 : Int32)).toNatClampNeg ((0 : Int32)).toNatClampNeg (σ.1 41 5).toNatClampNeg) := ⟨_, rfl⟩
    rw [← eσ7] at G
    have h := h σ7 eσ7
    refine lv_aload_n hx hb dX2_noteFound_22 rfl (lv_at hl 0 rfl) ?_
    refine lv_aload_n hx hb dX2_noteFound_23 rfl (lv_at hl 0 rfl) ?_
    refine e_geti hx hb hts in_X2_noteFound_X2 hown K G 41 (by decide) gl_41 rfl 5 (by decide) rfl (hts (.fieldLink RX2 91 "StreetsStepOn$Council" "waySize" "I") (e_mem (n := 3) rfl)) dX2_noteFound_24 ?_
    refine e_puti hx hb hts in_X2_noteFound_X2 tyX2 tyX2_ok nmX2 hown K G 41 (by decide) gl_41 rfl 7 (by decide) rfl (hts (.fieldLink RX2 100 "StreetsStepOn$Council" "foundSize" "I") (e_mem (n := 8) rfl)) rfl (tyX2_ok 7 (by decide)) rfl rfl dX2_noteFound_27 (fun H locs G => ?_)
    obtain ⟨σ8, eσ8⟩ : ∃ z : eS, z = e_ui σ7 41 7 (σ7.1 41 5) := ⟨_, rfl⟩
    rw [← eσ8] at G
    have h := h σ8 eσ8
    exact e_vret hx hb hr hlocks G h dX2_noteFound_30
abbrev rm_X2_ordersKeeping : Room := { frames := 2, cells := 0, slots := 0, locals := 61 }
def b_X2_ordersKeeping_36 (post : Int32 → eS → Prop) (K10 : eS → Int32 → Int32 → Int32 → Prop) (σ : eS) (x2 : Int32) (x3 : Int32) (x4 : Int32) : Prop := w_X2_advance σ (fun r9 σ8 => ((¬ r9 = 0 → ∀ v11 : Int32, v11 = (x4 + (1 : Int32)) → K10 σ8 x2 x3 v11) ∧ (r9 = 0 → post x3 σ8)))
set_option maxHeartbeats 4000000 in
set_option maxRecDepth 100000 in
theorem l_X2_ordersKeeping_36 {p : Program} {l : Launch} {e : Env} {s : State} {m : MethodId} {args : Array Value} {below : List Frame} {meth : Method} {c : Code} {D : va_G} {ρ : Nat → Nat} {κ : Nat → ClassId} {base : Nat} {post : Int32 → eS → Prop} (C : eCx p s m args meth c cX2_ordersKeeping RX2 5 (some .int) wsX2_ordersKeeping) (K : gK D ρ κ base s) {K10 : eS → Int32 → Int32 → Int32 → Prop} (hK10 : ∀ (σ : eS) (x2 : Int32) (x3 : Int32) (x4 : Int32) (H : Heap) (locs : List Loc) (ls : Array Slot), K10 σ x2 x3 x4 → gG D ρ κ base s σ H locs → lv_has ls 5 [(0, .ref (ρ (41))), (2, .int (x2)), (3, .int (x3)), (4, .int (x4))] → W p l e rm_X2_ordersKeeping s m args below meth c H locs 0 0 (gQi below args s D ρ κ base post) (F0 m 10 ls [])) : ∀ (σ : eS) (x2 : Int32) (x3 : Int32) (x4 : Int32) (H : Heap) (locs : List Loc) (ls : Array Slot), b_X2_ordersKeeping_36 post K10 σ x2 x3 x4 → gG D ρ κ base s σ H locs → lv_has ls 5 [(0, .ref (ρ (41))), (2, .int (x2)), (3, .int (x3)), (4, .int (x4))] → W p l e rm_X2_ordersKeeping s m args below meth c H locs 0 0 (gQi below args s D ρ κ base post) (F0 m 36 ls []) := by
  obtain ⟨hx, hb, hml, hown, hts, hr, hlocks⟩ := id C
  intro σ x2 x3 x4 H locs ls h G hl
  unfold b_X2_ordersKeeping_36 at h
  refine lv_aload_n hx hb dX2_ordersKeeping_36 rfl (lv_at hl 0 rfl) ?_
  refine e_callVi (As := []) (rest := []) ⟨hx, hb, hml, hown, hts⟩ K G 41 (by decide) gl_41 rfl (c_X2_advance h) (cwV 0 hts gX2_ordersKeeping_X2_advance rfl rfl rfl (by decide +kernel) ⟨Nat.le_of_ble_eq_true rfl, Nat.le_of_ble_eq_true rfl⟩) rfl hl.1 rfl (Nat.le_of_ble_eq_true rfl) dX2_ordersKeeping_37 ⟨Nat.zero_le _, Nat.zero_le _⟩ (fun r9 σ8 H locs h G => ?_)
  refine lv_if_ne (tgt := 46) hx hb dX2_ordersKeeping_40 (by decide) (fun c10 => ?_) (fun c10 => ?_)
  · have h := h.1 c10
    obtain ⟨v11, ev11⟩ : ∃ y : Int32, y = x4 + (1 : Int32) := ⟨_, rfl⟩
    have h := h v11 ev11
    refine lv_iinc (v := v11) (lv' := [(4, .int (v11)), (0, .ref (ρ (41))), (2, .int (x2)), (3, .int (x3))]) hx hb dX2_ordersKeeping_46 hl (k := 3) rfl (by rw [ev11]; rfl) (by decide) rfl (fun ls hl => ?_)
    refine lv_goto (tgt := 10) hx hb dX2_ordersKeeping_49 (by decide) ?_
    exact hK10 σ8 x2 x3 v11 _ _ _  h G (lv_sub hl [1, 2, 3, 0] rfl)
  · have h := h.2 c10
    refine lv_goto (tgt := 52) hx hb dX2_ordersKeeping_43 (by decide) ?_
    refine lv_iload_n hx hb dX2_ordersKeeping_52 rfl (lv_at hl 2 rfl) ?_
    exact e_iret hx hb hr hlocks G h dX2_ordersKeeping_53
def b_X2_ordersKeeping_10 (post : Int32 → eS → Prop) : Nat → eS → Int32 → Int32 → Int32 → Prop
  | 0, _, _, _, _ => False
  | n + 1, σ, x2, x3, x4 => (((720 : Int32) ≤ x4 → post x3 σ) ∧ (¬ ((720 : Int32) ≤ x4) → w_X2_keptByWay σ (fun r6 σ5 => ((¬ (r6 &&& x2) = x2 → b_X2_ordersKeeping_36 post (fun s x2 x3 x4 => b_X2_ordersKeeping_10 post n s x2 x3 x4) σ5 x2 x3 x4) ∧ ((r6 &&& x2) = x2 → ∀ v12 : Int32, v12 = (x3 + (1 : Int32)) → w_X2_noteFound σ5 v12 (fun σ13 => b_X2_ordersKeeping_36 post (fun s x2 x3 x4 => b_X2_ordersKeeping_10 post n s x2 x3 x4) σ13 x2 v12 x4))))))
set_option maxHeartbeats 4000000 in
set_option maxRecDepth 100000 in
theorem l_X2_ordersKeeping_10 {p : Program} {l : Launch} {e : Env} {s : State} {m : MethodId} {args : Array Value} {below : List Frame} {meth : Method} {c : Code} {D : va_G} {ρ : Nat → Nat} {κ : Nat → ClassId} {base : Nat} {post : Int32 → eS → Prop} (C : eCx p s m args meth c cX2_ordersKeeping RX2 5 (some .int) wsX2_ordersKeeping) (K : gK D ρ κ base s) : ∀ (n : Nat) (σ : eS) (x2 : Int32) (x3 : Int32) (x4 : Int32) (H : Heap) (locs : List Loc) (ls : Array Slot), b_X2_ordersKeeping_10 post n σ x2 x3 x4 → gG D ρ κ base s σ H locs → lv_has ls 5 [(0, .ref (ρ (41))), (2, .int (x2)), (3, .int (x3)), (4, .int (x4))] → W p l e rm_X2_ordersKeeping s m args below meth c H locs 0 0 (gQi below args s D ρ κ base post) (F0 m 10 ls []) := by
  obtain ⟨hx, hb, hml, hown, hts, hr, hlocks⟩ := id C
  intro n
  induction n with
  | zero => intro σ x2 x3 x4 H locs ls h G hl; exact False.elim h
  | succ n ih =>
    intro σ x2 x3 x4 H locs ls h G hl
    rw [b_X2_ordersKeeping_10] at h
    refine lv_iload hx hb dX2_ordersKeeping_10 (lv_at hl 3 rfl) ?_
    refine lv_sipush (v := (720 : Int32)) hx hb dX2_ordersKeeping_12 (by decide) ?_
    refine lv_icmp_ge (tgt := 52) hx hb dX2_ordersKeeping_15 (by decide) (fun c4 => ?_) (fun c4 => ?_)
    · have h := h.1 c4
      refine lv_iload_n hx hb dX2_ordersKeeping_52 rfl (lv_at hl 2 rfl) ?_
      exact e_iret hx hb hr hlocks G h dX2_ordersKeeping_53
    · have h := h.2 c4
      refine lv_aload_n hx hb dX2_ordersKeeping_18 rfl (lv_at hl 0 rfl) ?_
      refine e_callVi (As := []) (rest := []) ⟨hx, hb, hml, hown, hts⟩ K G 41 (by decide) gl_41 rfl (c_X2_keptByWay h) (cwV 0 hts gX2_ordersKeeping_X2_keptByWay rfl rfl rfl (by decide +kernel) ⟨Nat.le_of_ble_eq_true rfl, Nat.le_of_ble_eq_true rfl⟩) rfl hl.1 rfl (Nat.le_of_ble_eq_true rfl) dX2_ordersKeeping_19 ⟨Nat.zero_le _, Nat.zero_le _⟩ (fun r6 σ5 H locs h G => ?_)
      refine lv_iload_n hx hb dX2_ordersKeeping_22 rfl (lv_at hl 1 rfl) ?_
      refine lv_iand hx hb dX2_ordersKeeping_23 ?_
      refine lv_iload_n hx hb dX2_ordersKeeping_24 rfl (lv_at hl 1 rfl) ?_
      refine lv_icmp_ne (tgt := 36) hx hb dX2_ordersKeeping_25 (by decide) (fun c7 => ?_) (fun c7 => ?_)
      · have h := h.1 c7
        exact l_X2_ordersKeeping_36 C K (hK10 := ih) σ5 x2 x3 x4 _ _ _  h G (lv_sub hl [0, 1, 2, 3] rfl)
      · have h := h.2 c7
        obtain ⟨v12, ev12⟩ : ∃ y : Int32, y = x3 + (1 : Int32) := ⟨_, rfl⟩
        have h := h v12 ev12
        refine lv_iinc (v := v12) (lv' := [(3, .int (v12)), (0, .ref (ρ (41))), (2, .int (x2)), (4, .int (x4))]) hx hb dX2_ordersKeeping_28 hl (k := 2) rfl (by rw [ev12]; rfl) (by decide) rfl (fun ls hl => ?_)
        refine lv_aload_n hx hb dX2_ordersKeeping_31 rfl (lv_at hl 1 rfl) ?_
        refine lv_iload_n hx hb dX2_ordersKeeping_32 rfl (lv_at hl 0 rfl) ?_
        refine e_callVv (As := [.int (v12)]) (rest := []) ⟨hx, hb, hml, hown, hts⟩ K G 41 (by decide) gl_41 rfl (c_X2_noteFound h) (cwV 1 hts gX2_ordersKeeping_X2_noteFound rfl rfl rfl (by decide +kernel) ⟨Nat.le_of_ble_eq_true rfl, Nat.le_of_ble_eq_true rfl⟩) rfl hl.1 rfl (Nat.le_of_ble_eq_true rfl) dX2_ordersKeeping_33 ⟨Nat.zero_le _, Nat.zero_le _⟩ (fun σ13 H locs h G => ?_)
        exact l_X2_ordersKeeping_36 C K (hK10 := ih) σ13 x2 v12 x4 _ _ _  h G (lv_sub hl [1, 2, 0, 3] rfl)
def w_X2_ordersKeeping (σ : eS) (x1 : Int32) (x2 : Int32) (post : Int32 → eS → Prop) : Prop := ∀ v1 : Int32, v1 = (0 : Int32) → w_X2_startWays σ x1 (fun σ2 => ∀ v3 : Int32, v3 = (0 : Int32) → (∃ n14 : Nat, b_X2_ordersKeeping_10 post n14 σ2 x2 v1 v3))
set_option maxHeartbeats 4000000 in
set_option maxRecDepth 100000 in
theorem c_X2_ordersKeeping {l : Launch} {D : va_G} {ρ : Nat → Nat} {κ : Nat → ClassId} {base : Nat} {σ : eS} {x1 : Int32} {x2 : Int32} {post : Int32 → eS → Prop} (h : w_X2_ordersKeeping σ x1 x2 post) : gMi l yX2_ordersKeeping wsX2_ordersKeeping rm_X2_ordersKeeping D ρ κ base [.ref (ρ (41)), .int (x1), .int (x2)] σ post := by
  refine e_ofWi (cc := cX2_ordersKeeping) (maxL := 5) (ret := (some .int)) (by decide) rfl (Nat.le_of_ble_eq_true rfl) ?_
  intro p e s m below meth c ls C K G hl
  obtain ⟨hx, hb, hml, hown, hts, hr, hlocks⟩ := id C
  have hl : lv_has ls 5 [(0, .ref (ρ (41))), (1, .int (x1)), (2, .int (x2))] := hl
  unfold w_X2_ordersKeeping at h
  refine lv_iconst (v := (0 : Int32)) hx hb dX2_ordersKeeping_0 (by decide) ?_
  refine lv_topi (fun v1 ev1 => ?_)
  have h := h v1 ev1
  refine lv_istore_n (lv' := [(3, .int (v1)), (0, .ref (ρ (41))), (1, .int (x1)), (2, .int (x2))]) hx hb dX2_ordersKeeping_1 rfl hl (by decide) rfl (fun ls hl => ?_)
  refine lv_aload_n hx hb dX2_ordersKeeping_2 rfl (lv_at hl 1 rfl) ?_
  refine lv_iload_n hx hb dX2_ordersKeeping_3 rfl (lv_at hl 2 rfl) ?_
  refine e_callVv (As := [.int (x1)]) (rest := []) ⟨hx, hb, hml, hown, hts⟩ K G 41 (by decide) gl_41 rfl (c_X2_startWays h) (cwV 1 hts gX2_ordersKeeping_X2_startWays rfl rfl rfl (by decide +kernel) ⟨Nat.le_of_ble_eq_true rfl, Nat.le_of_ble_eq_true rfl⟩) rfl hl.1 rfl (Nat.le_of_ble_eq_true rfl) dX2_ordersKeeping_4 ⟨Nat.zero_le _, Nat.zero_le _⟩ (fun σ2 H locs h G => ?_)
  refine lv_iconst (v := (0 : Int32)) hx hb dX2_ordersKeeping_7 (by decide) ?_
  refine lv_topi (fun v3 ev3 => ?_)
  have h := h v3 ev3
  refine lv_istore (lv' := [(4, .int (v3)), (3, .int (v1)), (0, .ref (ρ (41))), (1, .int (x1)), (2, .int (x2))]) hx hb dX2_ordersKeeping_8 hl (by decide) rfl (fun ls hl => ?_)
  obtain ⟨n14, h⟩ := h
  exact l_X2_ordersKeeping_10 C K n14 σ2 x2 v1 v3 _ _ _  h G (lv_sub hl [2, 4, 1, 0] rfl)
abbrev rm_X10_chooseOrder : Room := { frames := 3, cells := 0, slots := 0, locals := 85 }
theorem in_X10_chooseOrder_X1 : ∀ w ∈ wsX10, w ∈ wsX10_chooseOrder := fun w h => List.mem_cons_of_mem _ (List.mem_append_right _ h)
theorem in_X10_chooseOrder_X10 : ∀ w ∈ wsX100, w ∈ wsX10_chooseOrder := fun w h => List.mem_cons_of_mem _ (List.mem_append_left _ (List.mem_append_left _ (List.mem_append_right _ h)))
theorem in_X10_chooseOrder_X2 : ∀ w ∈ wsX20, w ∈ wsX10_chooseOrder := fun w h => List.mem_cons_of_mem _ (List.mem_append_left _ (List.mem_append_right _ h))
def w_X10_chooseOrder (σ : eS) (x1 : Int32) (post : Int32 → eS → Prop) : Prop := ((x1 < 0 → post (-1 : Int32) σ) ∧ (¬ (x1 < 0) → ((((x1.toUInt32 >>> ((σ.1 41 3).toUInt32 &&& Int32.toUInt32 31)).toInt32) = 0 → (((σ.1 5 4) ≤ (6 : Int32) → w_X2_ordersKeeping σ (σ.1 5 4) x1 (fun r5 σ4 => post r5 σ4)) ∧ (¬ ((σ.1 5 4) ≤ (6 : Int32)) → post (-3 : Int32) σ))) ∧ (¬ (((x1.toUInt32 >>> ((σ.1 41 3).toUInt32 &&& Int32.toUInt32 31)).toInt32) = 0) → post (-1 : Int32) σ))))
set_option maxHeartbeats 4000000 in
set_option maxRecDepth 100000 in
theorem c_X10_chooseOrder {l : Launch} {D : va_G} {ρ : Nat → Nat} {κ : Nat → ClassId} {base : Nat} {σ : eS} {x1 : Int32} {post : Int32 → eS → Prop} (h : w_X10_chooseOrder σ x1 post) : gMi l yX10_chooseOrder wsX10_chooseOrder rm_X10_chooseOrder D ρ κ base [.ref (ρ (0)), .int (x1)] σ post := by
  refine e_ofWi (cc := cX10_chooseOrder) (maxL := 2) (ret := (some .int)) (by decide) rfl (Nat.le_of_ble_eq_true rfl) ?_
  intro p e s m below meth c ls C K G hl
  obtain ⟨hx, hb, hml, hown, hts, hr, hlocks⟩ := id C
  have hl : lv_has ls 2 [(0, .ref (ρ (0))), (1, .int (x1))] := hl
  unfold w_X10_chooseOrder at h
  refine lv_iload_n hx hb dX10_chooseOrder_0 rfl (lv_at hl 1 rfl) ?_
  refine lv_if_lt (tgt := 16) hx hb dX10_chooseOrder_1 (by decide) (fun c1 => ?_) (fun c1 => ?_)
  · have h := h.1 c1
    refine lv_iconst (v := (-1 : Int32)) hx hb dX10_chooseOrder_16 (by decide) ?_
    exact e_iret hx hb hr hlocks G h dX10_chooseOrder_17
  · have h := h.2 c1
    refine lv_iload_n hx hb dX10_chooseOrder_4 rfl (lv_at hl 1 rfl) ?_
    refine lv_aload_n hx hb dX10_chooseOrder_5 rfl (lv_at hl 0 rfl) ?_
    refine e_getq hx hb hts in_X10_chooseOrder_X10 hown K G 0 (by decide) gl_0 rfl 8 (by decide) 41 rfl (hts (.fieldLink RX10 65 "StreetsStepOn" "council" "LStreetsStepOn$Council;") (e_mem (n := 1) rfl)) dX10_chooseOrder_6 ?_
    refine e_getiN hx hb hts in_X10_chooseOrder_X2 hown K G 41 (by decide) gl_41 rfl 3 (by decide) rfl (e_memq (n := 31) rfl) dX10_chooseOrder_9 ?_
    refine lv_iushr hx hb dX10_chooseOrder_12 rfl ?_
    refine lv_if_eq (tgt := 18) hx hb dX10_chooseOrder_13 (by decide) (fun c2 => ?_) (fun c2 => ?_)
    · have h := h.1 c2
      refine lv_aload_n hx hb dX10_chooseOrder_18 rfl (lv_at hl 0 rfl) ?_
      refine e_getq hx hb hts in_X10_chooseOrder_X10 hown K G 0 (by decide) gl_0 rfl 2 (by decide) 5 rfl (hts (.fieldLink RX10 26 "StreetsStepOn" "book" "LStreetsStepOn$Book;") (e_mem (n := 2) rfl)) dX10_chooseOrder_19 ?_
      refine e_getiN hx hb hts in_X10_chooseOrder_X1 hown K G 5 (by decide) gl_5 rfl 4 (by decide) rfl (e_memq (n := 18) rfl) dX10_chooseOrder_22 ?_
      refine lv_bipush (v := (6 : Int32)) hx hb dX10_chooseOrder_25 (by decide) ?_
      refine lv_icmp_le (tgt := 33) hx hb dX10_chooseOrder_27 (by decide) (fun c3 => ?_) (fun c3 => ?_)
      · have h := h.1 c3
        refine lv_aload_n hx hb dX10_chooseOrder_33 rfl (lv_at hl 0 rfl) ?_
        refine e_getq hx hb hts in_X10_chooseOrder_X10 hown K G 0 (by decide) gl_0 rfl 8 (by decide) 41 rfl (hts (.fieldLink RX10 65 "StreetsStepOn" "council" "LStreetsStepOn$Council;") (e_mem (n := 1) rfl)) dX10_chooseOrder_34 ?_
        refine lv_aload_n hx hb dX10_chooseOrder_37 rfl (lv_at hl 0 rfl) ?_
        refine e_getq hx hb hts in_X10_chooseOrder_X10 hown K G 0 (by decide) gl_0 rfl 2 (by decide) 5 rfl (hts (.fieldLink RX10 26 "StreetsStepOn" "book" "LStreetsStepOn$Book;") (e_mem (n := 2) rfl)) dX10_chooseOrder_38 ?_
        refine e_getiN hx hb hts in_X10_chooseOrder_X1 hown K G 5 (by decide) gl_5 rfl 4 (by decide) rfl (e_memq (n := 18) rfl) dX10_chooseOrder_41 ?_
        refine lv_iload_n hx hb dX10_chooseOrder_44 rfl (lv_at hl 1 rfl) ?_
        refine e_callVi (As := [.int (σ.1 5 4), .int (x1)]) (rest := []) ⟨hx, hb, hml, hown, hts⟩ K G 41 (by decide) gl_41 rfl (c_X2_ordersKeeping h) (cwV 2 hts gX10_chooseOrder_X2_ordersKeeping rfl rfl rfl (by decide +kernel) ⟨Nat.le_of_ble_eq_true rfl, Nat.le_of_ble_eq_true rfl⟩) rfl hl.1 rfl (Nat.le_of_ble_eq_true rfl) dX10_chooseOrder_45 ⟨Nat.zero_le _, Nat.zero_le _⟩ (fun r5 σ4 H locs h G => ?_)
        exact e_iret hx hb hr hlocks G h dX10_chooseOrder_48
      · have h := h.2 c3
        refine lv_bipush (v := (-3 : Int32)) hx hb dX10_chooseOrder_30 (by decide) ?_
        exact e_iret hx hb hr hlocks G h dX10_chooseOrder_32
    · have h := h.2 c2
      refine lv_iconst (v := (-1 : Int32)) hx hb dX10_chooseOrder_16 (by decide) ?_
      exact e_iret hx hb hr hlocks G h dX10_chooseOrder_17
abbrev rm_X10_tellFound : Room := { frames := 1, cells := 0, slots := 0, locals := 22 }
theorem in_X10_tellFound_X10 : ∀ w ∈ wsX100, w ∈ wsX10_tellFound := fun w h => List.mem_cons_of_mem _ (List.mem_append_left _ (List.mem_append_left _ (List.mem_append_right _ h)))
theorem in_X10_tellFound_X2 : ∀ w ∈ wsX20, w ∈ wsX10_tellFound := fun w h => List.mem_cons_of_mem _ (List.mem_append_left _ (List.mem_append_right _ h))
def b_X10_tellFound_9 (post : eS → Prop) : Nat → eS → Int32 → Prop
  | 0, _, _ => False
  | n + 1, σ, x1 => (((σ.1 41 7) ≤ x1 → post σ) ∧ (¬ ((σ.1 41 7) ≤ x1) → (vp_in x1 6) ∧ w_X5_add σ ((σ.1 46 x1.toNatClampNeg).toInt64) (fun σ5 => ∀ v6 : Int32, v6 = (x1 + (1 : Int32)) → b_X10_tellFound_9 post n σ5 v6)))
set_option maxHeartbeats 4000000 in
set_option maxRecDepth 100000 in
theorem l_X10_tellFound_9 {p : Program} {l : Launch} {e : Env} {s : State} {m : MethodId} {args : Array Value} {below : List Frame} {meth : Method} {c : Code} {D : va_G} {ρ : Nat → Nat} {κ : Nat → ClassId} {base : Nat} {post : eS → Prop} (C : eCx p s m args meth c cX10_tellFound RX10 2 none wsX10_tellFound) (K : gK D ρ κ base s) : ∀ (n : Nat) (σ : eS) (x1 : Int32) (H : Heap) (locs : List Loc) (ls : Array Slot), b_X10_tellFound_9 post n σ x1 → gG D ρ κ base s σ H locs → lv_has ls 2 [(0, .ref (ρ (0))), (1, .int (x1))] → W p l e rm_X10_tellFound s m args below meth c H locs 0 0 (gQv below args s D ρ κ base post) (F0 m 9 ls []) := by
  obtain ⟨hx, hb, hml, hown, hts, hr, hlocks⟩ := id C
  intro n
  induction n with
  | zero => intro σ x1 H locs ls h G hl; exact False.elim h
  | succ n ih =>
    intro σ x1 H locs ls h G hl
    rw [b_X10_tellFound_9] at h
    refine lv_iload_n hx hb dX10_tellFound_9 rfl (lv_at hl 1 rfl) ?_
    refine lv_aload_n hx hb dX10_tellFound_10 rfl (lv_at hl 0 rfl) ?_
    refine e_getq hx hb hts in_X10_tellFound_X10 hown K G 0 (by decide) gl_0 rfl 8 (by decide) 41 rfl (hts (.fieldLink RX10 65 "StreetsStepOn" "council" "LStreetsStepOn$Council;") (e_mem (n := 2) rfl)) dX10_tellFound_11 ?_
    refine e_getiN hx hb hts in_X10_tellFound_X2 hown K G 41 (by decide) gl_41 rfl 7 (by decide) rfl (e_memq (n := 33) rfl) dX10_tellFound_14 ?_
    refine lv_icmp_ge (tgt := 43) hx hb dX10_tellFound_17 (by decide) (fun c3 => ?_) (fun c3 => ?_)
    · have h := h.1 c3
      exact e_vret hx hb hr hlocks G h dX10_tellFound_43
    · have h := h.2 c3
      refine lv_aload_n hx hb dX10_tellFound_20 rfl (lv_at hl 0 rfl) ?_
      refine e_getq hx hb hts in_X10_tellFound_X10 hown K G 0 (by decide) gl_0 rfl 1 (by decide) 3 rfl (hts (.fieldLink RX10 19 "StreetsStepOn" "told" "LStreetsStepOn$Row;") (e_mem (n := 1) rfl)) dX10_tellFound_21 ?_
      refine lv_aload_n hx hb dX10_tellFound_24 rfl (lv_at hl 0 rfl) ?_
      refine e_getq hx hb hts in_X10_tellFound_X10 hown K G 0 (by decide) gl_0 rfl 8 (by decide) 41 rfl (hts (.fieldLink RX10 65 "StreetsStepOn" "council" "LStreetsStepOn$Council;") (e_mem (n := 2) rfl)) dX10_tellFound_25 ?_
      refine e_getqN hx hb hts in_X10_tellFound_X2 hown K G 41 (by decide) gl_41 rfl 6 (by decide) 46 rfl (e_memq (n := 32) rfl) dX10_tellFound_28 ?_
      refine lv_iload_n hx hb dX10_tellFound_31 rfl (lv_at hl 1 rfl) ?_
      have hi4 := h.1
      have h := h.2
      refine e_iald hx hb K G 46 0 0 6 (by decide) gl_46 rfl hi4 dX10_tellFound_32 ?_
      refine lv_i2l hx hb dX10_tellFound_33 rfl ?_
      refine e_callVv (As := [.long ((σ.1 46 x1.toNatClampNeg).toInt64)]) (rest := []) ⟨hx, hb, hml, hown, hts⟩ K G 3 (by decide) gl_3 rfl (c_X5_add h) (cwV 1 hts gX10_tellFound_X5_add rfl rfl rfl (by decide +kernel) ⟨Nat.le_of_ble_eq_true rfl, Nat.le_of_ble_eq_true rfl⟩) rfl hl.1 rfl (Nat.le_of_ble_eq_true rfl) dX10_tellFound_34 ⟨Nat.zero_le _, Nat.zero_le _⟩ (fun σ5 H locs h G => ?_)
      obtain ⟨v6, ev6⟩ : ∃ y : Int32, y = x1 + (1 : Int32) := ⟨_, rfl⟩
      have h := h v6 ev6
      refine lv_iinc (v := v6) (lv' := [(1, .int (v6)), (0, .ref (ρ (0)))]) hx hb dX10_tellFound_37 hl (k := 1) rfl (by rw [ev6]; rfl) (by decide) rfl (fun ls hl => ?_)
      refine lv_goto (tgt := 9) hx hb dX10_tellFound_40 (by decide) ?_
      exact ih σ5 v6 _ _ _  h G (lv_sub hl [1, 0] rfl)
def w_X10_tellFound (σ : eS) (post : eS → Prop) : Prop := w_X5_clear σ (fun σ1 => ∀ v2 : Int32, v2 = (0 : Int32) → (∃ n7 : Nat, b_X10_tellFound_9 post n7 σ1 v2))
set_option maxHeartbeats 4000000 in
set_option maxRecDepth 100000 in
theorem c_X10_tellFound {l : Launch} {D : va_G} {ρ : Nat → Nat} {κ : Nat → ClassId} {base : Nat} {σ : eS} {post : eS → Prop} (h : w_X10_tellFound σ post) : gMv l yX10_tellFound wsX10_tellFound rm_X10_tellFound D ρ κ base [.ref (ρ (0))] σ post := by
  refine e_ofWv (cc := cX10_tellFound) (maxL := 2) (ret := none) (by decide) rfl (Nat.le_of_ble_eq_true rfl) ?_
  intro p e s m below meth c ls C K G hl
  obtain ⟨hx, hb, hml, hown, hts, hr, hlocks⟩ := id C
  have hl : lv_has ls 2 [(0, .ref (ρ (0)))] := hl
  unfold w_X10_tellFound at h
  refine lv_aload_n hx hb dX10_tellFound_0 rfl (lv_at hl 0 rfl) ?_
  refine e_getq hx hb hts in_X10_tellFound_X10 hown K G 0 (by decide) gl_0 rfl 1 (by decide) 3 rfl (hts (.fieldLink RX10 19 "StreetsStepOn" "told" "LStreetsStepOn$Row;") (e_mem (n := 1) rfl)) dX10_tellFound_1 ?_
  refine e_callVv (As := []) (rest := []) ⟨hx, hb, hml, hown, hts⟩ K G 3 (by decide) gl_3 rfl (c_X5_clear h) (cwV 0 hts gX10_tellFound_X5_clear rfl rfl rfl (by decide +kernel) ⟨Nat.le_of_ble_eq_true rfl, Nat.le_of_ble_eq_true rfl⟩) rfl hl.1 rfl (Nat.le_of_ble_eq_true rfl) dX10_tellFound_4 ⟨Nat.zero_le _, Nat.zero_le _⟩ (fun σ1 H locs h G => ?_)
  refine lv_iconst (v := (0 : Int32)) hx hb dX10_tellFound_7 (by decide) ?_
  refine lv_topi (fun v2 ev2 => ?_)
  have h := h v2 ev2
  refine lv_istore_n (lv' := [(1, .int (v2)), (0, .ref (ρ (0)))]) hx hb dX10_tellFound_8 rfl hl (by decide) rfl (fun ls hl => ?_)
  obtain ⟨n7, h⟩ := h
  exact l_X10_tellFound_9 C K n7 σ1 v2 _ _ _  h G (lv_sub hl [1, 0] rfl)
abbrev rm_X10_choose : Room := { frames := 4, cells := 0, slots := 0, locals := 106 }
def w_X10_choose (σ : eS) (x1 : Int32) (post : Int32 → eS → Prop) : Prop := w_X10_chooseOrder σ x1 (fun r2 σ1 => ((r2 < 0 → post r2 σ1) ∧ (¬ (r2 < 0) → w_X10_tellFound σ1 (fun σ4 => post r2 σ4))))
set_option maxHeartbeats 4000000 in
set_option maxRecDepth 100000 in
theorem c_X10_choose {l : Launch} {D : va_G} {ρ : Nat → Nat} {κ : Nat → ClassId} {base : Nat} {σ : eS} {x1 : Int32} {post : Int32 → eS → Prop} (h : w_X10_choose σ x1 post) : gMi l yX10_choose wsX10_choose rm_X10_choose D ρ κ base [.ref (ρ (0)), .int (x1)] σ post := by
  refine e_ofWi (cc := cX10_choose) (maxL := 3) (ret := (some .int)) (by decide) rfl (Nat.le_of_ble_eq_true rfl) ?_
  intro p e s m below meth c ls C K G hl
  obtain ⟨hx, hb, hml, hown, hts, hr, hlocks⟩ := id C
  have hl : lv_has ls 3 [(0, .ref (ρ (0))), (1, .int (x1))] := hl
  unfold w_X10_choose at h
  refine lv_aload_n hx hb dX10_choose_0 rfl (lv_at hl 0 rfl) ?_
  refine lv_iload_n hx hb dX10_choose_1 rfl (lv_at hl 1 rfl) ?_
  refine e_callVi (As := [.int (x1)]) (rest := []) ⟨hx, hb, hml, hown, hts⟩ K G 0 (by decide) gl_0 rfl (c_X10_chooseOrder h) (cwV 1 hts gX10_choose_X10_chooseOrder rfl rfl rfl (by decide +kernel) ⟨Nat.le_of_ble_eq_true rfl, Nat.le_of_ble_eq_true rfl⟩) rfl hl.1 rfl (Nat.le_of_ble_eq_true rfl) dX10_choose_2 ⟨Nat.zero_le _, Nat.zero_le _⟩ (fun r2 σ1 H locs h G => ?_)
  refine lv_istore_n (lv' := [(2, .int (r2)), (0, .ref (ρ (0))), (1, .int (x1))]) hx hb dX10_choose_5 rfl hl (by decide) rfl (fun ls hl => ?_)
  refine lv_iload_n hx hb dX10_choose_6 rfl (lv_at hl 0 rfl) ?_
  refine lv_if_lt (tgt := 14) hx hb dX10_choose_7 (by decide) (fun c3 => ?_) (fun c3 => ?_)
  · have h := h.1 c3
    refine lv_iload_n hx hb dX10_choose_14 rfl (lv_at hl 0 rfl) ?_
    exact e_iret hx hb hr hlocks G h dX10_choose_15
  · have h := h.2 c3
    refine lv_aload_n hx hb dX10_choose_10 rfl (lv_at hl 1 rfl) ?_
    refine e_callVv (As := []) (rest := []) ⟨hx, hb, hml, hown, hts⟩ K G 0 (by decide) gl_0 rfl (c_X10_tellFound h) (cwV 0 hts gX10_choose_X10_tellFound rfl rfl rfl (by decide +kernel) ⟨Nat.le_of_ble_eq_true rfl, Nat.le_of_ble_eq_true rfl⟩) rfl hl.1 rfl (Nat.le_of_ble_eq_true rfl) dX10_choose_11 ⟨Nat.zero_le _, Nat.zero_le _⟩ (fun σ4 H locs h G => ?_)
    refine lv_iload_n hx hb dX10_choose_14 rfl (lv_at hl 0 rfl) ?_
    exact e_iret hx hb hr hlocks G h dX10_choose_15
abbrev rm_X11_findKeeps : Room := { frames := 2, cells := 0, slots := 0, locals := 44 }
theorem in_X11_findKeeps_X11 : ∀ w ∈ wsX110, w ∈ wsX11_findKeeps := fun w h => List.mem_cons_of_mem _ (List.mem_append_right _ h)
def b_X11_findKeeps_30 (post : eS → Prop) (K13 : eS → Int32 → Prop) : Nat → eS → Int32 → Int32 → Prop
  | 0, _, _, _ => False
  | n + 1, σ, x1, x2 => (((σ.1 97 10) ≤ x2 → ∀ v9 : Int32, v9 = (x1 + (1 : Int32)) → K13 σ v9) ∧ (¬ ((σ.1 97 10) ≤ x2) → (vp_in x1 720) ∧ False))
set_option maxHeartbeats 4000000 in
set_option maxRecDepth 100000 in
theorem l_X11_findKeeps_30 {p : Program} {l : Launch} {e : Env} {s : State} {m : MethodId} {args : Array Value} {below : List Frame} {meth : Method} {c : Code} {D : va_G} {ρ : Nat → Nat} {κ : Nat → ClassId} {base : Nat} {post : eS → Prop} (C : eCx p s m args meth c cX11_findKeeps RX11 3 none wsX11_findKeeps) (K : gK D ρ κ base s) {K13 : eS → Int32 → Prop} (hK13 : ∀ (σ : eS) (x1 : Int32) (H : Heap) (locs : List Loc) (ls : Array Slot), K13 σ x1 → gG D ρ κ base s σ H locs → lv_has ls 3 [(0, .ref (ρ (97))), (1, .int (x1))] → W p l e rm_X11_findKeeps s m args below meth c H locs 0 0 (gQv below args s D ρ κ base post) (F0 m 13 ls [])) : ∀ (n : Nat) (σ : eS) (x1 : Int32) (x2 : Int32) (H : Heap) (locs : List Loc) (ls : Array Slot), b_X11_findKeeps_30 post K13 n σ x1 x2 → gG D ρ κ base s σ H locs → lv_has ls 3 [(0, .ref (ρ (97))), (1, .int (x1)), (2, .int (x2))] → W p l e rm_X11_findKeeps s m args below meth c H locs 0 0 (gQv below args s D ρ κ base post) (F0 m 30 ls []) := by
  obtain ⟨hx, hb, hml, hown, hts, hr, hlocks⟩ := id C
  intro n
  induction n with
  | zero => intro σ x1 x2 H locs ls h G hl; exact False.elim h
  | succ n ih =>
    intro σ x1 x2 H locs ls h G hl
    rw [b_X11_findKeeps_30] at h
    refine lv_iload_n hx hb dX11_findKeeps_30 rfl (lv_at hl 2 rfl) ?_
    refine lv_aload_n hx hb dX11_findKeeps_31 rfl (lv_at hl 0 rfl) ?_
    refine e_geti hx hb hts in_X11_findKeeps_X11 hown K G 97 (by decide) gl_97 rfl 10 (by decide) rfl (hts (.fieldLink RX11 406 "StreetsStepOnModel" "wishes" "I") (e_mem (n := 3) rfl)) dX11_findKeeps_32 ?_
    refine lv_icmp_ge (tgt := 69) hx hb dX11_findKeeps_35 (by decide) (fun c8 => ?_) (fun c8 => ?_)
    · have h := h.1 c8
      obtain ⟨v9, ev9⟩ : ∃ y : Int32, y = x1 + (1 : Int32) := ⟨_, rfl⟩
      have h := h v9 ev9
      refine lv_iinc (v := v9) (lv' := [(1, .int (v9)), (0, .ref (ρ (97))), (2, .int (x2))]) hx hb dX11_findKeeps_69 hl (k := 1) rfl (by rw [ev9]; rfl) (by decide) rfl (fun ls hl => ?_)
      refine lv_goto (tgt := 13) hx hb dX11_findKeeps_72 (by decide) ?_
      exact hK13 σ v9 _ _ _  h G (lv_sub hl [1, 0] rfl)
    · have h := h.2 c8
      refine lv_aload_n hx hb dX11_findKeeps_38 rfl (lv_at hl 0 rfl) ?_
      refine e_getq hx hb hts in_X11_findKeeps_X11 hown K G 97 (by decide) gl_97 rfl 48 (by decide) 120 rfl (hts (.fieldLink RX11 82 "StreetsStepOnModel" "keeps" "[I") (e_mem (n := 2) rfl)) dX11_findKeeps_39 ?_
      refine lv_iload_n hx hb dX11_findKeeps_42 rfl (lv_at hl 1 rfl) ?_
      refine lv_dup2_11 hx hb dX11_findKeeps_43 rfl rfl ?_
      have hi10 := h.1
      have h := h.2
      refine e_iald hx hb K G 120 0 0 720 (by decide) gl_120 rfl hi10 dX11_findKeeps_44 ?_
      refine lv_aload_n hx hb dX11_findKeeps_45 rfl (lv_at hl 0 rfl) ?_
      refine lv_iload_n hx hb dX11_findKeeps_46 rfl (lv_at hl 2 rfl) ?_
      refine lv_iload_n hx hb dX11_findKeeps_47 rfl (lv_at hl 1 rfl) ?_
      exact h.elim
def b_X11_findKeeps_13 (post : eS → Prop) : Nat → eS → Int32 → Prop
  | 0, _, _ => False
  | n + 1, σ, x1 => (((σ.1 97 33) ≤ x1 → post σ) ∧ (¬ ((σ.1 97 33) ≤ x1) → (vp_in x1 720) ∧ ∀ σ6 : eS, σ6 = e_ui σ 120 x1.toNatClampNeg (0 : Int32) → ∀ v7 : Int32, v7 = (0 : Int32) → (∃ n11 : Nat, b_X11_findKeeps_30 post (fun s x1 => b_X11_findKeeps_13 post n s x1) n11 σ6 x1 v7)))
set_option maxHeartbeats 4000000 in
set_option maxRecDepth 100000 in
theorem l_X11_findKeeps_13 {p : Program} {l : Launch} {e : Env} {s : State} {m : MethodId} {args : Array Value} {below : List Frame} {meth : Method} {c : Code} {D : va_G} {ρ : Nat → Nat} {κ : Nat → ClassId} {base : Nat} {post : eS → Prop} (C : eCx p s m args meth c cX11_findKeeps RX11 3 none wsX11_findKeeps) (K : gK D ρ κ base s) : ∀ (n : Nat) (σ : eS) (x1 : Int32) (H : Heap) (locs : List Loc) (ls : Array Slot), b_X11_findKeeps_13 post n σ x1 → gG D ρ κ base s σ H locs → lv_has ls 3 [(0, .ref (ρ (97))), (1, .int (x1))] → W p l e rm_X11_findKeeps s m args below meth c H locs 0 0 (gQv below args s D ρ κ base post) (F0 m 13 ls []) := by
  obtain ⟨hx, hb, hml, hown, hts, hr, hlocks⟩ := id C
  intro n
  induction n with
  | zero => intro σ x1 H locs ls h G hl; exact False.elim h
  | succ n ih =>
    intro σ x1 H locs ls h G hl
    rw [b_X11_findKeeps_13] at h
    refine lv_iload_n hx hb dX11_findKeeps_13 rfl (lv_at hl 1 rfl) ?_
    refine lv_aload_n hx hb dX11_findKeeps_14 rfl (lv_at hl 0 rfl) ?_
    refine e_geti hx hb hts in_X11_findKeeps_X11 hown K G 97 (by decide) gl_97 rfl 33 (by decide) rfl (hts (.fieldLink RX11 302 "StreetsStepOnModel" "wayMany" "I") (e_mem (n := 1) rfl)) dX11_findKeeps_15 ?_
    refine lv_icmp_ge (tgt := 75) hx hb dX11_findKeeps_18 (by decide) (fun c4 => ?_) (fun c4 => ?_)
    · have h := h.1 c4
      exact e_vret hx hb hr hlocks G h dX11_findKeeps_75
    · have h := h.2 c4
      refine lv_aload_n hx hb dX11_findKeeps_21 rfl (lv_at hl 0 rfl) ?_
      refine e_getq hx hb hts in_X11_findKeeps_X11 hown K G 97 (by decide) gl_97 rfl 48 (by decide) 120 rfl (hts (.fieldLink RX11 82 "StreetsStepOnModel" "keeps" "[I") (e_mem (n := 2) rfl)) dX11_findKeeps_22 ?_
      refine lv_iload_n hx hb dX11_findKeeps_25 rfl (lv_at hl 1 rfl) ?_
      refine lv_iconst (v := (0 : Int32)) hx hb dX11_findKeeps_26 (by decide) ?_
      have hi5 := h.1
      have h := h.2
      refine e_iast hx hb K G 120 0 0 720 (by decide) gl_120 rfl hi5 dX11_findKeeps_27 (fun H locs G => ?_)
      obtain ⟨σ6, eσ6⟩ : ∃ z : eS, z = e_ui σ 120 x1.toNatClampNeg (0 : Int32) := ⟨_, rfl⟩
      rw [← eσ6] at G
      have h := h σ6 eσ6
      refine lv_iconst (v := (0 : Int32)) hx hb dX11_findKeeps_28 (by decide) ?_
      refine lv_topi (fun v7 ev7 => ?_)
      have h := h v7 ev7
      refine lv_istore_n (lv' := [(2, .int (v7)), (0, .ref (ρ (97))), (1, .int (x1))]) hx hb dX11_findKeeps_29 rfl hl (by decide) rfl (fun ls hl => ?_)
      obtain ⟨n11, h⟩ := h
      exact l_X11_findKeeps_30 C K (hK13 := ih) n11 σ6 x1 v7 _ _ _  h G (lv_sub hl [1, 2, 0] rfl)
def w_X11_findKeeps (σ : eS) (post : eS → Prop) : Prop := ∀ σ1 : eS, σ1 = e_ui σ 97 33 (0 : Int32) → w_X11_findWays σ1 (0 : Int32) (0 : Int32) (fun σ2 => ∀ v3 : Int32, v3 = (0 : Int32) → (∃ n12 : Nat, b_X11_findKeeps_13 post n12 σ2 v3))
set_option maxHeartbeats 4000000 in
set_option maxRecDepth 100000 in
theorem c_X11_findKeeps {l : Launch} {D : va_G} {ρ : Nat → Nat} {κ : Nat → ClassId} {base : Nat} {σ : eS} {post : eS → Prop} (h : w_X11_findKeeps σ post) : gMv l yX11_findKeeps wsX11_findKeeps rm_X11_findKeeps D ρ κ base [.ref (ρ (97))] σ post := by
  refine e_ofWv (cc := cX11_findKeeps) (maxL := 3) (ret := none) (by decide) rfl (Nat.le_of_ble_eq_true rfl) ?_
  intro p e s m below meth c ls C K G hl
  obtain ⟨hx, hb, hml, hown, hts, hr, hlocks⟩ := id C
  have hl : lv_has ls 3 [(0, .ref (ρ (97)))] := hl
  unfold w_X11_findKeeps at h
  refine lv_aload_n hx hb dX11_findKeeps_0 rfl (lv_at hl 0 rfl) ?_
  refine lv_iconst (v := (0 : Int32)) hx hb dX11_findKeeps_1 (by decide) ?_
  refine e_puti hx hb hts in_X11_findKeeps_X11 tyX11 tyX11_ok nmX11 hown K G 97 (by decide) gl_97 rfl 33 (by decide) rfl (hts (.fieldLink RX11 302 "StreetsStepOnModel" "wayMany" "I") (e_mem (n := 1) rfl)) rfl (tyX11_ok 33 (by decide)) rfl rfl dX11_findKeeps_2 (fun H locs G => ?_)
  obtain ⟨σ1, eσ1⟩ : ∃ z : eS, z = e_ui σ 97 33 (0 : Int32) := ⟨_, rfl⟩
  rw [← eσ1] at G
  have h := h σ1 eσ1
  refine lv_aload_n hx hb dX11_findKeeps_5 rfl (lv_at hl 0 rfl) ?_
  refine lv_iconst (v := (0 : Int32)) hx hb dX11_findKeeps_6 (by decide) ?_
  refine lv_iconst (v := (0 : Int32)) hx hb dX11_findKeeps_7 (by decide) ?_
  refine e_callVv (As := [.int ((0 : Int32)), .int ((0 : Int32))]) (rest := []) ⟨hx, hb, hml, hown, hts⟩ K G 97 (by decide) gl_97 rfl (c_X11_findWays h) (cwV 2 hts gX11_findKeeps_X11_findWays rfl rfl rfl (by decide +kernel) ⟨Nat.le_of_ble_eq_true rfl, Nat.le_of_ble_eq_true rfl⟩) rfl hl.1 rfl (Nat.le_of_ble_eq_true rfl) dX11_findKeeps_8 ⟨Nat.zero_le _, Nat.zero_le _⟩ (fun σ2 H locs h G => ?_)
  refine lv_iconst (v := (0 : Int32)) hx hb dX11_findKeeps_11 (by decide) ?_
  refine lv_topi (fun v3 ev3 => ?_)
  have h := h v3 ev3
  refine lv_istore_n (lv' := [(1, .int (v3)), (0, .ref (ρ (97)))]) hx hb dX11_findKeeps_12 rfl hl (by decide) rfl (fun ls hl => ?_)
  obtain ⟨n12, h⟩ := h
  exact l_X11_findKeeps_13 C K n12 σ2 v3 _ _ _  h G (lv_sub hl [1, 0] rfl)
abbrev rm_X11_choosing : Room := { frames := 3, cells := 0, slots := 0, locals := 66 }
theorem in_X11_choosing_X11 : ∀ w ∈ wsX110, w ∈ wsX11_choosing := fun w h => List.mem_cons_of_mem _ (List.mem_append_right _ h)
def b_X11_choosing_45 (post : Int32 → eS → Prop) (K18 : eS → Int32 → Int32 → Int32 → Prop) (σ : eS) (x1 : Int32) (x2 : Int32) (x3 : Int32) : Prop := ∀ v10 : Int32, v10 = (x3 + (-1 : Int32)) → K18 σ x1 x2 v10
set_option maxHeartbeats 4000000 in
set_option maxRecDepth 100000 in
theorem l_X11_choosing_45 {p : Program} {l : Launch} {e : Env} {s : State} {m : MethodId} {args : Array Value} {below : List Frame} {meth : Method} {c : Code} {D : va_G} {ρ : Nat → Nat} {κ : Nat → ClassId} {base : Nat} {post : Int32 → eS → Prop} (C : eCx p s m args meth c cX11_choosing RX11 4 (some .int) wsX11_choosing) (K : gK D ρ κ base s) {K18 : eS → Int32 → Int32 → Int32 → Prop} (hK18 : ∀ (σ : eS) (x1 : Int32) (x2 : Int32) (x3 : Int32) (H : Heap) (locs : List Loc) (ls : Array Slot), K18 σ x1 x2 x3 → gG D ρ κ base s σ H locs → lv_has ls 4 [(0, .ref (ρ (97))), (1, .int (x1)), (2, .int (x2)), (3, .int (x3))] → W p l e rm_X11_choosing s m args below meth c H locs 0 0 (gQi below args s D ρ κ base post) (F0 m 18 ls [])) : ∀ (σ : eS) (x1 : Int32) (x2 : Int32) (x3 : Int32) (H : Heap) (locs : List Loc) (ls : Array Slot), b_X11_choosing_45 post K18 σ x1 x2 x3 → gG D ρ κ base s σ H locs → lv_has ls 4 [(0, .ref (ρ (97))), (1, .int (x1)), (2, .int (x2)), (3, .int (x3))] → W p l e rm_X11_choosing s m args below meth c H locs 0 0 (gQi below args s D ρ κ base post) (F0 m 45 ls []) := by
  obtain ⟨hx, hb, hml, hown, hts, hr, hlocks⟩ := id C
  intro σ x1 x2 x3 H locs ls h G hl
  unfold b_X11_choosing_45 at h
  obtain ⟨v10, ev10⟩ : ∃ y : Int32, y = x3 + (-1 : Int32) := ⟨_, rfl⟩
  have h := h v10 ev10
  refine lv_iinc (v := v10) (lv' := [(3, .int (v10)), (0, .ref (ρ (97))), (1, .int (x1)), (2, .int (x2))]) hx hb dX11_choosing_45 hl (k := 3) rfl (by rw [ev10]; rfl) (by decide) rfl (fun ls hl => ?_)
  refine lv_goto (tgt := 18) hx hb dX11_choosing_48 (by decide) ?_
  exact hK18 σ x1 x2 v10 _ _ _  h G (lv_sub hl [1, 2, 3, 0] rfl)
def b_X11_choosing_18 (post : Int32 → eS → Prop) : Nat → eS → Int32 → Int32 → Int32 → Prop
  | 0, _, _, _, _ => False
  | n + 1, σ, x1, x2, x3 => ((x3 < 0 → post x2 σ) ∧ (¬ (x3 < 0) → (vp_in x3 720) ∧ ((((σ.1 120 x3.toNatClampNeg) &&& x1) = x1 → ∀ σ8 : eS, σ8 = e_ui σ 97 49 x3 → ∀ v9 : Int32, v9 = (x2 + (1 : Int32)) → b_X11_choosing_45 post (fun s x1 x2 x3 => b_X11_choosing_18 post n s x1 x2 x3) σ8 x1 v9 x3) ∧ (¬ (((σ.1 120 x3.toNatClampNeg) &&& x1) = x1) → b_X11_choosing_45 post (fun s x1 x2 x3 => b_X11_choosing_18 post n s x1 x2 x3) σ x1 x2 x3))))
set_option maxHeartbeats 4000000 in
set_option maxRecDepth 100000 in
theorem l_X11_choosing_18 {p : Program} {l : Launch} {e : Env} {s : State} {m : MethodId} {args : Array Value} {below : List Frame} {meth : Method} {c : Code} {D : va_G} {ρ : Nat → Nat} {κ : Nat → ClassId} {base : Nat} {post : Int32 → eS → Prop} (C : eCx p s m args meth c cX11_choosing RX11 4 (some .int) wsX11_choosing) (K : gK D ρ κ base s) : ∀ (n : Nat) (σ : eS) (x1 : Int32) (x2 : Int32) (x3 : Int32) (H : Heap) (locs : List Loc) (ls : Array Slot), b_X11_choosing_18 post n σ x1 x2 x3 → gG D ρ κ base s σ H locs → lv_has ls 4 [(0, .ref (ρ (97))), (1, .int (x1)), (2, .int (x2)), (3, .int (x3))] → W p l e rm_X11_choosing s m args below meth c H locs 0 0 (gQi below args s D ρ κ base post) (F0 m 18 ls []) := by
  obtain ⟨hx, hb, hml, hown, hts, hr, hlocks⟩ := id C
  intro n
  induction n with
  | zero => intro σ x1 x2 x3 H locs ls h G hl; exact False.elim h
  | succ n ih =>
    intro σ x1 x2 x3 H locs ls h G hl
    rw [b_X11_choosing_18] at h
    refine lv_iload_n hx hb dX11_choosing_18 rfl (lv_at hl 3 rfl) ?_
    refine lv_if_lt (tgt := 51) hx hb dX11_choosing_19 (by decide) (fun c5 => ?_) (fun c5 => ?_)
    · have h := h.1 c5
      refine lv_iload_n hx hb dX11_choosing_51 rfl (lv_at hl 2 rfl) ?_
      exact e_iret hx hb hr hlocks G h dX11_choosing_52
    · have h := h.2 c5
      refine lv_aload_n hx hb dX11_choosing_22 rfl (lv_at hl 0 rfl) ?_
      refine e_getq hx hb hts in_X11_choosing_X11 hown K G 97 (by decide) gl_97 rfl 48 (by decide) 120 rfl (hts (.fieldLink RX11 82 "StreetsStepOnModel" "keeps" "[I") (e_mem (n := 3) rfl)) dX11_choosing_23 ?_
      refine lv_iload_n hx hb dX11_choosing_26 rfl (lv_at hl 3 rfl) ?_
      have hi6 := h.1
      have h := h.2
      refine e_iald hx hb K G 120 0 0 720 (by decide) gl_120 rfl hi6 dX11_choosing_27 ?_
      refine lv_iload_n hx hb dX11_choosing_28 rfl (lv_at hl 1 rfl) ?_
      refine lv_iand hx hb dX11_choosing_29 ?_
      refine lv_iload_n hx hb dX11_choosing_30 rfl (lv_at hl 1 rfl) ?_
      refine lv_icmp_eq (tgt := 37) hx hb dX11_choosing_31 (by decide) (fun c7 => ?_) (fun c7 => ?_)
      · have h := h.1 c7
        refine lv_aload_n hx hb dX11_choosing_37 rfl (lv_at hl 0 rfl) ?_
        refine lv_iload_n hx hb dX11_choosing_38 rfl (lv_at hl 3 rfl) ?_
        refine e_puti hx hb hts in_X11_choosing_X11 tyX11 tyX11_ok nmX11 hown K G 97 (by decide) gl_97 rfl 49 (by decide) rfl (hts (.fieldLink RX11 418 "StreetsStepOnModel" "chosen" "I") (e_mem (n := 1) rfl)) rfl (tyX11_ok 49 (by decide)) rfl rfl dX11_choosing_39 (fun H locs G => ?_)
        obtain ⟨σ8, eσ8⟩ : ∃ z : eS, z = e_ui σ 97 49 x3 := ⟨_, rfl⟩
        rw [← eσ8] at G
        have h := h σ8 eσ8
        obtain ⟨v9, ev9⟩ : ∃ y : Int32, y = x2 + (1 : Int32) := ⟨_, rfl⟩
        have h := h v9 ev9
        refine lv_iinc (v := v9) (lv' := [(2, .int (v9)), (0, .ref (ρ (97))), (1, .int (x1)), (3, .int (x3))]) hx hb dX11_choosing_42 hl (k := 2) rfl (by rw [ev9]; rfl) (by decide) rfl (fun ls hl => ?_)
        exact l_X11_choosing_45 C K (hK18 := ih) σ8 x1 v9 x3 _ _ _  h G (lv_sub hl [1, 2, 0, 3] rfl)
      · have h := h.2 c7
        refine lv_goto (tgt := 45) hx hb dX11_choosing_34 (by decide) ?_
        exact l_X11_choosing_45 C K (hK18 := ih) σ x1 x2 x3 _ _ _  h G (lv_sub hl [0, 1, 2, 3] rfl)
def w_X11_choosing (σ : eS) (x1 : Int32) (post : Int32 → eS → Prop) : Prop := w_X11_findKeeps σ (fun σ1 => ∀ σ2 : eS, σ2 = e_ui σ1 97 49 (-1 : Int32) → ∀ v3 : Int32, v3 = (0 : Int32) → ∀ v4 : Int32, v4 = ((σ2.1 97 33) - (1 : Int32)) → (∃ n11 : Nat, b_X11_choosing_18 post n11 σ2 x1 v3 v4))
set_option maxHeartbeats 4000000 in
set_option maxRecDepth 100000 in
theorem c_X11_choosing {l : Launch} {D : va_G} {ρ : Nat → Nat} {κ : Nat → ClassId} {base : Nat} {σ : eS} {x1 : Int32} {post : Int32 → eS → Prop} (h : w_X11_choosing σ x1 post) : gMi l yX11_choosing wsX11_choosing rm_X11_choosing D ρ κ base [.ref (ρ (97)), .int (x1)] σ post := by
  refine e_ofWi (cc := cX11_choosing) (maxL := 4) (ret := (some .int)) (by decide) rfl (Nat.le_of_ble_eq_true rfl) ?_
  intro p e s m below meth c ls C K G hl
  obtain ⟨hx, hb, hml, hown, hts, hr, hlocks⟩ := id C
  have hl : lv_has ls 4 [(0, .ref (ρ (97))), (1, .int (x1))] := hl
  unfold w_X11_choosing at h
  refine lv_aload_n hx hb dX11_choosing_0 rfl (lv_at hl 0 rfl) ?_
  refine e_callVv (As := []) (rest := []) ⟨hx, hb, hml, hown, hts⟩ K G 97 (by decide) gl_97 rfl (c_X11_findKeeps h) (cwV 0 hts gX11_choosing_X11_findKeeps rfl rfl rfl (by decide +kernel) ⟨Nat.le_of_ble_eq_true rfl, Nat.le_of_ble_eq_true rfl⟩) rfl hl.1 rfl (Nat.le_of_ble_eq_true rfl) dX11_choosing_1 ⟨Nat.zero_le _, Nat.zero_le _⟩ (fun σ1 H locs h G => ?_)
  refine lv_aload_n hx hb dX11_choosing_4 rfl (lv_at hl 0 rfl) ?_
  refine lv_iconst (v := (-1 : Int32)) hx hb dX11_choosing_5 (by decide) ?_
  refine e_puti hx hb hts in_X11_choosing_X11 tyX11 tyX11_ok nmX11 hown K G 97 (by decide) gl_97 rfl 49 (by decide) rfl (hts (.fieldLink RX11 418 "StreetsStepOnModel" "chosen" "I") (e_mem (n := 1) rfl)) rfl (tyX11_ok 49 (by decide)) rfl rfl dX11_choosing_6 (fun H locs G => ?_)
  obtain ⟨σ2, eσ2⟩ : ∃ z : eS, z = e_ui σ1 97 49 (-1 : Int32) := ⟨_, rfl⟩
  rw [← eσ2] at G
  have h := h σ2 eσ2
  refine lv_iconst (v := (0 : Int32)) hx hb dX11_choosing_9 (by decide) ?_
  refine lv_topi (fun v3 ev3 => ?_)
  have h := h v3 ev3
  refine lv_istore_n (lv' := [(2, .int (v3)), (0, .ref (ρ (97))), (1, .int (x1))]) hx hb dX11_choosing_10 rfl hl (by decide) rfl (fun ls hl => ?_)
  refine lv_aload_n hx hb dX11_choosing_11 rfl (lv_at hl 1 rfl) ?_
  refine e_geti hx hb hts in_X11_choosing_X11 hown K G 97 (by decide) gl_97 rfl 33 (by decide) rfl (hts (.fieldLink RX11 302 "StreetsStepOnModel" "wayMany" "I") (e_mem (n := 2) rfl)) dX11_choosing_12 ?_
  refine lv_iconst (v := (1 : Int32)) hx hb dX11_choosing_15 (by decide) ?_
  refine lv_isub hx hb dX11_choosing_16 ?_
  refine lv_topi (fun v4 ev4 => ?_)
  have h := h v4 ev4
  refine lv_istore_n (lv' := [(3, .int (v4)), (2, .int (v3)), (0, .ref (ρ (97))), (1, .int (x1))]) hx hb dX11_choosing_17 rfl hl (by decide) rfl (fun ls hl => ?_)
  obtain ⟨n11, h⟩ := h
  exact l_X11_choosing_18 C K n11 σ2 x1 v3 v4 _ _ _  h G (lv_sub hl [2, 3, 1, 0] rfl)
abbrev rm_X11_choose : Room := { frames := 4, cells := 0, slots := 0, locals := 89 }
theorem in_X11_choose_X11 : ∀ w ∈ wsX110, w ∈ wsX11_choose := fun w h => List.mem_cons_of_mem _ (List.mem_append_right _ h)
def w_X11_choose (σ : eS) (x1 : Int32) (post : Int32 → eS → Prop) : Prop := ∀ σ1 : eS, σ1 = e_ui σ 97 18 (0 : Int32) → w_X11_in σ1 (x1.toInt64) (0 : Int64) ((((1 : Int32) <<< ((σ1.1 97 10) &&& 31)) - (1 : Int32)).toInt64) (fun r3 σ2 => ((¬ r3 = 0 → (((σ2.1 97 0) ≤ (6 : Int32) → w_X11_choosing σ2 x1 (fun r7 σ6 => ∀ σ8 : eS, σ8 = e_ui σ6 97 17 (0 : Int32) → ((r7 ≤ 0 → post r7 σ8) ∧ (¬ (r7 ≤ 0) → w_X11_tellWay σ8 (σ8.1 97 49) (fun σ10 => post r7 σ10))))) ∧ (¬ ((σ2.1 97 0) ≤ (6 : Int32)) → post (-3 : Int32) σ2))) ∧ (r3 = 0 → post (-1 : Int32) σ2)))
set_option maxHeartbeats 4000000 in
set_option maxRecDepth 100000 in
theorem c_X11_choose {l : Launch} {D : va_G} {ρ : Nat → Nat} {κ : Nat → ClassId} {base : Nat} {σ : eS} {x1 : Int32} {post : Int32 → eS → Prop} (h : w_X11_choose σ x1 post) : gMi l yX11_choose wsX11_choose rm_X11_choose D ρ κ base [.ref (ρ (97)), .int (x1)] σ post := by
  refine e_ofWi (cc := cX11_choose) (maxL := 3) (ret := (some .int)) (by decide) rfl (Nat.le_of_ble_eq_true rfl) ?_
  intro p e s m below meth c ls C K G hl
  obtain ⟨hx, hb, hml, hown, hts, hr, hlocks⟩ := id C
  have hl : lv_has ls 3 [(0, .ref (ρ (97))), (1, .int (x1))] := hl
  unfold w_X11_choose at h
  refine lv_aload_n hx hb dX11_choose_0 rfl (lv_at hl 0 rfl) ?_
  refine lv_iconst (v := (0 : Int32)) hx hb dX11_choose_1 (by decide) ?_
  refine e_puti hx hb hts in_X11_choose_X11 tyX11 tyX11_ok nmX11 hown K G 97 (by decide) gl_97 rfl 18 (by decide) rfl (hts (.fieldLink RX11 98 "StreetsStepOnModel" "thrown" "I") (e_mem (n := 1) rfl)) rfl (tyX11_ok 18 (by decide)) rfl rfl dX11_choose_2 (fun H locs G => ?_)
  obtain ⟨σ1, eσ1⟩ : ∃ z : eS, z = e_ui σ 97 18 (0 : Int32) := ⟨_, rfl⟩
  rw [← eσ1] at G
  have h := h σ1 eσ1
  refine lv_iload_n hx hb dX11_choose_5 rfl (lv_at hl 1 rfl) ?_
  refine lv_i2l hx hb dX11_choose_6 rfl ?_
  refine lv_lconst (v := (0 : Int64)) hx hb dX11_choose_7 (by decide) ?_
  refine lv_iconst (v := (1 : Int32)) hx hb dX11_choose_8 (by decide) ?_
  refine lv_aload_n hx hb dX11_choose_9 rfl (lv_at hl 0 rfl) ?_
  refine e_geti hx hb hts in_X11_choose_X11 hown K G 97 (by decide) gl_97 rfl 10 (by decide) rfl (hts (.fieldLink RX11 406 "StreetsStepOnModel" "wishes" "I") (e_mem (n := 2) rfl)) dX11_choose_10 ?_
  refine lv_ishl hx hb dX11_choose_13 ?_
  refine lv_iconst (v := (1 : Int32)) hx hb dX11_choose_14 (by decide) ?_
  refine lv_isub hx hb dX11_choose_15 ?_
  refine lv_i2l hx hb dX11_choose_16 rfl ?_
  refine e_callSi (As := [.long (x1.toInt64), .long ((0 : Int64)), .long ((((1 : Int32) <<< ((σ1.1 97 10) &&& 31)) - (1 : Int32)).toInt64)]) (rest := []) ⟨hx, hb, hml, hown, hts⟩ K G (c_X11_in h) (va_cwS 3 hts gX11_choose_X11_in rfl rfl rfl (by decide +kernel) ⟨Nat.le_of_ble_eq_true rfl, Nat.le_of_ble_eq_true rfl⟩) rfl hl.1 rfl (Nat.le_of_ble_eq_true rfl) dX11_choose_17 ⟨Nat.zero_le _, Nat.zero_le _⟩ (fun r3 σ2 H locs h G => ?_)
  refine lv_if_ne (tgt := 25) hx hb dX11_choose_20 (by decide) (fun c4 => ?_) (fun c4 => ?_)
  · have h := h.1 c4
    refine lv_aload_n hx hb dX11_choose_25 rfl (lv_at hl 0 rfl) ?_
    refine e_geti hx hb hts in_X11_choose_X11 hown K G 97 (by decide) gl_97 rfl 0 (by decide) rfl (hts (.fieldLink RX11 104 "StreetsStepOnModel" "streets" "I") (e_mem (n := 3) rfl)) dX11_choose_26 ?_
    refine lv_bipush (v := (6 : Int32)) hx hb dX11_choose_29 (by decide) ?_
    refine lv_icmp_le (tgt := 37) hx hb dX11_choose_31 (by decide) (fun c5 => ?_) (fun c5 => ?_)
    · have h := h.1 c5
      refine lv_aload_n hx hb dX11_choose_37 rfl (lv_at hl 0 rfl) ?_
      refine lv_iload_n hx hb dX11_choose_38 rfl (lv_at hl 1 rfl) ?_
      refine e_callVi (As := [.int (x1)]) (rest := []) ⟨hx, hb, hml, hown, hts⟩ K G 97 (by decide) gl_97 rfl (c_X11_choosing h) (cwV 1 hts gX11_choose_X11_choosing rfl rfl rfl (by decide +kernel) ⟨Nat.le_of_ble_eq_true rfl, Nat.le_of_ble_eq_true rfl⟩) rfl hl.1 rfl (Nat.le_of_ble_eq_true rfl) dX11_choose_39 ⟨Nat.zero_le _, Nat.zero_le _⟩ (fun r7 σ6 H locs h G => ?_)
      refine lv_istore_n (lv' := [(2, .int (r7)), (0, .ref (ρ (97))), (1, .int (x1))]) hx hb dX11_choose_42 rfl hl (by decide) rfl (fun ls hl => ?_)
      refine lv_aload_n hx hb dX11_choose_43 rfl (lv_at hl 1 rfl) ?_
      refine lv_iconst (v := (0 : Int32)) hx hb dX11_choose_44 (by decide) ?_
      refine e_puti hx hb hts in_X11_choose_X11 tyX11 tyX11_ok nmX11 hown K G 97 (by decide) gl_97 rfl 17 (by decide) rfl (hts (.fieldLink RX11 101 "StreetsStepOnModel" "rowMany" "I") (e_mem (n := 4) rfl)) rfl (tyX11_ok 17 (by decide)) rfl rfl dX11_choose_45 (fun H locs G => ?_)
      obtain ⟨σ8, eσ8⟩ : ∃ z : eS, z = e_ui σ6 97 17 (0 : Int32) := ⟨_, rfl⟩
      rw [← eσ8] at G
      have h := h σ8 eσ8
      refine lv_iload_n hx hb dX11_choose_48 rfl (lv_at hl 0 rfl) ?_
      refine lv_if_le (tgt := 60) hx hb dX11_choose_49 (by decide) (fun c9 => ?_) (fun c9 => ?_)
      · have h := h.1 c9
        refine lv_iload_n hx hb dX11_choose_60 rfl (lv_at hl 0 rfl) ?_
        exact e_iret hx hb hr hlocks G h dX11_choose_61
      · have h := h.2 c9
        refine lv_aload_n hx hb dX11_choose_52 rfl (lv_at hl 1 rfl) ?_
        refine lv_aload_n hx hb dX11_choose_53 rfl (lv_at hl 1 rfl) ?_
        refine e_geti hx hb hts in_X11_choose_X11 hown K G 97 (by decide) gl_97 rfl 49 (by decide) rfl (hts (.fieldLink RX11 418 "StreetsStepOnModel" "chosen" "I") (e_mem (n := 5) rfl)) dX11_choose_54 ?_
        refine e_callVv (As := [.int (σ8.1 97 49)]) (rest := []) ⟨hx, hb, hml, hown, hts⟩ K G 97 (by decide) gl_97 rfl (c_X11_tellWay h) (cwV 1 hts gX11_choose_X11_tellWay rfl rfl rfl (by decide +kernel) ⟨Nat.le_of_ble_eq_true rfl, Nat.le_of_ble_eq_true rfl⟩) rfl hl.1 rfl (Nat.le_of_ble_eq_true rfl) dX11_choose_57 ⟨Nat.zero_le _, Nat.zero_le _⟩ (fun σ10 H locs h G => ?_)
        refine lv_iload_n hx hb dX11_choose_60 rfl (lv_at hl 0 rfl) ?_
        exact e_iret hx hb hr hlocks G h dX11_choose_61
    · have h := h.2 c5
      refine lv_bipush (v := (-3 : Int32)) hx hb dX11_choose_34 (by decide) ?_
      exact e_iret hx hb hr hlocks G h dX11_choose_36
  · have h := h.2 c4
    refine lv_iconst (v := (-1 : Int32)) hx hb dX11_choose_23 (by decide) ?_
    exact e_iret hx hb hr hlocks G h dX11_choose_24
abbrev rm_X2_fewestTogether : Room := { frames := 2, cells := 0, slots := 0, locals := 36 }
theorem in_X2_fewestTogether_X2 : ∀ w ∈ wsX20, w ∈ wsX2_fewestTogether := fun w h => List.mem_cons_of_mem _ (List.mem_append_right _ h)
def b_X2_fewestTogether_104 (post : Int32 → eS → Prop) (K49 : eS → Int64 → Int32 → Int32 → Prop) (σ : eS) (x2 : Int64) (x4 : Int32) (x5 : Int32) : Prop := ∀ v10 : Int32, v10 = (x5 + (1 : Int32)) → K49 σ x2 x4 v10
set_option maxHeartbeats 4000000 in
set_option maxRecDepth 100000 in
theorem l_X2_fewestTogether_104 {p : Program} {l : Launch} {e : Env} {s : State} {m : MethodId} {args : Array Value} {below : List Frame} {meth : Method} {c : Code} {D : va_G} {ρ : Nat → Nat} {κ : Nat → ClassId} {base : Nat} {post : Int32 → eS → Prop} (C : eCx p s m args meth c cX2_fewestTogether RX2 7 (some .int) wsX2_fewestTogether) (K : gK D ρ κ base s) {K49 : eS → Int64 → Int32 → Int32 → Prop} (hK49 : ∀ (σ : eS) (x2 : Int64) (x4 : Int32) (x5 : Int32) (H : Heap) (locs : List Loc) (ls : Array Slot), K49 σ x2 x4 x5 → gG D ρ κ base s σ H locs → lv_has ls 7 [(0, .ref (ρ (41))), (2, .long (x2)), (4, .int (x4)), (5, .int (x5))] → W p l e rm_X2_fewestTogether s m args below meth c H locs 0 0 (gQi below args s D ρ κ base post) (F0 m 49 ls [])) : ∀ (σ : eS) (x2 : Int64) (x4 : Int32) (x5 : Int32) (H : Heap) (locs : List Loc) (ls : Array Slot), b_X2_fewestTogether_104 post K49 σ x2 x4 x5 → gG D ρ κ base s σ H locs → lv_has ls 7 [(0, .ref (ρ (41))), (2, .long (x2)), (4, .int (x4)), (5, .int (x5))] → W p l e rm_X2_fewestTogether s m args below meth c H locs 0 0 (gQi below args s D ρ κ base post) (F0 m 104 ls []) := by
  obtain ⟨hx, hb, hml, hown, hts, hr, hlocks⟩ := id C
  intro σ x2 x4 x5 H locs ls h G hl
  unfold b_X2_fewestTogether_104 at h
  obtain ⟨v10, ev10⟩ : ∃ y : Int32, y = x5 + (1 : Int32) := ⟨_, rfl⟩
  have h := h v10 ev10
  refine lv_iinc (v := v10) (lv' := [(5, .int (v10)), (0, .ref (ρ (41))), (2, .long (x2)), (4, .int (x4))]) hx hb dX2_fewestTogether_104 hl (k := 3) rfl (by rw [ev10]; rfl) (by decide) rfl (fun ls hl => ?_)
  refine lv_goto (tgt := 49) hx hb dX2_fewestTogether_107 (by decide) ?_
  exact hK49 σ x2 x4 v10 _ _ _  h G (lv_sub hl [1, 2, 3, 0] rfl)
def b_X2_fewestTogether_83 (post : Int32 → eS → Prop) (K49 : eS → Int64 → Int32 → Int32 → Prop) (σ : eS) (x2 : Int64) (x4 : Int32) (x5 : Int32) (y0 : Int32) : Prop := ((y0 = 0 → b_X2_fewestTogether_104 post K49 σ x2 x4 x5) ∧ (¬ (y0 = 0) → False))
set_option maxHeartbeats 4000000 in
set_option maxRecDepth 100000 in
theorem l_X2_fewestTogether_83 {p : Program} {l : Launch} {e : Env} {s : State} {m : MethodId} {args : Array Value} {below : List Frame} {meth : Method} {c : Code} {D : va_G} {ρ : Nat → Nat} {κ : Nat → ClassId} {base : Nat} {post : Int32 → eS → Prop} (C : eCx p s m args meth c cX2_fewestTogether RX2 7 (some .int) wsX2_fewestTogether) (K : gK D ρ κ base s) {K49 : eS → Int64 → Int32 → Int32 → Prop} (hK49 : ∀ (σ : eS) (x2 : Int64) (x4 : Int32) (x5 : Int32) (H : Heap) (locs : List Loc) (ls : Array Slot), K49 σ x2 x4 x5 → gG D ρ κ base s σ H locs → lv_has ls 7 [(0, .ref (ρ (41))), (2, .long (x2)), (4, .int (x4)), (5, .int (x5))] → W p l e rm_X2_fewestTogether s m args below meth c H locs 0 0 (gQi below args s D ρ κ base post) (F0 m 49 ls [])) : ∀ (σ : eS) (x2 : Int64) (x4 : Int32) (x5 : Int32) (y0 : Int32) (H : Heap) (locs : List Loc) (ls : Array Slot), b_X2_fewestTogether_83 post K49 σ x2 x4 x5 y0 → gG D ρ κ base s σ H locs → lv_has ls 7 [(0, .ref (ρ (41))), (2, .long (x2)), (4, .int (x4)), (5, .int (x5))] → W p l e rm_X2_fewestTogether s m args below meth c H locs 0 0 (gQi below args s D ρ κ base post) (F0 m 83 ls [.int (y0)]) := by
  obtain ⟨hx, hb, hml, hown, hts, hr, hlocks⟩ := id C
  intro σ x2 x4 x5 y0 H locs ls h G hl
  unfold b_X2_fewestTogether_83 at h
  refine lv_istore (lv' := [(6, .int (y0)), (0, .ref (ρ (41))), (2, .long (x2)), (4, .int (x4)), (5, .int (x5))]) hx hb dX2_fewestTogether_83 hl (by decide) rfl (fun ls hl => ?_)
  refine lv_iload hx hb dX2_fewestTogether_85 (lv_at hl 0 rfl) ?_
  refine lv_if_eq (tgt := 104) hx hb dX2_fewestTogether_87 (by decide) (fun c9 => ?_) (fun c9 => ?_)
  · have h := h.1 c9
    exact l_X2_fewestTogether_104 C K (hK49 := hK49) σ x2 x4 x5 _ _ _  h G (lv_sub hl [1, 2, 3, 4] rfl)
  · have h := h.2 c9
    refine lv_aload_n hx hb dX2_fewestTogether_90 rfl (lv_at hl 1 rfl) ?_
    refine lv_lload_n hx hb dX2_fewestTogether_91 rfl (lv_at hl 2 rfl) ?_
    refine lv_iload hx hb dX2_fewestTogether_92 (lv_at hl 4 rfl) ?_
    exact h.elim
def b_X2_fewestTogether_78 (post : Int32 → eS → Prop) (K49 : eS → Int64 → Int32 → Int32 → Prop) (σ : eS) (x2 : Int64) (x4 : Int32) (x5 : Int32) : Prop := b_X2_fewestTogether_83 post K49 σ x2 x4 x5 (1 : Int32)
set_option maxHeartbeats 4000000 in
set_option maxRecDepth 100000 in
theorem l_X2_fewestTogether_78 {p : Program} {l : Launch} {e : Env} {s : State} {m : MethodId} {args : Array Value} {below : List Frame} {meth : Method} {c : Code} {D : va_G} {ρ : Nat → Nat} {κ : Nat → ClassId} {base : Nat} {post : Int32 → eS → Prop} (C : eCx p s m args meth c cX2_fewestTogether RX2 7 (some .int) wsX2_fewestTogether) (K : gK D ρ κ base s) {K49 : eS → Int64 → Int32 → Int32 → Prop} (hK49 : ∀ (σ : eS) (x2 : Int64) (x4 : Int32) (x5 : Int32) (H : Heap) (locs : List Loc) (ls : Array Slot), K49 σ x2 x4 x5 → gG D ρ κ base s σ H locs → lv_has ls 7 [(0, .ref (ρ (41))), (2, .long (x2)), (4, .int (x4)), (5, .int (x5))] → W p l e rm_X2_fewestTogether s m args below meth c H locs 0 0 (gQi below args s D ρ κ base post) (F0 m 49 ls [])) : ∀ (σ : eS) (x2 : Int64) (x4 : Int32) (x5 : Int32) (H : Heap) (locs : List Loc) (ls : Array Slot), b_X2_fewestTogether_78 post K49 σ x2 x4 x5 → gG D ρ κ base s σ H locs → lv_has ls 7 [(0, .ref (ρ (41))), (2, .long (x2)), (4, .int (x4)), (5, .int (x5))] → W p l e rm_X2_fewestTogether s m args below meth c H locs 0 0 (gQi below args s D ρ κ base post) (F0 m 78 ls []) := by
  obtain ⟨hx, hb, hml, hown, hts, hr, hlocks⟩ := id C
  intro σ x2 x4 x5 H locs ls h G hl
  unfold b_X2_fewestTogether_78 at h
  refine lv_iconst (v := (1 : Int32)) hx hb dX2_fewestTogether_78 (by decide) ?_
  refine lv_goto (tgt := 83) hx hb dX2_fewestTogether_79 (by decide) ?_
  exact l_X2_fewestTogether_83 C K (hK49 := hK49) σ x2 x4 x5 (1 : Int32) _ _ _  h G (lv_sub hl [0, 1, 2, 3] rfl)
def b_X2_fewestTogether_49 (post : Int32 → eS → Prop) : Nat → eS → Int64 → Int32 → Int32 → Prop
  | 0, _, _, _, _ => False
  | n + 1, σ, x2, x4, x5 => ((((1 : Int32) <<< ((σ.1 41 3) &&& 31)) ≤ x5 → post x4 σ) ∧ (¬ (((1 : Int32) <<< ((σ.1 41 3) &&& 31)) ≤ x5) → ((x4 = 0 → b_X2_fewestTogether_78 post (fun s x2 x4 x5 => b_X2_fewestTogether_49 post n s x2 x4 x5) σ x2 x4 x5) ∧ (¬ (x4 = 0) → w_J6_bitCount_0f7a4 σ x5 (fun r12 σ11 => w_J6_bitCount_0f7a4 σ11 x4 (fun r14 σ13 => ((r14 ≤ r12 → b_X2_fewestTogether_83 post (fun s x2 x4 x5 => b_X2_fewestTogether_49 post n s x2 x4 x5) σ13 x2 x4 x5 (0 : Int32)) ∧ (¬ (r14 ≤ r12) → b_X2_fewestTogether_78 post (fun s x2 x4 x5 => b_X2_fewestTogether_49 post n s x2 x4 x5) σ13 x2 x4 x5))))))))
set_option maxHeartbeats 4000000 in
set_option maxRecDepth 100000 in
theorem l_X2_fewestTogether_49 {p : Program} {l : Launch} {e : Env} {s : State} {m : MethodId} {args : Array Value} {below : List Frame} {meth : Method} {c : Code} {D : va_G} {ρ : Nat → Nat} {κ : Nat → ClassId} {base : Nat} {post : Int32 → eS → Prop} (C : eCx p s m args meth c cX2_fewestTogether RX2 7 (some .int) wsX2_fewestTogether) (K : gK D ρ κ base s) : ∀ (n : Nat) (σ : eS) (x2 : Int64) (x4 : Int32) (x5 : Int32) (H : Heap) (locs : List Loc) (ls : Array Slot), b_X2_fewestTogether_49 post n σ x2 x4 x5 → gG D ρ κ base s σ H locs → lv_has ls 7 [(0, .ref (ρ (41))), (2, .long (x2)), (4, .int (x4)), (5, .int (x5))] → W p l e rm_X2_fewestTogether s m args below meth c H locs 0 0 (gQi below args s D ρ κ base post) (F0 m 49 ls []) := by
  obtain ⟨hx, hb, hml, hown, hts, hr, hlocks⟩ := id C
  intro n
  induction n with
  | zero => intro σ x2 x4 x5 H locs ls h G hl; exact False.elim h
  | succ n ih =>
    intro σ x2 x4 x5 H locs ls h G hl
    rw [b_X2_fewestTogether_49] at h
    refine lv_iload hx hb dX2_fewestTogether_49 (lv_at hl 3 rfl) ?_
    refine lv_iconst (v := (1 : Int32)) hx hb dX2_fewestTogether_51 (by decide) ?_
    refine lv_aload_n hx hb dX2_fewestTogether_52 rfl (lv_at hl 0 rfl) ?_
    refine e_geti hx hb hts in_X2_fewestTogether_X2 hown K G 41 (by decide) gl_41 rfl 3 (by decide) rfl (hts (.fieldLink RX2 27 "StreetsStepOn$Council" "size" "I") (e_mem (n := 1) rfl)) dX2_fewestTogether_53 ?_
    refine lv_ishl hx hb dX2_fewestTogether_56 ?_
    refine lv_icmp_ge (tgt := 110) hx hb dX2_fewestTogether_57 (by decide) (fun c7 => ?_) (fun c7 => ?_)
    · have h := h.1 c7
      refine lv_iload hx hb dX2_fewestTogether_110 (lv_at hl 2 rfl) ?_
      exact e_iret hx hb hr hlocks G h dX2_fewestTogether_112
    · have h := h.2 c7
      refine lv_iload hx hb dX2_fewestTogether_60 (lv_at hl 2 rfl) ?_
      refine lv_if_eq (tgt := 78) hx hb dX2_fewestTogether_62 (by decide) (fun c8 => ?_) (fun c8 => ?_)
      · have h := h.1 c8
        exact l_X2_fewestTogether_78 C K (hK49 := ih) σ x2 x4 x5 _ _ _  h G (lv_sub hl [0, 1, 2, 3] rfl)
      · have h := h.2 c8
        refine lv_iload hx hb dX2_fewestTogether_65 (lv_at hl 3 rfl) ?_
        refine e_callSi (As := [.int (x5)]) (rest := []) ⟨hx, hb, hml, hown, hts⟩ K G (c_J6_bitCount_0f7a4 h) (va_cwS 1 hts gX2_fewestTogether_J6_bitCount_0f7a4 rfl rfl rfl (by decide +kernel) ⟨Nat.le_of_ble_eq_true rfl, Nat.le_of_ble_eq_true rfl⟩) rfl hl.1 rfl (Nat.le_of_ble_eq_true rfl) dX2_fewestTogether_67 ⟨Nat.zero_le _, Nat.zero_le _⟩ (fun r12 σ11 H locs h G => ?_)
        refine lv_iload hx hb dX2_fewestTogether_70 (lv_at hl 2 rfl) ?_
        refine e_callSi (As := [.int (x4)]) (rest := [.int (r12)]) ⟨hx, hb, hml, hown, hts⟩ K G (c_J6_bitCount_0f7a4 h) (va_cwS 1 hts gX2_fewestTogether_J6_bitCount_0f7a4 rfl rfl rfl (by decide +kernel) ⟨Nat.le_of_ble_eq_true rfl, Nat.le_of_ble_eq_true rfl⟩) rfl hl.1 rfl (Nat.le_of_ble_eq_true rfl) dX2_fewestTogether_72 ⟨Nat.zero_le _, Nat.zero_le _⟩ (fun r14 σ13 H locs h G => ?_)
        refine lv_icmp_ge (tgt := 82) hx hb dX2_fewestTogether_75 (by decide) (fun c15 => ?_) (fun c15 => ?_)
        · have h := h.1 c15
          refine lv_iconst (v := (0 : Int32)) hx hb dX2_fewestTogether_82 (by decide) ?_
          exact l_X2_fewestTogether_83 C K (hK49 := ih) σ13 x2 x4 x5 (0 : Int32) _ _ _  h G (lv_sub hl [0, 1, 2, 3] rfl)
        · have h := h.2 c15
          exact l_X2_fewestTogether_78 C K (hK49 := ih) σ13 x2 x4 x5 _ _ _  h G (lv_sub hl [0, 1, 2, 3] rfl)
def b_X2_fewestTogether_43 (post : Int32 → eS → Prop) (σ : eS) (x2 : Int64) : Prop := ∀ v5 : Int32, v5 = (0 : Int32) → ∀ v6 : Int32, v6 = (1 : Int32) → (∃ n16 : Nat, b_X2_fewestTogether_49 post n16 σ x2 v5 v6)
set_option maxHeartbeats 4000000 in
set_option maxRecDepth 100000 in
theorem l_X2_fewestTogether_43 {p : Program} {l : Launch} {e : Env} {s : State} {m : MethodId} {args : Array Value} {below : List Frame} {meth : Method} {c : Code} {D : va_G} {ρ : Nat → Nat} {κ : Nat → ClassId} {base : Nat} {post : Int32 → eS → Prop} (C : eCx p s m args meth c cX2_fewestTogether RX2 7 (some .int) wsX2_fewestTogether) (K : gK D ρ κ base s) : ∀ (σ : eS) (x2 : Int64) (H : Heap) (locs : List Loc) (ls : Array Slot), b_X2_fewestTogether_43 post σ x2 → gG D ρ κ base s σ H locs → lv_has ls 7 [(0, .ref (ρ (41))), (2, .long (x2))] → W p l e rm_X2_fewestTogether s m args below meth c H locs 0 0 (gQi below args s D ρ κ base post) (F0 m 43 ls []) := by
  obtain ⟨hx, hb, hml, hown, hts, hr, hlocks⟩ := id C
  intro σ x2 H locs ls h G hl
  unfold b_X2_fewestTogether_43 at h
  refine lv_iconst (v := (0 : Int32)) hx hb dX2_fewestTogether_43 (by decide) ?_
  refine lv_topi (fun v5 ev5 => ?_)
  have h := h v5 ev5
  refine lv_istore (lv' := [(4, .int (v5)), (0, .ref (ρ (41))), (2, .long (x2))]) hx hb dX2_fewestTogether_44 hl (by decide) rfl (fun ls hl => ?_)
  refine lv_iconst (v := (1 : Int32)) hx hb dX2_fewestTogether_46 (by decide) ?_
  refine lv_topi (fun v6 ev6 => ?_)
  have h := h v6 ev6
  refine lv_istore (lv' := [(5, .int (v6)), (4, .int (v5)), (0, .ref (ρ (41))), (2, .long (x2))]) hx hb dX2_fewestTogether_47 hl (by decide) rfl (fun ls hl => ?_)
  obtain ⟨n16, h⟩ := h
  exact l_X2_fewestTogether_49 C K n16 σ x2 v5 v6 _ _ _  h G (lv_sub hl [2, 3, 1, 0] rfl)
def b_X2_fewestTogether_10 (post : Int32 → eS → Prop) : Nat → eS → Int64 → Int32 → Prop
  | 0, _, _, _ => False
  | n + 1, σ, x2, x4 => (((720 : Int32) ≤ x4 → b_X2_fewestTogether_43 post σ x2) ∧ (¬ ((720 : Int32) ≤ x4) → w_X2_keptByWay σ (fun r18 σ17 => ∀ v19 : Int64, v19 = (x2 ||| ((1 : Int64) <<< (r18.toInt64 &&& 63))) → w_X2_advance σ17 (fun r21 σ20 => ((¬ r21 = 0 → ∀ v23 : Int32, v23 = (x4 + (1 : Int32)) → b_X2_fewestTogether_10 post n σ20 v19 v23) ∧ (r21 = 0 → b_X2_fewestTogether_43 post σ20 v19))))))
set_option maxHeartbeats 4000000 in
set_option maxRecDepth 100000 in
theorem l_X2_fewestTogether_10 {p : Program} {l : Launch} {e : Env} {s : State} {m : MethodId} {args : Array Value} {below : List Frame} {meth : Method} {c : Code} {D : va_G} {ρ : Nat → Nat} {κ : Nat → ClassId} {base : Nat} {post : Int32 → eS → Prop} (C : eCx p s m args meth c cX2_fewestTogether RX2 7 (some .int) wsX2_fewestTogether) (K : gK D ρ κ base s) : ∀ (n : Nat) (σ : eS) (x2 : Int64) (x4 : Int32) (H : Heap) (locs : List Loc) (ls : Array Slot), b_X2_fewestTogether_10 post n σ x2 x4 → gG D ρ κ base s σ H locs → lv_has ls 7 [(0, .ref (ρ (41))), (2, .long (x2)), (4, .int (x4))] → W p l e rm_X2_fewestTogether s m args below meth c H locs 0 0 (gQi below args s D ρ κ base post) (F0 m 10 ls []) := by
  obtain ⟨hx, hb, hml, hown, hts, hr, hlocks⟩ := id C
  intro n
  induction n with
  | zero => intro σ x2 x4 H locs ls h G hl; exact False.elim h
  | succ n ih =>
    intro σ x2 x4 H locs ls h G hl
    rw [b_X2_fewestTogether_10] at h
    refine lv_iload hx hb dX2_fewestTogether_10 (lv_at hl 2 rfl) ?_
    refine lv_sipush (v := (720 : Int32)) hx hb dX2_fewestTogether_12 (by decide) ?_
    refine lv_icmp_ge (tgt := 43) hx hb dX2_fewestTogether_15 (by decide) (fun c4 => ?_) (fun c4 => ?_)
    · have h := h.1 c4
      exact l_X2_fewestTogether_43 C K σ x2 _ _ _  h G (lv_sub hl [0, 1] rfl)
    · have h := h.2 c4
      refine lv_lload_n hx hb dX2_fewestTogether_18 rfl (lv_at hl 1 rfl) ?_
      refine lv_lconst (v := (1 : Int64)) hx hb dX2_fewestTogether_19 (by decide) ?_
      refine lv_aload_n hx hb dX2_fewestTogether_20 rfl (lv_at hl 0 rfl) ?_
      refine e_callVi (As := []) (rest := [.long ((1 : Int64)), .long (x2)]) ⟨hx, hb, hml, hown, hts⟩ K G 41 (by decide) gl_41 rfl (c_X2_keptByWay h) (cwV 0 hts gX2_fewestTogether_X2_keptByWay rfl rfl rfl (by decide +kernel) ⟨Nat.le_of_ble_eq_true rfl, Nat.le_of_ble_eq_true rfl⟩) rfl hl.1 rfl (Nat.le_of_ble_eq_true rfl) dX2_fewestTogether_21 ⟨Nat.zero_le _, Nat.zero_le _⟩ (fun r18 σ17 H locs h G => ?_)
      refine lv_lshl hx hb dX2_fewestTogether_24 rfl ?_
      refine lv_lor hx hb dX2_fewestTogether_25 ?_
      refine lv_topl (fun v19 ev19 => ?_)
      have h := h v19 ev19
      refine lv_lstore_n (lv' := [(2, .long (v19)), (0, .ref (ρ (41))), (4, .int (x4))]) hx hb dX2_fewestTogether_26 rfl hl (by decide) rfl (fun ls hl => ?_)
      refine lv_aload_n hx hb dX2_fewestTogether_27 rfl (lv_at hl 1 rfl) ?_
      refine e_callVi (As := []) (rest := []) ⟨hx, hb, hml, hown, hts⟩ K G 41 (by decide) gl_41 rfl (c_X2_advance h) (cwV 0 hts gX2_fewestTogether_X2_advance rfl rfl rfl (by decide +kernel) ⟨Nat.le_of_ble_eq_true rfl, Nat.le_of_ble_eq_true rfl⟩) rfl hl.1 rfl (Nat.le_of_ble_eq_true rfl) dX2_fewestTogether_28 ⟨Nat.zero_le _, Nat.zero_le _⟩ (fun r21 σ20 H locs h G => ?_)
      refine lv_if_ne (tgt := 37) hx hb dX2_fewestTogether_31 (by decide) (fun c22 => ?_) (fun c22 => ?_)
      · have h := h.1 c22
        obtain ⟨v23, ev23⟩ : ∃ y : Int32, y = x4 + (1 : Int32) := ⟨_, rfl⟩
        have h := h v23 ev23
        refine lv_iinc (v := v23) (lv' := [(4, .int (v23)), (2, .long (v19)), (0, .ref (ρ (41)))]) hx hb dX2_fewestTogether_37 hl (k := 2) rfl (by rw [ev23]; rfl) (by decide) rfl (fun ls hl => ?_)
        refine lv_goto (tgt := 10) hx hb dX2_fewestTogether_40 (by decide) ?_
        exact ih σ20 v19 v23 _ _ _  h G (lv_sub hl [2, 1, 0] rfl)
      · have h := h.2 c22
        refine lv_goto (tgt := 43) hx hb dX2_fewestTogether_34 (by decide) ?_
        exact l_X2_fewestTogether_43 C K σ20 v19 _ _ _  h G (lv_sub hl [1, 0] rfl)
def w_X2_fewestTogether (σ : eS) (x1 : Int32) (post : Int32 → eS → Prop) : Prop := ∀ v1 : Int64, v1 = (0 : Int64) → w_X2_startWays σ x1 (fun σ2 => ∀ v3 : Int32, v3 = (0 : Int32) → (∃ n24 : Nat, b_X2_fewestTogether_10 post n24 σ2 v1 v3))
set_option maxHeartbeats 4000000 in
set_option maxRecDepth 100000 in
theorem c_X2_fewestTogether {l : Launch} {D : va_G} {ρ : Nat → Nat} {κ : Nat → ClassId} {base : Nat} {σ : eS} {x1 : Int32} {post : Int32 → eS → Prop} (h : w_X2_fewestTogether σ x1 post) : gMi l yX2_fewestTogether wsX2_fewestTogether rm_X2_fewestTogether D ρ κ base [.ref (ρ (41)), .int (x1)] σ post := by
  refine e_ofWi (cc := cX2_fewestTogether) (maxL := 7) (ret := (some .int)) (by decide) rfl (Nat.le_of_ble_eq_true rfl) ?_
  intro p e s m below meth c ls C K G hl
  obtain ⟨hx, hb, hml, hown, hts, hr, hlocks⟩ := id C
  have hl : lv_has ls 7 [(0, .ref (ρ (41))), (1, .int (x1))] := hl
  unfold w_X2_fewestTogether at h
  refine lv_lconst (v := (0 : Int64)) hx hb dX2_fewestTogether_0 (by decide) ?_
  refine lv_topl (fun v1 ev1 => ?_)
  have h := h v1 ev1
  refine lv_lstore_n (lv' := [(2, .long (v1)), (0, .ref (ρ (41))), (1, .int (x1))]) hx hb dX2_fewestTogether_1 rfl hl (by decide) rfl (fun ls hl => ?_)
  refine lv_aload_n hx hb dX2_fewestTogether_2 rfl (lv_at hl 1 rfl) ?_
  refine lv_iload_n hx hb dX2_fewestTogether_3 rfl (lv_at hl 2 rfl) ?_
  refine e_callVv (As := [.int (x1)]) (rest := []) ⟨hx, hb, hml, hown, hts⟩ K G 41 (by decide) gl_41 rfl (c_X2_startWays h) (cwV 1 hts gX2_fewestTogether_X2_startWays rfl rfl rfl (by decide +kernel) ⟨Nat.le_of_ble_eq_true rfl, Nat.le_of_ble_eq_true rfl⟩) rfl hl.1 rfl (Nat.le_of_ble_eq_true rfl) dX2_fewestTogether_4 ⟨Nat.zero_le _, Nat.zero_le _⟩ (fun σ2 H locs h G => ?_)
  refine lv_iconst (v := (0 : Int32)) hx hb dX2_fewestTogether_7 (by decide) ?_
  refine lv_topi (fun v3 ev3 => ?_)
  have h := h v3 ev3
  refine lv_istore (lv' := [(4, .int (v3)), (2, .long (v1)), (0, .ref (ρ (41))), (1, .int (x1))]) hx hb dX2_fewestTogether_8 hl (by decide) rfl (fun ls hl => ?_)
  obtain ⟨n24, h⟩ := h
  exact l_X2_fewestTogether_10 C K n24 σ2 v1 v3 _ _ _  h G (lv_sub hl [2, 1, 0] rfl)
abbrev rm_X10_proof : Room := { frames := 3, cells := 0, slots := 0, locals := 62 }
theorem in_X10_proof_X1 : ∀ w ∈ wsX10, w ∈ wsX10_proof := fun w h => List.mem_cons_of_mem _ (List.mem_append_left _ (List.mem_append_left _ (List.mem_append_right _ h)))
theorem in_X10_proof_X10 : ∀ w ∈ wsX100, w ∈ wsX10_proof := fun w h => List.mem_cons_of_mem _ (List.mem_append_left _ (List.mem_append_left _ (List.mem_append_left _ (List.mem_append_right _ h))))
def b_X10_proof_43 (post : Int32 → eS → Prop) (σ : eS) (x1 : Int32) : Prop := w_J6_bitCount_0f7a4 σ x1 (fun r6 σ5 => post r6 σ5)
set_option maxHeartbeats 4000000 in
set_option maxRecDepth 100000 in
theorem l_X10_proof_43 {p : Program} {l : Launch} {e : Env} {s : State} {m : MethodId} {args : Array Value} {below : List Frame} {meth : Method} {c : Code} {D : va_G} {ρ : Nat → Nat} {κ : Nat → ClassId} {base : Nat} {post : Int32 → eS → Prop} (C : eCx p s m args meth c cX10_proof RX10 2 (some .int) wsX10_proof) (K : gK D ρ κ base s) : ∀ (σ : eS) (x1 : Int32) (H : Heap) (locs : List Loc) (ls : Array Slot), b_X10_proof_43 post σ x1 → gG D ρ κ base s σ H locs → lv_has ls 2 [(1, .int (x1))] → W p l e rm_X10_proof s m args below meth c H locs 0 0 (gQi below args s D ρ κ base post) (F0 m 43 ls []) := by
  obtain ⟨hx, hb, hml, hown, hts, hr, hlocks⟩ := id C
  intro σ x1 H locs ls h G hl
  unfold b_X10_proof_43 at h
  refine lv_iload_n hx hb dX10_proof_43 rfl (lv_at hl 0 rfl) ?_
  refine e_callSi (As := [.int (x1)]) (rest := []) ⟨hx, hb, hml, hown, hts⟩ K G (c_J6_bitCount_0f7a4 h) (va_cwS 1 hts gX10_proof_J6_bitCount_0f7a4 rfl rfl rfl (by decide +kernel) ⟨Nat.le_of_ble_eq_true rfl, Nat.le_of_ble_eq_true rfl⟩) rfl hl.1 rfl (Nat.le_of_ble_eq_true rfl) dX10_proof_44 ⟨Nat.zero_le _, Nat.zero_le _⟩ (fun r6 σ5 H locs h G => ?_)
  exact e_iret hx hb hr hlocks G h dX10_proof_47
def w_X10_proof (σ : eS) (post : Int32 → eS → Prop) : Prop := (((σ.1 5 4) ≤ (6 : Int32) → w_X2_fewestTogether σ (σ.1 5 4) (fun r3 σ2 => ((r3 = 0 → b_X10_proof_43 post σ2 r3) ∧ (¬ (r3 = 0) → w_X5_tell σ2 (r3.toInt64) (fun σ7 => b_X10_proof_43 post σ7 r3))))) ∧ (¬ ((σ.1 5 4) ≤ (6 : Int32)) → post (-3 : Int32) σ))
set_option maxHeartbeats 4000000 in
set_option maxRecDepth 100000 in
theorem c_X10_proof {l : Launch} {D : va_G} {ρ : Nat → Nat} {κ : Nat → ClassId} {base : Nat} {σ : eS} {post : Int32 → eS → Prop} (h : w_X10_proof σ post) : gMi l yX10_proof wsX10_proof rm_X10_proof D ρ κ base [.ref (ρ (0))] σ post := by
  refine e_ofWi (cc := cX10_proof) (maxL := 2) (ret := (some .int)) (by decide) rfl (Nat.le_of_ble_eq_true rfl) ?_
  intro p e s m below meth c ls C K G hl
  obtain ⟨hx, hb, hml, hown, hts, hr, hlocks⟩ := id C
  have hl : lv_has ls 2 [(0, .ref (ρ (0)))] := hl
  unfold w_X10_proof at h
  refine lv_aload_n hx hb dX10_proof_0 rfl (lv_at hl 0 rfl) ?_
  refine e_getq hx hb hts in_X10_proof_X10 hown K G 0 (by decide) gl_0 rfl 2 (by decide) 5 rfl (hts (.fieldLink RX10 26 "StreetsStepOn" "book" "LStreetsStepOn$Book;") (e_mem (n := 1) rfl)) dX10_proof_1 ?_
  refine e_getiN hx hb hts in_X10_proof_X1 hown K G 5 (by decide) gl_5 rfl 4 (by decide) rfl (e_memq (n := 18) rfl) dX10_proof_4 ?_
  refine lv_bipush (v := (6 : Int32)) hx hb dX10_proof_7 (by decide) ?_
  refine lv_icmp_le (tgt := 15) hx hb dX10_proof_9 (by decide) (fun c1 => ?_) (fun c1 => ?_)
  · have h := h.1 c1
    refine lv_aload_n hx hb dX10_proof_15 rfl (lv_at hl 0 rfl) ?_
    refine e_getq hx hb hts in_X10_proof_X10 hown K G 0 (by decide) gl_0 rfl 8 (by decide) 41 rfl (hts (.fieldLink RX10 65 "StreetsStepOn" "council" "LStreetsStepOn$Council;") (e_mem (n := 2) rfl)) dX10_proof_16 ?_
    refine lv_aload_n hx hb dX10_proof_19 rfl (lv_at hl 0 rfl) ?_
    refine e_getq hx hb hts in_X10_proof_X10 hown K G 0 (by decide) gl_0 rfl 2 (by decide) 5 rfl (hts (.fieldLink RX10 26 "StreetsStepOn" "book" "LStreetsStepOn$Book;") (e_mem (n := 1) rfl)) dX10_proof_20 ?_
    refine e_getiN hx hb hts in_X10_proof_X1 hown K G 5 (by decide) gl_5 rfl 4 (by decide) rfl (e_memq (n := 18) rfl) dX10_proof_23 ?_
    refine e_callVi (As := [.int (σ.1 5 4)]) (rest := []) ⟨hx, hb, hml, hown, hts⟩ K G 41 (by decide) gl_41 rfl (c_X2_fewestTogether h) (cwV 1 hts gX10_proof_X2_fewestTogether rfl rfl rfl (by decide +kernel) ⟨Nat.le_of_ble_eq_true rfl, Nat.le_of_ble_eq_true rfl⟩) rfl hl.1 rfl (Nat.le_of_ble_eq_true rfl) dX10_proof_26 ⟨Nat.zero_le _, Nat.zero_le _⟩ (fun r3 σ2 H locs h G => ?_)
    refine lv_istore_n (lv' := [(1, .int (r3)), (0, .ref (ρ (0)))]) hx hb dX10_proof_29 rfl hl (by decide) rfl (fun ls hl => ?_)
    refine lv_iload_n hx hb dX10_proof_30 rfl (lv_at hl 0 rfl) ?_
    refine lv_if_eq (tgt := 43) hx hb dX10_proof_31 (by decide) (fun c4 => ?_) (fun c4 => ?_)
    · have h := h.1 c4
      exact l_X10_proof_43 C K σ2 r3 _ _ _  h G (lv_sub hl [0] rfl)
    · have h := h.2 c4
      refine lv_aload_n hx hb dX10_proof_34 rfl (lv_at hl 1 rfl) ?_
      refine e_getq hx hb hts in_X10_proof_X10 hown K G 0 (by decide) gl_0 rfl 1 (by decide) 3 rfl (hts (.fieldLink RX10 19 "StreetsStepOn" "told" "LStreetsStepOn$Row;") (e_mem (n := 3) rfl)) dX10_proof_35 ?_
      refine lv_iload_n hx hb dX10_proof_38 rfl (lv_at hl 0 rfl) ?_
      refine lv_i2l hx hb dX10_proof_39 rfl ?_
      refine e_callVv (As := [.long (r3.toInt64)]) (rest := []) ⟨hx, hb, hml, hown, hts⟩ K G 3 (by decide) gl_3 rfl (c_X5_tell h) (cwV 1 hts gX10_proof_X5_tell rfl rfl rfl (by decide +kernel) ⟨Nat.le_of_ble_eq_true rfl, Nat.le_of_ble_eq_true rfl⟩) rfl hl.1 rfl (Nat.le_of_ble_eq_true rfl) dX10_proof_40 ⟨Nat.zero_le _, Nat.zero_le _⟩ (fun σ7 H locs h G => ?_)
      exact l_X10_proof_43 C K σ7 r3 _ _ _  h G (lv_sub hl [0] rfl)
  · have h := h.2 c1
    refine lv_bipush (v := (-3 : Int32)) hx hb dX10_proof_12 (by decide) ?_
    exact e_iret hx hb hr hlocks G h dX10_proof_14
abbrev rm_X11_proof : Room := { frames := 3, cells := 0, slots := 0, locals := 66 }
theorem in_X11_proof_X11 : ∀ w ∈ wsX110, w ∈ wsX11_proof := fun w h => List.mem_cons_of_mem _ (List.mem_append_right _ h)
def b_X11_proof_111 (post : Int32 → eS → Prop) (K34 : eS → Int32 → Int32 → Int32 → Prop) (σ : eS) (x1 : Int32) (x2 : Int32) (x3 : Int32) : Prop := ∀ v18 : Int32, v18 = (x3 + (1 : Int32)) → K34 σ x1 x2 v18
set_option maxHeartbeats 4000000 in
set_option maxRecDepth 100000 in
theorem l_X11_proof_111 {p : Program} {l : Launch} {e : Env} {s : State} {m : MethodId} {args : Array Value} {below : List Frame} {meth : Method} {c : Code} {D : va_G} {ρ : Nat → Nat} {κ : Nat → ClassId} {base : Nat} {post : Int32 → eS → Prop} (C : eCx p s m args meth c cX11_proof RX11 6 (some .int) wsX11_proof) (K : gK D ρ κ base s) {K34 : eS → Int32 → Int32 → Int32 → Prop} (hK34 : ∀ (σ : eS) (x1 : Int32) (x2 : Int32) (x3 : Int32) (H : Heap) (locs : List Loc) (ls : Array Slot), K34 σ x1 x2 x3 → gG D ρ κ base s σ H locs → lv_has ls 6 [(0, .ref (ρ (97))), (1, .int (x1)), (2, .int (x2)), (3, .int (x3))] → W p l e rm_X11_proof s m args below meth c H locs 0 0 (gQi below args s D ρ κ base post) (F0 m 34 ls [])) : ∀ (σ : eS) (x1 : Int32) (x2 : Int32) (x3 : Int32) (H : Heap) (locs : List Loc) (ls : Array Slot), b_X11_proof_111 post K34 σ x1 x2 x3 → gG D ρ κ base s σ H locs → lv_has ls 6 [(0, .ref (ρ (97))), (1, .int (x1)), (2, .int (x2)), (3, .int (x3))] → W p l e rm_X11_proof s m args below meth c H locs 0 0 (gQi below args s D ρ κ base post) (F0 m 111 ls []) := by
  obtain ⟨hx, hb, hml, hown, hts, hr, hlocks⟩ := id C
  intro σ x1 x2 x3 H locs ls h G hl
  unfold b_X11_proof_111 at h
  obtain ⟨v18, ev18⟩ : ∃ y : Int32, y = x3 + (1 : Int32) := ⟨_, rfl⟩
  have h := h v18 ev18
  refine lv_iinc (v := v18) (lv' := [(3, .int (v18)), (0, .ref (ρ (97))), (1, .int (x1)), (2, .int (x2))]) hx hb dX11_proof_111 hl (k := 3) rfl (by rw [ev18]; rfl) (by decide) rfl (fun ls hl => ?_)
  refine lv_goto (tgt := 34) hx hb dX11_proof_114 (by decide) ?_
  exact hK34 σ x1 x2 v18 _ _ _  h G (lv_sub hl [1, 2, 3, 0] rfl)
def b_X11_proof_104 (post : Int32 → eS → Prop) (K34 : eS → Int32 → Int32 → Int32 → Prop) (σ : eS) (x1 : Int32) (x2 : Int32) (x3 : Int32) (x4 : Int32) : Prop := ((¬ x4 = 0 → b_X11_proof_111 post K34 σ x1 x2 x3) ∧ (x4 = 0 → b_X11_proof_111 post K34 σ x1 x3 x3))
set_option maxHeartbeats 4000000 in
set_option maxRecDepth 100000 in
theorem l_X11_proof_104 {p : Program} {l : Launch} {e : Env} {s : State} {m : MethodId} {args : Array Value} {below : List Frame} {meth : Method} {c : Code} {D : va_G} {ρ : Nat → Nat} {κ : Nat → ClassId} {base : Nat} {post : Int32 → eS → Prop} (C : eCx p s m args meth c cX11_proof RX11 6 (some .int) wsX11_proof) (K : gK D ρ κ base s) {K34 : eS → Int32 → Int32 → Int32 → Prop} (hK34 : ∀ (σ : eS) (x1 : Int32) (x2 : Int32) (x3 : Int32) (H : Heap) (locs : List Loc) (ls : Array Slot), K34 σ x1 x2 x3 → gG D ρ κ base s σ H locs → lv_has ls 6 [(0, .ref (ρ (97))), (1, .int (x1)), (2, .int (x2)), (3, .int (x3))] → W p l e rm_X11_proof s m args below meth c H locs 0 0 (gQi below args s D ρ κ base post) (F0 m 34 ls [])) : ∀ (σ : eS) (x1 : Int32) (x2 : Int32) (x3 : Int32) (x4 : Int32) (H : Heap) (locs : List Loc) (ls : Array Slot), b_X11_proof_104 post K34 σ x1 x2 x3 x4 → gG D ρ κ base s σ H locs → lv_has ls 6 [(0, .ref (ρ (97))), (1, .int (x1)), (2, .int (x2)), (3, .int (x3)), (4, .int (x4))] → W p l e rm_X11_proof s m args below meth c H locs 0 0 (gQi below args s D ρ κ base post) (F0 m 104 ls []) := by
  obtain ⟨hx, hb, hml, hown, hts, hr, hlocks⟩ := id C
  intro σ x1 x2 x3 x4 H locs ls h G hl
  unfold b_X11_proof_104 at h
  refine lv_iload hx hb dX11_proof_104 (lv_at hl 4 rfl) ?_
  refine lv_if_ne (tgt := 111) hx hb dX11_proof_106 (by decide) (fun c17 => ?_) (fun c17 => ?_)
  · have h := h.1 c17
    exact l_X11_proof_111 C K (hK34 := hK34) σ x1 x2 x3 _ _ _  h G (lv_sub hl [0, 1, 2, 3] rfl)
  · have h := h.2 c17
    refine lv_iload_n hx hb dX11_proof_109 rfl (lv_at hl 3 rfl) ?_
    refine lv_istore_n (lv' := [(2, .int (x3)), (0, .ref (ρ (97))), (1, .int (x1)), (3, .int (x3)), (4, .int (x4))]) hx hb dX11_proof_110 rfl hl (by decide) rfl (fun ls hl => ?_)
    exact l_X11_proof_111 C K (hK34 := hK34) σ x1 x3 x3 _ _ _  h G (lv_sub hl [1, 2, 0, 3] rfl)
def b_X11_proof_96 (post : Int32 → eS → Prop) (K34 : eS → Int32 → Int32 → Int32 → Prop) (K64 : eS → Int32 → Int32 → Int32 → Int32 → Int32 → Prop) (σ : eS) (x1 : Int32) (x2 : Int32) (x3 : Int32) (x5 : Int32) (y0 : Int32) : Prop := ∀ v22 : Int32, v22 = (x5 + (1 : Int32)) → K64 σ x1 x2 x3 y0 v22
set_option maxHeartbeats 4000000 in
set_option maxRecDepth 100000 in
theorem l_X11_proof_96 {p : Program} {l : Launch} {e : Env} {s : State} {m : MethodId} {args : Array Value} {below : List Frame} {meth : Method} {c : Code} {D : va_G} {ρ : Nat → Nat} {κ : Nat → ClassId} {base : Nat} {post : Int32 → eS → Prop} (C : eCx p s m args meth c cX11_proof RX11 6 (some .int) wsX11_proof) (K : gK D ρ κ base s) {K34 : eS → Int32 → Int32 → Int32 → Prop} (hK34 : ∀ (σ : eS) (x1 : Int32) (x2 : Int32) (x3 : Int32) (H : Heap) (locs : List Loc) (ls : Array Slot), K34 σ x1 x2 x3 → gG D ρ κ base s σ H locs → lv_has ls 6 [(0, .ref (ρ (97))), (1, .int (x1)), (2, .int (x2)), (3, .int (x3))] → W p l e rm_X11_proof s m args below meth c H locs 0 0 (gQi below args s D ρ κ base post) (F0 m 34 ls [])) {K64 : eS → Int32 → Int32 → Int32 → Int32 → Int32 → Prop} (hK64 : ∀ (σ : eS) (x1 : Int32) (x2 : Int32) (x3 : Int32) (x4 : Int32) (x5 : Int32) (H : Heap) (locs : List Loc) (ls : Array Slot), K64 σ x1 x2 x3 x4 x5 → gG D ρ κ base s σ H locs → lv_has ls 6 [(0, .ref (ρ (97))), (1, .int (x1)), (2, .int (x2)), (3, .int (x3)), (4, .int (x4)), (5, .int (x5))] → W p l e rm_X11_proof s m args below meth c H locs 0 0 (gQi below args s D ρ κ base post) (F0 m 64 ls [])) : ∀ (σ : eS) (x1 : Int32) (x2 : Int32) (x3 : Int32) (x5 : Int32) (y0 : Int32) (H : Heap) (locs : List Loc) (ls : Array Slot), b_X11_proof_96 post K34 K64 σ x1 x2 x3 x5 y0 → gG D ρ κ base s σ H locs → lv_has ls 6 [(0, .ref (ρ (97))), (1, .int (x1)), (2, .int (x2)), (3, .int (x3)), (5, .int (x5))] → W p l e rm_X11_proof s m args below meth c H locs 0 0 (gQi below args s D ρ κ base post) (F0 m 96 ls [.int (y0)]) := by
  obtain ⟨hx, hb, hml, hown, hts, hr, hlocks⟩ := id C
  intro σ x1 x2 x3 x5 y0 H locs ls h G hl
  unfold b_X11_proof_96 at h
  refine lv_istore (lv' := [(4, .int (y0)), (0, .ref (ρ (97))), (1, .int (x1)), (2, .int (x2)), (3, .int (x3)), (5, .int (x5))]) hx hb dX11_proof_96 hl (by decide) rfl (fun ls hl => ?_)
  obtain ⟨v22, ev22⟩ : ∃ y : Int32, y = x5 + (1 : Int32) := ⟨_, rfl⟩
  have h := h v22 ev22
  refine lv_iinc (v := v22) (lv' := [(5, .int (v22)), (4, .int (y0)), (0, .ref (ρ (97))), (1, .int (x1)), (2, .int (x2)), (3, .int (x3))]) hx hb dX11_proof_98 hl (k := 5) rfl (by rw [ev22]; rfl) (by decide) rfl (fun ls hl => ?_)
  refine lv_goto (tgt := 64) hx hb dX11_proof_101 (by decide) ?_
  exact hK64 σ x1 x2 x3 y0 v22 _ _ _  h G (lv_sub hl [2, 3, 4, 5, 1, 0] rfl)
def b_X11_proof_64 (post : Int32 → eS → Prop) (K34 : eS → Int32 → Int32 → Int32 → Prop) : Nat → eS → Int32 → Int32 → Int32 → Int32 → Int32 → Prop
  | 0, _, _, _, _, _, _ => False
  | n + 1, σ, x1, x2, x3, x4, x5 => (((σ.1 97 33) ≤ x5 → b_X11_proof_104 post K34 σ x1 x2 x3 x4) ∧ (¬ ((σ.1 97 33) ≤ x5) → ((¬ x4 = 0 → b_X11_proof_104 post K34 σ x1 x2 x3 x4) ∧ (x4 = 0 → (vp_in x5 720) ∧ ((¬ ((σ.1 120 x5.toNatClampNeg) &&& x3) = x3 → b_X11_proof_96 post K34 (fun s x1 x2 x3 x4 x5 => b_X11_proof_64 post K34 n s x1 x2 x3 x4 x5) σ x1 x2 x3 x5 (0 : Int32)) ∧ (((σ.1 120 x5.toNatClampNeg) &&& x3) = x3 → b_X11_proof_96 post K34 (fun s x1 x2 x3 x4 x5 => b_X11_proof_64 post K34 n s x1 x2 x3 x4 x5) σ x1 x2 x3 x5 (1 : Int32)))))))
set_option maxHeartbeats 4000000 in
set_option maxRecDepth 100000 in
theorem l_X11_proof_64 {p : Program} {l : Launch} {e : Env} {s : State} {m : MethodId} {args : Array Value} {below : List Frame} {meth : Method} {c : Code} {D : va_G} {ρ : Nat → Nat} {κ : Nat → ClassId} {base : Nat} {post : Int32 → eS → Prop} (C : eCx p s m args meth c cX11_proof RX11 6 (some .int) wsX11_proof) (K : gK D ρ κ base s) {K34 : eS → Int32 → Int32 → Int32 → Prop} (hK34 : ∀ (σ : eS) (x1 : Int32) (x2 : Int32) (x3 : Int32) (H : Heap) (locs : List Loc) (ls : Array Slot), K34 σ x1 x2 x3 → gG D ρ κ base s σ H locs → lv_has ls 6 [(0, .ref (ρ (97))), (1, .int (x1)), (2, .int (x2)), (3, .int (x3))] → W p l e rm_X11_proof s m args below meth c H locs 0 0 (gQi below args s D ρ κ base post) (F0 m 34 ls [])) : ∀ (n : Nat) (σ : eS) (x1 : Int32) (x2 : Int32) (x3 : Int32) (x4 : Int32) (x5 : Int32) (H : Heap) (locs : List Loc) (ls : Array Slot), b_X11_proof_64 post K34 n σ x1 x2 x3 x4 x5 → gG D ρ κ base s σ H locs → lv_has ls 6 [(0, .ref (ρ (97))), (1, .int (x1)), (2, .int (x2)), (3, .int (x3)), (4, .int (x4)), (5, .int (x5))] → W p l e rm_X11_proof s m args below meth c H locs 0 0 (gQi below args s D ρ κ base post) (F0 m 64 ls []) := by
  obtain ⟨hx, hb, hml, hown, hts, hr, hlocks⟩ := id C
  intro n
  induction n with
  | zero => intro σ x1 x2 x3 x4 x5 H locs ls h G hl; exact False.elim h
  | succ n ih =>
    intro σ x1 x2 x3 x4 x5 H locs ls h G hl
    rw [b_X11_proof_64] at h
    refine lv_iload hx hb dX11_proof_64 (lv_at hl 5 rfl) ?_
    refine lv_aload_n hx hb dX11_proof_66 rfl (lv_at hl 0 rfl) ?_
    refine e_geti hx hb hts in_X11_proof_X11 hown K G 97 (by decide) gl_97 rfl 33 (by decide) rfl (hts (.fieldLink RX11 302 "StreetsStepOnModel" "wayMany" "I") (e_mem (n := 4) rfl)) dX11_proof_67 ?_
    refine lv_icmp_ge (tgt := 104) hx hb dX11_proof_70 (by decide) (fun c16 => ?_) (fun c16 => ?_)
    · have h := h.1 c16
      exact l_X11_proof_104 C K (hK34 := hK34) σ x1 x2 x3 x4 _ _ _  h G (lv_sub hl [0, 1, 2, 3, 4] rfl)
    · have h := h.2 c16
      refine lv_iload hx hb dX11_proof_73 (lv_at hl 4 rfl) ?_
      refine lv_if_ne (tgt := 104) hx hb dX11_proof_75 (by decide) (fun c19 => ?_) (fun c19 => ?_)
      · have h := h.1 c19
        exact l_X11_proof_104 C K (hK34 := hK34) σ x1 x2 x3 x4 _ _ _  h G (lv_sub hl [0, 1, 2, 3, 4] rfl)
      · have h := h.2 c19
        refine lv_aload_n hx hb dX11_proof_78 rfl (lv_at hl 0 rfl) ?_
        refine e_getq hx hb hts in_X11_proof_X11 hown K G 97 (by decide) gl_97 rfl 48 (by decide) 120 rfl (hts (.fieldLink RX11 82 "StreetsStepOnModel" "keeps" "[I") (e_mem (n := 5) rfl)) dX11_proof_79 ?_
        refine lv_iload hx hb dX11_proof_82 (lv_at hl 5 rfl) ?_
        have hi20 := h.1
        have h := h.2
        refine e_iald hx hb K G 120 0 0 720 (by decide) gl_120 rfl hi20 dX11_proof_84 ?_
        refine lv_iload_n hx hb dX11_proof_85 rfl (lv_at hl 3 rfl) ?_
        refine lv_iand hx hb dX11_proof_86 ?_
        refine lv_iload_n hx hb dX11_proof_87 rfl (lv_at hl 3 rfl) ?_
        refine lv_icmp_ne (tgt := 95) hx hb dX11_proof_88 (by decide) (fun c21 => ?_) (fun c21 => ?_)
        · have h := h.1 c21
          refine lv_iconst (v := (0 : Int32)) hx hb dX11_proof_95 (by decide) ?_
          exact l_X11_proof_96 C K (hK34 := hK34) (hK64 := ih) σ x1 x2 x3 x5 (0 : Int32) _ _ _  h G (lv_sub hl [0, 1, 2, 3, 5] rfl)
        · have h := h.2 c21
          refine lv_iconst (v := (1 : Int32)) hx hb dX11_proof_91 (by decide) ?_
          refine lv_goto (tgt := 96) hx hb dX11_proof_92 (by decide) ?_
          exact l_X11_proof_96 C K (hK34 := hK34) (hK64 := ih) σ x1 x2 x3 x5 (1 : Int32) _ _ _  h G (lv_sub hl [0, 1, 2, 3, 5] rfl)
def b_X11_proof_58 (post : Int32 → eS → Prop) (K34 : eS → Int32 → Int32 → Int32 → Prop) (σ : eS) (x1 : Int32) (x2 : Int32) (x3 : Int32) : Prop := ∀ v14 : Int32, v14 = (0 : Int32) → ∀ v15 : Int32, v15 = (0 : Int32) → (∃ n23 : Nat, b_X11_proof_64 post K34 n23 σ x1 x2 x3 v14 v15)
set_option maxHeartbeats 4000000 in
set_option maxRecDepth 100000 in
theorem l_X11_proof_58 {p : Program} {l : Launch} {e : Env} {s : State} {m : MethodId} {args : Array Value} {below : List Frame} {meth : Method} {c : Code} {D : va_G} {ρ : Nat → Nat} {κ : Nat → ClassId} {base : Nat} {post : Int32 → eS → Prop} (C : eCx p s m args meth c cX11_proof RX11 6 (some .int) wsX11_proof) (K : gK D ρ κ base s) {K34 : eS → Int32 → Int32 → Int32 → Prop} (hK34 : ∀ (σ : eS) (x1 : Int32) (x2 : Int32) (x3 : Int32) (H : Heap) (locs : List Loc) (ls : Array Slot), K34 σ x1 x2 x3 → gG D ρ κ base s σ H locs → lv_has ls 6 [(0, .ref (ρ (97))), (1, .int (x1)), (2, .int (x2)), (3, .int (x3))] → W p l e rm_X11_proof s m args below meth c H locs 0 0 (gQi below args s D ρ κ base post) (F0 m 34 ls [])) : ∀ (σ : eS) (x1 : Int32) (x2 : Int32) (x3 : Int32) (H : Heap) (locs : List Loc) (ls : Array Slot), b_X11_proof_58 post K34 σ x1 x2 x3 → gG D ρ κ base s σ H locs → lv_has ls 6 [(0, .ref (ρ (97))), (1, .int (x1)), (2, .int (x2)), (3, .int (x3))] → W p l e rm_X11_proof s m args below meth c H locs 0 0 (gQi below args s D ρ κ base post) (F0 m 58 ls []) := by
  obtain ⟨hx, hb, hml, hown, hts, hr, hlocks⟩ := id C
  intro σ x1 x2 x3 H locs ls h G hl
  unfold b_X11_proof_58 at h
  refine lv_iconst (v := (0 : Int32)) hx hb dX11_proof_58 (by decide) ?_
  refine lv_topi (fun v14 ev14 => ?_)
  have h := h v14 ev14
  refine lv_istore (lv' := [(4, .int (v14)), (0, .ref (ρ (97))), (1, .int (x1)), (2, .int (x2)), (3, .int (x3))]) hx hb dX11_proof_59 hl (by decide) rfl (fun ls hl => ?_)
  refine lv_iconst (v := (0 : Int32)) hx hb dX11_proof_61 (by decide) ?_
  refine lv_topi (fun v15 ev15 => ?_)
  have h := h v15 ev15
  refine lv_istore (lv' := [(5, .int (v15)), (4, .int (v14)), (0, .ref (ρ (97))), (1, .int (x1)), (2, .int (x2)), (3, .int (x3))]) hx hb dX11_proof_62 hl (by decide) rfl (fun ls hl => ?_)
  obtain ⟨n23, h⟩ := h
  exact l_X11_proof_64 C K (hK34 := hK34) n23 σ x1 x2 x3 v14 v15 _ _ _  h G (lv_sub hl [2, 3, 4, 5, 1, 0] rfl)
def b_X11_proof_34 (post : Int32 → eS → Prop) : Nat → eS → Int32 → Int32 → Int32 → Prop
  | 0, _, _, _, _ => False
  | n + 1, σ, x1, x2, x3 => ((x1 < x3 → ((¬ x2 = (-1 : Int32) → ∀ σ9 : eS, σ9 = e_ui σ 97 17 (0 : Int32) → w_X11_tell σ9 (x2.toInt64) (fun σ10 => w_J6_bitCount_0f7a4 σ10 x2 (fun r12 σ11 => post r12 σ11))) ∧ (x2 = (-1 : Int32) → post (0 : Int32) σ))) ∧ (¬ (x1 < x3) → ((x2 = (-1 : Int32) → b_X11_proof_58 post (fun s x1 x2 x3 => b_X11_proof_34 post n s x1 x2 x3) σ x1 x2 x3) ∧ (¬ (x2 = (-1 : Int32)) → w_J6_bitCount_0f7a4 σ x3 (fun r25 σ24 => w_J6_bitCount_0f7a4 σ24 x2 (fun r27 σ26 => ((r25 < r27 → b_X11_proof_58 post (fun s x1 x2 x3 => b_X11_proof_34 post n s x1 x2 x3) σ26 x1 x2 x3) ∧ (¬ (r25 < r27) → b_X11_proof_111 post (fun s x1 x2 x3 => b_X11_proof_34 post n s x1 x2 x3) σ26 x1 x2 x3))))))))
set_option maxHeartbeats 4000000 in
set_option maxRecDepth 100000 in
theorem l_X11_proof_34 {p : Program} {l : Launch} {e : Env} {s : State} {m : MethodId} {args : Array Value} {below : List Frame} {meth : Method} {c : Code} {D : va_G} {ρ : Nat → Nat} {κ : Nat → ClassId} {base : Nat} {post : Int32 → eS → Prop} (C : eCx p s m args meth c cX11_proof RX11 6 (some .int) wsX11_proof) (K : gK D ρ κ base s) : ∀ (n : Nat) (σ : eS) (x1 : Int32) (x2 : Int32) (x3 : Int32) (H : Heap) (locs : List Loc) (ls : Array Slot), b_X11_proof_34 post n σ x1 x2 x3 → gG D ρ κ base s σ H locs → lv_has ls 6 [(0, .ref (ρ (97))), (1, .int (x1)), (2, .int (x2)), (3, .int (x3))] → W p l e rm_X11_proof s m args below meth c H locs 0 0 (gQi below args s D ρ κ base post) (F0 m 34 ls []) := by
  obtain ⟨hx, hb, hml, hown, hts, hr, hlocks⟩ := id C
  intro n
  induction n with
  | zero => intro σ x1 x2 x3 H locs ls h G hl; exact False.elim h
  | succ n ih =>
    intro σ x1 x2 x3 H locs ls h G hl
    rw [b_X11_proof_34] at h
    refine lv_iload_n hx hb dX11_proof_34 rfl (lv_at hl 3 rfl) ?_
    refine lv_iload_n hx hb dX11_proof_35 rfl (lv_at hl 1 rfl) ?_
    refine lv_icmp_gt (tgt := 117) hx hb dX11_proof_36 (by decide) (fun c7 => ?_) (fun c7 => ?_)
    · have h := h.1 c7
      refine lv_iload_n hx hb dX11_proof_117 rfl (lv_at hl 2 rfl) ?_
      refine lv_iconst (v := (-1 : Int32)) hx hb dX11_proof_118 (by decide) ?_
      refine lv_icmp_ne (tgt := 124) hx hb dX11_proof_119 (by decide) (fun c8 => ?_) (fun c8 => ?_)
      · have h := h.1 c8
        refine lv_aload_n hx hb dX11_proof_124 rfl (lv_at hl 0 rfl) ?_
        refine lv_iconst (v := (0 : Int32)) hx hb dX11_proof_125 (by decide) ?_
        refine e_puti hx hb hts in_X11_proof_X11 tyX11 tyX11_ok nmX11 hown K G 97 (by decide) gl_97 rfl 17 (by decide) rfl (hts (.fieldLink RX11 101 "StreetsStepOnModel" "rowMany" "I") (e_mem (n := 6) rfl)) rfl (tyX11_ok 17 (by decide)) rfl rfl dX11_proof_126 (fun H locs G => ?_)
        obtain ⟨σ9, eσ9⟩ : ∃ z : eS, z = e_ui σ 97 17 (0 : Int32) := ⟨_, rfl⟩
        rw [← eσ9] at G
        have h := h σ9 eσ9
        refine lv_aload_n hx hb dX11_proof_129 rfl (lv_at hl 0 rfl) ?_
        refine lv_iload_n hx hb dX11_proof_130 rfl (lv_at hl 2 rfl) ?_
        refine lv_i2l hx hb dX11_proof_131 rfl ?_
        refine e_callVv (As := [.long (x2.toInt64)]) (rest := []) ⟨hx, hb, hml, hown, hts⟩ K G 97 (by decide) gl_97 rfl (c_X11_tell h) (cwV 1 hts gX11_proof_X11_tell rfl rfl rfl (by decide +kernel) ⟨Nat.le_of_ble_eq_true rfl, Nat.le_of_ble_eq_true rfl⟩) rfl hl.1 rfl (Nat.le_of_ble_eq_true rfl) dX11_proof_132 ⟨Nat.zero_le _, Nat.zero_le _⟩ (fun σ10 H locs h G => ?_)
        refine lv_iload_n hx hb dX11_proof_135 rfl (lv_at hl 2 rfl) ?_
        refine e_callSi (As := [.int (x2)]) (rest := []) ⟨hx, hb, hml, hown, hts⟩ K G (c_J6_bitCount_0f7a4 h) (va_cwS 1 hts gX11_proof_J6_bitCount_0f7a4 rfl rfl rfl (by decide +kernel) ⟨Nat.le_of_ble_eq_true rfl, Nat.le_of_ble_eq_true rfl⟩) rfl hl.1 rfl (Nat.le_of_ble_eq_true rfl) dX11_proof_136 ⟨Nat.zero_le _, Nat.zero_le _⟩ (fun r12 σ11 H locs h G => ?_)
        exact e_iret hx hb hr hlocks G h dX11_proof_139
      · have h := h.2 c8
        refine lv_iconst (v := (0 : Int32)) hx hb dX11_proof_122 (by decide) ?_
        exact e_iret hx hb hr hlocks G h dX11_proof_123
    · have h := h.2 c7
      refine lv_iload_n hx hb dX11_proof_39 rfl (lv_at hl 2 rfl) ?_
      refine lv_iconst (v := (-1 : Int32)) hx hb dX11_proof_40 (by decide) ?_
      refine lv_icmp_eq (tgt := 58) hx hb dX11_proof_41 (by decide) (fun c13 => ?_) (fun c13 => ?_)
      · have h := h.1 c13
        exact l_X11_proof_58 C K (hK34 := ih) σ x1 x2 x3 _ _ _  h G (lv_sub hl [0, 1, 2, 3] rfl)
      · have h := h.2 c13
        refine lv_iload_n hx hb dX11_proof_44 rfl (lv_at hl 3 rfl) ?_
        refine e_callSi (As := [.int (x3)]) (rest := []) ⟨hx, hb, hml, hown, hts⟩ K G (c_J6_bitCount_0f7a4 h) (va_cwS 1 hts gX11_proof_J6_bitCount_0f7a4 rfl rfl rfl (by decide +kernel) ⟨Nat.le_of_ble_eq_true rfl, Nat.le_of_ble_eq_true rfl⟩) rfl hl.1 rfl (Nat.le_of_ble_eq_true rfl) dX11_proof_45 ⟨Nat.zero_le _, Nat.zero_le _⟩ (fun r25 σ24 H locs h G => ?_)
        refine lv_iload_n hx hb dX11_proof_48 rfl (lv_at hl 2 rfl) ?_
        refine e_callSi (As := [.int (x2)]) (rest := [.int (r25)]) ⟨hx, hb, hml, hown, hts⟩ K G (c_J6_bitCount_0f7a4 h) (va_cwS 1 hts gX11_proof_J6_bitCount_0f7a4 rfl rfl rfl (by decide +kernel) ⟨Nat.le_of_ble_eq_true rfl, Nat.le_of_ble_eq_true rfl⟩) rfl hl.1 rfl (Nat.le_of_ble_eq_true rfl) dX11_proof_49 ⟨Nat.zero_le _, Nat.zero_le _⟩ (fun r27 σ26 H locs h G => ?_)
        refine lv_icmp_lt (tgt := 58) hx hb dX11_proof_52 (by decide) (fun c28 => ?_) (fun c28 => ?_)
        · have h := h.1 c28
          exact l_X11_proof_58 C K (hK34 := ih) σ26 x1 x2 x3 _ _ _  h G (lv_sub hl [0, 1, 2, 3] rfl)
        · have h := h.2 c28
          refine lv_goto (tgt := 111) hx hb dX11_proof_55 (by decide) ?_
          exact l_X11_proof_111 C K (hK34 := ih) σ26 x1 x2 x3 _ _ _  h G (lv_sub hl [0, 1, 2, 3] rfl)
def w_X11_proof (σ : eS) (post : Int32 → eS → Prop) : Prop := ∀ σ1 : eS, σ1 = e_ui σ 97 18 (0 : Int32) → (((σ1.1 97 0) ≤ (6 : Int32) → w_X11_findKeeps σ1 (fun σ3 => ∀ v4 : Int32, v4 = (((1 : Int32) <<< ((σ3.1 97 10) &&& 31)) - (1 : Int32)) → ∀ v5 : Int32, v5 = (-1 : Int32) → ∀ v6 : Int32, v6 = (0 : Int32) → (∃ n29 : Nat, b_X11_proof_34 post n29 σ3 v4 v5 v6))) ∧ (¬ ((σ1.1 97 0) ≤ (6 : Int32)) → post (-3 : Int32) σ1))
set_option maxHeartbeats 4000000 in
set_option maxRecDepth 100000 in
theorem c_X11_proof {l : Launch} {D : va_G} {ρ : Nat → Nat} {κ : Nat → ClassId} {base : Nat} {σ : eS} {post : Int32 → eS → Prop} (h : w_X11_proof σ post) : gMi l yX11_proof wsX11_proof rm_X11_proof D ρ κ base [.ref (ρ (97))] σ post := by
  refine e_ofWi (cc := cX11_proof) (maxL := 6) (ret := (some .int)) (by decide) rfl (Nat.le_of_ble_eq_true rfl) ?_
  intro p e s m below meth c ls C K G hl
  obtain ⟨hx, hb, hml, hown, hts, hr, hlocks⟩ := id C
  have hl : lv_has ls 6 [(0, .ref (ρ (97)))] := hl
  unfold w_X11_proof at h
  refine lv_aload_n hx hb dX11_proof_0 rfl (lv_at hl 0 rfl) ?_
  refine lv_iconst (v := (0 : Int32)) hx hb dX11_proof_1 (by decide) ?_
  refine e_puti hx hb hts in_X11_proof_X11 tyX11 tyX11_ok nmX11 hown K G 97 (by decide) gl_97 rfl 18 (by decide) rfl (hts (.fieldLink RX11 98 "StreetsStepOnModel" "thrown" "I") (e_mem (n := 1) rfl)) rfl (tyX11_ok 18 (by decide)) rfl rfl dX11_proof_2 (fun H locs G => ?_)
  obtain ⟨σ1, eσ1⟩ : ∃ z : eS, z = e_ui σ 97 18 (0 : Int32) := ⟨_, rfl⟩
  rw [← eσ1] at G
  have h := h σ1 eσ1
  refine lv_aload_n hx hb dX11_proof_5 rfl (lv_at hl 0 rfl) ?_
  refine e_geti hx hb hts in_X11_proof_X11 hown K G 97 (by decide) gl_97 rfl 0 (by decide) rfl (hts (.fieldLink RX11 104 "StreetsStepOnModel" "streets" "I") (e_mem (n := 2) rfl)) dX11_proof_6 ?_
  refine lv_bipush (v := (6 : Int32)) hx hb dX11_proof_9 (by decide) ?_
  refine lv_icmp_le (tgt := 17) hx hb dX11_proof_11 (by decide) (fun c2 => ?_) (fun c2 => ?_)
  · have h := h.1 c2
    refine lv_aload_n hx hb dX11_proof_17 rfl (lv_at hl 0 rfl) ?_
    refine e_callVv (As := []) (rest := []) ⟨hx, hb, hml, hown, hts⟩ K G 97 (by decide) gl_97 rfl (c_X11_findKeeps h) (cwV 0 hts gX11_proof_X11_findKeeps rfl rfl rfl (by decide +kernel) ⟨Nat.le_of_ble_eq_true rfl, Nat.le_of_ble_eq_true rfl⟩) rfl hl.1 rfl (Nat.le_of_ble_eq_true rfl) dX11_proof_18 ⟨Nat.zero_le _, Nat.zero_le _⟩ (fun σ3 H locs h G => ?_)
    refine lv_iconst (v := (1 : Int32)) hx hb dX11_proof_21 (by decide) ?_
    refine lv_aload_n hx hb dX11_proof_22 rfl (lv_at hl 0 rfl) ?_
    refine e_geti hx hb hts in_X11_proof_X11 hown K G 97 (by decide) gl_97 rfl 10 (by decide) rfl (hts (.fieldLink RX11 406 "StreetsStepOnModel" "wishes" "I") (e_mem (n := 3) rfl)) dX11_proof_23 ?_
    refine lv_ishl hx hb dX11_proof_26 ?_
    refine lv_iconst (v := (1 : Int32)) hx hb dX11_proof_27 (by decide) ?_
    refine lv_isub hx hb dX11_proof_28 ?_
    refine lv_topi (fun v4 ev4 => ?_)
    have h := h v4 ev4
    refine lv_istore_n (lv' := [(1, .int (v4)), (0, .ref (ρ (97)))]) hx hb dX11_proof_29 rfl hl (by decide) rfl (fun ls hl => ?_)
    refine lv_iconst (v := (-1 : Int32)) hx hb dX11_proof_30 (by decide) ?_
    refine lv_topi (fun v5 ev5 => ?_)
    have h := h v5 ev5
    refine lv_istore_n (lv' := [(2, .int (v5)), (1, .int (v4)), (0, .ref (ρ (97)))]) hx hb dX11_proof_31 rfl hl (by decide) rfl (fun ls hl => ?_)
    refine lv_iconst (v := (0 : Int32)) hx hb dX11_proof_32 (by decide) ?_
    refine lv_topi (fun v6 ev6 => ?_)
    have h := h v6 ev6
    refine lv_istore_n (lv' := [(3, .int (v6)), (2, .int (v5)), (1, .int (v4)), (0, .ref (ρ (97)))]) hx hb dX11_proof_33 rfl hl (by decide) rfl (fun ls hl => ?_)
    obtain ⟨n29, h⟩ := h
    exact l_X11_proof_34 C K n29 σ3 v4 v5 v6 _ _ _  h G (lv_sub hl [3, 2, 1, 0] rfl)
  · have h := h.2 c2
    refine lv_bipush (v := (-3 : Int32)) hx hb dX11_proof_14 (by decide) ?_
    exact e_iret hx hb hr hlocks G h dX11_proof_16
abbrev rm_X1_stayAll : Room := { frames := 0, cells := 0, slots := 0, locals := 0 }
theorem in_X1_stayAll_X1 : ∀ w ∈ wsX10, w ∈ wsX1_stayAll := fun w h => List.mem_cons_of_mem _ (List.mem_append_right _ h)
def b_X1_stayAll_2 (post : eS → Prop) : Nat → eS → Int32 → Int32 → Prop
  | 0, _, _, _ => False
  | n + 1, σ, x1, x2 => (((12 : Int32) ≤ x2 → post σ) ∧ (¬ ((12 : Int32) ≤ x2) → (vp_in x1 7) ∧ (vp_in x2 12) ∧ ∀ σ5 : eS, σ5 = e_ui σ (7 + x1.toNatClampNeg) x2.toNatClampNeg x2 → ∀ v6 : Int32, v6 = (x2 + (1 : Int32)) → b_X1_stayAll_2 post n σ5 x1 v6))
set_option maxHeartbeats 4000000 in
set_option maxRecDepth 100000 in
theorem l_X1_stayAll_2 {p : Program} {l : Launch} {e : Env} {s : State} {m : MethodId} {args : Array Value} {below : List Frame} {meth : Method} {c : Code} {D : va_G} {ρ : Nat → Nat} {κ : Nat → ClassId} {base : Nat} {post : eS → Prop} (C : eCx p s m args meth c cX1_stayAll RX1 3 none wsX1_stayAll) (K : gK D ρ κ base s) : ∀ (n : Nat) (σ : eS) (x1 : Int32) (x2 : Int32) (H : Heap) (locs : List Loc) (ls : Array Slot), b_X1_stayAll_2 post n σ x1 x2 → gG D ρ κ base s σ H locs → lv_has ls 3 [(0, .ref (ρ (5))), (1, .int (x1)), (2, .int (x2))] → W p l e rm_X1_stayAll s m args below meth c H locs 0 0 (gQv below args s D ρ κ base post) (F0 m 2 ls []) := by
  obtain ⟨hx, hb, hml, hown, hts, hr, hlocks⟩ := id C
  intro n
  induction n with
  | zero => intro σ x1 x2 H locs ls h G hl; exact False.elim h
  | succ n ih =>
    intro σ x1 x2 H locs ls h G hl
    rw [b_X1_stayAll_2] at h
    refine lv_iload_n hx hb dX1_stayAll_2 rfl (lv_at hl 2 rfl) ?_
    refine lv_bipush (v := (12 : Int32)) hx hb dX1_stayAll_3 (by decide) ?_
    refine lv_icmp_ge (tgt := 23) hx hb dX1_stayAll_5 (by decide) (fun c2 => ?_) (fun c2 => ?_)
    · have h := h.1 c2
      exact e_vret hx hb hr hlocks G h dX1_stayAll_23
    · have h := h.2 c2
      refine lv_aload_n hx hb dX1_stayAll_8 rfl (lv_at hl 0 rfl) ?_
      refine e_getq hx hb hts in_X1_stayAll_X1 hown K G 5 (by decide) gl_5 rfl 0 (by decide) 6 rfl (hts (.fieldLink RX1 11 "StreetsStepOn$Book" "nexts" "[[I") (e_mem (n := 1) rfl)) dX1_stayAll_9 ?_
      refine lv_iload_n hx hb dX1_stayAll_12 rfl (lv_at hl 1 rfl) ?_
      have hi3 := h.1
      have h := h.2
      refine e_aald hx hb K G 6 5 5 7 (by decide) _ gl_6 rfl rfl hi3 (7 + x1.toNatClampNeg) (gr_6 _ (e_lt hi3)).1 dX1_stayAll_13 ?_
      refine lv_iload_n hx hb dX1_stayAll_14 rfl (lv_at hl 2 rfl) ?_
      refine lv_iload_n hx hb dX1_stayAll_15 rfl (lv_at hl 2 rfl) ?_
      have hi4 := h.1
      have h := h.2
      refine e_iast hx hb K G (7 + x1.toNatClampNeg) 0 0 12 (gr_6 _ (e_lt hi3)).2.2 (gr_6 _ (e_lt hi3)).2.1 rfl hi4 dX1_stayAll_16 (fun H locs G => ?_)
      obtain ⟨σ5, eσ5⟩ : ∃ z : eS, z = e_ui σ (7 + x1.toNatClampNeg) x2.toNatClampNeg x2 := ⟨_, rfl⟩
      rw [← eσ5] at G
      have h := h σ5 eσ5
      obtain ⟨v6, ev6⟩ : ∃ y : Int32, y = x2 + (1 : Int32) := ⟨_, rfl⟩
      have h := h v6 ev6
      refine lv_iinc (v := v6) (lv' := [(2, .int (v6)), (0, .ref (ρ (5))), (1, .int (x1))]) hx hb dX1_stayAll_17 hl (k := 2) rfl (by rw [ev6]; rfl) (by decide) rfl (fun ls hl => ?_)
      refine lv_goto (tgt := 2) hx hb dX1_stayAll_20 (by decide) ?_
      exact ih σ5 x1 v6 _ _ _  h G (lv_sub hl [1, 2, 0] rfl)
def w_X1_stayAll (σ : eS) (x1 : Int32) (post : eS → Prop) : Prop := ∀ v1 : Int32, v1 = (0 : Int32) → (∃ n7 : Nat, b_X1_stayAll_2 post n7 σ x1 v1)
set_option maxHeartbeats 4000000 in
set_option maxRecDepth 100000 in
theorem c_X1_stayAll {l : Launch} {D : va_G} {ρ : Nat → Nat} {κ : Nat → ClassId} {base : Nat} {σ : eS} {x1 : Int32} {post : eS → Prop} (h : w_X1_stayAll σ x1 post) : gMv l yX1_stayAll wsX1_stayAll rm_X1_stayAll D ρ κ base [.ref (ρ (5)), .int (x1)] σ post := by
  refine e_ofWv (cc := cX1_stayAll) (maxL := 3) (ret := none) (by decide) rfl (Nat.le_of_ble_eq_true rfl) ?_
  intro p e s m below meth c ls C K G hl
  obtain ⟨hx, hb, hml, hown, hts, hr, hlocks⟩ := id C
  have hl : lv_has ls 3 [(0, .ref (ρ (5))), (1, .int (x1))] := hl
  unfold w_X1_stayAll at h
  refine lv_iconst (v := (0 : Int32)) hx hb dX1_stayAll_0 (by decide) ?_
  refine lv_topi (fun v1 ev1 => ?_)
  have h := h v1 ev1
  refine lv_istore_n (lv' := [(2, .int (v1)), (0, .ref (ρ (5))), (1, .int (x1))]) hx hb dX1_stayAll_1 rfl hl (by decide) rfl (fun ls hl => ?_)
  obtain ⟨n7, h⟩ := h
  exact l_X1_stayAll_2 C K n7 σ x1 v1 _ _ _  h G (lv_sub hl [1, 2, 0] rfl)
abbrev rm_X10_decree : Room := { frames := 4, cells := 0, slots := 0, locals := 106 }
theorem in_X10_decree_X1 : ∀ w ∈ wsX10, w ∈ wsX10_decree := fun w h => List.mem_cons_of_mem _ (List.mem_append_left _ (List.mem_append_left _ (List.mem_append_left _ (List.mem_append_right _ h))))
theorem in_X10_decree_X10 : ∀ w ∈ wsX100, w ∈ wsX10_decree := fun w h => List.mem_cons_of_mem _ (List.mem_append_left _ (List.mem_append_left _ (List.mem_append_left _ (List.mem_append_left _ (List.mem_append_right _ h)))))
theorem in_X10_decree_X2 : ∀ w ∈ wsX20, w ∈ wsX10_decree := fun w h => List.mem_cons_of_mem _ (List.mem_append_left _ (List.mem_append_left _ (List.mem_append_right _ h)))
def w_X10_decree (σ : eS) (x1 : Int32) (post : Int32 → eS → Prop) : Prop := w_X10_chooseOrder σ x1 (fun r2 σ1 => ((r2 ≤ 0 → post r2 σ1) ∧ (¬ (r2 ≤ 0) → ∀ σ4 : eS, σ4 = e_ui σ1 5 5 (1 : Int32) → w_X1_stayAll σ4 (0 : Int32) (fun σ5 => (vp_in (0 : Int32) 7) ∧ (¬ (0 : Int32) < 0) ∧ (¬ (0 : Int32) < 0) ∧ (¬ (σ5.1 41 7) < 0) ∧ (((0 : Int32)).toNatClampNeg + (σ5.1 41 7).toNatClampNeg ≤ 6) ∧ (((0 : Int32)).toNatClampNeg + (σ5.1 41 7).toNatClampNeg ≤ 12) ∧ ∀ σ12 : eS, σ12 = e_ua σ5 (7 + ((0 : Int32)).toNatClampNeg) (va_cpy (σ5.1 46) (σ5.1 (7 + ((0 : Int32)).toNatClampNeg)) ((0 : Int32)).toNatClampNeg ((0 : Int32)).toNatClampNeg (σ5.1 41 7).toNatClampNeg) → ∀ σ13 : eS, σ13 = e_ul σ12 5 7 (0 : Int64) → w_X10_reckonAnew σ13 (fun σ14 => post r2 σ14)))))
set_option maxHeartbeats 4000000 in
set_option maxRecDepth 100000 in
theorem c_X10_decree {l : Launch} {D : va_G} {ρ : Nat → Nat} {κ : Nat → ClassId} {base : Nat} {σ : eS} {x1 : Int32} {post : Int32 → eS → Prop} (h : w_X10_decree σ x1 post) : gMi l yX10_decree wsX10_decree rm_X10_decree D ρ κ base [.ref (ρ (0)), .int (x1)] σ post := by
  refine e_ofWi (cc := cX10_decree) (maxL := 3) (ret := (some .int)) (by decide) rfl (Nat.le_of_ble_eq_true rfl) ?_
  intro p e s m below meth c ls C K G hl
  obtain ⟨hx, hb, hml, hown, hts, hr, hlocks⟩ := id C
  have hl : lv_has ls 3 [(0, .ref (ρ (0))), (1, .int (x1))] := hl
  unfold w_X10_decree at h
  refine lv_aload_n hx hb dX10_decree_0 rfl (lv_at hl 0 rfl) ?_
  refine lv_iload_n hx hb dX10_decree_1 rfl (lv_at hl 1 rfl) ?_
  refine e_callVi (As := [.int (x1)]) (rest := []) ⟨hx, hb, hml, hown, hts⟩ K G 0 (by decide) gl_0 rfl (c_X10_chooseOrder h) (cwV 1 hts gX10_decree_X10_chooseOrder rfl rfl rfl (by decide +kernel) ⟨Nat.le_of_ble_eq_true rfl, Nat.le_of_ble_eq_true rfl⟩) rfl hl.1 rfl (Nat.le_of_ble_eq_true rfl) dX10_decree_2 ⟨Nat.zero_le _, Nat.zero_le _⟩ (fun r2 σ1 H locs h G => ?_)
  refine lv_istore_n (lv' := [(2, .int (r2)), (0, .ref (ρ (0))), (1, .int (x1))]) hx hb dX10_decree_5 rfl hl (by decide) rfl (fun ls hl => ?_)
  refine lv_iload_n hx hb dX10_decree_6 rfl (lv_at hl 0 rfl) ?_
  refine lv_if_le (tgt := 66) hx hb dX10_decree_7 (by decide) (fun c3 => ?_) (fun c3 => ?_)
  · have h := h.1 c3
    refine lv_iload_n hx hb dX10_decree_66 rfl (lv_at hl 0 rfl) ?_
    exact e_iret hx hb hr hlocks G h dX10_decree_67
  · have h := h.2 c3
    refine lv_aload_n hx hb dX10_decree_10 rfl (lv_at hl 1 rfl) ?_
    refine e_getq hx hb hts in_X10_decree_X10 hown K G 0 (by decide) gl_0 rfl 2 (by decide) 5 rfl (hts (.fieldLink RX10 26 "StreetsStepOn" "book" "LStreetsStepOn$Book;") (e_mem (n := 1) rfl)) dX10_decree_11 ?_
    refine lv_iconst (v := (1 : Int32)) hx hb dX10_decree_14 (by decide) ?_
    refine e_putiN hx hb hts in_X10_decree_X1 tyX1 tyX1_ok nmX1 hown K G 5 (by decide) gl_5 rfl 5 (by decide) rfl (e_memq (n := 22) rfl) rfl (tyX1_ok 5 (by decide)) rfl rfl dX10_decree_15 (fun H locs G => ?_)
    obtain ⟨σ4, eσ4⟩ : ∃ z : eS, z = e_ui σ1 5 5 (1 : Int32) := ⟨_, rfl⟩
    rw [← eσ4] at G
    have h := h σ4 eσ4
    refine lv_aload_n hx hb dX10_decree_18 rfl (lv_at hl 1 rfl) ?_
    refine e_getq hx hb hts in_X10_decree_X10 hown K G 0 (by decide) gl_0 rfl 2 (by decide) 5 rfl (hts (.fieldLink RX10 26 "StreetsStepOn" "book" "LStreetsStepOn$Book;") (e_mem (n := 1) rfl)) dX10_decree_19 ?_
    refine lv_iconst (v := (0 : Int32)) hx hb dX10_decree_22 (by decide) ?_
    refine e_callVv (As := [.int ((0 : Int32))]) (rest := []) ⟨hx, hb, hml, hown, hts⟩ K G 5 (by decide) gl_5 rfl (c_X1_stayAll h) (cwV 1 hts gX10_decree_X1_stayAll rfl rfl rfl (by decide +kernel) ⟨Nat.le_of_ble_eq_true rfl, Nat.le_of_ble_eq_true rfl⟩) rfl hl.1 rfl (Nat.le_of_ble_eq_true rfl) dX10_decree_23 ⟨Nat.zero_le _, Nat.zero_le _⟩ (fun σ5 H locs h G => ?_)
    refine lv_aload_n hx hb dX10_decree_26 rfl (lv_at hl 1 rfl) ?_
    refine e_getq hx hb hts in_X10_decree_X10 hown K G 0 (by decide) gl_0 rfl 8 (by decide) 41 rfl (hts (.fieldLink RX10 65 "StreetsStepOn" "council" "LStreetsStepOn$Council;") (e_mem (n := 2) rfl)) dX10_decree_27 ?_
    refine e_getqN hx hb hts in_X10_decree_X2 hown K G 41 (by decide) gl_41 rfl 6 (by decide) 46 rfl (e_memq (n := 32) rfl) dX10_decree_30 ?_
    refine lv_iconst (v := (0 : Int32)) hx hb dX10_decree_33 (by decide) ?_
    refine lv_aload_n hx hb dX10_decree_34 rfl (lv_at hl 1 rfl) ?_
    refine e_getq hx hb hts in_X10_decree_X10 hown K G 0 (by decide) gl_0 rfl 2 (by decide) 5 rfl (hts (.fieldLink RX10 26 "StreetsStepOn" "book" "LStreetsStepOn$Book;") (e_mem (n := 1) rfl)) dX10_decree_35 ?_
    refine e_getqN hx hb hts in_X10_decree_X1 hown K G 5 (by decide) gl_5 rfl 0 (by decide) 6 rfl (e_memq (n := 7) rfl) dX10_decree_38 ?_
    refine lv_iconst (v := (0 : Int32)) hx hb dX10_decree_41 (by decide) ?_
    have hi6 := h.1
    have h := h.2
    refine e_aald hx hb K G 6 5 5 7 (by decide) _ gl_6 rfl rfl hi6 (7 + ((0 : Int32)).toNatClampNeg) (gr_6 _ (e_lt hi6)).1 dX10_decree_42 ?_
    refine lv_iconst (v := (0 : Int32)) hx hb dX10_decree_43 (by decide) ?_
    refine lv_aload_n hx hb dX10_decree_44 rfl (lv_at hl 1 rfl) ?_
    refine e_getq hx hb hts in_X10_decree_X10 hown K G 0 (by decide) gl_0 rfl 8 (by decide) 41 rfl (hts (.fieldLink RX10 65 "StreetsStepOn" "council" "LStreetsStepOn$Council;") (e_mem (n := 2) rfl)) dX10_decree_45 ?_
    refine e_getiN hx hb hts in_X10_decree_X2 hown K G 41 (by decide) gl_41 rfl 7 (by decide) rfl (e_memq (n := 33) rfl) dX10_decree_48 ?_
    have ha7 := h.1
    have h := h.2
    have ha8 := h.1
    have h := h.2
    have ha9 := h.1
    have h := h.2
    have ha10 := h.1
    have h := h.2
    have ha11 := h.1
    have h := h.2
    refine e_copyi hx hb (hml.trans hl.1.symm) hown (hts (.methodLink RX10 334 arraycopyName) (e_mem (n := 3) rfl)) (hts (.native arraycopyName) (e_mem (n := 4) rfl)) (hts (.static arraycopyName) (e_mem (n := 5) rfl)) (hts (.initialized "java/lang/System") (e_mem (n := 6) rfl)) K G 46 (7 + ((0 : Int32)).toNatClampNeg) 0 0 6 12 (by decide) (gr_6 _ (e_lt hi6)).2.2 gl_46 (gr_6 _ (e_lt hi6)).2.1 rfl rfl ha7 ha8 ha9 ha10 ha11 (Nat.le_of_ble_eq_true rfl) (Nat.le_of_ble_eq_true rfl) dX10_decree_51 (fun H locs G => ?_)
    obtain ⟨σ12, eσ12⟩ : ∃ z : eS, z = e_ua σ5 (7 + ((0 : Int32)).toNatClampNeg) (va_cpy (σ5.1 46) (σ5.1 (7 + ((0 : Int32)).toNatClampNeg)) ((0 : Int32)).toNatClampNeg ((0 : Int32)).toNatClampNeg (σ5.1 41 7).toNatClampNeg) := ⟨_, rfl⟩
    rw [← eσ12] at G
    have h := h σ12 eσ12
    refine lv_aload_n hx hb dX10_decree_54 rfl (lv_at hl 1 rfl) ?_
    refine e_getq hx hb hts in_X10_decree_X10 hown K G 0 (by decide) gl_0 rfl 2 (by decide) 5 rfl (hts (.fieldLink RX10 26 "StreetsStepOn" "book" "LStreetsStepOn$Book;") (e_mem (n := 1) rfl)) dX10_decree_55 ?_
    refine lv_lconst (v := (0 : Int64)) hx hb dX10_decree_58 (by decide) ?_
    refine e_putlN hx hb hts in_X10_decree_X1 tyX1 tyX1_ok nmX1 hown K G 5 (by decide) gl_5 rfl 7 (by decide) rfl (e_memq (n := 24) rfl) rfl rfl dX10_decree_59 (fun H locs G => ?_)
    obtain ⟨σ13, eσ13⟩ : ∃ z : eS, z = e_ul σ12 5 7 (0 : Int64) := ⟨_, rfl⟩
    rw [← eσ13] at G
    have h := h σ13 eσ13
    refine lv_aload_n hx hb dX10_decree_62 rfl (lv_at hl 1 rfl) ?_
    refine e_callVv (As := []) (rest := []) ⟨hx, hb, hml, hown, hts⟩ K G 0 (by decide) gl_0 rfl (c_X10_reckonAnew h) (cwV 0 hts gX10_decree_X10_reckonAnew rfl rfl rfl (by decide +kernel) ⟨Nat.le_of_ble_eq_true rfl, Nat.le_of_ble_eq_true rfl⟩) rfl hl.1 rfl (Nat.le_of_ble_eq_true rfl) dX10_decree_63 ⟨Nat.zero_le _, Nat.zero_le _⟩ (fun σ14 H locs h G => ?_)
    refine lv_iload_n hx hb dX10_decree_66 rfl (lv_at hl 0 rfl) ?_
    exact e_iret hx hb hr hlocks G h dX10_decree_67
abbrev rm_X11_decree : Room := { frames := 4, cells := 0, slots := 0, locals := 89 }
theorem in_X11_decree_X11 : ∀ w ∈ wsX110, w ∈ wsX11_decree := fun w h => List.mem_cons_of_mem _ (List.mem_append_right _ h)
def b_X11_decree_88 (post : Int32 → eS → Prop) (K51 : eS → Int32 → Int32 → Prop) (σ : eS) (x2 : Int32) (x3 : Int32) (y0 : Int32) (y1 : Int32) : Prop := (vp_in y1 84) ∧ ∀ σ15 : eS, σ15 = e_ui σ 101 y1.toNatClampNeg y0 → ∀ v16 : Int32, v16 = (x3 + (1 : Int32)) → K51 σ15 x2 v16
set_option maxHeartbeats 4000000 in
set_option maxRecDepth 100000 in
theorem l_X11_decree_88 {p : Program} {l : Launch} {e : Env} {s : State} {m : MethodId} {args : Array Value} {below : List Frame} {meth : Method} {c : Code} {D : va_G} {ρ : Nat → Nat} {κ : Nat → ClassId} {base : Nat} {post : Int32 → eS → Prop} (C : eCx p s m args meth c cX11_decree RX11 4 (some .int) wsX11_decree) (K : gK D ρ κ base s) {K51 : eS → Int32 → Int32 → Prop} (hK51 : ∀ (σ : eS) (x2 : Int32) (x3 : Int32) (H : Heap) (locs : List Loc) (ls : Array Slot), K51 σ x2 x3 → gG D ρ κ base s σ H locs → lv_has ls 4 [(0, .ref (ρ (97))), (2, .int (x2)), (3, .int (x3))] → W p l e rm_X11_decree s m args below meth c H locs 0 0 (gQi below args s D ρ κ base post) (F0 m 51 ls [])) : ∀ (σ : eS) (x2 : Int32) (x3 : Int32) (y0 : Int32) (y1 : Int32) (H : Heap) (locs : List Loc) (ls : Array Slot), b_X11_decree_88 post K51 σ x2 x3 y0 y1 → gG D ρ κ base s σ H locs → lv_has ls 4 [(0, .ref (ρ (97))), (2, .int (x2)), (3, .int (x3))] → W p l e rm_X11_decree s m args below meth c H locs 0 0 (gQi below args s D ρ κ base post) (F0 m 88 ls [.int (y0), .int (y1), .ref (ρ (101))]) := by
  obtain ⟨hx, hb, hml, hown, hts, hr, hlocks⟩ := id C
  intro σ x2 x3 y0 y1 H locs ls h G hl
  unfold b_X11_decree_88 at h
  have hi14 := h.1
  have h := h.2
  refine e_iast hx hb K G 101 0 0 84 (by decide) gl_101 rfl hi14 dX11_decree_88 (fun H locs G => ?_)
  obtain ⟨σ15, eσ15⟩ : ∃ z : eS, z = e_ui σ 101 y1.toNatClampNeg y0 := ⟨_, rfl⟩
  rw [← eσ15] at G
  have h := h σ15 eσ15
  obtain ⟨v16, ev16⟩ : ∃ y : Int32, y = x3 + (1 : Int32) := ⟨_, rfl⟩
  have h := h v16 ev16
  refine lv_iinc (v := v16) (lv' := [(3, .int (v16)), (0, .ref (ρ (97))), (2, .int (x2))]) hx hb dX11_decree_89 hl (k := 2) rfl (by rw [ev16]; rfl) (by decide) rfl (fun ls hl => ?_)
  refine lv_goto (tgt := 51) hx hb dX11_decree_92 (by decide) ?_
  exact hK51 σ15 x2 v16 _ _ _  h G (lv_sub hl [1, 2, 0] rfl)
def b_X11_decree_51 (post : Int32 → eS → Prop) : Nat → eS → Int32 → Int32 → Prop
  | 0, _, _, _ => False
  | n + 1, σ, x2, x3 => (((12 : Int32) ≤ x3 → ∀ σ11 : eS, σ11 = e_ui σ 97 4 (1 : Int32) → ∀ σ12 : eS, σ12 = e_ul σ11 97 6 (0 : Int64) → post x2 σ12) ∧ (¬ ((12 : Int32) ≤ x3) → (((σ.1 97 0) ≤ x3 → b_X11_decree_88 post (fun s x2 x3 => b_X11_decree_51 post n s x2 x3) σ x2 x3 x3 x3) ∧ (¬ ((σ.1 97 0) ≤ x3) → (vp_in (((6 : Int32) * (σ.1 97 49)) + x3) 4320) ∧ b_X11_decree_88 post (fun s x2 x3 => b_X11_decree_51 post n s x2 x3) σ x2 x3 (σ.1 113 (((6 : Int32) * (σ.1 97 49)) + x3).toNatClampNeg) x3))))
set_option maxHeartbeats 4000000 in
set_option maxRecDepth 100000 in
theorem l_X11_decree_51 {p : Program} {l : Launch} {e : Env} {s : State} {m : MethodId} {args : Array Value} {below : List Frame} {meth : Method} {c : Code} {D : va_G} {ρ : Nat → Nat} {κ : Nat → ClassId} {base : Nat} {post : Int32 → eS → Prop} (C : eCx p s m args meth c cX11_decree RX11 4 (some .int) wsX11_decree) (K : gK D ρ κ base s) : ∀ (n : Nat) (σ : eS) (x2 : Int32) (x3 : Int32) (H : Heap) (locs : List Loc) (ls : Array Slot), b_X11_decree_51 post n σ x2 x3 → gG D ρ κ base s σ H locs → lv_has ls 4 [(0, .ref (ρ (97))), (2, .int (x2)), (3, .int (x3))] → W p l e rm_X11_decree s m args below meth c H locs 0 0 (gQi below args s D ρ κ base post) (F0 m 51 ls []) := by
  obtain ⟨hx, hb, hml, hown, hts, hr, hlocks⟩ := id C
  intro n
  induction n with
  | zero => intro σ x2 x3 H locs ls h G hl; exact False.elim h
  | succ n ih =>
    intro σ x2 x3 H locs ls h G hl
    rw [b_X11_decree_51] at h
    refine lv_iload_n hx hb dX11_decree_51 rfl (lv_at hl 2 rfl) ?_
    refine lv_bipush (v := (12 : Int32)) hx hb dX11_decree_52 (by decide) ?_
    refine lv_icmp_ge (tgt := 95) hx hb dX11_decree_54 (by decide) (fun c10 => ?_) (fun c10 => ?_)
    · have h := h.1 c10
      refine lv_aload_n hx hb dX11_decree_95 rfl (lv_at hl 0 rfl) ?_
      refine lv_iconst (v := (1 : Int32)) hx hb dX11_decree_96 (by decide) ?_
      refine e_puti hx hb hts in_X11_decree_X11 tyX11 tyX11_ok nmX11 hown K G 97 (by decide) gl_97 rfl 4 (by decide) rfl (hts (.fieldLink RX11 111 "StreetsStepOnModel" "orders" "I") (e_mem (n := 7) rfl)) rfl (tyX11_ok 4 (by decide)) rfl rfl dX11_decree_97 (fun H locs G => ?_)
      obtain ⟨σ11, eσ11⟩ : ∃ z : eS, z = e_ui σ 97 4 (1 : Int32) := ⟨_, rfl⟩
      rw [← eσ11] at G
      have h := h σ11 eσ11
      refine lv_aload_n hx hb dX11_decree_100 rfl (lv_at hl 0 rfl) ?_
      refine lv_lconst (v := (0 : Int64)) hx hb dX11_decree_101 (by decide) ?_
      refine e_putl hx hb hts in_X11_decree_X11 tyX11 tyX11_ok nmX11 hown K G 97 (by decide) gl_97 rfl 6 (by decide) rfl (hts (.fieldLink RX11 197 "StreetsStepOnModel" "today" "J") (e_mem (n := 8) rfl)) rfl rfl dX11_decree_102 (fun H locs G => ?_)
      obtain ⟨σ12, eσ12⟩ : ∃ z : eS, z = e_ul σ11 97 6 (0 : Int64) := ⟨_, rfl⟩
      rw [← eσ12] at G
      have h := h σ12 eσ12
      refine lv_iload_n hx hb dX11_decree_105 rfl (lv_at hl 1 rfl) ?_
      exact e_iret hx hb hr hlocks G h dX11_decree_106
    · have h := h.2 c10
      refine lv_aload_n hx hb dX11_decree_57 rfl (lv_at hl 0 rfl) ?_
      refine e_getq hx hb hts in_X11_decree_X11 hown K G 97 (by decide) gl_97 rfl 5 (by decide) 101 rfl (hts (.fieldLink RX11 19 "StreetsStepOnModel" "nexts" "[I") (e_mem (n := 4) rfl)) dX11_decree_58 ?_
      refine lv_iload_n hx hb dX11_decree_61 rfl (lv_at hl 2 rfl) ?_
      refine lv_iload_n hx hb dX11_decree_62 rfl (lv_at hl 2 rfl) ?_
      refine lv_aload_n hx hb dX11_decree_63 rfl (lv_at hl 0 rfl) ?_
      refine e_geti hx hb hts in_X11_decree_X11 hown K G 97 (by decide) gl_97 rfl 0 (by decide) rfl (hts (.fieldLink RX11 104 "StreetsStepOnModel" "streets" "I") (e_mem (n := 3) rfl)) dX11_decree_64 ?_
      refine lv_icmp_ge (tgt := 87) hx hb dX11_decree_67 (by decide) (fun c13 => ?_) (fun c13 => ?_)
      · have h := h.1 c13
        refine lv_iload_n hx hb dX11_decree_87 rfl (lv_at hl 2 rfl) ?_
        exact l_X11_decree_88 C K (hK51 := ih) σ x2 x3 x3 x3 _ _ _  h G (lv_sub hl [0, 1, 2] rfl)
      · have h := h.2 c13
        refine lv_aload_n hx hb dX11_decree_70 rfl (lv_at hl 0 rfl) ?_
        refine e_getq hx hb hts in_X11_decree_X11 hown K G 97 (by decide) gl_97 rfl 32 (by decide) 113 rfl (hts (.fieldLink RX11 57 "StreetsStepOnModel" "ways" "[I") (e_mem (n := 5) rfl)) dX11_decree_71 ?_
        refine lv_bipush (v := (6 : Int32)) hx hb dX11_decree_74 (by decide) ?_
        refine lv_aload_n hx hb dX11_decree_76 rfl (lv_at hl 0 rfl) ?_
        refine e_geti hx hb hts in_X11_decree_X11 hown K G 97 (by decide) gl_97 rfl 49 (by decide) rfl (hts (.fieldLink RX11 418 "StreetsStepOnModel" "chosen" "I") (e_mem (n := 6) rfl)) dX11_decree_77 ?_
        refine lv_imul hx hb dX11_decree_80 ?_
        refine lv_iload_n hx hb dX11_decree_81 rfl (lv_at hl 2 rfl) ?_
        refine lv_iadd hx hb dX11_decree_82 ?_
        have hi17 := h.1
        have h := h.2
        refine e_iald hx hb K G 113 0 0 4320 (by decide) gl_113 rfl hi17 dX11_decree_83 ?_
        refine lv_goto (tgt := 88) hx hb dX11_decree_84 (by decide) ?_
        exact l_X11_decree_88 C K (hK51 := ih) σ x2 x3 (σ.1 113 (((6 : Int32) * (σ.1 97 49)) + x3).toNatClampNeg) x3 _ _ _  h G (lv_sub hl [0, 1, 2] rfl)
def w_X11_decree (σ : eS) (x1 : Int32) (post : Int32 → eS → Prop) : Prop := ∀ σ1 : eS, σ1 = e_ui σ 97 18 (0 : Int32) → w_X11_in σ1 (x1.toInt64) (0 : Int64) ((((1 : Int32) <<< ((σ1.1 97 10) &&& 31)) - (1 : Int32)).toInt64) (fun r3 σ2 => ((¬ r3 = 0 → (((σ2.1 97 0) ≤ (6 : Int32) → w_X11_choosing σ2 x1 (fun r7 σ6 => ((¬ r7 = 0 → ∀ v9 : Int32, v9 = (0 : Int32) → (∃ n18 : Nat, b_X11_decree_51 post n18 σ6 r7 v9)) ∧ (r7 = 0 → post (0 : Int32) σ6)))) ∧ (¬ ((σ2.1 97 0) ≤ (6 : Int32)) → post (-3 : Int32) σ2))) ∧ (r3 = 0 → post (-1 : Int32) σ2)))
set_option maxHeartbeats 4000000 in
set_option maxRecDepth 100000 in
theorem c_X11_decree {l : Launch} {D : va_G} {ρ : Nat → Nat} {κ : Nat → ClassId} {base : Nat} {σ : eS} {x1 : Int32} {post : Int32 → eS → Prop} (h : w_X11_decree σ x1 post) : gMi l yX11_decree wsX11_decree rm_X11_decree D ρ κ base [.ref (ρ (97)), .int (x1)] σ post := by
  refine e_ofWi (cc := cX11_decree) (maxL := 4) (ret := (some .int)) (by decide) rfl (Nat.le_of_ble_eq_true rfl) ?_
  intro p e s m below meth c ls C K G hl
  obtain ⟨hx, hb, hml, hown, hts, hr, hlocks⟩ := id C
  have hl : lv_has ls 4 [(0, .ref (ρ (97))), (1, .int (x1))] := hl
  unfold w_X11_decree at h
  refine lv_aload_n hx hb dX11_decree_0 rfl (lv_at hl 0 rfl) ?_
  refine lv_iconst (v := (0 : Int32)) hx hb dX11_decree_1 (by decide) ?_
  refine e_puti hx hb hts in_X11_decree_X11 tyX11 tyX11_ok nmX11 hown K G 97 (by decide) gl_97 rfl 18 (by decide) rfl (hts (.fieldLink RX11 98 "StreetsStepOnModel" "thrown" "I") (e_mem (n := 1) rfl)) rfl (tyX11_ok 18 (by decide)) rfl rfl dX11_decree_2 (fun H locs G => ?_)
  obtain ⟨σ1, eσ1⟩ : ∃ z : eS, z = e_ui σ 97 18 (0 : Int32) := ⟨_, rfl⟩
  rw [← eσ1] at G
  have h := h σ1 eσ1
  refine lv_iload_n hx hb dX11_decree_5 rfl (lv_at hl 1 rfl) ?_
  refine lv_i2l hx hb dX11_decree_6 rfl ?_
  refine lv_lconst (v := (0 : Int64)) hx hb dX11_decree_7 (by decide) ?_
  refine lv_iconst (v := (1 : Int32)) hx hb dX11_decree_8 (by decide) ?_
  refine lv_aload_n hx hb dX11_decree_9 rfl (lv_at hl 0 rfl) ?_
  refine e_geti hx hb hts in_X11_decree_X11 hown K G 97 (by decide) gl_97 rfl 10 (by decide) rfl (hts (.fieldLink RX11 406 "StreetsStepOnModel" "wishes" "I") (e_mem (n := 2) rfl)) dX11_decree_10 ?_
  refine lv_ishl hx hb dX11_decree_13 ?_
  refine lv_iconst (v := (1 : Int32)) hx hb dX11_decree_14 (by decide) ?_
  refine lv_isub hx hb dX11_decree_15 ?_
  refine lv_i2l hx hb dX11_decree_16 rfl ?_
  refine e_callSi (As := [.long (x1.toInt64), .long ((0 : Int64)), .long ((((1 : Int32) <<< ((σ1.1 97 10) &&& 31)) - (1 : Int32)).toInt64)]) (rest := []) ⟨hx, hb, hml, hown, hts⟩ K G (c_X11_in h) (va_cwS 3 hts gX11_decree_X11_in rfl rfl rfl (by decide +kernel) ⟨Nat.le_of_ble_eq_true rfl, Nat.le_of_ble_eq_true rfl⟩) rfl hl.1 rfl (Nat.le_of_ble_eq_true rfl) dX11_decree_17 ⟨Nat.zero_le _, Nat.zero_le _⟩ (fun r3 σ2 H locs h G => ?_)
  refine lv_if_ne (tgt := 25) hx hb dX11_decree_20 (by decide) (fun c4 => ?_) (fun c4 => ?_)
  · have h := h.1 c4
    refine lv_aload_n hx hb dX11_decree_25 rfl (lv_at hl 0 rfl) ?_
    refine e_geti hx hb hts in_X11_decree_X11 hown K G 97 (by decide) gl_97 rfl 0 (by decide) rfl (hts (.fieldLink RX11 104 "StreetsStepOnModel" "streets" "I") (e_mem (n := 3) rfl)) dX11_decree_26 ?_
    refine lv_bipush (v := (6 : Int32)) hx hb dX11_decree_29 (by decide) ?_
    refine lv_icmp_le (tgt := 37) hx hb dX11_decree_31 (by decide) (fun c5 => ?_) (fun c5 => ?_)
    · have h := h.1 c5
      refine lv_aload_n hx hb dX11_decree_37 rfl (lv_at hl 0 rfl) ?_
      refine lv_iload_n hx hb dX11_decree_38 rfl (lv_at hl 1 rfl) ?_
      refine e_callVi (As := [.int (x1)]) (rest := []) ⟨hx, hb, hml, hown, hts⟩ K G 97 (by decide) gl_97 rfl (c_X11_choosing h) (cwV 1 hts gX11_decree_X11_choosing rfl rfl rfl (by decide +kernel) ⟨Nat.le_of_ble_eq_true rfl, Nat.le_of_ble_eq_true rfl⟩) rfl hl.1 rfl (Nat.le_of_ble_eq_true rfl) dX11_decree_39 ⟨Nat.zero_le _, Nat.zero_le _⟩ (fun r7 σ6 H locs h G => ?_)
      refine lv_istore_n (lv' := [(2, .int (r7)), (0, .ref (ρ (97))), (1, .int (x1))]) hx hb dX11_decree_42 rfl hl (by decide) rfl (fun ls hl => ?_)
      refine lv_iload_n hx hb dX11_decree_43 rfl (lv_at hl 0 rfl) ?_
      refine lv_if_ne (tgt := 49) hx hb dX11_decree_44 (by decide) (fun c8 => ?_) (fun c8 => ?_)
      · have h := h.1 c8
        refine lv_iconst (v := (0 : Int32)) hx hb dX11_decree_49 (by decide) ?_
        refine lv_topi (fun v9 ev9 => ?_)
        have h := h v9 ev9
        refine lv_istore_n (lv' := [(3, .int (v9)), (2, .int (r7)), (0, .ref (ρ (97))), (1, .int (x1))]) hx hb dX11_decree_50 rfl hl (by decide) rfl (fun ls hl => ?_)
        obtain ⟨n18, h⟩ := h
        exact l_X11_decree_51 C K n18 σ6 r7 v9 _ _ _  h G (lv_sub hl [2, 1, 0] rfl)
      · have h := h.2 c8
        refine lv_iconst (v := (0 : Int32)) hx hb dX11_decree_47 (by decide) ?_
        exact e_iret hx hb hr hlocks G h dX11_decree_48
    · have h := h.2 c5
      refine lv_bipush (v := (-3 : Int32)) hx hb dX11_decree_34 (by decide) ?_
      exact e_iret hx hb hr hlocks G h dX11_decree_36
  · have h := h.2 c4
    refine lv_iconst (v := (-1 : Int32)) hx hb dX11_decree_23 (by decide) ?_
    exact e_iret hx hb hr hlocks G h dX11_decree_24
abbrev rm_X10_swap : Room := { frames := 3, cells := 0, slots := 0, locals := 78 }
theorem in_X10_swap_X1 : ∀ w ∈ wsX10, w ∈ wsX10_swap := fun w h => List.mem_cons_of_mem _ (List.mem_append_left _ (List.mem_append_right _ h))
theorem in_X10_swap_X10 : ∀ w ∈ wsX100, w ∈ wsX10_swap := fun w h => List.mem_cons_of_mem _ (List.mem_append_left _ (List.mem_append_left _ (List.mem_append_right _ h)))
def b_X10_swap_20 (post : Int32 → eS → Prop) : Nat → eS → Int32 → Int32 → Int32 → Prop
  | 0, _, _, _, _ => False
  | n + 1, σ, x1, x2, x3 => (((12 : Int32) ≤ x3 → w_X0_reckon σ (fun σ9 => ((narrow .boolean (.int (1 : Int32)) = .int (1 : Int32)) ∧ post (1 : Int32) σ9))) ∧ (¬ ((12 : Int32) ≤ x3) → (vp_in x1 7) ∧ (vp_in x3 12) ∧ ∀ v12 : Int32, v12 = (σ.1 (7 + x1.toNatClampNeg) x3.toNatClampNeg) → (vp_in x1 7) ∧ (vp_in x2 7) ∧ (vp_in x3 12) ∧ (vp_in x3 12) ∧ ∀ σ17 : eS, σ17 = e_ui σ (7 + x1.toNatClampNeg) x3.toNatClampNeg (σ.1 (7 + x2.toNatClampNeg) x3.toNatClampNeg) → (vp_in x2 7) ∧ (vp_in x3 12) ∧ ∀ σ20 : eS, σ20 = e_ui σ17 (7 + x2.toNatClampNeg) x3.toNatClampNeg v12 → ∀ v21 : Int32, v21 = (x3 + (1 : Int32)) → b_X10_swap_20 post n σ20 x1 x2 v21))
set_option maxHeartbeats 4000000 in
set_option maxRecDepth 100000 in
theorem l_X10_swap_20 {p : Program} {l : Launch} {e : Env} {s : State} {m : MethodId} {args : Array Value} {below : List Frame} {meth : Method} {c : Code} {D : va_G} {ρ : Nat → Nat} {κ : Nat → ClassId} {base : Nat} {post : Int32 → eS → Prop} (C : eCx p s m args meth c cX10_swap RX10 5 (some .boolean) wsX10_swap) (K : gK D ρ κ base s) : ∀ (n : Nat) (σ : eS) (x1 : Int32) (x2 : Int32) (x3 : Int32) (H : Heap) (locs : List Loc) (ls : Array Slot), b_X10_swap_20 post n σ x1 x2 x3 → gG D ρ κ base s σ H locs → lv_has ls 5 [(0, .ref (ρ (0))), (1, .int (x1)), (2, .int (x2)), (3, .int (x3))] → W p l e rm_X10_swap s m args below meth c H locs 0 0 (gQi below args s D ρ κ base post) (F0 m 20 ls []) := by
  obtain ⟨hx, hb, hml, hown, hts, hr, hlocks⟩ := id C
  intro n
  induction n with
  | zero => intro σ x1 x2 x3 H locs ls h G hl; exact False.elim h
  | succ n ih =>
    intro σ x1 x2 x3 H locs ls h G hl
    rw [b_X10_swap_20] at h
    refine lv_iload_n hx hb dX10_swap_20 rfl (lv_at hl 3 rfl) ?_
    refine lv_bipush (v := (12 : Int32)) hx hb dX10_swap_21 (by decide) ?_
    refine lv_icmp_ge (tgt := 80) hx hb dX10_swap_23 (by decide) (fun c8 => ?_) (fun c8 => ?_)
    · have h := h.1 c8
      refine lv_aload_n hx hb dX10_swap_80 rfl (lv_at hl 0 rfl) ?_
      refine e_getq hx hb hts in_X10_swap_X10 hown K G 0 (by decide) gl_0 rfl 5 (by decide) 32 rfl (hts (.fieldLink RX10 44 "StreetsStepOn" "almanac" "LStreetsStepOn$Almanac;") (e_mem (n := 2) rfl)) dX10_swap_81 ?_
      refine lv_aload_n hx hb dX10_swap_84 rfl (lv_at hl 0 rfl) ?_
      refine e_getq hx hb hts in_X10_swap_X10 hown K G 0 (by decide) gl_0 rfl 2 (by decide) 5 rfl (hts (.fieldLink RX10 26 "StreetsStepOn" "book" "LStreetsStepOn$Book;") (e_mem (n := 1) rfl)) dX10_swap_85 ?_
      refine e_callVv (As := [.ref (ρ (5))]) (rest := []) ⟨hx, hb, hml, hown, hts⟩ K G 32 (by decide) gl_32 rfl (c_X0_reckon h) (cwV 1 hts gX10_swap_X0_reckon rfl rfl rfl (by decide +kernel) ⟨Nat.le_of_ble_eq_true rfl, Nat.le_of_ble_eq_true rfl⟩) rfl hl.1 rfl (Nat.le_of_ble_eq_true rfl) dX10_swap_88 ⟨Nat.zero_le _, Nat.zero_le _⟩ (fun σ9 H locs h G => ?_)
      refine lv_iconst (v := (1 : Int32)) hx hb dX10_swap_91 (by decide) ?_
      exact e_zret hx hb hr hlocks G h.1 h.2 dX10_swap_92
    · have h := h.2 c8
      refine lv_aload_n hx hb dX10_swap_26 rfl (lv_at hl 0 rfl) ?_
      refine e_getq hx hb hts in_X10_swap_X10 hown K G 0 (by decide) gl_0 rfl 2 (by decide) 5 rfl (hts (.fieldLink RX10 26 "StreetsStepOn" "book" "LStreetsStepOn$Book;") (e_mem (n := 1) rfl)) dX10_swap_27 ?_
      refine e_getqN hx hb hts in_X10_swap_X1 hown K G 5 (by decide) gl_5 rfl 0 (by decide) 6 rfl (e_memq (n := 7) rfl) dX10_swap_30 ?_
      refine lv_iload_n hx hb dX10_swap_33 rfl (lv_at hl 1 rfl) ?_
      have hi10 := h.1
      have h := h.2
      refine e_aald hx hb K G 6 5 5 7 (by decide) _ gl_6 rfl rfl hi10 (7 + x1.toNatClampNeg) (gr_6 _ (e_lt hi10)).1 dX10_swap_34 ?_
      refine lv_iload_n hx hb dX10_swap_35 rfl (lv_at hl 3 rfl) ?_
      have hi11 := h.1
      have h := h.2
      refine e_iald hx hb K G (7 + x1.toNatClampNeg) 0 0 12 (gr_6 _ (e_lt hi10)).2.2 (gr_6 _ (e_lt hi10)).2.1 rfl hi11 dX10_swap_36 ?_
      refine lv_topi (fun v12 ev12 => ?_)
      have h := h v12 ev12
      refine lv_istore (lv' := [(4, .int (v12)), (0, .ref (ρ (0))), (1, .int (x1)), (2, .int (x2)), (3, .int (x3))]) hx hb dX10_swap_37 hl (by decide) rfl (fun ls hl => ?_)
      refine lv_aload_n hx hb dX10_swap_39 rfl (lv_at hl 1 rfl) ?_
      refine e_getq hx hb hts in_X10_swap_X10 hown K G 0 (by decide) gl_0 rfl 2 (by decide) 5 rfl (hts (.fieldLink RX10 26 "StreetsStepOn" "book" "LStreetsStepOn$Book;") (e_mem (n := 1) rfl)) dX10_swap_40 ?_
      refine e_getqN hx hb hts in_X10_swap_X1 hown K G 5 (by decide) gl_5 rfl 0 (by decide) 6 rfl (e_memq (n := 7) rfl) dX10_swap_43 ?_
      refine lv_iload_n hx hb dX10_swap_46 rfl (lv_at hl 2 rfl) ?_
      have hi13 := h.1
      have h := h.2
      refine e_aald hx hb K G 6 5 5 7 (by decide) _ gl_6 rfl rfl hi13 (7 + x1.toNatClampNeg) (gr_6 _ (e_lt hi13)).1 dX10_swap_47 ?_
      refine lv_iload_n hx hb dX10_swap_48 rfl (lv_at hl 4 rfl) ?_
      refine lv_aload_n hx hb dX10_swap_49 rfl (lv_at hl 1 rfl) ?_
      refine e_getq hx hb hts in_X10_swap_X10 hown K G 0 (by decide) gl_0 rfl 2 (by decide) 5 rfl (hts (.fieldLink RX10 26 "StreetsStepOn" "book" "LStreetsStepOn$Book;") (e_mem (n := 1) rfl)) dX10_swap_50 ?_
      refine e_getqN hx hb hts in_X10_swap_X1 hown K G 5 (by decide) gl_5 rfl 0 (by decide) 6 rfl (e_memq (n := 7) rfl) dX10_swap_53 ?_
      refine lv_iload_n hx hb dX10_swap_56 rfl (lv_at hl 3 rfl) ?_
      have hi14 := h.1
      have h := h.2
      refine e_aald hx hb K G 6 5 5 7 (by decide) _ gl_6 rfl rfl hi14 (7 + x2.toNatClampNeg) (gr_6 _ (e_lt hi14)).1 dX10_swap_57 ?_
      refine lv_iload_n hx hb dX10_swap_58 rfl (lv_at hl 4 rfl) ?_
      have hi15 := h.1
      have h := h.2
      refine e_iald hx hb K G (7 + x2.toNatClampNeg) 0 0 12 (gr_6 _ (e_lt hi14)).2.2 (gr_6 _ (e_lt hi14)).2.1 rfl hi15 dX10_swap_59 ?_
      have hi16 := h.1
      have h := h.2
      refine e_iast hx hb K G (7 + x1.toNatClampNeg) 0 0 12 (gr_6 _ (e_lt hi13)).2.2 (gr_6 _ (e_lt hi13)).2.1 rfl hi16 dX10_swap_60 (fun H locs G => ?_)
      obtain ⟨σ17, eσ17⟩ : ∃ z : eS, z = e_ui σ (7 + x1.toNatClampNeg) x3.toNatClampNeg (σ.1 (7 + x2.toNatClampNeg) x3.toNatClampNeg) := ⟨_, rfl⟩
      rw [← eσ17] at G
      have h := h σ17 eσ17
      refine lv_aload_n hx hb dX10_swap_61 rfl (lv_at hl 1 rfl) ?_
      refine e_getq hx hb hts in_X10_swap_X10 hown K G 0 (by decide) gl_0 rfl 2 (by decide) 5 rfl (hts (.fieldLink RX10 26 "StreetsStepOn" "book" "LStreetsStepOn$Book;") (e_mem (n := 1) rfl)) dX10_swap_62 ?_
      refine e_getqN hx hb hts in_X10_swap_X1 hown K G 5 (by decide) gl_5 rfl 0 (by decide) 6 rfl (e_memq (n := 7) rfl) dX10_swap_65 ?_
      refine lv_iload_n hx hb dX10_swap_68 rfl (lv_at hl 3 rfl) ?_
      have hi18 := h.1
      have h := h.2
      refine e_aald hx hb K G 6 5 5 7 (by decide) _ gl_6 rfl rfl hi18 (7 + x2.toNatClampNeg) (gr_6 _ (e_lt hi18)).1 dX10_swap_69 ?_
      refine lv_iload_n hx hb dX10_swap_70 rfl (lv_at hl 4 rfl) ?_
      refine lv_iload hx hb dX10_swap_71 (lv_at hl 0 rfl) ?_
      have hi19 := h.1
      have h := h.2
      refine e_iast hx hb K G (7 + x2.toNatClampNeg) 0 0 12 (gr_6 _ (e_lt hi18)).2.2 (gr_6 _ (e_lt hi18)).2.1 rfl hi19 dX10_swap_73 (fun H locs G => ?_)
      obtain ⟨σ20, eσ20⟩ : ∃ z : eS, z = e_ui σ17 (7 + x2.toNatClampNeg) x3.toNatClampNeg v12 := ⟨_, rfl⟩
      rw [← eσ20] at G
      have h := h σ20 eσ20
      obtain ⟨v21, ev21⟩ : ∃ y : Int32, y = x3 + (1 : Int32) := ⟨_, rfl⟩
      have h := h v21 ev21
      refine lv_iinc (v := v21) (lv' := [(3, .int (v21)), (4, .int (v12)), (0, .ref (ρ (0))), (1, .int (x1)), (2, .int (x2))]) hx hb dX10_swap_74 hl (k := 4) rfl (by rw [ev21]; rfl) (by decide) rfl (fun ls hl => ?_)
      refine lv_goto (tgt := 20) hx hb dX10_swap_77 (by decide) ?_
      exact ih σ20 x1 x2 v21 _ _ _  h G (lv_sub hl [2, 3, 4, 0] rfl)
def w_X10_swap (σ : eS) (x1 : Int32) (x2 : Int32) (post : Int32 → eS → Prop) : Prop := w_X10_isOrder σ x1 (fun r2 σ1 => ((r2 = 0 → ((narrow .boolean (.int (0 : Int32)) = .int (0 : Int32)) ∧ post (0 : Int32) σ1)) ∧ (¬ (r2 = 0) → w_X10_isOrder σ1 x2 (fun r5 σ4 => ((¬ r5 = 0 → ∀ v7 : Int32, v7 = (0 : Int32) → (∃ n22 : Nat, b_X10_swap_20 post n22 σ4 x1 x2 v7)) ∧ (r5 = 0 → ((narrow .boolean (.int (0 : Int32)) = .int (0 : Int32)) ∧ post (0 : Int32) σ4)))))))
set_option maxHeartbeats 4000000 in
set_option maxRecDepth 100000 in
theorem c_X10_swap {l : Launch} {D : va_G} {ρ : Nat → Nat} {κ : Nat → ClassId} {base : Nat} {σ : eS} {x1 : Int32} {x2 : Int32} {post : Int32 → eS → Prop} (h : w_X10_swap σ x1 x2 post) : gMi l yX10_swap wsX10_swap rm_X10_swap D ρ κ base [.ref (ρ (0)), .int (x1), .int (x2)] σ post := by
  refine e_ofWi (cc := cX10_swap) (maxL := 5) (ret := (some .boolean)) (by decide) rfl (Nat.le_of_ble_eq_true rfl) ?_
  intro p e s m below meth c ls C K G hl
  obtain ⟨hx, hb, hml, hown, hts, hr, hlocks⟩ := id C
  have hl : lv_has ls 5 [(0, .ref (ρ (0))), (1, .int (x1)), (2, .int (x2))] := hl
  unfold w_X10_swap at h
  refine lv_aload_n hx hb dX10_swap_0 rfl (lv_at hl 0 rfl) ?_
  refine lv_iload_n hx hb dX10_swap_1 rfl (lv_at hl 1 rfl) ?_
  refine e_callVi (As := [.int (x1)]) (rest := []) ⟨hx, hb, hml, hown, hts⟩ K G 0 (by decide) gl_0 rfl (c_X10_isOrder h) (cwV 1 hts gX10_swap_X10_isOrder rfl rfl rfl (by decide +kernel) ⟨Nat.le_of_ble_eq_true rfl, Nat.le_of_ble_eq_true rfl⟩) rfl hl.1 rfl (Nat.le_of_ble_eq_true rfl) dX10_swap_2 ⟨Nat.zero_le _, Nat.zero_le _⟩ (fun r2 σ1 H locs h G => ?_)
  refine lv_if_eq (tgt := 16) hx hb dX10_swap_5 (by decide) (fun c3 => ?_) (fun c3 => ?_)
  · have h := h.1 c3
    refine lv_iconst (v := (0 : Int32)) hx hb dX10_swap_16 (by decide) ?_
    exact e_zret hx hb hr hlocks G h.1 h.2 dX10_swap_17
  · have h := h.2 c3
    refine lv_aload_n hx hb dX10_swap_8 rfl (lv_at hl 0 rfl) ?_
    refine lv_iload_n hx hb dX10_swap_9 rfl (lv_at hl 2 rfl) ?_
    refine e_callVi (As := [.int (x2)]) (rest := []) ⟨hx, hb, hml, hown, hts⟩ K G 0 (by decide) gl_0 rfl (c_X10_isOrder h) (cwV 1 hts gX10_swap_X10_isOrder rfl rfl rfl (by decide +kernel) ⟨Nat.le_of_ble_eq_true rfl, Nat.le_of_ble_eq_true rfl⟩) rfl hl.1 rfl (Nat.le_of_ble_eq_true rfl) dX10_swap_10 ⟨Nat.zero_le _, Nat.zero_le _⟩ (fun r5 σ4 H locs h G => ?_)
    refine lv_if_ne (tgt := 18) hx hb dX10_swap_13 (by decide) (fun c6 => ?_) (fun c6 => ?_)
    · have h := h.1 c6
      refine lv_iconst (v := (0 : Int32)) hx hb dX10_swap_18 (by decide) ?_
      refine lv_topi (fun v7 ev7 => ?_)
      have h := h v7 ev7
      refine lv_istore_n (lv' := [(3, .int (v7)), (0, .ref (ρ (0))), (1, .int (x1)), (2, .int (x2))]) hx hb dX10_swap_19 rfl hl (by decide) rfl (fun ls hl => ?_)
      obtain ⟨n22, h⟩ := h
      exact l_X10_swap_20 C K n22 σ4 x1 x2 v7 _ _ _  h G (lv_sub hl [1, 2, 3, 0] rfl)
    · have h := h.2 c6
      refine lv_iconst (v := (0 : Int32)) hx hb dX10_swap_16 (by decide) ?_
      exact e_zret hx hb hr hlocks G h.1 h.2 dX10_swap_17
