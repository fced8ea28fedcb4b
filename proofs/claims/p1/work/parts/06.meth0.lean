abbrev rm_X7_add : Room := { frames := 0, cells := 0, slots := 0, locals := 0 }
theorem in_X7_add_X7 : ∀ w ∈ wsX70, w ∈ wsX7_add := fun w h => List.mem_cons_of_mem _ (List.mem_append_right _ h)
def b_X7_add_14 (post : Int32 → eS → Prop) : Nat → eS → Int32 → Int32 → Prop
  | 0, _, _, _ => False
  | n + 1, σ, x1, x2 => ((x2 < 0 → post (σ.1 1 1) σ) ∧ (¬ (x2 < 0) → (vp_in (σ.1 1 1) 80) ∧ ∀ σ5 : eS, σ5 = e_ui σ 2 (σ.1 1 1).toNatClampNeg (vp_nar .char (((((x1.toUInt32 >>> (x2.toUInt32 &&& Int32.toUInt32 31)).toInt32) &&& (255 : Int32)).toUInt32 % 65536).toInt32)) → ∀ σ6 : eS, σ6 = e_ui σ5 1 1 ((σ5.1 1 1) + (1 : Int32)) → ∀ v7 : Int32, v7 = (x2 + (-8 : Int32)) → b_X7_add_14 post n σ6 x1 v7))
set_option maxHeartbeats 4000000 in
set_option maxRecDepth 100000 in
theorem l_X7_add_14 {p : Program} {l : Launch} {e : Env} {s : State} {m : MethodId} {args : Array Value} {below : List Frame} {meth : Method} {c : Code} {D : va_G} {ρ : Nat → Nat} {κ : Nat → ClassId} {base : Nat} {post : Int32 → eS → Prop} (C : eCx p s m args meth c cX7_add RX7 3 (some .int) wsX7_add) (K : gK D ρ κ base s) : ∀ (n : Nat) (σ : eS) (x1 : Int32) (x2 : Int32) (H : Heap) (locs : List Loc) (ls : Array Slot), b_X7_add_14 post n σ x1 x2 → gG D ρ κ base s σ H locs → lv_has ls 3 [(0, .ref (ρ (1))), (1, .int (x1)), (2, .int (x2))] → W p l e rm_X7_add s m args below meth c H locs 0 0 (gQi below args s D ρ κ base post) (F0 m 14 ls []) := by
  obtain ⟨hx, hb, hml, hown, hts, hr, hlocks⟩ := id C
  intro n
  induction n with
  | zero => intro σ x1 x2 H locs ls h G hl; exact False.elim h
  | succ n ih =>
    intro σ x1 x2 H locs ls h G hl
    rw [b_X7_add_14] at h
    refine lv_iload_n hx hb dX7_add_14 rfl (lv_at hl 2 rfl) ?_
    refine lv_if_lt (tgt := 51) hx hb dX7_add_15 (by decide) (fun c3 => ?_) (fun c3 => ?_)
    · have h := h.1 c3
      refine lv_aload_n hx hb dX7_add_51 rfl (lv_at hl 0 rfl) ?_
      refine e_geti hx hb hts in_X7_add_X7 hown K G 1 (by decide) gl_1 rfl 1 (by decide) rfl (hts (.fieldLink RX7 15 "StreetsStepOn$Text" "size" "I") (e_mem (n := 1) rfl)) dX7_add_52 ?_
      exact e_iret hx hb hr hlocks G h dX7_add_55
    · have h := h.2 c3
      refine lv_aload_n hx hb dX7_add_18 rfl (lv_at hl 0 rfl) ?_
      refine e_getq hx hb hts in_X7_add_X7 hown K G 1 (by decide) gl_1 rfl 0 (by decide) 2 rfl (hts (.fieldLink RX7 11 "StreetsStepOn$Text" "signs" "[C") (e_mem (n := 2) rfl)) dX7_add_19 ?_
      refine lv_aload_n hx hb dX7_add_22 rfl (lv_at hl 0 rfl) ?_
      refine e_geti hx hb hts in_X7_add_X7 hown K G 1 (by decide) gl_1 rfl 1 (by decide) rfl (hts (.fieldLink RX7 15 "StreetsStepOn$Text" "size" "I") (e_mem (n := 1) rfl)) dX7_add_23 ?_
      refine lv_iload_n hx hb dX7_add_26 rfl (lv_at hl 1 rfl) ?_
      refine lv_iload_n hx hb dX7_add_27 rfl (lv_at hl 2 rfl) ?_
      refine lv_iushr hx hb dX7_add_28 rfl ?_
      refine lv_sipush (v := (255 : Int32)) hx hb dX7_add_29 (by decide) ?_
      refine lv_iand hx hb dX7_add_32 ?_
      refine lv_i2c hx hb dX7_add_33 rfl ?_
      have hi4 := h.1
      have h := h.2
      refine e_cast hx hb K G 2 2 2 80 (by decide) gl_2 rfl hi4 dX7_add_34 (fun H locs G => ?_)
      obtain ⟨σ5, eσ5⟩ : ∃ z : eS, z = e_ui σ 2 (σ.1 1 1).toNatClampNeg (vp_nar .char (((((x1.toUInt32 >>> (x2.toUInt32 &&& Int32.toUInt32 31)).toInt32) &&& (255 : Int32)).toUInt32 % 65536).toInt32)) := ⟨_, rfl⟩
      rw [← eσ5] at G
      have h := h σ5 eσ5
      refine lv_aload_n hx hb dX7_add_35 rfl (lv_at hl 0 rfl) ?_
      refine lv_dup hx hb dX7_add_36 rfl ?_
      refine e_geti hx hb hts in_X7_add_X7 hown K G 1 (by decide) gl_1 rfl 1 (by decide) rfl (hts (.fieldLink RX7 15 "StreetsStepOn$Text" "size" "I") (e_mem (n := 1) rfl)) dX7_add_37 ?_
      refine lv_iconst (v := (1 : Int32)) hx hb dX7_add_40 (by decide) ?_
      refine lv_iadd hx hb dX7_add_41 ?_
      refine e_puti hx hb hts in_X7_add_X7 tyX7 tyX7_ok nmX7 hown K G 1 (by decide) gl_1 rfl 1 (by decide) rfl (hts (.fieldLink RX7 15 "StreetsStepOn$Text" "size" "I") (e_mem (n := 1) rfl)) rfl (tyX7_ok 1 (by decide)) rfl rfl dX7_add_42 (fun H locs G => ?_)
      obtain ⟨σ6, eσ6⟩ : ∃ z : eS, z = e_ui σ5 1 1 ((σ5.1 1 1) + (1 : Int32)) := ⟨_, rfl⟩
      rw [← eσ6] at G
      have h := h σ6 eσ6
      obtain ⟨v7, ev7⟩ : ∃ y : Int32, y = x2 + (-8 : Int32) := ⟨_, rfl⟩
      have h := h v7 ev7
      refine lv_iinc (v := v7) (lv' := [(2, .int (v7)), (0, .ref (ρ (1))), (1, .int (x1))]) hx hb dX7_add_45 hl (k := 2) rfl (by rw [ev7]; rfl) (by decide) rfl (fun ls hl => ?_)
      refine lv_goto (tgt := 14) hx hb dX7_add_48 (by decide) ?_
      exact ih σ6 x1 v7 _ _ _  h G (lv_sub hl [1, 2, 0] rfl)
def w_X7_add (σ : eS) (x1 : Int32) (post : Int32 → eS → Prop) : Prop := (((σ.1 1 1) ≤ (76 : Int32) → ∀ v2 : Int32, v2 = (24 : Int32) → (∃ n8 : Nat, b_X7_add_14 post n8 σ x1 v2)) ∧ (¬ ((σ.1 1 1) ≤ (76 : Int32)) → post (-1 : Int32) σ))
set_option maxHeartbeats 4000000 in
set_option maxRecDepth 100000 in
theorem c_X7_add {l : Launch} {D : va_G} {ρ : Nat → Nat} {κ : Nat → ClassId} {base : Nat} {σ : eS} {x1 : Int32} {post : Int32 → eS → Prop} (h : w_X7_add σ x1 post) : gMi l yX7_add wsX7_add rm_X7_add D ρ κ base [.ref (ρ (1)), .int (x1)] σ post := by
  refine e_ofWi (cc := cX7_add) (maxL := 3) (ret := (some .int)) (by decide) rfl (Nat.le_of_ble_eq_true rfl) ?_
  intro p e s m below meth c ls C K G hl
  obtain ⟨hx, hb, hml, hown, hts, hr, hlocks⟩ := id C
  have hl : lv_has ls 3 [(0, .ref (ρ (1))), (1, .int (x1))] := hl
  unfold w_X7_add at h
  refine lv_aload_n hx hb dX7_add_0 rfl (lv_at hl 0 rfl) ?_
  refine e_geti hx hb hts in_X7_add_X7 hown K G 1 (by decide) gl_1 rfl 1 (by decide) rfl (hts (.fieldLink RX7 15 "StreetsStepOn$Text" "size" "I") (e_mem (n := 1) rfl)) dX7_add_1 ?_
  refine lv_bipush (v := (76 : Int32)) hx hb dX7_add_4 (by decide) ?_
  refine lv_icmp_le (tgt := 11) hx hb dX7_add_6 (by decide) (fun c1 => ?_) (fun c1 => ?_)
  · have h := h.1 c1
    refine lv_bipush (v := (24 : Int32)) hx hb dX7_add_11 (by decide) ?_
    refine lv_topi (fun v2 ev2 => ?_)
    have h := h v2 ev2
    refine lv_istore_n (lv' := [(2, .int (v2)), (0, .ref (ρ (1))), (1, .int (x1))]) hx hb dX7_add_13 rfl hl (by decide) rfl (fun ls hl => ?_)
    obtain ⟨n8, h⟩ := h
    exact l_X7_add_14 C K n8 σ x1 v2 _ _ _  h G (lv_sub hl [1, 2, 0] rfl)
  · have h := h.2 c1
    refine lv_iconst (v := (-1 : Int32)) hx hb dX7_add_9 (by decide) ?_
    exact e_iret hx hb hr hlocks G h dX7_add_10
abbrev rm_X10_sign : Room := { frames := 1, cells := 0, slots := 0, locals := 22 }
theorem in_X10_sign_X10 : ∀ w ∈ wsX100, w ∈ wsX10_sign := fun w h => List.mem_cons_of_mem _ (List.mem_append_left _ (List.mem_append_right _ h))
def w_X10_sign (σ : eS) (x1 : Int32) (post : Int32 → eS → Prop) : Prop := w_X7_add σ x1 (fun r2 σ1 => post r2 σ1)
set_option maxHeartbeats 4000000 in
set_option maxRecDepth 100000 in
theorem c_X10_sign {l : Launch} {D : va_G} {ρ : Nat → Nat} {κ : Nat → ClassId} {base : Nat} {σ : eS} {x1 : Int32} {post : Int32 → eS → Prop} (h : w_X10_sign σ x1 post) : gMi l yX10_sign wsX10_sign rm_X10_sign D ρ κ base [.ref (ρ (0)), .int (x1)] σ post := by
  refine e_ofWi (cc := cX10_sign) (maxL := 2) (ret := (some .int)) (by decide) rfl (Nat.le_of_ble_eq_true rfl) ?_
  intro p e s m below meth c ls C K G hl
  obtain ⟨hx, hb, hml, hown, hts, hr, hlocks⟩ := id C
  have hl : lv_has ls 2 [(0, .ref (ρ (0))), (1, .int (x1))] := hl
  unfold w_X10_sign at h
  refine lv_aload_n hx hb dX10_sign_0 rfl (lv_at hl 0 rfl) ?_
  refine e_getq hx hb hts in_X10_sign_X10 hown K G 0 (by decide) gl_0 rfl 0 (by decide) 1 rfl (hts (.fieldLink RX10 10 "StreetsStepOn" "text" "LStreetsStepOn$Text;") (e_mem (n := 1) rfl)) dX10_sign_1 ?_
  refine lv_iload_n hx hb dX10_sign_4 rfl (lv_at hl 1 rfl) ?_
  refine e_callVi (As := [.int (x1)]) (rest := []) ⟨hx, hb, hml, hown, hts⟩ K G 1 (by decide) gl_1 rfl (c_X7_add h) (cwV 1 hts gX10_sign_X7_add rfl rfl rfl (by decide +kernel) ⟨Nat.le_of_ble_eq_true rfl, Nat.le_of_ble_eq_true rfl⟩) rfl hl.1 rfl (Nat.le_of_ble_eq_true rfl) dX10_sign_5 ⟨Nat.zero_le _, Nat.zero_le _⟩ (fun r2 σ1 H locs h G => ?_)
  exact e_iret hx hb hr hlocks G h dX10_sign_8
abbrev rm_X11_sign : Room := { frames := 0, cells := 0, slots := 0, locals := 0 }
theorem in_X11_sign_X11 : ∀ w ∈ wsX110, w ∈ wsX11_sign := fun w h => List.mem_cons_of_mem _ (List.mem_append_right _ h)
def b_X11_sign_20 (post : Int32 → eS → Prop) : Nat → eS → Int32 → Int32 → Prop
  | 0, _, _, _ => False
  | n + 1, σ, x1, x2 => ((x2 < 0 → post (σ.1 97 15) σ) ∧ (¬ (x2 < 0) → ∀ σ5 : eS, σ5 = e_ui σ 97 15 ((σ.1 97 15) + (1 : Int32)) → (vp_in (σ.1 97 15) 80) ∧ ∀ σ7 : eS, σ7 = e_ui σ5 107 (σ.1 97 15).toNatClampNeg (vp_nar .byte ((x1 >>> (((8 : Int32) * x2) &&& 31)).toInt8.toInt32)) → ∀ v8 : Int32, v8 = (x2 + (-1 : Int32)) → b_X11_sign_20 post n σ7 x1 v8))
set_option maxHeartbeats 4000000 in
set_option maxRecDepth 100000 in
theorem l_X11_sign_20 {p : Program} {l : Launch} {e : Env} {s : State} {m : MethodId} {args : Array Value} {below : List Frame} {meth : Method} {c : Code} {D : va_G} {ρ : Nat → Nat} {κ : Nat → ClassId} {base : Nat} {post : Int32 → eS → Prop} (C : eCx p s m args meth c cX11_sign RX11 3 (some .int) wsX11_sign) (K : gK D ρ κ base s) : ∀ (n : Nat) (σ : eS) (x1 : Int32) (x2 : Int32) (H : Heap) (locs : List Loc) (ls : Array Slot), b_X11_sign_20 post n σ x1 x2 → gG D ρ κ base s σ H locs → lv_has ls 3 [(0, .ref (ρ (97))), (1, .int (x1)), (2, .int (x2))] → W p l e rm_X11_sign s m args below meth c H locs 0 0 (gQi below args s D ρ κ base post) (F0 m 20 ls []) := by
  obtain ⟨hx, hb, hml, hown, hts, hr, hlocks⟩ := id C
  intro n
  induction n with
  | zero => intro σ x1 x2 H locs ls h G hl; exact False.elim h
  | succ n ih =>
    intro σ x1 x2 H locs ls h G hl
    rw [b_X11_sign_20] at h
    refine lv_iload_n hx hb dX11_sign_20 rfl (lv_at hl 2 rfl) ?_
    refine lv_if_lt (tgt := 53) hx hb dX11_sign_21 (by decide) (fun c4 => ?_) (fun c4 => ?_)
    · have h := h.1 c4
      refine lv_aload_n hx hb dX11_sign_53 rfl (lv_at hl 0 rfl) ?_
      refine e_geti hx hb hts in_X11_sign_X11 hown K G 97 (by decide) gl_97 rfl 15 (by decide) rfl (hts (.fieldLink RX11 121 "StreetsStepOnModel" "typed" "I") (e_mem (n := 2) rfl)) dX11_sign_54 ?_
      exact e_iret hx hb hr hlocks G h dX11_sign_57
    · have h := h.2 c4
      refine lv_aload_n hx hb dX11_sign_24 rfl (lv_at hl 0 rfl) ?_
      refine e_getq hx hb hts in_X11_sign_X11 hown K G 97 (by decide) gl_97 rfl 14 (by decide) 107 rfl (hts (.fieldLink RX11 38 "StreetsStepOnModel" "text" "[B") (e_mem (n := 3) rfl)) dX11_sign_25 ?_
      refine lv_aload_n hx hb dX11_sign_28 rfl (lv_at hl 0 rfl) ?_
      refine lv_dup hx hb dX11_sign_29 rfl ?_
      refine e_geti hx hb hts in_X11_sign_X11 hown K G 97 (by decide) gl_97 rfl 15 (by decide) rfl (hts (.fieldLink RX11 121 "StreetsStepOnModel" "typed" "I") (e_mem (n := 2) rfl)) dX11_sign_30 ?_
      refine lv_dup_x1 hx hb dX11_sign_33 rfl rfl ?_
      refine lv_iconst (v := (1 : Int32)) hx hb dX11_sign_34 (by decide) ?_
      refine lv_iadd hx hb dX11_sign_35 ?_
      refine e_puti hx hb hts in_X11_sign_X11 tyX11 tyX11_ok nmX11 hown K G 97 (by decide) gl_97 rfl 15 (by decide) rfl (hts (.fieldLink RX11 121 "StreetsStepOnModel" "typed" "I") (e_mem (n := 2) rfl)) rfl (tyX11_ok 15 (by decide)) rfl rfl dX11_sign_36 (fun H locs G => ?_)
      obtain ⟨σ5, eσ5⟩ : ∃ z : eS, z = e_ui σ 97 15 ((σ.1 97 15) + (1 : Int32)) := ⟨_, rfl⟩
      rw [← eσ5] at G
      have h := h σ5 eσ5
      refine lv_iload_n hx hb dX11_sign_39 rfl (lv_at hl 1 rfl) ?_
      refine lv_bipush (v := (8 : Int32)) hx hb dX11_sign_40 (by decide) ?_
      refine lv_iload_n hx hb dX11_sign_42 rfl (lv_at hl 2 rfl) ?_
      refine lv_imul hx hb dX11_sign_43 ?_
      refine lv_ishr hx hb dX11_sign_44 ?_
      refine lv_i2b hx hb dX11_sign_45 rfl ?_
      have hi6 := h.1
      have h := h.2
      refine e_bast hx hb K G 107 3 3 80 (by decide) gl_107 rfl hi6 dX11_sign_46 (fun H locs G => ?_)
      obtain ⟨σ7, eσ7⟩ : ∃ z : eS, z = e_ui σ5 107 (σ.1 97 15).toNatClampNeg (vp_nar .byte ((x1 >>> (((8 : Int32) * x2) &&& 31)).toInt8.toInt32)) := ⟨_, rfl⟩
      rw [← eσ7] at G
      have h := h σ7 eσ7
      obtain ⟨v8, ev8⟩ : ∃ y : Int32, y = x2 + (-1 : Int32) := ⟨_, rfl⟩
      have h := h v8 ev8
      refine lv_iinc (v := v8) (lv' := [(2, .int (v8)), (0, .ref (ρ (97))), (1, .int (x1))]) hx hb dX11_sign_47 hl (k := 2) rfl (by rw [ev8]; rfl) (by decide) rfl (fun ls hl => ?_)
      refine lv_goto (tgt := 20) hx hb dX11_sign_50 (by decide) ?_
      exact ih σ7 x1 v8 _ _ _  h G (lv_sub hl [1, 2, 0] rfl)
def w_X11_sign (σ : eS) (x1 : Int32) (post : Int32 → eS → Prop) : Prop := ∀ σ1 : eS, σ1 = e_ui σ 97 18 (0 : Int32) → ((((σ1.1 97 15) + (4 : Int32)) ≤ (80 : Int32) → ∀ v3 : Int32, v3 = (3 : Int32) → (∃ n9 : Nat, b_X11_sign_20 post n9 σ1 x1 v3)) ∧ (¬ (((σ1.1 97 15) + (4 : Int32)) ≤ (80 : Int32)) → post (-1 : Int32) σ1))
set_option maxHeartbeats 4000000 in
set_option maxRecDepth 100000 in
theorem c_X11_sign {l : Launch} {D : va_G} {ρ : Nat → Nat} {κ : Nat → ClassId} {base : Nat} {σ : eS} {x1 : Int32} {post : Int32 → eS → Prop} (h : w_X11_sign σ x1 post) : gMi l yX11_sign wsX11_sign rm_X11_sign D ρ κ base [.ref (ρ (97)), .int (x1)] σ post := by
  refine e_ofWi (cc := cX11_sign) (maxL := 3) (ret := (some .int)) (by decide) rfl (Nat.le_of_ble_eq_true rfl) ?_
  intro p e s m below meth c ls C K G hl
  obtain ⟨hx, hb, hml, hown, hts, hr, hlocks⟩ := id C
  have hl : lv_has ls 3 [(0, .ref (ρ (97))), (1, .int (x1))] := hl
  unfold w_X11_sign at h
  refine lv_aload_n hx hb dX11_sign_0 rfl (lv_at hl 0 rfl) ?_
  refine lv_iconst (v := (0 : Int32)) hx hb dX11_sign_1 (by decide) ?_
  refine e_puti hx hb hts in_X11_sign_X11 tyX11 tyX11_ok nmX11 hown K G 97 (by decide) gl_97 rfl 18 (by decide) rfl (hts (.fieldLink RX11 98 "StreetsStepOnModel" "thrown" "I") (e_mem (n := 1) rfl)) rfl (tyX11_ok 18 (by decide)) rfl rfl dX11_sign_2 (fun H locs G => ?_)
  obtain ⟨σ1, eσ1⟩ : ∃ z : eS, z = e_ui σ 97 18 (0 : Int32) := ⟨_, rfl⟩
  rw [← eσ1] at G
  have h := h σ1 eσ1
  refine lv_aload_n hx hb dX11_sign_5 rfl (lv_at hl 0 rfl) ?_
  refine e_geti hx hb hts in_X11_sign_X11 hown K G 97 (by decide) gl_97 rfl 15 (by decide) rfl (hts (.fieldLink RX11 121 "StreetsStepOnModel" "typed" "I") (e_mem (n := 2) rfl)) dX11_sign_6 ?_
  refine lv_iconst (v := (4 : Int32)) hx hb dX11_sign_9 (by decide) ?_
  refine lv_iadd hx hb dX11_sign_10 ?_
  refine lv_bipush (v := (80 : Int32)) hx hb dX11_sign_11 (by decide) ?_
  refine lv_icmp_le (tgt := 18) hx hb dX11_sign_13 (by decide) (fun c2 => ?_) (fun c2 => ?_)
  · have h := h.1 c2
    refine lv_iconst (v := (3 : Int32)) hx hb dX11_sign_18 (by decide) ?_
    refine lv_topi (fun v3 ev3 => ?_)
    have h := h v3 ev3
    refine lv_istore_n (lv' := [(2, .int (v3)), (0, .ref (ρ (97))), (1, .int (x1))]) hx hb dX11_sign_19 rfl hl (by decide) rfl (fun ls hl => ?_)
    obtain ⟨n9, h⟩ := h
    exact l_X11_sign_20 C K n9 σ1 x1 v3 _ _ _  h G (lv_sub hl [1, 2, 0] rfl)
  · have h := h.2 c2
    refine lv_iconst (v := (-1 : Int32)) hx hb dX11_sign_16 (by decide) ?_
    exact e_iret hx hb hr hlocks G h dX11_sign_17
abbrev rm_X7_cut : Room := { frames := 0, cells := 0, slots := 0, locals := 0 }
theorem in_X7_cut_X7 : ∀ w ∈ wsX70, w ∈ wsX7_cut := fun w h => List.mem_cons_of_mem _ (List.mem_append_right _ h)
def w_X7_cut (σ : eS) (x1 : Int32) (post : Int32 → eS → Prop) : Prop := ((x1 < 0 → ((narrow .boolean (.int (0 : Int32)) = .int (0 : Int32)) ∧ post (0 : Int32) σ)) ∧ (¬ (x1 < 0) → ((x1 ≤ (σ.1 1 1) → ∀ σ3 : eS, σ3 = e_ui σ 1 1 x1 → ((narrow .boolean (.int (1 : Int32)) = .int (1 : Int32)) ∧ post (1 : Int32) σ3)) ∧ (¬ (x1 ≤ (σ.1 1 1)) → ((narrow .boolean (.int (0 : Int32)) = .int (0 : Int32)) ∧ post (0 : Int32) σ)))))
set_option maxHeartbeats 4000000 in
set_option maxRecDepth 100000 in
theorem c_X7_cut {l : Launch} {D : va_G} {ρ : Nat → Nat} {κ : Nat → ClassId} {base : Nat} {σ : eS} {x1 : Int32} {post : Int32 → eS → Prop} (h : w_X7_cut σ x1 post) : gMi l yX7_cut wsX7_cut rm_X7_cut D ρ κ base [.ref (ρ (1)), .int (x1)] σ post := by
  refine e_ofWi (cc := cX7_cut) (maxL := 2) (ret := (some .boolean)) (by decide) rfl (Nat.le_of_ble_eq_true rfl) ?_
  intro p e s m below meth c ls C K G hl
  obtain ⟨hx, hb, hml, hown, hts, hr, hlocks⟩ := id C
  have hl : lv_has ls 2 [(0, .ref (ρ (1))), (1, .int (x1))] := hl
  unfold w_X7_cut at h
  refine lv_iload_n hx hb dX7_cut_0 rfl (lv_at hl 1 rfl) ?_
  refine lv_if_lt (tgt := 12) hx hb dX7_cut_1 (by decide) (fun c1 => ?_) (fun c1 => ?_)
  · have h := h.1 c1
    refine lv_iconst (v := (0 : Int32)) hx hb dX7_cut_12 (by decide) ?_
    exact e_zret hx hb hr hlocks G h.1 h.2 dX7_cut_13
  · have h := h.2 c1
    refine lv_iload_n hx hb dX7_cut_4 rfl (lv_at hl 1 rfl) ?_
    refine lv_aload_n hx hb dX7_cut_5 rfl (lv_at hl 0 rfl) ?_
    refine e_geti hx hb hts in_X7_cut_X7 hown K G 1 (by decide) gl_1 rfl 1 (by decide) rfl (hts (.fieldLink RX7 15 "StreetsStepOn$Text" "size" "I") (e_mem (n := 1) rfl)) dX7_cut_6 ?_
    refine lv_icmp_le (tgt := 14) hx hb dX7_cut_9 (by decide) (fun c2 => ?_) (fun c2 => ?_)
    · have h := h.1 c2
      refine lv_aload_n hx hb dX7_cut_14 rfl (lv_at hl 0 rfl) ?_
      refine lv_iload_n hx hb dX7_cut_15 rfl (lv_at hl 1 rfl) ?_
      refine e_puti hx hb hts in_X7_cut_X7 tyX7 tyX7_ok nmX7 hown K G 1 (by decide) gl_1 rfl 1 (by decide) rfl (hts (.fieldLink RX7 15 "StreetsStepOn$Text" "size" "I") (e_mem (n := 1) rfl)) rfl (tyX7_ok 1 (by decide)) rfl rfl dX7_cut_16 (fun H locs G => ?_)
      obtain ⟨σ3, eσ3⟩ : ∃ z : eS, z = e_ui σ 1 1 x1 := ⟨_, rfl⟩
      rw [← eσ3] at G
      have h := h σ3 eσ3
      refine lv_iconst (v := (1 : Int32)) hx hb dX7_cut_19 (by decide) ?_
      exact e_zret hx hb hr hlocks G h.1 h.2 dX7_cut_20
    · have h := h.2 c2
      refine lv_iconst (v := (0 : Int32)) hx hb dX7_cut_12 (by decide) ?_
      exact e_zret hx hb hr hlocks G h.1 h.2 dX7_cut_13
abbrev rm_X10_end : Room := { frames := 1, cells := 0, slots := 0, locals := 21 }
theorem in_X10_end_X10 : ∀ w ∈ wsX100, w ∈ wsX10_end := fun w h => List.mem_cons_of_mem _ (List.mem_append_left _ (List.mem_append_right _ h))
def w_X10_end (σ : eS) (x1 : Int32) (post : Int32 → eS → Prop) : Prop := w_X7_cut σ x1 (fun r2 σ1 => ((narrow .boolean (.int r2) = .int r2) ∧ post r2 σ1))
set_option maxHeartbeats 4000000 in
set_option maxRecDepth 100000 in
theorem c_X10_end {l : Launch} {D : va_G} {ρ : Nat → Nat} {κ : Nat → ClassId} {base : Nat} {σ : eS} {x1 : Int32} {post : Int32 → eS → Prop} (h : w_X10_end σ x1 post) : gMi l yX10_end wsX10_end rm_X10_end D ρ κ base [.ref (ρ (0)), .int (x1)] σ post := by
  refine e_ofWi (cc := cX10_end) (maxL := 2) (ret := (some .boolean)) (by decide) rfl (Nat.le_of_ble_eq_true rfl) ?_
  intro p e s m below meth c ls C K G hl
  obtain ⟨hx, hb, hml, hown, hts, hr, hlocks⟩ := id C
  have hl : lv_has ls 2 [(0, .ref (ρ (0))), (1, .int (x1))] := hl
  unfold w_X10_end at h
  refine lv_aload_n hx hb dX10_end_0 rfl (lv_at hl 0 rfl) ?_
  refine e_getq hx hb hts in_X10_end_X10 hown K G 0 (by decide) gl_0 rfl 0 (by decide) 1 rfl (hts (.fieldLink RX10 10 "StreetsStepOn" "text" "LStreetsStepOn$Text;") (e_mem (n := 1) rfl)) dX10_end_1 ?_
  refine lv_iload_n hx hb dX10_end_4 rfl (lv_at hl 1 rfl) ?_
  refine e_callVi (As := [.int (x1)]) (rest := []) ⟨hx, hb, hml, hown, hts⟩ K G 1 (by decide) gl_1 rfl (c_X7_cut h) (cwV 1 hts gX10_end_X7_cut rfl rfl rfl (by decide +kernel) ⟨Nat.le_of_ble_eq_true rfl, Nat.le_of_ble_eq_true rfl⟩) rfl hl.1 rfl (Nat.le_of_ble_eq_true rfl) dX10_end_5 ⟨Nat.zero_le _, Nat.zero_le _⟩ (fun r2 σ1 H locs h G => ?_)
  exact e_zret hx hb hr hlocks G h.1 h.2 dX10_end_8
abbrev rm_X11_in : Room := { frames := 0, cells := 0, slots := 0, locals := 0 }
def w_X11_in (σ : eS) (x0 : Int64) (x2 : Int64) (x4 : Int64) (post : Int32 → eS → Prop) : Prop := (((lg_cmp x0 x2) < 0 → ((narrow .boolean (.int (0 : Int32)) = .int (0 : Int32)) ∧ post (0 : Int32) σ)) ∧ (¬ ((lg_cmp x0 x2) < 0) → ((0 < (lg_cmp x0 x4) → ((narrow .boolean (.int (0 : Int32)) = .int (0 : Int32)) ∧ post (0 : Int32) σ)) ∧ (¬ (0 < (lg_cmp x0 x4)) → ((narrow .boolean (.int (1 : Int32)) = .int (1 : Int32)) ∧ post (1 : Int32) σ)))))
set_option maxHeartbeats 4000000 in
set_option maxRecDepth 100000 in
theorem c_X11_in {l : Launch} {D : va_G} {ρ : Nat → Nat} {κ : Nat → ClassId} {base : Nat} {σ : eS} {x0 : Int64} {x2 : Int64} {x4 : Int64} {post : Int32 → eS → Prop} (h : w_X11_in σ x0 x2 x4 post) : gMi l yX11_in wsX11_in rm_X11_in D ρ κ base [.long (x0), .long (x2), .long (x4)] σ post := by
  refine e_ofWi (cc := cX11_in) (maxL := 6) (ret := (some .boolean)) (by decide) rfl (Nat.le_of_ble_eq_true rfl) ?_
  intro p e s m below meth c ls C K G hl
  obtain ⟨hx, hb, hml, hown, hts, hr, hlocks⟩ := id C
  have hl : lv_has ls 6 [(0, .long (x0)), (2, .long (x2)), (4, .long (x4))] := hl
  unfold w_X11_in at h
  refine lv_lload_n hx hb dX11_in_0 rfl (lv_at hl 0 rfl) ?_
  refine lv_lload_n hx hb dX11_in_1 rfl (lv_at hl 1 rfl) ?_
  refine W.lcmp hx hb dX11_in_2 ?_
  refine lv_if_lt (tgt := 17) hx hb dX11_in_3 (by decide) (fun c1 => ?_) (fun c1 => ?_)
  · have h := h.1 c1
    refine lv_iconst (v := (0 : Int32)) hx hb dX11_in_17 (by decide) ?_
    exact e_zret hx hb hr hlocks G h.1 h.2 dX11_in_18
  · have h := h.2 c1
    refine lv_lload_n hx hb dX11_in_6 rfl (lv_at hl 0 rfl) ?_
    refine lv_lload hx hb dX11_in_7 (lv_at hl 2 rfl) ?_
    refine W.lcmp hx hb dX11_in_9 ?_
    refine lv_if_gt (tgt := 17) hx hb dX11_in_10 (by decide) (fun c2 => ?_) (fun c2 => ?_)
    · have h := h.1 c2
      refine lv_iconst (v := (0 : Int32)) hx hb dX11_in_17 (by decide) ?_
      exact e_zret hx hb hr hlocks G h.1 h.2 dX11_in_18
    · have h := h.2 c2
      refine lv_iconst (v := (1 : Int32)) hx hb dX11_in_13 (by decide) ?_
      refine lv_goto (tgt := 18) hx hb dX11_in_14 (by decide) ?_
      exact e_zret hx hb hr hlocks G h.1 h.2 dX11_in_18
abbrev rm_X11_end : Room := { frames := 1, cells := 0, slots := 0, locals := 25 }
theorem in_X11_end_X11 : ∀ w ∈ wsX110, w ∈ wsX11_end := fun w h => List.mem_cons_of_mem _ (List.mem_append_right _ h)
def w_X11_end (σ : eS) (x1 : Int32) (post : Int32 → eS → Prop) : Prop := ∀ σ1 : eS, σ1 = e_ui σ 97 18 (0 : Int32) → w_X11_in σ1 (x1.toInt64) (0 : Int64) ((σ1.1 97 15).toInt64) (fun r3 σ2 => ((¬ r3 = 0 → ∀ σ5 : eS, σ5 = e_ui σ2 97 15 x1 → ((narrow .boolean (.int (1 : Int32)) = .int (1 : Int32)) ∧ post (1 : Int32) σ5)) ∧ (r3 = 0 → ((narrow .boolean (.int (0 : Int32)) = .int (0 : Int32)) ∧ post (0 : Int32) σ2))))
set_option maxHeartbeats 4000000 in
set_option maxRecDepth 100000 in
theorem c_X11_end {l : Launch} {D : va_G} {ρ : Nat → Nat} {κ : Nat → ClassId} {base : Nat} {σ : eS} {x1 : Int32} {post : Int32 → eS → Prop} (h : w_X11_end σ x1 post) : gMi l yX11_end wsX11_end rm_X11_end D ρ κ base [.ref (ρ (97)), .int (x1)] σ post := by
  refine e_ofWi (cc := cX11_end) (maxL := 2) (ret := (some .boolean)) (by decide) rfl (Nat.le_of_ble_eq_true rfl) ?_
  intro p e s m below meth c ls C K G hl
  obtain ⟨hx, hb, hml, hown, hts, hr, hlocks⟩ := id C
  have hl : lv_has ls 2 [(0, .ref (ρ (97))), (1, .int (x1))] := hl
  unfold w_X11_end at h
  refine lv_aload_n hx hb dX11_end_0 rfl (lv_at hl 0 rfl) ?_
  refine lv_iconst (v := (0 : Int32)) hx hb dX11_end_1 (by decide) ?_
  refine e_puti hx hb hts in_X11_end_X11 tyX11 tyX11_ok nmX11 hown K G 97 (by decide) gl_97 rfl 18 (by decide) rfl (hts (.fieldLink RX11 98 "StreetsStepOnModel" "thrown" "I") (e_mem (n := 1) rfl)) rfl (tyX11_ok 18 (by decide)) rfl rfl dX11_end_2 (fun H locs G => ?_)
  obtain ⟨σ1, eσ1⟩ : ∃ z : eS, z = e_ui σ 97 18 (0 : Int32) := ⟨_, rfl⟩
  rw [← eσ1] at G
  have h := h σ1 eσ1
  refine lv_iload_n hx hb dX11_end_5 rfl (lv_at hl 1 rfl) ?_
  refine lv_i2l hx hb dX11_end_6 rfl ?_
  refine lv_lconst (v := (0 : Int64)) hx hb dX11_end_7 (by decide) ?_
  refine lv_aload_n hx hb dX11_end_8 rfl (lv_at hl 0 rfl) ?_
  refine e_geti hx hb hts in_X11_end_X11 hown K G 97 (by decide) gl_97 rfl 15 (by decide) rfl (hts (.fieldLink RX11 121 "StreetsStepOnModel" "typed" "I") (e_mem (n := 2) rfl)) dX11_end_9 ?_
  refine lv_i2l hx hb dX11_end_12 rfl ?_
  refine e_callSi (As := [.long (x1.toInt64), .long ((0 : Int64)), .long ((σ1.1 97 15).toInt64)]) (rest := []) ⟨hx, hb, hml, hown, hts⟩ K G (c_X11_in h) (va_cwS 3 hts gX11_end_X11_in rfl rfl rfl (by decide +kernel) ⟨Nat.le_of_ble_eq_true rfl, Nat.le_of_ble_eq_true rfl⟩) rfl hl.1 rfl (Nat.le_of_ble_eq_true rfl) dX11_end_13 ⟨Nat.zero_le _, Nat.zero_le _⟩ (fun r3 σ2 H locs h G => ?_)
  refine lv_if_ne (tgt := 21) hx hb dX11_end_16 (by decide) (fun c4 => ?_) (fun c4 => ?_)
  · have h := h.1 c4
    refine lv_aload_n hx hb dX11_end_21 rfl (lv_at hl 0 rfl) ?_
    refine lv_iload_n hx hb dX11_end_22 rfl (lv_at hl 1 rfl) ?_
    refine e_puti hx hb hts in_X11_end_X11 tyX11 tyX11_ok nmX11 hown K G 97 (by decide) gl_97 rfl 15 (by decide) rfl (hts (.fieldLink RX11 121 "StreetsStepOnModel" "typed" "I") (e_mem (n := 2) rfl)) rfl (tyX11_ok 15 (by decide)) rfl rfl dX11_end_23 (fun H locs G => ?_)
    obtain ⟨σ5, eσ5⟩ : ∃ z : eS, z = e_ui σ2 97 15 x1 := ⟨_, rfl⟩
    rw [← eσ5] at G
    have h := h σ5 eσ5
    refine lv_iconst (v := (1 : Int32)) hx hb dX11_end_26 (by decide) ?_
    exact e_zret hx hb hr hlocks G h.1 h.2 dX11_end_27
  · have h := h.2 c4
    refine lv_iconst (v := (0 : Int32)) hx hb dX11_end_19 (by decide) ?_
    exact e_zret hx hb hr hlocks G h.1 h.2 dX11_end_20
abbrev rm_X9_read : Room := { frames := 1, cells := 0, slots := 0, locals := 14 }
theorem in_X9_read_X1 : ∀ w ∈ wsX10, w ∈ wsX9_read := fun w h => List.mem_cons_of_mem _ (List.mem_append_left _ (List.mem_append_right _ h))
theorem in_X9_read_X7 : ∀ w ∈ wsX70, w ∈ wsX9_read := fun w h => List.mem_cons_of_mem _ (List.mem_append_left _ (List.mem_append_left _ (List.mem_append_left _ (List.mem_append_right _ h))))
theorem in_X9_read_X9 : ∀ w ∈ wsX90, w ∈ wsX9_read := fun w h => List.mem_cons_of_mem _ (List.mem_append_left _ (List.mem_append_left _ (List.mem_append_right _ h)))
def b_X9_read_116 (post : Int32 → eS → Prop) (σ : eS) (x4 : Int32) (x5 : Int32) : Prop := (((σ.1 1 1) ≤ x4 → ∀ σ9 : eS, σ9 = e_ui σ 5 4 (σ.1 35 1) → ∀ σ10 : eS, σ10 = e_ui σ9 5 5 (σ9.1 35 2) → post x5 σ10) ∧ (¬ ((σ.1 1 1) ≤ x4) → post ((-1 : Int32) - x4) σ))
set_option maxHeartbeats 4000000 in
set_option maxRecDepth 100000 in
theorem l_X9_read_116 {p : Program} {l : Launch} {e : Env} {s : State} {m : MethodId} {args : Array Value} {below : List Frame} {meth : Method} {c : Code} {D : va_G} {ρ : Nat → Nat} {κ : Nat → ClassId} {base : Nat} {post : Int32 → eS → Prop} (C : eCx p s m args meth c cX9_read RX9 7 (some .int) wsX9_read) (K : gK D ρ κ base s) : ∀ (σ : eS) (x4 : Int32) (x5 : Int32) (H : Heap) (locs : List Loc) (ls : Array Slot), b_X9_read_116 post σ x4 x5 → gG D ρ κ base s σ H locs → lv_has ls 7 [(0, .ref (ρ (35))), (1, .ref (ρ (1))), (2, .ref (ρ (5))), (4, .int (x4)), (5, .int (x5))] → W p l e rm_X9_read s m args below meth c H locs 0 0 (gQi below args s D ρ κ base post) (F0 m 116 ls []) := by
  obtain ⟨hx, hb, hml, hown, hts, hr, hlocks⟩ := id C
  intro σ x4 x5 H locs ls h G hl
  unfold b_X9_read_116 at h
  refine lv_iload hx hb dX9_read_116 (lv_at hl 3 rfl) ?_
  refine lv_aload_n hx hb dX9_read_118 rfl (lv_at hl 1 rfl) ?_
  refine e_getiN hx hb hts in_X9_read_X7 hown K G 1 (by decide) gl_1 rfl 1 (by decide) rfl (e_memq (n := 0) rfl) dX9_read_119 ?_
  refine lv_icmp_ge (tgt := 130) hx hb dX9_read_122 (by decide) (fun c8 => ?_) (fun c8 => ?_)
  · have h := h.1 c8
    refine lv_aload_n hx hb dX9_read_130 rfl (lv_at hl 2 rfl) ?_
    refine lv_aload_n hx hb dX9_read_131 rfl (lv_at hl 0 rfl) ?_
    refine e_geti hx hb hts in_X9_read_X9 hown K G 35 (by decide) gl_35 rfl 1 (by decide) rfl (hts (.fieldLink RX9 31 "StreetsStepOn$TownReader" "streets" "I") (e_mem (n := 6) rfl)) dX9_read_132 ?_
    refine e_putiN hx hb hts in_X9_read_X1 tyX1 tyX1_ok nmX1 hown K G 5 (by decide) gl_5 rfl 4 (by decide) rfl (e_memq (n := 14) rfl) rfl (tyX1_ok 4 (by decide)) rfl rfl dX9_read_135 (fun H locs G => ?_)
    obtain ⟨σ9, eσ9⟩ : ∃ z : eS, z = e_ui σ 5 4 (σ.1 35 1) := ⟨_, rfl⟩
    rw [← eσ9] at G
    have h := h σ9 eσ9
    refine lv_aload_n hx hb dX9_read_138 rfl (lv_at hl 2 rfl) ?_
    refine lv_aload_n hx hb dX9_read_139 rfl (lv_at hl 0 rfl) ?_
    refine e_geti hx hb hts in_X9_read_X9 hown K G 35 (by decide) gl_35 rfl 2 (by decide) rfl (hts (.fieldLink RX9 35 "StreetsStepOn$TownReader" "orders" "I") (e_mem (n := 7) rfl)) dX9_read_140 ?_
    refine e_putiN hx hb hts in_X9_read_X1 tyX1 tyX1_ok nmX1 hown K G 5 (by decide) gl_5 rfl 5 (by decide) rfl (e_memq (n := 19) rfl) rfl (tyX1_ok 5 (by decide)) rfl rfl dX9_read_143 (fun H locs G => ?_)
    obtain ⟨σ10, eσ10⟩ : ∃ z : eS, z = e_ui σ9 5 5 (σ9.1 35 2) := ⟨_, rfl⟩
    rw [← eσ10] at G
    have h := h σ10 eσ10
    refine lv_iload hx hb dX9_read_146 (lv_at hl 4 rfl) ?_
    exact e_iret hx hb hr hlocks G h dX9_read_148
  · have h := h.2 c8
    refine lv_iconst (v := (-1 : Int32)) hx hb dX9_read_125 (by decide) ?_
    refine lv_iload hx hb dX9_read_126 (lv_at hl 3 rfl) ?_
    refine lv_isub hx hb dX9_read_128 ?_
    exact e_iret hx hb hr hlocks G h dX9_read_129
def b_X9_read_49 (post : Int32 → eS → Prop) : Nat → eS → Int32 → Int32 → Int32 → Prop
  | 0, _, _, _, _ => False
  | n + 1, σ, x4, x5, x6 => ((x6 = 0 → b_X9_read_116 post σ x4 x5) ∧ (¬ (x6 = 0) → (((76 : Int32) < x5 → b_X9_read_116 post σ x4 x5) ∧ (¬ ((76 : Int32) < x5) → False))))
set_option maxHeartbeats 4000000 in
set_option maxRecDepth 100000 in
theorem l_X9_read_49 {p : Program} {l : Launch} {e : Env} {s : State} {m : MethodId} {args : Array Value} {below : List Frame} {meth : Method} {c : Code} {D : va_G} {ρ : Nat → Nat} {κ : Nat → ClassId} {base : Nat} {post : Int32 → eS → Prop} (C : eCx p s m args meth c cX9_read RX9 7 (some .int) wsX9_read) (K : gK D ρ κ base s) : ∀ (n : Nat) (σ : eS) (x4 : Int32) (x5 : Int32) (x6 : Int32) (H : Heap) (locs : List Loc) (ls : Array Slot), b_X9_read_49 post n σ x4 x5 x6 → gG D ρ κ base s σ H locs → lv_has ls 7 [(0, .ref (ρ (35))), (1, .ref (ρ (1))), (2, .ref (ρ (5))), (3, .ref (ρ (18))), (4, .int (x4)), (5, .int (x5)), (6, .int (x6))] → W p l e rm_X9_read s m args below meth c H locs 0 0 (gQi below args s D ρ κ base post) (F0 m 49 ls []) := by
  obtain ⟨hx, hb, hml, hown, hts, hr, hlocks⟩ := id C
  intro n
  induction n with
  | zero => intro σ x4 x5 x6 H locs ls h G hl; exact False.elim h
  | succ n ih =>
    intro σ x4 x5 x6 H locs ls h G hl
    rw [b_X9_read_49] at h
    refine lv_iload hx hb dX9_read_49 (lv_at hl 6 rfl) ?_
    refine lv_if_eq (tgt := 116) hx hb dX9_read_51 (by decide) (fun c7 => ?_) (fun c7 => ?_)
    · have h := h.1 c7
      exact l_X9_read_116 C K σ x4 x5 _ _ _  h G (lv_sub hl [0, 1, 2, 4, 5] rfl)
    · have h := h.2 c7
      refine lv_iload hx hb dX9_read_54 (lv_at hl 5 rfl) ?_
      refine lv_bipush (v := (76 : Int32)) hx hb dX9_read_56 (by decide) ?_
      refine lv_icmp_gt (tgt := 116) hx hb dX9_read_58 (by decide) (fun c11 => ?_) (fun c11 => ?_)
      · have h := h.1 c11
        exact l_X9_read_116 C K σ x4 x5 _ _ _  h G (lv_sub hl [0, 1, 2, 4, 5] rfl)
      · have h := h.2 c11
        refine lv_aload_n hx hb dX9_read_61 rfl (lv_at hl 0 rfl) ?_
        refine lv_aload_n hx hb dX9_read_62 rfl (lv_at hl 1 rfl) ?_
        refine lv_aload_n hx hb dX9_read_63 rfl (lv_at hl 2 rfl) ?_
        refine lv_aload_n hx hb dX9_read_64 rfl (lv_at hl 3 rfl) ?_
        refine lv_iload hx hb dX9_read_65 (lv_at hl 4 rfl) ?_
        exact h.elim
def b_X9_read_47 (post : Int32 → eS → Prop) (σ : eS) (x4 : Int32) (x5 : Int32) (y0 : Int32) : Prop := (∃ n12 : Nat, b_X9_read_49 post n12 σ x4 x5 y0)
set_option maxHeartbeats 4000000 in
set_option maxRecDepth 100000 in
theorem l_X9_read_47 {p : Program} {l : Launch} {e : Env} {s : State} {m : MethodId} {args : Array Value} {below : List Frame} {meth : Method} {c : Code} {D : va_G} {ρ : Nat → Nat} {κ : Nat → ClassId} {base : Nat} {post : Int32 → eS → Prop} (C : eCx p s m args meth c cX9_read RX9 7 (some .int) wsX9_read) (K : gK D ρ κ base s) : ∀ (σ : eS) (x4 : Int32) (x5 : Int32) (y0 : Int32) (H : Heap) (locs : List Loc) (ls : Array Slot), b_X9_read_47 post σ x4 x5 y0 → gG D ρ κ base s σ H locs → lv_has ls 7 [(0, .ref (ρ (35))), (1, .ref (ρ (1))), (2, .ref (ρ (5))), (3, .ref (ρ (18))), (4, .int (x4)), (5, .int (x5))] → W p l e rm_X9_read s m args below meth c H locs 0 0 (gQi below args s D ρ κ base post) (F0 m 47 ls [.int (y0)]) := by
  obtain ⟨hx, hb, hml, hown, hts, hr, hlocks⟩ := id C
  intro σ x4 x5 y0 H locs ls h G hl
  unfold b_X9_read_47 at h
  refine lv_istore (lv' := [(6, .int (y0)), (0, .ref (ρ (35))), (1, .ref (ρ (1))), (2, .ref (ρ (5))), (3, .ref (ρ (18))), (4, .int (x4)), (5, .int (x5))]) hx hb dX9_read_47 hl (by decide) rfl (fun ls hl => ?_)
  obtain ⟨n12, h⟩ := h
  exact l_X9_read_49 C K n12 σ x4 x5 y0 _ _ _  h G (lv_sub hl [1, 2, 3, 4, 5, 6, 0] rfl)
def w_X9_read (σ : eS) (post : Int32 → eS → Prop) : Prop := ∀ σ1 : eS, σ1 = e_ui σ 35 0 (if (76 : Int32) < (σ.1 1 1) then (76 : Int32) else (σ.1 1 1)) → ∀ σ2 : eS, σ2 = e_ui σ1 35 1 (σ1.1 5 4) → ∀ σ3 : eS, σ3 = e_ui σ2 35 2 (σ2.1 5 5) → ∀ v4 : Int32, v4 = (0 : Int32) → ∀ v5 : Int32, v5 = (0 : Int32) → (((σ3.1 1 1) ≤ 0 → b_X9_read_47 post σ3 v4 v5 (0 : Int32)) ∧ (¬ ((σ3.1 1 1) ≤ 0) → b_X9_read_47 post σ3 v4 v5 (1 : Int32)))
set_option maxHeartbeats 4000000 in
set_option maxRecDepth 100000 in
theorem c_X9_read {l : Launch} {D : va_G} {ρ : Nat → Nat} {κ : Nat → ClassId} {base : Nat} {σ : eS} {post : Int32 → eS → Prop} (h : w_X9_read σ post) : gMi l yX9_read wsX9_read rm_X9_read D ρ κ base [.ref (ρ (35)), .ref (ρ (1)), .ref (ρ (5)), .ref (ρ (18))] σ post := by
  refine e_ofWi (cc := cX9_read) (maxL := 7) (ret := (some .int)) (by decide) rfl (Nat.le_of_ble_eq_true rfl) ?_
  intro p e s m below meth c ls C K G hl
  obtain ⟨hx, hb, hml, hown, hts, hr, hlocks⟩ := id C
  have hl : lv_has ls 7 [(0, .ref (ρ (35))), (1, .ref (ρ (1))), (2, .ref (ρ (5))), (3, .ref (ρ (18)))] := hl
  unfold w_X9_read at h
  refine lv_aload_n hx hb dX9_read_0 rfl (lv_at hl 0 rfl) ?_
  refine lv_aload_n hx hb dX9_read_1 rfl (lv_at hl 1 rfl) ?_
  refine e_getiN hx hb hts in_X9_read_X7 hown K G 1 (by decide) gl_1 rfl 1 (by decide) rfl (e_memq (n := 0) rfl) dX9_read_2 ?_
  refine lv_bipush (v := (76 : Int32)) hx hb dX9_read_5 (by decide) ?_
  refine va_mmin hx hb (hml.trans hl.1.symm) hown (hts (.methodLink RX9 17 Lib.Math.min.name) (e_mem (n := 1) rfl)) (hts (.static Lib.Math.min.name) (e_mem (n := 2) rfl)) (hts (.initialized "java/lang/Math") (e_mem (n := 3) rfl)) (hts (.code Lib.Math.min.name Lib.Math.min.code 2 (some .int)) (e_mem (n := 4) rfl)) (Nat.le_of_ble_eq_true rfl) (Nat.le_of_ble_eq_true rfl) (Nat.zero_le _) (Nat.zero_le _) dX9_read_7 ?_
  refine e_puti hx hb hts in_X9_read_X9 tyX9 tyX9_ok nmX9 hown K G 35 (by decide) gl_35 rfl 0 (by decide) rfl (hts (.fieldLink RX9 23 "StreetsStepOn$TownReader" "stop" "I") (e_mem (n := 5) rfl)) rfl (tyX9_ok 0 (by decide)) rfl rfl dX9_read_10 (fun H locs G => ?_)
  obtain ⟨σ1, eσ1⟩ : ∃ z : eS, z = e_ui σ 35 0 (if (76 : Int32) < (σ.1 1 1) then (76 : Int32) else (σ.1 1 1)) := ⟨_, rfl⟩
  rw [← eσ1] at G
  have h := h σ1 eσ1
  refine lv_aload_n hx hb dX9_read_13 rfl (lv_at hl 0 rfl) ?_
  refine lv_aload_n hx hb dX9_read_14 rfl (lv_at hl 2 rfl) ?_
  refine e_getiN hx hb hts in_X9_read_X1 hown K G 5 (by decide) gl_5 rfl 4 (by decide) rfl (e_memq (n := 14) rfl) dX9_read_15 ?_
  refine e_puti hx hb hts in_X9_read_X9 tyX9 tyX9_ok nmX9 hown K G 35 (by decide) gl_35 rfl 1 (by decide) rfl (hts (.fieldLink RX9 31 "StreetsStepOn$TownReader" "streets" "I") (e_mem (n := 6) rfl)) rfl (tyX9_ok 1 (by decide)) rfl rfl dX9_read_18 (fun H locs G => ?_)
  obtain ⟨σ2, eσ2⟩ : ∃ z : eS, z = e_ui σ1 35 1 (σ1.1 5 4) := ⟨_, rfl⟩
  rw [← eσ2] at G
  have h := h σ2 eσ2
  refine lv_aload_n hx hb dX9_read_21 rfl (lv_at hl 0 rfl) ?_
  refine lv_aload_n hx hb dX9_read_22 rfl (lv_at hl 2 rfl) ?_
  refine e_getiN hx hb hts in_X9_read_X1 hown K G 5 (by decide) gl_5 rfl 5 (by decide) rfl (e_memq (n := 19) rfl) dX9_read_23 ?_
  refine e_puti hx hb hts in_X9_read_X9 tyX9 tyX9_ok nmX9 hown K G 35 (by decide) gl_35 rfl 2 (by decide) rfl (hts (.fieldLink RX9 35 "StreetsStepOn$TownReader" "orders" "I") (e_mem (n := 7) rfl)) rfl (tyX9_ok 2 (by decide)) rfl rfl dX9_read_26 (fun H locs G => ?_)
  obtain ⟨σ3, eσ3⟩ : ∃ z : eS, z = e_ui σ2 35 2 (σ2.1 5 5) := ⟨_, rfl⟩
  rw [← eσ3] at G
  have h := h σ3 eσ3
  refine lv_iconst (v := (0 : Int32)) hx hb dX9_read_29 (by decide) ?_
  refine lv_topi (fun v4 ev4 => ?_)
  have h := h v4 ev4
  refine lv_istore (lv' := [(4, .int (v4)), (0, .ref (ρ (35))), (1, .ref (ρ (1))), (2, .ref (ρ (5))), (3, .ref (ρ (18)))]) hx hb dX9_read_30 hl (by decide) rfl (fun ls hl => ?_)
  refine lv_iconst (v := (0 : Int32)) hx hb dX9_read_32 (by decide) ?_
  refine lv_topi (fun v5 ev5 => ?_)
  have h := h v5 ev5
  refine lv_istore (lv' := [(5, .int (v5)), (4, .int (v4)), (0, .ref (ρ (35))), (1, .ref (ρ (1))), (2, .ref (ρ (5))), (3, .ref (ρ (18)))]) hx hb dX9_read_33 hl (by decide) rfl (fun ls hl => ?_)
  refine lv_aload_n hx hb dX9_read_35 rfl (lv_at hl 3 rfl) ?_
  refine e_getiN hx hb hts in_X9_read_X7 hown K G 1 (by decide) gl_1 rfl 1 (by decide) rfl (e_memq (n := 0) rfl) dX9_read_36 ?_
  refine lv_if_le (tgt := 46) hx hb dX9_read_39 (by decide) (fun c6 => ?_) (fun c6 => ?_)
  · have h := h.1 c6
    refine lv_iconst (v := (0 : Int32)) hx hb dX9_read_46 (by decide) ?_
    exact l_X9_read_47 C K σ3 v4 v5 (0 : Int32) _ _ _  h G (lv_sub hl [2, 3, 4, 5, 1, 0] rfl)
  · have h := h.2 c6
    refine lv_iconst (v := (1 : Int32)) hx hb dX9_read_42 (by decide) ?_
    refine lv_goto (tgt := 47) hx hb dX9_read_43 (by decide) ?_
    exact l_X9_read_47 C K σ3 v4 v5 (1 : Int32) _ _ _  h G (lv_sub hl [2, 3, 4, 5, 1, 0] rfl)
abbrev rm_X4_stayAway : Room := { frames := 0, cells := 0, slots := 0, locals := 0 }
theorem in_X4_stayAway_X4 : ∀ w ∈ wsX40, w ∈ wsX4_stayAway := fun w h => List.mem_cons_of_mem _ (List.mem_append_right _ h)
def b_X4_stayAway_35 (post : eS → Prop) (K2 : eS → Int32 → Prop) (K10 : eS → Int32 → Int32 → Prop) (σ : eS) (x1 : Int32) (x2 : Int32) (y0 : Int32) (y1 : Int32) (ky2 : Nat) : Prop := (vp_in y1 10) ∧ ∀ σ9 : eS, σ9 = e_ui σ ky2 y1.toNatClampNeg y0 → ∀ v10 : Int32, v10 = (x2 + (1 : Int32)) → K10 σ9 x1 v10
set_option maxHeartbeats 4000000 in
set_option maxRecDepth 100000 in
theorem l_X4_stayAway_35 {p : Program} {l : Launch} {e : Env} {s : State} {m : MethodId} {args : Array Value} {below : List Frame} {meth : Method} {c : Code} {D : va_G} {ρ : Nat → Nat} {κ : Nat → ClassId} {base : Nat} {post : eS → Prop} (C : eCx p s m args meth c cX4_stayAway RX4 3 none wsX4_stayAway) (K : gK D ρ κ base s) {K2 : eS → Int32 → Prop} (hK2 : ∀ (σ : eS) (x1 : Int32) (H : Heap) (locs : List Loc) (ls : Array Slot), K2 σ x1 → gG D ρ κ base s σ H locs → lv_has ls 3 [(0, .ref (ρ (18))), (1, .int (x1))] → W p l e rm_X4_stayAway s m args below meth c H locs 0 0 (gQv below args s D ρ κ base post) (F0 m 2 ls [])) {K10 : eS → Int32 → Int32 → Prop} (hK10 : ∀ (σ : eS) (x1 : Int32) (x2 : Int32) (H : Heap) (locs : List Loc) (ls : Array Slot), K10 σ x1 x2 → gG D ρ κ base s σ H locs → lv_has ls 3 [(0, .ref (ρ (18))), (1, .int (x1)), (2, .int (x2))] → W p l e rm_X4_stayAway s m args below meth c H locs 0 0 (gQv below args s D ρ κ base post) (F0 m 10 ls [])) : ∀ (σ : eS) (x1 : Int32) (x2 : Int32) (y0 : Int32) (y1 : Int32) (ky2 : Nat) (H : Heap) (locs : List Loc) (ls : Array Slot), ky2 < NN → gL ky2 = (1, 10, [0]) → b_X4_stayAway_35 post K2 K10 σ x1 x2 y0 y1 ky2 → gG D ρ κ base s σ H locs → lv_has ls 3 [(0, .ref (ρ (18))), (1, .int (x1)), (2, .int (x2))] → W p l e rm_X4_stayAway s m args below meth c H locs 0 0 (gQv below args s D ρ κ base post) (F0 m 35 ls [.int (y0), .int (y1), .ref (ρ (ky2))]) := by
  obtain ⟨hx, hb, hml, hown, hts, hr, hlocks⟩ := id C
  intro σ x1 x2 y0 y1 ky2 H locs ls hky2 hly2 h G hl
  unfold b_X4_stayAway_35 at h
  have hi8 := h.1
  have h := h.2
  refine e_iast hx hb K G ky2 0 0 10 hky2 hly2 rfl hi8 dX4_stayAway_35 (fun H locs G => ?_)
  obtain ⟨σ9, eσ9⟩ : ∃ z : eS, z = e_ui σ ky2 y1.toNatClampNeg y0 := ⟨_, rfl⟩
  rw [← eσ9] at G
  have h := h σ9 eσ9
  obtain ⟨v10, ev10⟩ : ∃ y : Int32, y = x2 + (1 : Int32) := ⟨_, rfl⟩
  have h := h v10 ev10
  refine lv_iinc (v := v10) (lv' := [(2, .int (v10)), (0, .ref (ρ (18))), (1, .int (x1))]) hx hb dX4_stayAway_36 hl (k := 2) rfl (by rw [ev10]; rfl) (by decide) rfl (fun ls hl => ?_)
  refine lv_goto (tgt := 10) hx hb dX4_stayAway_39 (by decide) ?_
  exact hK10 σ9 x1 v10 _ _ _  h G (lv_sub hl [1, 2, 0] rfl)
def b_X4_stayAway_10 (post : eS → Prop) (K2 : eS → Int32 → Prop) : Nat → eS → Int32 → Int32 → Prop
  | 0, _, _, _ => False
  | n + 1, σ, x1, x2 => (((10 : Int32) ≤ x2 → ∀ v5 : Int32, v5 = (x1 + (1 : Int32)) → K2 σ v5) ∧ (¬ ((10 : Int32) ≤ x2) → (vp_in x1 10) ∧ ((¬ x1 = x2 → b_X4_stayAway_35 post K2 (fun s x1 x2 => b_X4_stayAway_10 post K2 n s x1 x2) σ x1 x2 (999 : Int32) x2 (22 + x1.toNatClampNeg)) ∧ (x1 = x2 → b_X4_stayAway_35 post K2 (fun s x1 x2 => b_X4_stayAway_10 post K2 n s x1 x2) σ x1 x2 (0 : Int32) x2 (22 + x1.toNatClampNeg)))))
set_option maxHeartbeats 4000000 in
set_option maxRecDepth 100000 in
theorem l_X4_stayAway_10 {p : Program} {l : Launch} {e : Env} {s : State} {m : MethodId} {args : Array Value} {below : List Frame} {meth : Method} {c : Code} {D : va_G} {ρ : Nat → Nat} {κ : Nat → ClassId} {base : Nat} {post : eS → Prop} (C : eCx p s m args meth c cX4_stayAway RX4 3 none wsX4_stayAway) (K : gK D ρ κ base s) {K2 : eS → Int32 → Prop} (hK2 : ∀ (σ : eS) (x1 : Int32) (H : Heap) (locs : List Loc) (ls : Array Slot), K2 σ x1 → gG D ρ κ base s σ H locs → lv_has ls 3 [(0, .ref (ρ (18))), (1, .int (x1))] → W p l e rm_X4_stayAway s m args below meth c H locs 0 0 (gQv below args s D ρ κ base post) (F0 m 2 ls [])) : ∀ (n : Nat) (σ : eS) (x1 : Int32) (x2 : Int32) (H : Heap) (locs : List Loc) (ls : Array Slot), b_X4_stayAway_10 post K2 n σ x1 x2 → gG D ρ κ base s σ H locs → lv_has ls 3 [(0, .ref (ρ (18))), (1, .int (x1)), (2, .int (x2))] → W p l e rm_X4_stayAway s m args below meth c H locs 0 0 (gQv below args s D ρ κ base post) (F0 m 10 ls []) := by
  obtain ⟨hx, hb, hml, hown, hts, hr, hlocks⟩ := id C
  intro n
  induction n with
  | zero => intro σ x1 x2 H locs ls h G hl; exact False.elim h
  | succ n ih =>
    intro σ x1 x2 H locs ls h G hl
    rw [b_X4_stayAway_10] at h
    refine lv_iload_n hx hb dX4_stayAway_10 rfl (lv_at hl 2 rfl) ?_
    refine lv_bipush (v := (10 : Int32)) hx hb dX4_stayAway_11 (by decide) ?_
    refine lv_icmp_ge (tgt := 42) hx hb dX4_stayAway_13 (by decide) (fun c4 => ?_) (fun c4 => ?_)
    · have h := h.1 c4
      obtain ⟨v5, ev5⟩ : ∃ y : Int32, y = x1 + (1 : Int32) := ⟨_, rfl⟩
      have h := h v5 ev5
      refine lv_iinc (v := v5) (lv' := [(1, .int (v5)), (0, .ref (ρ (18))), (2, .int (x2))]) hx hb dX4_stayAway_42 hl (k := 1) rfl (by rw [ev5]; rfl) (by decide) rfl (fun ls hl => ?_)
      refine lv_goto (tgt := 2) hx hb dX4_stayAway_45 (by decide) ?_
      exact hK2 σ v5 _ _ _  h G (lv_sub hl [1, 0] rfl)
    · have h := h.2 c4
      refine lv_aload_n hx hb dX4_stayAway_16 rfl (lv_at hl 0 rfl) ?_
      refine e_getq hx hb hts in_X4_stayAway_X4 hown K G 18 (by decide) gl_18 rfl 2 (by decide) 21 rfl (hts (.fieldLink RX4 20 "StreetsStepOn$Roads" "ways" "[[I") (e_mem (n := 1) rfl)) dX4_stayAway_17 ?_
      refine lv_iload_n hx hb dX4_stayAway_20 rfl (lv_at hl 1 rfl) ?_
      have hi6 := h.1
      have h := h.2
      refine e_aald hx hb K G 21 5 5 10 (by decide) _ gl_21 rfl rfl hi6 (22 + x1.toNatClampNeg) (gr_21 _ (e_lt hi6)).1 dX4_stayAway_21 ?_
      refine lv_iload_n hx hb dX4_stayAway_22 rfl (lv_at hl 2 rfl) ?_
      refine lv_iload_n hx hb dX4_stayAway_23 rfl (lv_at hl 1 rfl) ?_
      refine lv_iload_n hx hb dX4_stayAway_24 rfl (lv_at hl 2 rfl) ?_
      refine lv_icmp_ne (tgt := 32) hx hb dX4_stayAway_25 (by decide) (fun c7 => ?_) (fun c7 => ?_)
      · have h := h.1 c7
        refine lv_sipush (v := (999 : Int32)) hx hb dX4_stayAway_32 (by decide) ?_
        exact l_X4_stayAway_35 C K (hK2 := hK2) (hK10 := ih) σ x1 x2 (999 : Int32) x2 (22 + x1.toNatClampNeg) _ _ _ (gr_21 _ (e_lt hi6)).2.2 (gr_21 _ (e_lt hi6)).2.1 h G (lv_sub hl [0, 1, 2] rfl)
      · have h := h.2 c7
        refine lv_iconst (v := (0 : Int32)) hx hb dX4_stayAway_28 (by decide) ?_
        refine lv_goto (tgt := 35) hx hb dX4_stayAway_29 (by decide) ?_
        exact l_X4_stayAway_35 C K (hK2 := hK2) (hK10 := ih) σ x1 x2 (0 : Int32) x2 (22 + x1.toNatClampNeg) _ _ _ (gr_21 _ (e_lt hi6)).2.2 (gr_21 _ (e_lt hi6)).2.1 h G (lv_sub hl [0, 1, 2] rfl)
def b_X4_stayAway_2 (post : eS → Prop) : Nat → eS → Int32 → Prop
  | 0, _, _ => False
  | n + 1, σ, x1 => (((10 : Int32) ≤ x1 → post σ) ∧ (¬ ((10 : Int32) ≤ x1) → ∀ v3 : Int32, v3 = (0 : Int32) → (∃ n11 : Nat, b_X4_stayAway_10 post (fun s x1 => b_X4_stayAway_2 post n s x1) n11 σ x1 v3)))
set_option maxHeartbeats 4000000 in
set_option maxRecDepth 100000 in
theorem l_X4_stayAway_2 {p : Program} {l : Launch} {e : Env} {s : State} {m : MethodId} {args : Array Value} {below : List Frame} {meth : Method} {c : Code} {D : va_G} {ρ : Nat → Nat} {κ : Nat → ClassId} {base : Nat} {post : eS → Prop} (C : eCx p s m args meth c cX4_stayAway RX4 3 none wsX4_stayAway) (K : gK D ρ κ base s) : ∀ (n : Nat) (σ : eS) (x1 : Int32) (H : Heap) (locs : List Loc) (ls : Array Slot), b_X4_stayAway_2 post n σ x1 → gG D ρ κ base s σ H locs → lv_has ls 3 [(0, .ref (ρ (18))), (1, .int (x1))] → W p l e rm_X4_stayAway s m args below meth c H locs 0 0 (gQv below args s D ρ κ base post) (F0 m 2 ls []) := by
  obtain ⟨hx, hb, hml, hown, hts, hr, hlocks⟩ := id C
  intro n
  induction n with
  | zero => intro σ x1 H locs ls h G hl; exact False.elim h
  | succ n ih =>
    intro σ x1 H locs ls h G hl
    rw [b_X4_stayAway_2] at h
    refine lv_iload_n hx hb dX4_stayAway_2 rfl (lv_at hl 1 rfl) ?_
    refine lv_bipush (v := (10 : Int32)) hx hb dX4_stayAway_3 (by decide) ?_
    refine lv_icmp_ge (tgt := 48) hx hb dX4_stayAway_5 (by decide) (fun c2 => ?_) (fun c2 => ?_)
    · have h := h.1 c2
      exact e_vret hx hb hr hlocks G h dX4_stayAway_48
    · have h := h.2 c2
      refine lv_iconst (v := (0 : Int32)) hx hb dX4_stayAway_8 (by decide) ?_
      refine lv_topi (fun v3 ev3 => ?_)
      have h := h v3 ev3
      refine lv_istore_n (lv' := [(2, .int (v3)), (0, .ref (ρ (18))), (1, .int (x1))]) hx hb dX4_stayAway_9 rfl hl (by decide) rfl (fun ls hl => ?_)
      obtain ⟨n11, h⟩ := h
      exact l_X4_stayAway_10 C K (hK2 := ih) n11 σ x1 v3 _ _ _  h G (lv_sub hl [1, 2, 0] rfl)
def w_X4_stayAway (σ : eS) (post : eS → Prop) : Prop := ∀ v1 : Int32, v1 = (0 : Int32) → (∃ n12 : Nat, b_X4_stayAway_2 post n12 σ v1)
set_option maxHeartbeats 4000000 in
set_option maxRecDepth 100000 in
theorem c_X4_stayAway {l : Launch} {D : va_G} {ρ : Nat → Nat} {κ : Nat → ClassId} {base : Nat} {σ : eS} {post : eS → Prop} (h : w_X4_stayAway σ post) : gMv l yX4_stayAway wsX4_stayAway rm_X4_stayAway D ρ κ base [.ref (ρ (18))] σ post := by
  refine e_ofWv (cc := cX4_stayAway) (maxL := 3) (ret := none) (by decide) rfl (Nat.le_of_ble_eq_true rfl) ?_
  intro p e s m below meth c ls C K G hl
  obtain ⟨hx, hb, hml, hown, hts, hr, hlocks⟩ := id C
  have hl : lv_has ls 3 [(0, .ref (ρ (18)))] := hl
  unfold w_X4_stayAway at h
  refine lv_iconst (v := (0 : Int32)) hx hb dX4_stayAway_0 (by decide) ?_
  refine lv_topi (fun v1 ev1 => ?_)
  have h := h v1 ev1
  refine lv_istore_n (lv' := [(1, .int (v1)), (0, .ref (ρ (18)))]) hx hb dX4_stayAway_1 rfl hl (by decide) rfl (fun ls hl => ?_)
  obtain ⟨n12, h⟩ := h
  exact l_X4_stayAway_2 C K n12 σ v1 _ _ _  h G (lv_sub hl [1, 0] rfl)
abbrev rm_X4_shortenBy : Room := { frames := 1, cells := 0, slots := 0, locals := 15 }
theorem in_X4_shortenBy_X4 : ∀ w ∈ wsX40, w ∈ wsX4_shortenBy := fun w h => List.mem_cons_of_mem _ (List.mem_append_right _ h)
def b_X4_shortenBy_10 (post : eS → Prop) (K2 : eS → Int32 → Int32 → Prop) : Nat → eS → Int32 → Int32 → Int32 → Prop
  | 0, _, _, _, _ => False
  | n + 1, σ, x1, x2, x3 => (((10 : Int32) ≤ x3 → ∀ v5 : Int32, v5 = (x2 + (1 : Int32)) → K2 σ x1 v5) ∧ (¬ ((10 : Int32) ≤ x3) → (vp_in x2 10) ∧ (vp_in x2 10) ∧ (vp_in x3 10) ∧ (vp_in x2 10) ∧ (vp_in x1 10) ∧ (vp_in x1 10) ∧ (vp_in x3 10) ∧ (vp_in x3 10) ∧ ∀ σ14 : eS, σ14 = e_ui σ (22 + x2.toNatClampNeg) x3.toNatClampNeg (if ((σ.1 (22 + x2.toNatClampNeg) x1.toNatClampNeg) + (σ.1 (22 + x1.toNatClampNeg) x3.toNatClampNeg)) < (σ.1 (22 + x2.toNatClampNeg) x3.toNatClampNeg) then ((σ.1 (22 + x2.toNatClampNeg) x1.toNatClampNeg) + (σ.1 (22 + x1.toNatClampNeg) x3.toNatClampNeg)) else (σ.1 (22 + x2.toNatClampNeg) x3.toNatClampNeg)) → ∀ v15 : Int32, v15 = (x3 + (1 : Int32)) → b_X4_shortenBy_10 post K2 n σ14 x1 x2 v15))
set_option maxHeartbeats 4000000 in
set_option maxRecDepth 100000 in
theorem l_X4_shortenBy_10 {p : Program} {l : Launch} {e : Env} {s : State} {m : MethodId} {args : Array Value} {below : List Frame} {meth : Method} {c : Code} {D : va_G} {ρ : Nat → Nat} {κ : Nat → ClassId} {base : Nat} {post : eS → Prop} (C : eCx p s m args meth c cX4_shortenBy RX4 4 none wsX4_shortenBy) (K : gK D ρ κ base s) {K2 : eS → Int32 → Int32 → Prop} (hK2 : ∀ (σ : eS) (x1 : Int32) (x2 : Int32) (H : Heap) (locs : List Loc) (ls : Array Slot), K2 σ x1 x2 → gG D ρ κ base s σ H locs → lv_has ls 4 [(0, .ref (ρ (18))), (1, .int (x1)), (2, .int (x2))] → W p l e rm_X4_shortenBy s m args below meth c H locs 0 0 (gQv below args s D ρ κ base post) (F0 m 2 ls [])) : ∀ (n : Nat) (σ : eS) (x1 : Int32) (x2 : Int32) (x3 : Int32) (H : Heap) (locs : List Loc) (ls : Array Slot), b_X4_shortenBy_10 post K2 n σ x1 x2 x3 → gG D ρ κ base s σ H locs → lv_has ls 4 [(0, .ref (ρ (18))), (1, .int (x1)), (2, .int (x2)), (3, .int (x3))] → W p l e rm_X4_shortenBy s m args below meth c H locs 0 0 (gQv below args s D ρ κ base post) (F0 m 10 ls []) := by
  obtain ⟨hx, hb, hml, hown, hts, hr, hlocks⟩ := id C
  intro n
  induction n with
  | zero => intro σ x1 x2 x3 H locs ls h G hl; exact False.elim h
  | succ n ih =>
    intro σ x1 x2 x3 H locs ls h G hl
    rw [b_X4_shortenBy_10] at h
    refine lv_iload_n hx hb dX4_shortenBy_10 rfl (lv_at hl 3 rfl) ?_
    refine lv_bipush (v := (10 : Int32)) hx hb dX4_shortenBy_11 (by decide) ?_
    refine lv_icmp_ge (tgt := 58) hx hb dX4_shortenBy_13 (by decide) (fun c4 => ?_) (fun c4 => ?_)
    · have h := h.1 c4
      obtain ⟨v5, ev5⟩ : ∃ y : Int32, y = x2 + (1 : Int32) := ⟨_, rfl⟩
      have h := h v5 ev5
      refine lv_iinc (v := v5) (lv' := [(2, .int (v5)), (0, .ref (ρ (18))), (1, .int (x1)), (3, .int (x3))]) hx hb dX4_shortenBy_58 hl (k := 2) rfl (by rw [ev5]; rfl) (by decide) rfl (fun ls hl => ?_)
      refine lv_goto (tgt := 2) hx hb dX4_shortenBy_61 (by decide) ?_
      exact hK2 σ x1 v5 _ _ _  h G (lv_sub hl [1, 2, 0] rfl)
    · have h := h.2 c4
      refine lv_aload_n hx hb dX4_shortenBy_16 rfl (lv_at hl 0 rfl) ?_
      refine e_getq hx hb hts in_X4_shortenBy_X4 hown K G 18 (by decide) gl_18 rfl 2 (by decide) 21 rfl (hts (.fieldLink RX4 20 "StreetsStepOn$Roads" "ways" "[[I") (e_mem (n := 1) rfl)) dX4_shortenBy_17 ?_
      refine lv_iload_n hx hb dX4_shortenBy_20 rfl (lv_at hl 2 rfl) ?_
      have hi6 := h.1
      have h := h.2
      refine e_aald hx hb K G 21 5 5 10 (by decide) _ gl_21 rfl rfl hi6 (22 + x2.toNatClampNeg) (gr_21 _ (e_lt hi6)).1 dX4_shortenBy_21 ?_
      refine lv_iload_n hx hb dX4_shortenBy_22 rfl (lv_at hl 3 rfl) ?_
      refine lv_aload_n hx hb dX4_shortenBy_23 rfl (lv_at hl 0 rfl) ?_
      refine e_getq hx hb hts in_X4_shortenBy_X4 hown K G 18 (by decide) gl_18 rfl 2 (by decide) 21 rfl (hts (.fieldLink RX4 20 "StreetsStepOn$Roads" "ways" "[[I") (e_mem (n := 1) rfl)) dX4_shortenBy_24 ?_
      refine lv_iload_n hx hb dX4_shortenBy_27 rfl (lv_at hl 2 rfl) ?_
      have hi7 := h.1
      have h := h.2
      refine e_aald hx hb K G 21 5 5 10 (by decide) _ gl_21 rfl rfl hi7 (22 + x2.toNatClampNeg) (gr_21 _ (e_lt hi7)).1 dX4_shortenBy_28 ?_
      refine lv_iload_n hx hb dX4_shortenBy_29 rfl (lv_at hl 3 rfl) ?_
      have hi8 := h.1
      have h := h.2
      refine e_iald hx hb K G (22 + x2.toNatClampNeg) 0 0 10 (gr_21 _ (e_lt hi7)).2.2 (gr_21 _ (e_lt hi7)).2.1 rfl hi8 dX4_shortenBy_30 ?_
      refine lv_aload_n hx hb dX4_shortenBy_31 rfl (lv_at hl 0 rfl) ?_
      refine e_getq hx hb hts in_X4_shortenBy_X4 hown K G 18 (by decide) gl_18 rfl 2 (by decide) 21 rfl (hts (.fieldLink RX4 20 "StreetsStepOn$Roads" "ways" "[[I") (e_mem (n := 1) rfl)) dX4_shortenBy_32 ?_
      refine lv_iload_n hx hb dX4_shortenBy_35 rfl (lv_at hl 2 rfl) ?_
      have hi9 := h.1
      have h := h.2
      refine e_aald hx hb K G 21 5 5 10 (by decide) _ gl_21 rfl rfl hi9 (22 + x2.toNatClampNeg) (gr_21 _ (e_lt hi9)).1 dX4_shortenBy_36 ?_
      refine lv_iload_n hx hb dX4_shortenBy_37 rfl (lv_at hl 1 rfl) ?_
      have hi10 := h.1
      have h := h.2
      refine e_iald hx hb K G (22 + x2.toNatClampNeg) 0 0 10 (gr_21 _ (e_lt hi9)).2.2 (gr_21 _ (e_lt hi9)).2.1 rfl hi10 dX4_shortenBy_38 ?_
      refine lv_aload_n hx hb dX4_shortenBy_39 rfl (lv_at hl 0 rfl) ?_
      refine e_getq hx hb hts in_X4_shortenBy_X4 hown K G 18 (by decide) gl_18 rfl 2 (by decide) 21 rfl (hts (.fieldLink RX4 20 "StreetsStepOn$Roads" "ways" "[[I") (e_mem (n := 1) rfl)) dX4_shortenBy_40 ?_
      refine lv_iload_n hx hb dX4_shortenBy_43 rfl (lv_at hl 1 rfl) ?_
      have hi11 := h.1
      have h := h.2
      refine e_aald hx hb K G 21 5 5 10 (by decide) _ gl_21 rfl rfl hi11 (22 + x1.toNatClampNeg) (gr_21 _ (e_lt hi11)).1 dX4_shortenBy_44 ?_
      refine lv_iload_n hx hb dX4_shortenBy_45 rfl (lv_at hl 3 rfl) ?_
      have hi12 := h.1
      have h := h.2
      refine e_iald hx hb K G (22 + x1.toNatClampNeg) 0 0 10 (gr_21 _ (e_lt hi11)).2.2 (gr_21 _ (e_lt hi11)).2.1 rfl hi12 dX4_shortenBy_46 ?_
      refine lv_iadd hx hb dX4_shortenBy_47 ?_
      refine va_mmin hx hb (hml.trans hl.1.symm) hown (hts (.methodLink RX4 35 Lib.Math.min.name) (e_mem (n := 2) rfl)) (hts (.static Lib.Math.min.name) (e_mem (n := 3) rfl)) (hts (.initialized "java/lang/Math") (e_mem (n := 4) rfl)) (hts (.code Lib.Math.min.name Lib.Math.min.code 2 (some .int)) (e_mem (n := 5) rfl)) (Nat.le_of_ble_eq_true rfl) (Nat.le_of_ble_eq_true rfl) (Nat.zero_le _) (Nat.zero_le _) dX4_shortenBy_48 ?_
      have hi13 := h.1
      have h := h.2
      refine e_iast hx hb K G (22 + x2.toNatClampNeg) 0 0 10 (gr_21 _ (e_lt hi6)).2.2 (gr_21 _ (e_lt hi6)).2.1 rfl hi13 dX4_shortenBy_51 (fun H locs G => ?_)
      obtain ⟨σ14, eσ14⟩ : ∃ z : eS, z = e_ui σ (22 + x2.toNatClampNeg) x3.toNatClampNeg (if ((σ.1 (22 + x2.toNatClampNeg) x1.toNatClampNeg) + (σ.1 (22 + x1.toNatClampNeg) x3.toNatClampNeg)) < (σ.1 (22 + x2.toNatClampNeg) x3.toNatClampNeg) then ((σ.1 (22 + x2.toNatClampNeg) x1.toNatClampNeg) + (σ.1 (22 + x1.toNatClampNeg) x3.toNatClampNeg)) else (σ.1 (22 + x2.toNatClampNeg) x3.toNatClampNeg)) := ⟨_, rfl⟩
      rw [← eσ14] at G
      have h := h σ14 eσ14
      obtain ⟨v15, ev15⟩ : ∃ y : Int32, y = x3 + (1 : Int32) := ⟨_, rfl⟩
      have h := h v15 ev15
      refine lv_iinc (v := v15) (lv' := [(3, .int (v15)), (0, .ref (ρ (18))), (1, .int (x1)), (2, .int (x2))]) hx hb dX4_shortenBy_52 hl (k := 3) rfl (by rw [ev15]; rfl) (by decide) rfl (fun ls hl => ?_)
      refine lv_goto (tgt := 10) hx hb dX4_shortenBy_55 (by decide) ?_
      exact ih σ14 x1 x2 v15 _ _ _  h G (lv_sub hl [1, 2, 3, 0] rfl)
def b_X4_shortenBy_2 (post : eS → Prop) : Nat → eS → Int32 → Int32 → Prop
  | 0, _, _, _ => False
  | n + 1, σ, x1, x2 => (((10 : Int32) ≤ x2 → post σ) ∧ (¬ ((10 : Int32) ≤ x2) → ∀ v3 : Int32, v3 = (0 : Int32) → (∃ n16 : Nat, b_X4_shortenBy_10 post (fun s x1 x2 => b_X4_shortenBy_2 post n s x1 x2) n16 σ x1 x2 v3)))
set_option maxHeartbeats 4000000 in
set_option maxRecDepth 100000 in
theorem l_X4_shortenBy_2 {p : Program} {l : Launch} {e : Env} {s : State} {m : MethodId} {args : Array Value} {below : List Frame} {meth : Method} {c : Code} {D : va_G} {ρ : Nat → Nat} {κ : Nat → ClassId} {base : Nat} {post : eS → Prop} (C : eCx p s m args meth c cX4_shortenBy RX4 4 none wsX4_shortenBy) (K : gK D ρ κ base s) : ∀ (n : Nat) (σ : eS) (x1 : Int32) (x2 : Int32) (H : Heap) (locs : List Loc) (ls : Array Slot), b_X4_shortenBy_2 post n σ x1 x2 → gG D ρ κ base s σ H locs → lv_has ls 4 [(0, .ref (ρ (18))), (1, .int (x1)), (2, .int (x2))] → W p l e rm_X4_shortenBy s m args below meth c H locs 0 0 (gQv below args s D ρ κ base post) (F0 m 2 ls []) := by
  obtain ⟨hx, hb, hml, hown, hts, hr, hlocks⟩ := id C
  intro n
  induction n with
  | zero => intro σ x1 x2 H locs ls h G hl; exact False.elim h
  | succ n ih =>
    intro σ x1 x2 H locs ls h G hl
    rw [b_X4_shortenBy_2] at h
    refine lv_iload_n hx hb dX4_shortenBy_2 rfl (lv_at hl 2 rfl) ?_
    refine lv_bipush (v := (10 : Int32)) hx hb dX4_shortenBy_3 (by decide) ?_
    refine lv_icmp_ge (tgt := 64) hx hb dX4_shortenBy_5 (by decide) (fun c2 => ?_) (fun c2 => ?_)
    · have h := h.1 c2
      exact e_vret hx hb hr hlocks G h dX4_shortenBy_64
    · have h := h.2 c2
      refine lv_iconst (v := (0 : Int32)) hx hb dX4_shortenBy_8 (by decide) ?_
      refine lv_topi (fun v3 ev3 => ?_)
      have h := h v3 ev3
      refine lv_istore_n (lv' := [(3, .int (v3)), (0, .ref (ρ (18))), (1, .int (x1)), (2, .int (x2))]) hx hb dX4_shortenBy_9 rfl hl (by decide) rfl (fun ls hl => ?_)
      obtain ⟨n16, h⟩ := h
      exact l_X4_shortenBy_10 C K (hK2 := ih) n16 σ x1 x2 v3 _ _ _  h G (lv_sub hl [1, 2, 3, 0] rfl)
def w_X4_shortenBy (σ : eS) (x1 : Int32) (post : eS → Prop) : Prop := ∀ v1 : Int32, v1 = (0 : Int32) → (∃ n17 : Nat, b_X4_shortenBy_2 post n17 σ x1 v1)
set_option maxHeartbeats 4000000 in
set_option maxRecDepth 100000 in
theorem c_X4_shortenBy {l : Launch} {D : va_G} {ρ : Nat → Nat} {κ : Nat → ClassId} {base : Nat} {σ : eS} {x1 : Int32} {post : eS → Prop} (h : w_X4_shortenBy σ x1 post) : gMv l yX4_shortenBy wsX4_shortenBy rm_X4_shortenBy D ρ κ base [.ref (ρ (18)), .int (x1)] σ post := by
  refine e_ofWv (cc := cX4_shortenBy) (maxL := 4) (ret := none) (by decide) rfl (Nat.le_of_ble_eq_true rfl) ?_
  intro p e s m below meth c ls C K G hl
  obtain ⟨hx, hb, hml, hown, hts, hr, hlocks⟩ := id C
  have hl : lv_has ls 4 [(0, .ref (ρ (18))), (1, .int (x1))] := hl
  unfold w_X4_shortenBy at h
  refine lv_iconst (v := (0 : Int32)) hx hb dX4_shortenBy_0 (by decide) ?_
  refine lv_topi (fun v1 ev1 => ?_)
  have h := h v1 ev1
  refine lv_istore_n (lv' := [(2, .int (v1)), (0, .ref (ρ (18))), (1, .int (x1))]) hx hb dX4_shortenBy_1 rfl hl (by decide) rfl (fun ls hl => ?_)
  obtain ⟨n17, h⟩ := h
  exact l_X4_shortenBy_2 C K n17 σ x1 v1 _ _ _  h G (lv_sub hl [1, 2, 0] rfl)
abbrev rm_X4_measure : Room := { frames := 2, cells := 0, slots := 0, locals := 38 }
theorem in_X4_measure_X1 : ∀ w ∈ wsX10, w ∈ wsX4_measure := fun w h => List.mem_cons_of_mem _ (List.mem_append_left _ (List.mem_append_right _ h))
theorem in_X4_measure_X4 : ∀ w ∈ wsX40, w ∈ wsX4_measure := fun w h => List.mem_cons_of_mem _ (List.mem_append_right _ h)
def b_X4_measure_79 (post : eS → Prop) : Nat → eS → Int32 → Prop
  | 0, _, _ => False
  | n + 1, σ, x2 => (((10 : Int32) ≤ x2 → post σ) ∧ (¬ ((10 : Int32) ≤ x2) → w_X4_shortenBy σ x2 (fun σ6 => ∀ v7 : Int32, v7 = (x2 + (1 : Int32)) → b_X4_measure_79 post n σ6 v7)))
set_option maxHeartbeats 4000000 in
set_option maxRecDepth 100000 in
theorem l_X4_measure_79 {p : Program} {l : Launch} {e : Env} {s : State} {m : MethodId} {args : Array Value} {below : List Frame} {meth : Method} {c : Code} {D : va_G} {ρ : Nat → Nat} {κ : Nat → ClassId} {base : Nat} {post : eS → Prop} (C : eCx p s m args meth c cX4_measure RX4 6 none wsX4_measure) (K : gK D ρ κ base s) : ∀ (n : Nat) (σ : eS) (x2 : Int32) (H : Heap) (locs : List Loc) (ls : Array Slot), b_X4_measure_79 post n σ x2 → gG D ρ κ base s σ H locs → lv_has ls 6 [(0, .ref (ρ (18))), (2, .int (x2))] → W p l e rm_X4_measure s m args below meth c H locs 0 0 (gQv below args s D ρ κ base post) (F0 m 79 ls []) := by
  obtain ⟨hx, hb, hml, hown, hts, hr, hlocks⟩ := id C
  intro n
  induction n with
  | zero => intro σ x2 H locs ls h G hl; exact False.elim h
  | succ n ih =>
    intro σ x2 H locs ls h G hl
    rw [b_X4_measure_79] at h
    refine lv_iload_n hx hb dX4_measure_79 rfl (lv_at hl 1 rfl) ?_
    refine lv_bipush (v := (10 : Int32)) hx hb dX4_measure_80 (by decide) ?_
    refine lv_icmp_ge (tgt := 96) hx hb dX4_measure_82 (by decide) (fun c5 => ?_) (fun c5 => ?_)
    · have h := h.1 c5
      exact e_vret hx hb hr hlocks G h dX4_measure_96
    · have h := h.2 c5
      refine lv_aload_n hx hb dX4_measure_85 rfl (lv_at hl 0 rfl) ?_
      refine lv_iload_n hx hb dX4_measure_86 rfl (lv_at hl 1 rfl) ?_
      refine e_callVv (As := [.int (x2)]) (rest := []) ⟨hx, hb, hml, hown, hts⟩ K G 18 (by decide) gl_18 rfl (c_X4_shortenBy h) (cwV 1 hts gX4_measure_X4_shortenBy rfl rfl rfl (by decide +kernel) ⟨Nat.le_of_ble_eq_true rfl, Nat.le_of_ble_eq_true rfl⟩) rfl hl.1 rfl (Nat.le_of_ble_eq_true rfl) dX4_measure_87 ⟨Nat.zero_le _, Nat.zero_le _⟩ (fun σ6 H locs h G => ?_)
      obtain ⟨v7, ev7⟩ : ∃ y : Int32, y = x2 + (1 : Int32) := ⟨_, rfl⟩
      have h := h v7 ev7
      refine lv_iinc (v := v7) (lv' := [(2, .int (v7)), (0, .ref (ρ (18)))]) hx hb dX4_measure_90 hl (k := 1) rfl (by rw [ev7]; rfl) (by decide) rfl (fun ls hl => ?_)
      refine lv_goto (tgt := 79) hx hb dX4_measure_93 (by decide) ?_
      exact ih σ6 v7 _ _ _  h G (lv_sub hl [1, 0] rfl)
def b_X4_measure_6 (post : eS → Prop) : Nat → eS → Int32 → Prop
  | 0, _, _ => False
  | n + 1, σ, x2 => (((σ.1 5 4) ≤ x2 → ∀ v4 : Int32, v4 = (0 : Int32) → (∃ n8 : Nat, b_X4_measure_79 post n8 σ v4)) ∧ (¬ ((σ.1 5 4) ≤ x2) → (vp_in x2 12) ∧ ∀ v10 : Int32, v10 = (σ.1 19 x2.toNatClampNeg) → (vp_in x2 12) ∧ ∀ v12 : Int32, v12 = (σ.1 20 x2.toNatClampNeg) → (vp_in v10 10) ∧ (vp_in v12 10) ∧ (vp_in x2 12) ∧ ∀ v16 : Int32, v16 = (if (σ.1 14 x2.toNatClampNeg) < (σ.1 (22 + v10.toNatClampNeg) v12.toNatClampNeg) then (σ.1 14 x2.toNatClampNeg) else (σ.1 (22 + v10.toNatClampNeg) v12.toNatClampNeg)) → (vp_in v10 10) ∧ (vp_in v12 10) ∧ ∀ σ19 : eS, σ19 = e_ui σ (22 + v10.toNatClampNeg) v12.toNatClampNeg v16 → (vp_in v12 10) ∧ (vp_in v10 10) ∧ ∀ σ22 : eS, σ22 = e_ui σ19 (22 + v12.toNatClampNeg) v10.toNatClampNeg v16 → ∀ v23 : Int32, v23 = (x2 + (1 : Int32)) → b_X4_measure_6 post n σ22 v23))
set_option maxHeartbeats 4000000 in
set_option maxRecDepth 100000 in
theorem l_X4_measure_6 {p : Program} {l : Launch} {e : Env} {s : State} {m : MethodId} {args : Array Value} {below : List Frame} {meth : Method} {c : Code} {D : va_G} {ρ : Nat → Nat} {κ : Nat → ClassId} {base : Nat} {post : eS → Prop} (C : eCx p s m args meth c cX4_measure RX4 6 none wsX4_measure) (K : gK D ρ κ base s) : ∀ (n : Nat) (σ : eS) (x2 : Int32) (H : Heap) (locs : List Loc) (ls : Array Slot), b_X4_measure_6 post n σ x2 → gG D ρ κ base s σ H locs → lv_has ls 6 [(0, .ref (ρ (18))), (1, .ref (ρ (5))), (2, .int (x2))] → W p l e rm_X4_measure s m args below meth c H locs 0 0 (gQv below args s D ρ κ base post) (F0 m 6 ls []) := by
  obtain ⟨hx, hb, hml, hown, hts, hr, hlocks⟩ := id C
  intro n
  induction n with
  | zero => intro σ x2 H locs ls h G hl; exact False.elim h
  | succ n ih =>
    intro σ x2 H locs ls h G hl
    rw [b_X4_measure_6] at h
    refine lv_iload_n hx hb dX4_measure_6 rfl (lv_at hl 2 rfl) ?_
    refine lv_aload_n hx hb dX4_measure_7 rfl (lv_at hl 1 rfl) ?_
    refine e_getiN hx hb hts in_X4_measure_X1 hown K G 5 (by decide) gl_5 rfl 4 (by decide) rfl (e_memq (n := 16) rfl) dX4_measure_8 ?_
    refine lv_icmp_ge (tgt := 77) hx hb dX4_measure_11 (by decide) (fun c3 => ?_) (fun c3 => ?_)
    · have h := h.1 c3
      refine lv_iconst (v := (0 : Int32)) hx hb dX4_measure_77 (by decide) ?_
      refine lv_topi (fun v4 ev4 => ?_)
      have h := h v4 ev4
      refine lv_istore_n (lv' := [(2, .int (v4)), (0, .ref (ρ (18))), (1, .ref (ρ (5)))]) hx hb dX4_measure_78 rfl hl (by decide) rfl (fun ls hl => ?_)
      obtain ⟨n8, h⟩ := h
      exact l_X4_measure_79 C K n8 σ v4 _ _ _  h G (lv_sub hl [1, 0] rfl)
    · have h := h.2 c3
      refine lv_aload_n hx hb dX4_measure_14 rfl (lv_at hl 0 rfl) ?_
      refine e_getq hx hb hts in_X4_measure_X4 hown K G 18 (by decide) gl_18 rfl 0 (by decide) 19 rfl (hts (.fieldLink RX4 9 "StreetsStepOn$Roads" "firsts" "[I") (e_mem (n := 1) rfl)) dX4_measure_15 ?_
      refine lv_iload_n hx hb dX4_measure_18 rfl (lv_at hl 2 rfl) ?_
      have hi9 := h.1
      have h := h.2
      refine e_iald hx hb K G 19 0 0 12 (by decide) gl_19 rfl hi9 dX4_measure_19 ?_
      refine lv_topi (fun v10 ev10 => ?_)
      have h := h v10 ev10
      refine lv_istore_n (lv' := [(3, .int (v10)), (0, .ref (ρ (18))), (1, .ref (ρ (5))), (2, .int (x2))]) hx hb dX4_measure_20 rfl hl (by decide) rfl (fun ls hl => ?_)
      refine lv_aload_n hx hb dX4_measure_21 rfl (lv_at hl 1 rfl) ?_
      refine e_getq hx hb hts in_X4_measure_X4 hown K G 18 (by decide) gl_18 rfl 1 (by decide) 20 rfl (hts (.fieldLink RX4 15 "StreetsStepOn$Roads" "others" "[I") (e_mem (n := 2) rfl)) dX4_measure_22 ?_
      refine lv_iload_n hx hb dX4_measure_25 rfl (lv_at hl 3 rfl) ?_
      have hi11 := h.1
      have h := h.2
      refine e_iald hx hb K G 20 0 0 12 (by decide) gl_20 rfl hi11 dX4_measure_26 ?_
      refine lv_topi (fun v12 ev12 => ?_)
      have h := h v12 ev12
      refine lv_istore (lv' := [(4, .int (v12)), (3, .int (v10)), (0, .ref (ρ (18))), (1, .ref (ρ (5))), (2, .int (x2))]) hx hb dX4_measure_27 hl (by decide) rfl (fun ls hl => ?_)
      refine lv_aload_n hx hb dX4_measure_29 rfl (lv_at hl 2 rfl) ?_
      refine e_getq hx hb hts in_X4_measure_X4 hown K G 18 (by decide) gl_18 rfl 2 (by decide) 21 rfl (hts (.fieldLink RX4 20 "StreetsStepOn$Roads" "ways" "[[I") (e_mem (n := 3) rfl)) dX4_measure_30 ?_
      refine lv_iload_n hx hb dX4_measure_33 rfl (lv_at hl 1 rfl) ?_
      have hi13 := h.1
      have h := h.2
      refine e_aald hx hb K G 21 5 5 10 (by decide) _ gl_21 rfl rfl hi13 (22 + v10.toNatClampNeg) (gr_21 _ (e_lt hi13)).1 dX4_measure_34 ?_
      refine lv_iload hx hb dX4_measure_35 (lv_at hl 0 rfl) ?_
      have hi14 := h.1
      have h := h.2
      refine e_iald hx hb K G (22 + v10.toNatClampNeg) 0 0 10 (gr_21 _ (e_lt hi13)).2.2 (gr_21 _ (e_lt hi13)).2.1 rfl hi14 dX4_measure_37 ?_
      refine lv_aload_n hx hb dX4_measure_38 rfl (lv_at hl 3 rfl) ?_
      refine e_getqN hx hb hts in_X4_measure_X1 hown K G 5 (by decide) gl_5 rfl 1 (by decide) 14 rfl (e_memq (n := 10) rfl) dX4_measure_39 ?_
      refine lv_iload_n hx hb dX4_measure_42 rfl (lv_at hl 4 rfl) ?_
      have hi15 := h.1
      have h := h.2
      refine e_iald hx hb K G 14 0 0 12 (by decide) gl_14 rfl hi15 dX4_measure_43 ?_
      refine va_mmin hx hb (hml.trans hl.1.symm) hown (hts (.methodLink RX4 35 Lib.Math.min.name) (e_mem (n := 4) rfl)) (hts (.static Lib.Math.min.name) (e_mem (n := 5) rfl)) (hts (.initialized "java/lang/Math") (e_mem (n := 6) rfl)) (hts (.code Lib.Math.min.name Lib.Math.min.code 2 (some .int)) (e_mem (n := 7) rfl)) (Nat.le_of_ble_eq_true rfl) (Nat.le_of_ble_eq_true rfl) (Nat.zero_le _) (Nat.zero_le _) dX4_measure_44 ?_
      refine lv_topi (fun v16 ev16 => ?_)
      have h := h v16 ev16
      refine lv_istore (lv' := [(5, .int (v16)), (4, .int (v12)), (3, .int (v10)), (0, .ref (ρ (18))), (1, .ref (ρ (5))), (2, .int (x2))]) hx hb dX4_measure_47 hl (by decide) rfl (fun ls hl => ?_)
      refine lv_aload_n hx hb dX4_measure_49 rfl (lv_at hl 3 rfl) ?_
      refine e_getq hx hb hts in_X4_measure_X4 hown K G 18 (by decide) gl_18 rfl 2 (by decide) 21 rfl (hts (.fieldLink RX4 20 "StreetsStepOn$Roads" "ways" "[[I") (e_mem (n := 3) rfl)) dX4_measure_50 ?_
      refine lv_iload_n hx hb dX4_measure_53 rfl (lv_at hl 2 rfl) ?_
      have hi17 := h.1
      have h := h.2
      refine e_aald hx hb K G 21 5 5 10 (by decide) _ gl_21 rfl rfl hi17 (22 + v10.toNatClampNeg) (gr_21 _ (e_lt hi17)).1 dX4_measure_54 ?_
      refine lv_iload hx hb dX4_measure_55 (lv_at hl 1 rfl) ?_
      refine lv_iload hx hb dX4_measure_57 (lv_at hl 0 rfl) ?_
      have hi18 := h.1
      have h := h.2
      refine e_iast hx hb K G (22 + v10.toNatClampNeg) 0 0 10 (gr_21 _ (e_lt hi17)).2.2 (gr_21 _ (e_lt hi17)).2.1 rfl hi18 dX4_measure_59 (fun H locs G => ?_)
      obtain ⟨σ19, eσ19⟩ : ∃ z : eS, z = e_ui σ (22 + v10.toNatClampNeg) v12.toNatClampNeg v16 := ⟨_, rfl⟩
      rw [← eσ19] at G
      have h := h σ19 eσ19
      refine lv_aload_n hx hb dX4_measure_60 rfl (lv_at hl 3 rfl) ?_
      refine e_getq hx hb hts in_X4_measure_X4 hown K G 18 (by decide) gl_18 rfl 2 (by decide) 21 rfl (hts (.fieldLink RX4 20 "StreetsStepOn$Roads" "ways" "[[I") (e_mem (n := 3) rfl)) dX4_measure_61 ?_
      refine lv_iload hx hb dX4_measure_64 (lv_at hl 1 rfl) ?_
      have hi20 := h.1
      have h := h.2
      refine e_aald hx hb K G 21 5 5 10 (by decide) _ gl_21 rfl rfl hi20 (22 + v12.toNatClampNeg) (gr_21 _ (e_lt hi20)).1 dX4_measure_66 ?_
      refine lv_iload_n hx hb dX4_measure_67 rfl (lv_at hl 2 rfl) ?_
      refine lv_iload hx hb dX4_measure_68 (lv_at hl 0 rfl) ?_
      have hi21 := h.1
      have h := h.2
      refine e_iast hx hb K G (22 + v12.toNatClampNeg) 0 0 10 (gr_21 _ (e_lt hi20)).2.2 (gr_21 _ (e_lt hi20)).2.1 rfl hi21 dX4_measure_70 (fun H locs G => ?_)
      obtain ⟨σ22, eσ22⟩ : ∃ z : eS, z = e_ui σ19 (22 + v12.toNatClampNeg) v10.toNatClampNeg v16 := ⟨_, rfl⟩
      rw [← eσ22] at G
      have h := h σ22 eσ22
      obtain ⟨v23, ev23⟩ : ∃ y : Int32, y = x2 + (1 : Int32) := ⟨_, rfl⟩
      have h := h v23 ev23
      refine lv_iinc (v := v23) (lv' := [(2, .int (v23)), (5, .int (v16)), (4, .int (v12)), (3, .int (v10)), (0, .ref (ρ (18))), (1, .ref (ρ (5)))]) hx hb dX4_measure_71 hl (k := 5) rfl (by rw [ev23]; rfl) (by decide) rfl (fun ls hl => ?_)
      refine lv_goto (tgt := 6) hx hb dX4_measure_74 (by decide) ?_
      exact ih σ22 v23 _ _ _  h G (lv_sub hl [4, 5, 0] rfl)
def w_X4_measure (σ : eS) (post : eS → Prop) : Prop := w_X4_stayAway σ (fun σ1 => ∀ v2 : Int32, v2 = (0 : Int32) → (∃ n24 : Nat, b_X4_measure_6 post n24 σ1 v2))
set_option maxHeartbeats 4000000 in
set_option maxRecDepth 100000 in
theorem c_X4_measure {l : Launch} {D : va_G} {ρ : Nat → Nat} {κ : Nat → ClassId} {base : Nat} {σ : eS} {post : eS → Prop} (h : w_X4_measure σ post) : gMv l yX4_measure wsX4_measure rm_X4_measure D ρ κ base [.ref (ρ (18)), .ref (ρ (5))] σ post := by
  refine e_ofWv (cc := cX4_measure) (maxL := 6) (ret := none) (by decide) rfl (Nat.le_of_ble_eq_true rfl) ?_
  intro p e s m below meth c ls C K G hl
  obtain ⟨hx, hb, hml, hown, hts, hr, hlocks⟩ := id C
  have hl : lv_has ls 6 [(0, .ref (ρ (18))), (1, .ref (ρ (5)))] := hl
  unfold w_X4_measure at h
  refine lv_aload_n hx hb dX4_measure_0 rfl (lv_at hl 0 rfl) ?_
  refine e_callVv (As := []) (rest := []) ⟨hx, hb, hml, hown, hts⟩ K G 18 (by decide) gl_18 rfl (c_X4_stayAway h) (cwV 0 hts gX4_measure_X4_stayAway rfl rfl rfl (by decide +kernel) ⟨Nat.le_of_ble_eq_true rfl, Nat.le_of_ble_eq_true rfl⟩) rfl hl.1 rfl (Nat.le_of_ble_eq_true rfl) dX4_measure_1 ⟨Nat.zero_le _, Nat.zero_le _⟩ (fun σ1 H locs h G => ?_)
  refine lv_iconst (v := (0 : Int32)) hx hb dX4_measure_4 (by decide) ?_
  refine lv_topi (fun v2 ev2 => ?_)
  have h := h v2 ev2
  refine lv_istore_n (lv' := [(2, .int (v2)), (0, .ref (ρ (18))), (1, .ref (ρ (5)))]) hx hb dX4_measure_5 rfl hl (by decide) rfl (fun ls hl => ?_)
  obtain ⟨n24, h⟩ := h
  exact l_X4_measure_6 C K n24 σ1 v2 _ _ _  h G (lv_sub hl [1, 2, 0] rfl)
abbrev rm_X0_ownNames : Room := { frames := 0, cells := 0, slots := 0, locals := 0 }
def b_X0_ownNames_4 (post : Int64 → eS → Prop) : Nat → eS → Int32 → Int64 → Int32 → Prop
  | 0, _, _, _, _ => False
  | n + 1, σ, x0, x1, x3 => ((x0 ≤ x3 → post x1 σ) ∧ (¬ (x0 ≤ x3) → ∀ v4 : Int64, v4 = (x1 ||| ((x3.toInt64) <<< (((4 : Int32) * x3).toInt64 &&& 63))) → ∀ v5 : Int32, v5 = (x3 + (1 : Int32)) → b_X0_ownNames_4 post n σ x0 v4 v5))
set_option maxHeartbeats 4000000 in
set_option maxRecDepth 100000 in
theorem l_X0_ownNames_4 {p : Program} {l : Launch} {e : Env} {s : State} {m : MethodId} {args : Array Value} {below : List Frame} {meth : Method} {c : Code} {D : va_G} {ρ : Nat → Nat} {κ : Nat → ClassId} {base : Nat} {post : Int64 → eS → Prop} (C : eCx p s m args meth c cX0_ownNames RX0 4 (some .long) wsX0_ownNames) (K : gK D ρ κ base s) : ∀ (n : Nat) (σ : eS) (x0 : Int32) (x1 : Int64) (x3 : Int32) (H : Heap) (locs : List Loc) (ls : Array Slot), b_X0_ownNames_4 post n σ x0 x1 x3 → gG D ρ κ base s σ H locs → lv_has ls 4 [(0, .int (x0)), (1, .long (x1)), (3, .int (x3))] → W p l e rm_X0_ownNames s m args below meth c H locs 0 0 (gQl below args s D ρ κ base post) (F0 m 4 ls []) := by
  obtain ⟨hx, hb, hml, hown, hts, hr, hlocks⟩ := id C
  intro n
  induction n with
  | zero => intro σ x0 x1 x3 H locs ls h G hl; exact False.elim h
  | succ n ih =>
    intro σ x0 x1 x3 H locs ls h G hl
    rw [b_X0_ownNames_4] at h
    refine lv_iload_n hx hb dX0_ownNames_4 rfl (lv_at hl 2 rfl) ?_
    refine lv_iload_n hx hb dX0_ownNames_5 rfl (lv_at hl 0 rfl) ?_
    refine lv_icmp_ge (tgt := 24) hx hb dX0_ownNames_6 (by decide) (fun c3 => ?_) (fun c3 => ?_)
    · have h := h.1 c3
      refine lv_lload_n hx hb dX0_ownNames_24 rfl (lv_at hl 1 rfl) ?_
      exact e_lret hx hb hr hlocks G h dX0_ownNames_25
    · have h := h.2 c3
      refine lv_lload_n hx hb dX0_ownNames_9 rfl (lv_at hl 1 rfl) ?_
      refine lv_iload_n hx hb dX0_ownNames_10 rfl (lv_at hl 2 rfl) ?_
      refine lv_i2l hx hb dX0_ownNames_11 rfl ?_
      refine lv_iconst (v := (4 : Int32)) hx hb dX0_ownNames_12 (by decide) ?_
      refine lv_iload_n hx hb dX0_ownNames_13 rfl (lv_at hl 2 rfl) ?_
      refine lv_imul hx hb dX0_ownNames_14 ?_
      refine lv_lshl hx hb dX0_ownNames_15 rfl ?_
      refine lv_lor hx hb dX0_ownNames_16 ?_
      refine lv_topl (fun v4 ev4 => ?_)
      have h := h v4 ev4
      refine lv_lstore_n (lv' := [(1, .long (v4)), (0, .int (x0)), (3, .int (x3))]) hx hb dX0_ownNames_17 rfl hl (by decide) rfl (fun ls hl => ?_)
      obtain ⟨v5, ev5⟩ : ∃ y : Int32, y = x3 + (1 : Int32) := ⟨_, rfl⟩
      have h := h v5 ev5
      refine lv_iinc (v := v5) (lv' := [(3, .int (v5)), (1, .long (v4)), (0, .int (x0))]) hx hb dX0_ownNames_18 hl (k := 2) rfl (by rw [ev5]; rfl) (by decide) rfl (fun ls hl => ?_)
      refine lv_goto (tgt := 4) hx hb dX0_ownNames_21 (by decide) ?_
      exact ih σ x0 v4 v5 _ _ _  h G (lv_sub hl [2, 1, 0] rfl)
def w_X0_ownNames (σ : eS) (x0 : Int32) (post : Int64 → eS → Prop) : Prop := ∀ v1 : Int64, v1 = (0 : Int64) → ∀ v2 : Int32, v2 = (0 : Int32) → (∃ n6 : Nat, b_X0_ownNames_4 post n6 σ x0 v1 v2)
set_option maxHeartbeats 4000000 in
set_option maxRecDepth 100000 in
theorem c_X0_ownNames {l : Launch} {D : va_G} {ρ : Nat → Nat} {κ : Nat → ClassId} {base : Nat} {σ : eS} {x0 : Int32} {post : Int64 → eS → Prop} (h : w_X0_ownNames σ x0 post) : gMl l yX0_ownNames wsX0_ownNames rm_X0_ownNames D ρ κ base [.int (x0)] σ post := by
  refine e_ofWl (cc := cX0_ownNames) (maxL := 4) (ret := (some .long)) (by decide) rfl (Nat.le_of_ble_eq_true rfl) ?_
  intro p e s m below meth c ls C K G hl
  obtain ⟨hx, hb, hml, hown, hts, hr, hlocks⟩ := id C
  have hl : lv_has ls 4 [(0, .int (x0))] := hl
  unfold w_X0_ownNames at h
  refine lv_lconst (v := (0 : Int64)) hx hb dX0_ownNames_0 (by decide) ?_
  refine lv_topl (fun v1 ev1 => ?_)
  have h := h v1 ev1
  refine lv_lstore_n (lv' := [(1, .long (v1)), (0, .int (x0))]) hx hb dX0_ownNames_1 rfl hl (by decide) rfl (fun ls hl => ?_)
  refine lv_iconst (v := (0 : Int32)) hx hb dX0_ownNames_2 (by decide) ?_
  refine lv_topi (fun v2 ev2 => ?_)
  have h := h v2 ev2
  refine lv_istore_n (lv' := [(3, .int (v2)), (1, .long (v1)), (0, .int (x0))]) hx hb dX0_ownNames_3 rfl hl (by decide) rfl (fun ls hl => ?_)
  obtain ⟨n6, h⟩ := h
  exact l_X0_ownNames_4 C K n6 σ x0 v1 v2 _ _ _  h G (lv_sub hl [2, 1, 0] rfl)
abbrev rm_X0_firstOwnDay : Room := { frames := 1, cells := 0, slots := 0, locals := 23 }
theorem in_X0_firstOwnDay_X1 : ∀ w ∈ wsX10, w ∈ wsX0_firstOwnDay := fun w h => List.mem_cons_of_mem _ (List.mem_append_right _ h)
def b_X0_firstOwnDay_73 (post : Int32 → eS → Prop) (K32 : eS → Int32 → Int32 → Int64 → Int64 → Int32 → Prop) (σ : eS) (x1 : Int32) (x2 : Int32) (x3 : Int64) (x5 : Int64) (x7 : Int32) (y0 : Int32) : Prop := (vp_in y0 7) ∧ False
set_option maxHeartbeats 4000000 in
set_option maxRecDepth 100000 in
theorem l_X0_firstOwnDay_73 {p : Program} {l : Launch} {e : Env} {s : State} {m : MethodId} {args : Array Value} {below : List Frame} {meth : Method} {c : Code} {D : va_G} {ρ : Nat → Nat} {κ : Nat → ClassId} {base : Nat} {post : Int32 → eS → Prop} (C : eCx p s m args meth c cX0_firstOwnDay RX0 10 (some .int) wsX0_firstOwnDay) (K : gK D ρ κ base s) {K32 : eS → Int32 → Int32 → Int64 → Int64 → Int32 → Prop} (hK32 : ∀ (σ : eS) (x1 : Int32) (x2 : Int32) (x3 : Int64) (x5 : Int64) (x7 : Int32) (H : Heap) (locs : List Loc) (ls : Array Slot), K32 σ x1 x2 x3 x5 x7 → gG D ρ κ base s σ H locs → lv_has ls 10 [(0, .ref (ρ (5))), (1, .int (x1)), (2, .int (x2)), (3, .long (x3)), (5, .long (x5)), (7, .int (x7))] → W p l e rm_X0_firstOwnDay s m args below meth c H locs 0 0 (gQi below args s D ρ κ base post) (F0 m 32 ls [])) : ∀ (σ : eS) (x1 : Int32) (x2 : Int32) (x3 : Int64) (x5 : Int64) (x7 : Int32) (y0 : Int32) (H : Heap) (locs : List Loc) (ls : Array Slot), b_X0_firstOwnDay_73 post K32 σ x1 x2 x3 x5 x7 y0 → gG D ρ κ base s σ H locs → lv_has ls 10 [(0, .ref (ρ (5))), (1, .int (x1)), (2, .int (x2)), (3, .long (x3)), (5, .long (x5)), (7, .int (x7))] → W p l e rm_X0_firstOwnDay s m args below meth c H locs 0 0 (gQi below args s D ρ κ base post) (F0 m 73 ls [.int (y0)]) := by
  obtain ⟨hx, hb, hml, hown, hts, hr, hlocks⟩ := id C
  intro σ x1 x2 x3 x5 x7 y0 H locs ls h G hl
  unfold b_X0_firstOwnDay_73 at h
  refine lv_istore (lv' := [(9, .int (y0)), (0, .ref (ρ (5))), (1, .int (x1)), (2, .int (x2)), (3, .long (x3)), (5, .long (x5)), (7, .int (x7))]) hx hb dX0_firstOwnDay_73 hl (by decide) rfl (fun ls hl => ?_)
  refine lv_lload hx hb dX0_firstOwnDay_75 (lv_at hl 5 rfl) ?_
  refine lv_aload_n hx hb dX0_firstOwnDay_77 rfl (lv_at hl 1 rfl) ?_
  refine e_getqN hx hb hts in_X0_firstOwnDay_X1 hown K G 5 (by decide) gl_5 rfl 0 (by decide) 6 rfl (e_memq (n := 8) rfl) dX0_firstOwnDay_78 ?_
  refine lv_iload hx hb dX0_firstOwnDay_81 (lv_at hl 0 rfl) ?_
  have hi11 := h.1
  have h := h.2
  refine e_aald hx hb K G 6 5 5 7 (by decide) _ gl_6 rfl rfl hi11 (7 + y0.toNatClampNeg) (gr_6 _ (e_lt hi11)).1 dX0_firstOwnDay_83 ?_
  refine lv_aload_n hx hb dX0_firstOwnDay_84 rfl (lv_at hl 1 rfl) ?_
  refine e_getiN hx hb hts in_X0_firstOwnDay_X1 hown K G 5 (by decide) gl_5 rfl 4 (by decide) rfl (e_memq (n := 17) rfl) dX0_firstOwnDay_85 ?_
  exact h.elim
def b_X0_firstOwnDay_32 (post : Int32 → eS → Prop) : Nat → eS → Int32 → Int32 → Int64 → Int64 → Int32 → Prop
  | 0, _, _, _, _, _, _ => False
  | n + 1, σ, x1, x2, x3, x5, x7 => (((420 : Int32) < x7 → post (420 : Int32) σ) ∧ (¬ ((420 : Int32) < x7) → (¬ (σ.1 5 5) = 0) ∧ ∀ v8 : Int32, v8 = ((x7 - (1 : Int32)) - (x7 - (1 : Int32)) / (σ.1 5 5) * (σ.1 5 5)) → ((¬ v8 = x1 → ((¬ v8 = x2 → b_X0_firstOwnDay_73 post (fun s x1 x2 x3 x5 x7 => b_X0_firstOwnDay_32 post n s x1 x2 x3 x5 x7) σ x1 x2 x3 x5 x7 v8) ∧ (v8 = x2 → b_X0_firstOwnDay_73 post (fun s x1 x2 x3 x5 x7 => b_X0_firstOwnDay_32 post n s x1 x2 x3 x5 x7) σ x1 x2 x3 x5 x7 x1))) ∧ (v8 = x1 → b_X0_firstOwnDay_73 post (fun s x1 x2 x3 x5 x7 => b_X0_firstOwnDay_32 post n s x1 x2 x3 x5 x7) σ x1 x2 x3 x5 x7 x2))))
set_option maxHeartbeats 4000000 in
set_option maxRecDepth 100000 in
theorem l_X0_firstOwnDay_32 {p : Program} {l : Launch} {e : Env} {s : State} {m : MethodId} {args : Array Value} {below : List Frame} {meth : Method} {c : Code} {D : va_G} {ρ : Nat → Nat} {κ : Nat → ClassId} {base : Nat} {post : Int32 → eS → Prop} (C : eCx p s m args meth c cX0_firstOwnDay RX0 10 (some .int) wsX0_firstOwnDay) (K : gK D ρ κ base s) : ∀ (n : Nat) (σ : eS) (x1 : Int32) (x2 : Int32) (x3 : Int64) (x5 : Int64) (x7 : Int32) (H : Heap) (locs : List Loc) (ls : Array Slot), b_X0_firstOwnDay_32 post n σ x1 x2 x3 x5 x7 → gG D ρ κ base s σ H locs → lv_has ls 10 [(0, .ref (ρ (5))), (1, .int (x1)), (2, .int (x2)), (3, .long (x3)), (5, .long (x5)), (7, .int (x7))] → W p l e rm_X0_firstOwnDay s m args below meth c H locs 0 0 (gQi below args s D ρ κ base post) (F0 m 32 ls []) := by
  obtain ⟨hx, hb, hml, hown, hts, hr, hlocks⟩ := id C
  intro n
  induction n with
  | zero => intro σ x1 x2 x3 x5 x7 H locs ls h G hl; exact False.elim h
  | succ n ih =>
    intro σ x1 x2 x3 x5 x7 H locs ls h G hl
    rw [b_X0_firstOwnDay_32] at h
    refine lv_iload hx hb dX0_firstOwnDay_32 (lv_at hl 5 rfl) ?_
    refine lv_sipush (v := (420 : Int32)) hx hb dX0_firstOwnDay_34 (by decide) ?_
    refine lv_icmp_gt (tgt := 109) hx hb dX0_firstOwnDay_37 (by decide) (fun c6 => ?_) (fun c6 => ?_)
    · have h := h.1 c6
      refine lv_sipush (v := (420 : Int32)) hx hb dX0_firstOwnDay_109 (by decide) ?_
      exact e_iret hx hb hr hlocks G h dX0_firstOwnDay_112
    · have h := h.2 c6
      refine lv_iload hx hb dX0_firstOwnDay_40 (lv_at hl 5 rfl) ?_
      refine lv_iconst (v := (1 : Int32)) hx hb dX0_firstOwnDay_42 (by decide) ?_
      refine lv_isub hx hb dX0_firstOwnDay_43 ?_
      refine lv_aload_n hx hb dX0_firstOwnDay_44 rfl (lv_at hl 0 rfl) ?_
      refine e_getiN hx hb hts in_X0_firstOwnDay_X1 hown K G 5 (by decide) gl_5 rfl 5 (by decide) rfl (e_memq (n := 21) rfl) dX0_firstOwnDay_45 ?_
      have hn7 := h.1
      have h := h.2
      refine lv_irem hx hb dX0_firstOwnDay_48 hn7 ?_
      refine lv_topi (fun v8 ev8 => ?_)
      have h := h v8 ev8
      refine lv_istore (lv' := [(8, .int (v8)), (0, .ref (ρ (5))), (1, .int (x1)), (2, .int (x2)), (3, .long (x3)), (5, .long (x5)), (7, .int (x7))]) hx hb dX0_firstOwnDay_49 hl (by decide) rfl (fun ls hl => ?_)
      refine lv_iload hx hb dX0_firstOwnDay_51 (lv_at hl 0 rfl) ?_
      refine lv_iload_n hx hb dX0_firstOwnDay_53 rfl (lv_at hl 2 rfl) ?_
      refine lv_icmp_ne (tgt := 61) hx hb dX0_firstOwnDay_54 (by decide) (fun c9 => ?_) (fun c9 => ?_)
      · have h := h.1 c9
        refine lv_iload hx hb dX0_firstOwnDay_61 (lv_at hl 0 rfl) ?_
        refine lv_iload_n hx hb dX0_firstOwnDay_63 rfl (lv_at hl 3 rfl) ?_
        refine lv_icmp_ne (tgt := 71) hx hb dX0_firstOwnDay_64 (by decide) (fun c10 => ?_) (fun c10 => ?_)
        · have h := h.1 c10
          refine lv_iload hx hb dX0_firstOwnDay_71 (lv_at hl 0 rfl) ?_
          exact l_X0_firstOwnDay_73 C K (hK32 := ih) σ x1 x2 x3 x5 x7 v8 _ _ _  h G (lv_sub hl [1, 2, 3, 4, 5, 6] rfl)
        · have h := h.2 c10
          refine lv_iload_n hx hb dX0_firstOwnDay_67 rfl (lv_at hl 2 rfl) ?_
          refine lv_goto (tgt := 73) hx hb dX0_firstOwnDay_68 (by decide) ?_
          exact l_X0_firstOwnDay_73 C K (hK32 := ih) σ x1 x2 x3 x5 x7 x1 _ _ _  h G (lv_sub hl [1, 2, 3, 4, 5, 6] rfl)
      · have h := h.2 c9
        refine lv_iload_n hx hb dX0_firstOwnDay_57 rfl (lv_at hl 3 rfl) ?_
        refine lv_goto (tgt := 73) hx hb dX0_firstOwnDay_58 (by decide) ?_
        exact l_X0_firstOwnDay_73 C K (hK32 := ih) σ x1 x2 x3 x5 x7 x2 _ _ _  h G (lv_sub hl [1, 2, 3, 4, 5, 6] rfl)
def w_X0_firstOwnDay (σ : eS) (x1 : Int32) (x2 : Int32) (post : Int32 → eS → Prop) : Prop := (((σ.1 5 4) < (1 : Int32) → post (1 : Int32) σ) ∧ (¬ ((σ.1 5 4) < (1 : Int32)) → (((1 : Int32) ≤ (σ.1 5 5) → w_X0_ownNames σ (σ.1 5 4) (fun r4 σ3 => ∀ v5 : Int32, v5 = (1 : Int32) → (∃ n12 : Nat, b_X0_firstOwnDay_32 post n12 σ3 x1 x2 r4 r4 v5))) ∧ (¬ ((1 : Int32) ≤ (σ.1 5 5)) → post (1 : Int32) σ))))
set_option maxHeartbeats 4000000 in
set_option maxRecDepth 100000 in
theorem c_X0_firstOwnDay {l : Launch} {D : va_G} {ρ : Nat → Nat} {κ : Nat → ClassId} {base : Nat} {σ : eS} {x1 : Int32} {x2 : Int32} {post : Int32 → eS → Prop} (h : w_X0_firstOwnDay σ x1 x2 post) : gMi l yX0_firstOwnDay wsX0_firstOwnDay rm_X0_firstOwnDay D ρ κ base [.ref (ρ (5)), .int (x1), .int (x2)] σ post := by
  refine e_ofWi (cc := cX0_firstOwnDay) (maxL := 10) (ret := (some .int)) (by decide) rfl (Nat.le_of_ble_eq_true rfl) ?_
  intro p e s m below meth c ls C K G hl
  obtain ⟨hx, hb, hml, hown, hts, hr, hlocks⟩ := id C
  have hl : lv_has ls 10 [(0, .ref (ρ (5))), (1, .int (x1)), (2, .int (x2))] := hl
  unfold w_X0_firstOwnDay at h
  refine lv_aload_n hx hb dX0_firstOwnDay_0 rfl (lv_at hl 0 rfl) ?_
  refine e_getiN hx hb hts in_X0_firstOwnDay_X1 hown K G 5 (by decide) gl_5 rfl 4 (by decide) rfl (e_memq (n := 17) rfl) dX0_firstOwnDay_1 ?_
  refine lv_iconst (v := (1 : Int32)) hx hb dX0_firstOwnDay_4 (by decide) ?_
  refine lv_icmp_lt (tgt := 16) hx hb dX0_firstOwnDay_5 (by decide) (fun c1 => ?_) (fun c1 => ?_)
  · have h := h.1 c1
    refine lv_iconst (v := (1 : Int32)) hx hb dX0_firstOwnDay_16 (by decide) ?_
    exact e_iret hx hb hr hlocks G h dX0_firstOwnDay_17
  · have h := h.2 c1
    refine lv_aload_n hx hb dX0_firstOwnDay_8 rfl (lv_at hl 0 rfl) ?_
    refine e_getiN hx hb hts in_X0_firstOwnDay_X1 hown K G 5 (by decide) gl_5 rfl 5 (by decide) rfl (e_memq (n := 21) rfl) dX0_firstOwnDay_9 ?_
    refine lv_iconst (v := (1 : Int32)) hx hb dX0_firstOwnDay_12 (by decide) ?_
    refine lv_icmp_ge (tgt := 18) hx hb dX0_firstOwnDay_13 (by decide) (fun c2 => ?_) (fun c2 => ?_)
    · have h := h.1 c2
      refine lv_aload_n hx hb dX0_firstOwnDay_18 rfl (lv_at hl 0 rfl) ?_
      refine e_getiN hx hb hts in_X0_firstOwnDay_X1 hown K G 5 (by decide) gl_5 rfl 4 (by decide) rfl (e_memq (n := 17) rfl) dX0_firstOwnDay_19 ?_
      refine e_callSl (As := [.int (σ.1 5 4)]) (rest := []) ⟨hx, hb, hml, hown, hts⟩ K G (c_X0_ownNames h) (va_cwS 1 hts gX0_firstOwnDay_X0_ownNames rfl rfl rfl (by decide +kernel) ⟨Nat.le_of_ble_eq_true rfl, Nat.le_of_ble_eq_true rfl⟩) rfl hl.1 rfl (Nat.le_of_ble_eq_true rfl) dX0_firstOwnDay_22 ⟨Nat.zero_le _, Nat.zero_le _⟩ (fun r4 σ3 H locs h G => ?_)
      refine lv_lstore_n (lv' := [(3, .long (r4)), (0, .ref (ρ (5))), (1, .int (x1)), (2, .int (x2))]) hx hb dX0_firstOwnDay_25 rfl hl (by decide) rfl (fun ls hl => ?_)
      refine lv_lload_n hx hb dX0_firstOwnDay_26 rfl (lv_at hl 0 rfl) ?_
      refine lv_lstore (lv' := [(5, .long (r4)), (3, .long (r4)), (0, .ref (ρ (5))), (1, .int (x1)), (2, .int (x2))]) hx hb dX0_firstOwnDay_27 hl (by decide) rfl (fun ls hl => ?_)
      refine lv_iconst (v := (1 : Int32)) hx hb dX0_firstOwnDay_29 (by decide) ?_
      refine lv_topi (fun v5 ev5 => ?_)
      have h := h v5 ev5
      refine lv_istore (lv' := [(7, .int (v5)), (5, .long (r4)), (3, .long (r4)), (0, .ref (ρ (5))), (1, .int (x1)), (2, .int (x2))]) hx hb dX0_firstOwnDay_30 hl (by decide) rfl (fun ls hl => ?_)
      obtain ⟨n12, h⟩ := h
      exact l_X0_firstOwnDay_32 C K n12 σ3 x1 x2 r4 r4 v5 _ _ _  h G (lv_sub hl [3, 4, 5, 2, 1, 0] rfl)
    · have h := h.2 c2
      refine lv_iconst (v := (1 : Int32)) hx hb dX0_firstOwnDay_16 (by decide) ?_
      exact e_iret hx hb hr hlocks G h dX0_firstOwnDay_17
abbrev rm_X0_reckon : Room := { frames := 2, cells := 0, slots := 0, locals := 52 }
theorem in_X0_reckon_X0 : ∀ w ∈ wsX00, w ∈ wsX0_reckon := fun w h => List.mem_cons_of_mem _ (List.mem_append_right _ h)
theorem in_X0_reckon_X1 : ∀ w ∈ wsX10, w ∈ wsX0_reckon := fun w h => List.mem_cons_of_mem _ (List.mem_append_left _ (List.mem_append_right _ h))
def b_X0_reckon_60 (post : eS → Prop) : Nat → eS → Int64 → Int64 → Int32 → Prop
  | 0, _, _, _, _ => False
  | n + 1, σ, x2, x4, x6 => (((420 : Int32) < x6 → post σ) ∧ (¬ ((420 : Int32) < x6) → (¬ (σ.1 5 5) = 0) ∧ (vp_in ((x6 - (1 : Int32)) - (x6 - (1 : Int32)) / (σ.1 5 5) * (σ.1 5 5)) 7) ∧ False))
set_option maxHeartbeats 4000000 in
set_option maxRecDepth 100000 in
theorem l_X0_reckon_60 {p : Program} {l : Launch} {e : Env} {s : State} {m : MethodId} {args : Array Value} {below : List Frame} {meth : Method} {c : Code} {D : va_G} {ρ : Nat → Nat} {κ : Nat → ClassId} {base : Nat} {post : eS → Prop} (C : eCx p s m args meth c cX0_reckon RX0 7 none wsX0_reckon) (K : gK D ρ κ base s) : ∀ (n : Nat) (σ : eS) (x2 : Int64) (x4 : Int64) (x6 : Int32) (H : Heap) (locs : List Loc) (ls : Array Slot), b_X0_reckon_60 post n σ x2 x4 x6 → gG D ρ κ base s σ H locs → lv_has ls 7 [(0, .ref (ρ (32))), (1, .ref (ρ (5))), (2, .long (x2)), (4, .long (x4)), (6, .int (x6))] → W p l e rm_X0_reckon s m args below meth c H locs 0 0 (gQv below args s D ρ κ base post) (F0 m 60 ls []) := by
  obtain ⟨hx, hb, hml, hown, hts, hr, hlocks⟩ := id C
  intro n
  induction n with
  | zero => intro σ x2 x4 x6 H locs ls h G hl; exact False.elim h
  | succ n ih =>
    intro σ x2 x4 x6 H locs ls h G hl
    rw [b_X0_reckon_60] at h
    refine lv_iload hx hb dX0_reckon_60 (lv_at hl 4 rfl) ?_
    refine lv_sipush (v := (420 : Int32)) hx hb dX0_reckon_62 (by decide) ?_
    refine lv_icmp_gt (tgt := 156) hx hb dX0_reckon_65 (by decide) (fun c14 => ?_) (fun c14 => ?_)
    · have h := h.1 c14
      exact e_vret hx hb hr hlocks G h dX0_reckon_156
    · have h := h.2 c14
      refine lv_lload hx hb dX0_reckon_68 (lv_at hl 3 rfl) ?_
      refine lv_aload_n hx hb dX0_reckon_70 rfl (lv_at hl 1 rfl) ?_
      refine e_getqN hx hb hts in_X0_reckon_X1 hown K G 5 (by decide) gl_5 rfl 0 (by decide) 6 rfl (e_memq (n := 8) rfl) dX0_reckon_71 ?_
      refine lv_iload hx hb dX0_reckon_74 (lv_at hl 4 rfl) ?_
      refine lv_iconst (v := (1 : Int32)) hx hb dX0_reckon_76 (by decide) ?_
      refine lv_isub hx hb dX0_reckon_77 ?_
      refine lv_aload_n hx hb dX0_reckon_78 rfl (lv_at hl 1 rfl) ?_
      refine e_getiN hx hb hts in_X0_reckon_X1 hown K G 5 (by decide) gl_5 rfl 5 (by decide) rfl (e_memq (n := 21) rfl) dX0_reckon_79 ?_
      have hn15 := h.1
      have h := h.2
      refine lv_irem hx hb dX0_reckon_82 hn15 ?_
      have hi16 := h.1
      have h := h.2
      refine e_aald hx hb K G 6 5 5 7 (by decide) _ gl_6 rfl rfl hi16 (7 + ((x6 - (1 : Int32)) - (x6 - (1 : Int32)) / (σ.1 5 5) * (σ.1 5 5)).toNatClampNeg) (gr_6 _ (e_lt hi16)).1 dX0_reckon_83 ?_
      refine lv_aload_n hx hb dX0_reckon_84 rfl (lv_at hl 1 rfl) ?_
      refine e_getiN hx hb hts in_X0_reckon_X1 hown K G 5 (by decide) gl_5 rfl 4 (by decide) rfl (e_memq (n := 17) rfl) dX0_reckon_85 ?_
      exact h.elim
def w_X0_reckon (σ : eS) (post : eS → Prop) : Prop := w_X0_ownNames σ (σ.1 5 4) (fun r2 σ1 => (vp_in (0 : Int32) 420) ∧ ∀ σ4 : eS, σ4 = e_ul σ1 33 ((0 : Int32)).toNatClampNeg r2 → (vp_in (0 : Int32) 420) ∧ ∀ σ6 : eS, σ6 = e_ul σ4 34 ((0 : Int32)).toNatClampNeg r2 → ∀ σ7 : eS, σ7 = e_ui σ6 32 2 (1 : Int32) → w_X0_firstOwnDay σ7 (0 : Int32) (0 : Int32) (fun r9 σ8 => ∀ σ10 : eS, σ10 = e_ui σ8 32 3 r9 → (((σ10.1 5 4) < (1 : Int32) → post σ10) ∧ (¬ ((σ10.1 5 4) < (1 : Int32)) → (((1 : Int32) ≤ (σ10.1 5 5) → ∀ v13 : Int32, v13 = (1 : Int32) → (∃ n17 : Nat, b_X0_reckon_60 post n17 σ10 r2 r2 v13)) ∧ (¬ ((1 : Int32) ≤ (σ10.1 5 5)) → post σ10))))))
set_option maxHeartbeats 4000000 in
set_option maxRecDepth 100000 in
theorem c_X0_reckon {l : Launch} {D : va_G} {ρ : Nat → Nat} {κ : Nat → ClassId} {base : Nat} {σ : eS} {post : eS → Prop} (h : w_X0_reckon σ post) : gMv l yX0_reckon wsX0_reckon rm_X0_reckon D ρ κ base [.ref (ρ (32)), .ref (ρ (5))] σ post := by
  refine e_ofWv (cc := cX0_reckon) (maxL := 7) (ret := none) (by decide) rfl (Nat.le_of_ble_eq_true rfl) ?_
  intro p e s m below meth c ls C K G hl
  obtain ⟨hx, hb, hml, hown, hts, hr, hlocks⟩ := id C
  have hl : lv_has ls 7 [(0, .ref (ρ (32))), (1, .ref (ρ (5)))] := hl
  unfold w_X0_reckon at h
  refine lv_aload_n hx hb dX0_reckon_0 rfl (lv_at hl 1 rfl) ?_
  refine e_getiN hx hb hts in_X0_reckon_X1 hown K G 5 (by decide) gl_5 rfl 4 (by decide) rfl (e_memq (n := 17) rfl) dX0_reckon_1 ?_
  refine e_callSl (As := [.int (σ.1 5 4)]) (rest := []) ⟨hx, hb, hml, hown, hts⟩ K G (c_X0_ownNames h) (va_cwS 1 hts gX0_reckon_X0_ownNames rfl rfl rfl (by decide +kernel) ⟨Nat.le_of_ble_eq_true rfl, Nat.le_of_ble_eq_true rfl⟩) rfl hl.1 rfl (Nat.le_of_ble_eq_true rfl) dX0_reckon_4 ⟨Nat.zero_le _, Nat.zero_le _⟩ (fun r2 σ1 H locs h G => ?_)
  refine lv_lstore_n (lv' := [(2, .long (r2)), (0, .ref (ρ (32))), (1, .ref (ρ (5)))]) hx hb dX0_reckon_7 rfl hl (by decide) rfl (fun ls hl => ?_)
  refine lv_aload_n hx hb dX0_reckon_8 rfl (lv_at hl 1 rfl) ?_
  refine e_getq hx hb hts in_X0_reckon_X0 hown K G 32 (by decide) gl_32 rfl 0 (by decide) 33 rfl (hts (.fieldLink RX0 11 "StreetsStepOn$Almanac" "names" "[J") (e_mem (n := 1) rfl)) dX0_reckon_9 ?_
  refine lv_iconst (v := (0 : Int32)) hx hb dX0_reckon_12 (by decide) ?_
  refine lv_lload_n hx hb dX0_reckon_13 rfl (lv_at hl 0 rfl) ?_
  have hi3 := h.1
  have h := h.2
  refine e_last hx hb K G 33 1 1 420 (by decide) gl_33 rfl hi3 dX0_reckon_14 (fun H locs G => ?_)
  obtain ⟨σ4, eσ4⟩ : ∃ z : eS, z = e_ul σ1 33 ((0 : Int32)).toNatClampNeg r2 := ⟨_, rfl⟩
  rw [← eσ4] at G
  have h := h σ4 eσ4
  refine lv_aload_n hx hb dX0_reckon_15 rfl (lv_at hl 1 rfl) ?_
  refine e_getq hx hb hts in_X0_reckon_X0 hown K G 32 (by decide) gl_32 rfl 1 (by decide) 34 rfl (hts (.fieldLink RX0 15 "StreetsStepOn$Almanac" "bearers" "[J") (e_mem (n := 2) rfl)) dX0_reckon_16 ?_
  refine lv_iconst (v := (0 : Int32)) hx hb dX0_reckon_19 (by decide) ?_
  refine lv_lload_n hx hb dX0_reckon_20 rfl (lv_at hl 0 rfl) ?_
  have hi5 := h.1
  have h := h.2
  refine e_last hx hb K G 34 1 1 420 (by decide) gl_34 rfl hi5 dX0_reckon_21 (fun H locs G => ?_)
  obtain ⟨σ6, eσ6⟩ : ∃ z : eS, z = e_ul σ4 34 ((0 : Int32)).toNatClampNeg r2 := ⟨_, rfl⟩
  rw [← eσ6] at G
  have h := h σ6 eσ6
  refine lv_aload_n hx hb dX0_reckon_22 rfl (lv_at hl 1 rfl) ?_
  refine lv_iconst (v := (1 : Int32)) hx hb dX0_reckon_23 (by decide) ?_
  refine e_puti hx hb hts in_X0_reckon_X0 tyX0 tyX0_ok nmX0 hown K G 32 (by decide) gl_32 rfl 2 (by decide) rfl (hts (.fieldLink RX0 18 "StreetsStepOn$Almanac" "turn" "I") (e_mem (n := 3) rfl)) rfl (tyX0_ok 2 (by decide)) rfl rfl dX0_reckon_24 (fun H locs G => ?_)
  obtain ⟨σ7, eσ7⟩ : ∃ z : eS, z = e_ui σ6 32 2 (1 : Int32) := ⟨_, rfl⟩
  rw [← eσ7] at G
  have h := h σ7 eσ7
  refine lv_aload_n hx hb dX0_reckon_27 rfl (lv_at hl 1 rfl) ?_
  refine lv_aload_n hx hb dX0_reckon_28 rfl (lv_at hl 2 rfl) ?_
  refine lv_iconst (v := (0 : Int32)) hx hb dX0_reckon_29 (by decide) ?_
  refine lv_iconst (v := (0 : Int32)) hx hb dX0_reckon_30 (by decide) ?_
  refine e_callSi (As := [.ref (ρ (5)), .int ((0 : Int32)), .int ((0 : Int32))]) (rest := [.ref (ρ (32))]) ⟨hx, hb, hml, hown, hts⟩ K G (c_X0_firstOwnDay h) (va_cwS 3 hts gX0_reckon_X0_firstOwnDay rfl rfl rfl (by decide +kernel) ⟨Nat.le_of_ble_eq_true rfl, Nat.le_of_ble_eq_true rfl⟩) rfl hl.1 rfl (Nat.le_of_ble_eq_true rfl) dX0_reckon_31 ⟨Nat.zero_le _, Nat.zero_le _⟩ (fun r9 σ8 H locs h G => ?_)
  refine e_puti hx hb hts in_X0_reckon_X0 tyX0 tyX0_ok nmX0 hown K G 32 (by decide) gl_32 rfl 3 (by decide) rfl (hts (.fieldLink RX0 22 "StreetsStepOn$Almanac" "firstOwn" "I") (e_mem (n := 4) rfl)) rfl (tyX0_ok 3 (by decide)) rfl rfl dX0_reckon_34 (fun H locs G => ?_)
  obtain ⟨σ10, eσ10⟩ : ∃ z : eS, z = e_ui σ8 32 3 r9 := ⟨_, rfl⟩
  rw [← eσ10] at G
  have h := h σ10 eσ10
  refine lv_aload_n hx hb dX0_reckon_37 rfl (lv_at hl 2 rfl) ?_
  refine e_getiN hx hb hts in_X0_reckon_X1 hown K G 5 (by decide) gl_5 rfl 4 (by decide) rfl (e_memq (n := 17) rfl) dX0_reckon_38 ?_
  refine lv_iconst (v := (1 : Int32)) hx hb dX0_reckon_41 (by decide) ?_
  refine lv_icmp_lt (tgt := 53) hx hb dX0_reckon_42 (by decide) (fun c11 => ?_) (fun c11 => ?_)
  · have h := h.1 c11
    exact e_vret hx hb hr hlocks G h dX0_reckon_53
  · have h := h.2 c11
    refine lv_aload_n hx hb dX0_reckon_45 rfl (lv_at hl 2 rfl) ?_
    refine e_getiN hx hb hts in_X0_reckon_X1 hown K G 5 (by decide) gl_5 rfl 5 (by decide) rfl (e_memq (n := 21) rfl) dX0_reckon_46 ?_
    refine lv_iconst (v := (1 : Int32)) hx hb dX0_reckon_49 (by decide) ?_
    refine lv_icmp_ge (tgt := 54) hx hb dX0_reckon_50 (by decide) (fun c12 => ?_) (fun c12 => ?_)
    · have h := h.1 c12
      refine lv_lload_n hx hb dX0_reckon_54 rfl (lv_at hl 0 rfl) ?_
      refine lv_lstore (lv' := [(4, .long (r2)), (2, .long (r2)), (0, .ref (ρ (32))), (1, .ref (ρ (5)))]) hx hb dX0_reckon_55 hl (by decide) rfl (fun ls hl => ?_)
      refine lv_iconst (v := (1 : Int32)) hx hb dX0_reckon_57 (by decide) ?_
      refine lv_topi (fun v13 ev13 => ?_)
      have h := h v13 ev13
      refine lv_istore (lv' := [(6, .int (v13)), (4, .long (r2)), (2, .long (r2)), (0, .ref (ρ (32))), (1, .ref (ρ (5)))]) hx hb dX0_reckon_58 hl (by decide) rfl (fun ls hl => ?_)
      obtain ⟨n17, h⟩ := h
      exact l_X0_reckon_60 C K n17 σ10 r2 r2 v13 _ _ _  h G (lv_sub hl [3, 4, 2, 1, 0] rfl)
    · have h := h.2 c12
      exact e_vret hx hb hr hlocks G h dX0_reckon_53
abbrev rm_X10_reckonAnew : Room := { frames := 3, cells := 0, slots := 0, locals := 78 }
theorem in_X10_reckonAnew_X10 : ∀ w ∈ wsX100, w ∈ wsX10_reckonAnew := fun w h => List.mem_cons_of_mem _ (List.mem_append_left _ (List.mem_append_left _ (List.mem_append_left _ (List.mem_append_right _ h))))
def w_X10_reckonAnew (σ : eS) (post : eS → Prop) : Prop := w_X4_measure σ (fun σ1 => w_X0_reckon σ1 (fun σ2 => post σ2))
set_option maxHeartbeats 4000000 in
set_option maxRecDepth 100000 in
theorem c_X10_reckonAnew {l : Launch} {D : va_G} {ρ : Nat → Nat} {κ : Nat → ClassId} {base : Nat} {σ : eS} {post : eS → Prop} (h : w_X10_reckonAnew σ post) : gMv l yX10_reckonAnew wsX10_reckonAnew rm_X10_reckonAnew D ρ κ base [.ref (ρ (0))] σ post := by
  refine e_ofWv (cc := cX10_reckonAnew) (maxL := 1) (ret := none) (by decide) rfl (Nat.le_of_ble_eq_true rfl) ?_
  intro p e s m below meth c ls C K G hl
  obtain ⟨hx, hb, hml, hown, hts, hr, hlocks⟩ := id C
  have hl : lv_has ls 1 [(0, .ref (ρ (0)))] := hl
  unfold w_X10_reckonAnew at h
  refine lv_aload_n hx hb dX10_reckonAnew_0 rfl (lv_at hl 0 rfl) ?_
  refine e_getq hx hb hts in_X10_reckonAnew_X10 hown K G 0 (by decide) gl_0 rfl 4 (by decide) 18 rfl (hts (.fieldLink RX10 37 "StreetsStepOn" "roads" "LStreetsStepOn$Roads;") (e_mem (n := 1) rfl)) dX10_reckonAnew_1 ?_
  refine lv_aload_n hx hb dX10_reckonAnew_4 rfl (lv_at hl 0 rfl) ?_
  refine e_getq hx hb hts in_X10_reckonAnew_X10 hown K G 0 (by decide) gl_0 rfl 2 (by decide) 5 rfl (hts (.fieldLink RX10 26 "StreetsStepOn" "book" "LStreetsStepOn$Book;") (e_mem (n := 2) rfl)) dX10_reckonAnew_5 ?_
  refine e_callVv (As := [.ref (ρ (5))]) (rest := []) ⟨hx, hb, hml, hown, hts⟩ K G 18 (by decide) gl_18 rfl (c_X4_measure h) (cwV 1 hts gX10_reckonAnew_X4_measure rfl rfl rfl (by decide +kernel) ⟨Nat.le_of_ble_eq_true rfl, Nat.le_of_ble_eq_true rfl⟩) rfl hl.1 rfl (Nat.le_of_ble_eq_true rfl) dX10_reckonAnew_8 ⟨Nat.zero_le _, Nat.zero_le _⟩ (fun σ1 H locs h G => ?_)
  refine lv_aload_n hx hb dX10_reckonAnew_11 rfl (lv_at hl 0 rfl) ?_
  refine e_getq hx hb hts in_X10_reckonAnew_X10 hown K G 0 (by decide) gl_0 rfl 5 (by decide) 32 rfl (hts (.fieldLink RX10 44 "StreetsStepOn" "almanac" "LStreetsStepOn$Almanac;") (e_mem (n := 3) rfl)) dX10_reckonAnew_12 ?_
  refine lv_aload_n hx hb dX10_reckonAnew_15 rfl (lv_at hl 0 rfl) ?_
  refine e_getq hx hb hts in_X10_reckonAnew_X10 hown K G 0 (by decide) gl_0 rfl 2 (by decide) 5 rfl (hts (.fieldLink RX10 26 "StreetsStepOn" "book" "LStreetsStepOn$Book;") (e_mem (n := 2) rfl)) dX10_reckonAnew_16 ?_
  refine e_callVv (As := [.ref (ρ (5))]) (rest := []) ⟨hx, hb, hml, hown, hts⟩ K G 32 (by decide) gl_32 rfl (c_X0_reckon h) (cwV 1 hts gX10_reckonAnew_X0_reckon rfl rfl rfl (by decide +kernel) ⟨Nat.le_of_ble_eq_true rfl, Nat.le_of_ble_eq_true rfl⟩) rfl hl.1 rfl (Nat.le_of_ble_eq_true rfl) dX10_reckonAnew_19 ⟨Nat.zero_le _, Nat.zero_le _⟩ (fun σ2 H locs h G => ?_)
  exact e_vret hx hb hr hlocks G h dX10_reckonAnew_22
abbrev rm_X10_town : Room := { frames := 4, cells := 0, slots := 0, locals := 98 }
theorem in_X10_town_X10 : ∀ w ∈ wsX100, w ∈ wsX10_town := fun w h => List.mem_cons_of_mem _ (List.mem_append_left _ (List.mem_append_left _ (List.mem_append_left _ (List.mem_append_left _ (List.mem_append_left _ (List.mem_append_right _ h))))))
def w_X10_town (σ : eS) (post : Int32 → eS → Prop) : Prop := w_X9_read σ (fun r2 σ1 => w_X7_cut σ1 (0 : Int32) (fun r4 σ3 => ((r2 ≤ 0 → post r2 σ3) ∧ (¬ (r2 ≤ 0) → w_X10_reckonAnew σ3 (fun σ6 => post r2 σ6)))))
set_option maxHeartbeats 4000000 in
set_option maxRecDepth 100000 in
theorem c_X10_town {l : Launch} {D : va_G} {ρ : Nat → Nat} {κ : Nat → ClassId} {base : Nat} {σ : eS} {post : Int32 → eS → Prop} (h : w_X10_town σ post) : gMi l yX10_town wsX10_town rm_X10_town D ρ κ base [.ref (ρ (0))] σ post := by
  refine e_ofWi (cc := cX10_town) (maxL := 2) (ret := (some .int)) (by decide) rfl (Nat.le_of_ble_eq_true rfl) ?_
  intro p e s m below meth c ls C K G hl
  obtain ⟨hx, hb, hml, hown, hts, hr, hlocks⟩ := id C
  have hl : lv_has ls 2 [(0, .ref (ρ (0)))] := hl
  unfold w_X10_town at h
  refine lv_aload_n hx hb dX10_town_0 rfl (lv_at hl 0 rfl) ?_
  refine e_getq hx hb hts in_X10_town_X10 hown K G 0 (by decide) gl_0 rfl 6 (by decide) 35 rfl (hts (.fieldLink RX10 51 "StreetsStepOn" "townReader" "LStreetsStepOn$TownReader;") (e_mem (n := 1) rfl)) dX10_town_1 ?_
  refine lv_aload_n hx hb dX10_town_4 rfl (lv_at hl 0 rfl) ?_
  refine e_getq hx hb hts in_X10_town_X10 hown K G 0 (by decide) gl_0 rfl 0 (by decide) 1 rfl (hts (.fieldLink RX10 10 "StreetsStepOn" "text" "LStreetsStepOn$Text;") (e_mem (n := 2) rfl)) dX10_town_5 ?_
  refine lv_aload_n hx hb dX10_town_8 rfl (lv_at hl 0 rfl) ?_
  refine e_getq hx hb hts in_X10_town_X10 hown K G 0 (by decide) gl_0 rfl 2 (by decide) 5 rfl (hts (.fieldLink RX10 26 "StreetsStepOn" "book" "LStreetsStepOn$Book;") (e_mem (n := 3) rfl)) dX10_town_9 ?_
  refine lv_aload_n hx hb dX10_town_12 rfl (lv_at hl 0 rfl) ?_
  refine e_getq hx hb hts in_X10_town_X10 hown K G 0 (by decide) gl_0 rfl 4 (by decide) 18 rfl (hts (.fieldLink RX10 37 "StreetsStepOn" "roads" "LStreetsStepOn$Roads;") (e_mem (n := 4) rfl)) dX10_town_13 ?_
  refine e_callVi (As := [.ref (ρ (1)), .ref (ρ (5)), .ref (ρ (18))]) (rest := []) ⟨hx, hb, hml, hown, hts⟩ K G 35 (by decide) gl_35 rfl (c_X9_read h) (cwV 3 hts gX10_town_X9_read rfl rfl rfl (by decide +kernel) ⟨Nat.le_of_ble_eq_true rfl, Nat.le_of_ble_eq_true rfl⟩) rfl hl.1 rfl (Nat.le_of_ble_eq_true rfl) dX10_town_16 ⟨Nat.zero_le _, Nat.zero_le _⟩ (fun r2 σ1 H locs h G => ?_)
  refine lv_istore_n (lv' := [(1, .int (r2)), (0, .ref (ρ (0)))]) hx hb dX10_town_19 rfl hl (by decide) rfl (fun ls hl => ?_)
  refine lv_aload_n hx hb dX10_town_20 rfl (lv_at hl 1 rfl) ?_
  refine e_getq hx hb hts in_X10_town_X10 hown K G 0 (by decide) gl_0 rfl 0 (by decide) 1 rfl (hts (.fieldLink RX10 10 "StreetsStepOn" "text" "LStreetsStepOn$Text;") (e_mem (n := 2) rfl)) dX10_town_21 ?_
  refine lv_iconst (v := (0 : Int32)) hx hb dX10_town_24 (by decide) ?_
  refine e_callVi (As := [.int ((0 : Int32))]) (rest := []) ⟨hx, hb, hml, hown, hts⟩ K G 1 (by decide) gl_1 rfl (c_X7_cut h) (cwV 1 hts gX10_town_X7_cut rfl rfl rfl (by decide +kernel) ⟨Nat.le_of_ble_eq_true rfl, Nat.le_of_ble_eq_true rfl⟩) rfl hl.1 rfl (Nat.le_of_ble_eq_true rfl) dX10_town_25 ⟨Nat.zero_le _, Nat.zero_le _⟩ (fun r4 σ3 H locs h G => ?_)
  refine lv_pop hx hb dX10_town_28 rfl ?_
  refine lv_iload_n hx hb dX10_town_29 rfl (lv_at hl 0 rfl) ?_
  refine lv_if_le (tgt := 37) hx hb dX10_town_30 (by decide) (fun c5 => ?_) (fun c5 => ?_)
  · have h := h.1 c5
    refine lv_iload_n hx hb dX10_town_37 rfl (lv_at hl 0 rfl) ?_
    exact e_iret hx hb hr hlocks G h dX10_town_38
  · have h := h.2 c5
    refine lv_aload_n hx hb dX10_town_33 rfl (lv_at hl 1 rfl) ?_
    refine e_callVv (As := []) (rest := []) ⟨hx, hb, hml, hown, hts⟩ K G 0 (by decide) gl_0 rfl (c_X10_reckonAnew h) (cwV 0 hts gX10_town_X10_reckonAnew rfl rfl rfl (by decide +kernel) ⟨Nat.le_of_ble_eq_true rfl, Nat.le_of_ble_eq_true rfl⟩) rfl hl.1 rfl (Nat.le_of_ble_eq_true rfl) dX10_town_34 ⟨Nat.zero_le _, Nat.zero_le _⟩ (fun σ6 H locs h G => ?_)
    refine lv_iload_n hx hb dX10_town_37 rfl (lv_at hl 0 rfl) ?_
    exact e_iret hx hb hr hlocks G h dX10_town_38
abbrev rm_X11_begin : Room := { frames := 0, cells := 0, slots := 0, locals := 0 }
theorem in_X11_begin_X11 : ∀ w ∈ wsX110, w ∈ wsX11_begin := fun w h => List.mem_cons_of_mem _ (List.mem_append_right _ h)
def w_X11_begin (σ : eS) (x2 : Int32) (x3 : Int32) (post : eS → Prop) : Prop := ∀ σ1 : eS, σ1 = e_ur σ 97 19 108 → ∀ σ2 : eS, σ2 = e_ui σ1 97 20 x2 → ∀ σ3 : eS, σ3 = e_ui σ2 97 21 x3 → ∀ σ4 : eS, σ4 = e_ui σ3 97 22 (0 : Int32) → ∀ σ5 : eS, σ5 = e_ui σ4 97 23 (-1 : Int32) → post σ5
set_option maxHeartbeats 4000000 in
set_option maxRecDepth 100000 in
theorem c_X11_begin {l : Launch} {D : va_G} {ρ : Nat → Nat} {κ : Nat → ClassId} {base : Nat} {σ : eS} {x2 : Int32} {x3 : Int32} {post : eS → Prop} (h : w_X11_begin σ x2 x3 post) : gMv l yX11_begin wsX11_begin rm_X11_begin D ρ κ base [.ref (ρ (97)), .ref (ρ (107)), .int (x2), .int (x3)] σ post := by
  refine e_ofWv (cc := cX11_begin) (maxL := 4) (ret := none) (by decide) rfl (Nat.le_of_ble_eq_true rfl) ?_
  intro p e s m below meth c ls C K G hl
  obtain ⟨hx, hb, hml, hown, hts, hr, hlocks⟩ := id C
  have hl : lv_has ls 4 [(0, .ref (ρ (97))), (1, .ref (ρ (107))), (2, .int (x2)), (3, .int (x3))] := hl
  unfold w_X11_begin at h
  refine lv_aload_n hx hb dX11_begin_0 rfl (lv_at hl 0 rfl) ?_
  refine lv_aload_n hx hb dX11_begin_1 rfl (lv_at hl 1 rfl) ?_
  refine e_putr hx hb hts in_X11_begin_X11 tyX11 tyX11_ok nmX11 hown K G 97 (by decide) gl_97 rfl 19 (by decide) rfl (hts (.fieldLink RX11 124 "StreetsStepOnModel" "read" "[B") (e_mem (n := 1) rfl)) rfl 108 (tyX11_ok 19 (by decide)) rfl rfl dX11_begin_2 (fun H locs G => ?_)
  obtain ⟨σ1, eσ1⟩ : ∃ z : eS, z = e_ur σ 97 19 108 := ⟨_, rfl⟩
  rw [← eσ1] at G
  have h := h σ1 eσ1
  refine lv_aload_n hx hb dX11_begin_5 rfl (lv_at hl 0 rfl) ?_
  refine lv_iload_n hx hb dX11_begin_6 rfl (lv_at hl 2 rfl) ?_
  refine e_puti hx hb hts in_X11_begin_X11 tyX11 tyX11_ok nmX11 hown K G 97 (by decide) gl_97 rfl 20 (by decide) rfl (hts (.fieldLink RX11 127 "StreetsStepOnModel" "size" "I") (e_mem (n := 2) rfl)) rfl (tyX11_ok 20 (by decide)) rfl rfl dX11_begin_7 (fun H locs G => ?_)
  obtain ⟨σ2, eσ2⟩ : ∃ z : eS, z = e_ui σ1 97 20 x2 := ⟨_, rfl⟩
  rw [← eσ2] at G
  have h := h σ2 eσ2
  refine lv_aload_n hx hb dX11_begin_10 rfl (lv_at hl 0 rfl) ?_
  refine lv_iload_n hx hb dX11_begin_11 rfl (lv_at hl 3 rfl) ?_
  refine e_puti hx hb hts in_X11_begin_X11 tyX11 tyX11_ok nmX11 hown K G 97 (by decide) gl_97 rfl 21 (by decide) rfl (hts (.fieldLink RX11 130 "StreetsStepOnModel" "top" "I") (e_mem (n := 3) rfl)) rfl (tyX11_ok 21 (by decide)) rfl rfl dX11_begin_12 (fun H locs G => ?_)
  obtain ⟨σ3, eσ3⟩ : ∃ z : eS, z = e_ui σ2 97 21 x3 := ⟨_, rfl⟩
  rw [← eσ3] at G
  have h := h σ3 eσ3
  refine lv_aload_n hx hb dX11_begin_15 rfl (lv_at hl 0 rfl) ?_
  refine lv_iconst (v := (0 : Int32)) hx hb dX11_begin_16 (by decide) ?_
  refine e_puti hx hb hts in_X11_begin_X11 tyX11 tyX11_ok nmX11 hown K G 97 (by decide) gl_97 rfl 22 (by decide) rfl (hts (.fieldLink RX11 133 "StreetsStepOnModel" "at" "I") (e_mem (n := 4) rfl)) rfl (tyX11_ok 22 (by decide)) rfl rfl dX11_begin_17 (fun H locs G => ?_)
  obtain ⟨σ4, eσ4⟩ : ∃ z : eS, z = e_ui σ3 97 22 (0 : Int32) := ⟨_, rfl⟩
  rw [← eσ4] at G
  have h := h σ4 eσ4
  refine lv_aload_n hx hb dX11_begin_20 rfl (lv_at hl 0 rfl) ?_
  refine lv_iconst (v := (-1 : Int32)) hx hb dX11_begin_21 (by decide) ?_
  refine e_puti hx hb hts in_X11_begin_X11 tyX11 tyX11_ok nmX11 hown K G 97 (by decide) gl_97 rfl 23 (by decide) rfl (hts (.fieldLink RX11 136 "StreetsStepOnModel" "wrong" "I") (e_mem (n := 5) rfl)) rfl (tyX11_ok 23 (by decide)) rfl rfl dX11_begin_22 (fun H locs G => ?_)
  obtain ⟨σ5, eσ5⟩ : ∃ z : eS, z = e_ui σ4 97 23 (-1 : Int32) := ⟨_, rfl⟩
  rw [← eσ5] at G
  have h := h σ5 eσ5
  exact e_vret hx hb hr hlocks G h dX11_begin_25
abbrev rm_X11_fine : Room := { frames := 0, cells := 0, slots := 0, locals := 0 }
theorem in_X11_fine_X11 : ∀ w ∈ wsX110, w ∈ wsX11_fine := fun w h => List.mem_cons_of_mem _ (List.mem_append_right _ h)
def w_X11_fine (σ : eS) (post : Int32 → eS → Prop) : Prop := ((¬ (σ.1 97 23) = (-1 : Int32) → ((narrow .boolean (.int (0 : Int32)) = .int (0 : Int32)) ∧ post (0 : Int32) σ)) ∧ ((σ.1 97 23) = (-1 : Int32) → ((narrow .boolean (.int (1 : Int32)) = .int (1 : Int32)) ∧ post (1 : Int32) σ)))
set_option maxHeartbeats 4000000 in
set_option maxRecDepth 100000 in
theorem c_X11_fine {l : Launch} {D : va_G} {ρ : Nat → Nat} {κ : Nat → ClassId} {base : Nat} {σ : eS} {post : Int32 → eS → Prop} (h : w_X11_fine σ post) : gMi l yX11_fine wsX11_fine rm_X11_fine D ρ κ base [.ref (ρ (97))] σ post := by
  refine e_ofWi (cc := cX11_fine) (maxL := 1) (ret := (some .boolean)) (by decide) rfl (Nat.le_of_ble_eq_true rfl) ?_
  intro p e s m below meth c ls C K G hl
  obtain ⟨hx, hb, hml, hown, hts, hr, hlocks⟩ := id C
  have hl : lv_has ls 1 [(0, .ref (ρ (97)))] := hl
  unfold w_X11_fine at h
  refine lv_aload_n hx hb dX11_fine_0 rfl (lv_at hl 0 rfl) ?_
  refine e_geti hx hb hts in_X11_fine_X11 hown K G 97 (by decide) gl_97 rfl 23 (by decide) rfl (hts (.fieldLink RX11 136 "StreetsStepOnModel" "wrong" "I") (e_mem (n := 1) rfl)) dX11_fine_1 ?_
  refine lv_iconst (v := (-1 : Int32)) hx hb dX11_fine_4 (by decide) ?_
  refine lv_icmp_ne (tgt := 12) hx hb dX11_fine_5 (by decide) (fun c1 => ?_) (fun c1 => ?_)
  · have h := h.1 c1
    refine lv_iconst (v := (0 : Int32)) hx hb dX11_fine_12 (by decide) ?_
    exact e_zret hx hb hr hlocks G h.1 h.2 dX11_fine_13
  · have h := h.2 c1
    refine lv_iconst (v := (1 : Int32)) hx hb dX11_fine_8 (by decide) ?_
    refine lv_goto (tgt := 13) hx hb dX11_fine_9 (by decide) ?_
    exact e_zret hx hb hr hlocks G h.1 h.2 dX11_fine_13
abbrev rm_X11_fault : Room := { frames := 1, cells := 0, slots := 0, locals := 20 }
theorem in_X11_fault_X11 : ∀ w ∈ wsX110, w ∈ wsX11_fault := fun w h => List.mem_cons_of_mem _ (List.mem_append_right _ h)
def w_X11_fault (σ : eS) (x1 : Int32) (post : eS → Prop) : Prop := w_X11_fine σ (fun r2 σ1 => ((r2 = 0 → post σ1) ∧ (¬ (r2 = 0) → ∀ σ4 : eS, σ4 = e_ui σ1 97 23 x1 → post σ4)))
set_option maxHeartbeats 4000000 in
set_option maxRecDepth 100000 in
theorem c_X11_fault {l : Launch} {D : va_G} {ρ : Nat → Nat} {κ : Nat → ClassId} {base : Nat} {σ : eS} {x1 : Int32} {post : eS → Prop} (h : w_X11_fault σ x1 post) : gMv l yX11_fault wsX11_fault rm_X11_fault D ρ κ base [.ref (ρ (97)), .int (x1)] σ post := by
  refine e_ofWv (cc := cX11_fault) (maxL := 2) (ret := none) (by decide) rfl (Nat.le_of_ble_eq_true rfl) ?_
  intro p e s m below meth c ls C K G hl
  obtain ⟨hx, hb, hml, hown, hts, hr, hlocks⟩ := id C
  have hl : lv_has ls 2 [(0, .ref (ρ (97))), (1, .int (x1))] := hl
  unfold w_X11_fault at h
  refine lv_aload_n hx hb dX11_fault_0 rfl (lv_at hl 0 rfl) ?_
  refine e_callVi (As := []) (rest := []) ⟨hx, hb, hml, hown, hts⟩ K G 97 (by decide) gl_97 rfl (c_X11_fine h) (cwV 0 hts gX11_fault_X11_fine rfl rfl rfl (by decide +kernel) ⟨Nat.le_of_ble_eq_true rfl, Nat.le_of_ble_eq_true rfl⟩) rfl hl.1 rfl (Nat.le_of_ble_eq_true rfl) dX11_fault_1 ⟨Nat.zero_le _, Nat.zero_le _⟩ (fun r2 σ1 H locs h G => ?_)
  refine lv_if_eq (tgt := 12) hx hb dX11_fault_4 (by decide) (fun c3 => ?_) (fun c3 => ?_)
  · have h := h.1 c3
    exact e_vret hx hb hr hlocks G h dX11_fault_12
  · have h := h.2 c3
    refine lv_aload_n hx hb dX11_fault_7 rfl (lv_at hl 0 rfl) ?_
    refine lv_iload_n hx hb dX11_fault_8 rfl (lv_at hl 1 rfl) ?_
    refine e_puti hx hb hts in_X11_fault_X11 tyX11 tyX11_ok nmX11 hown K G 97 (by decide) gl_97 rfl 23 (by decide) rfl (hts (.fieldLink RX11 136 "StreetsStepOnModel" "wrong" "I") (e_mem (n := 1) rfl)) rfl (tyX11_ok 23 (by decide)) rfl rfl dX11_fault_9 (fun H locs G => ?_)
    obtain ⟨σ4, eσ4⟩ : ∃ z : eS, z = e_ui σ1 97 23 x1 := ⟨_, rfl⟩
    rw [← eσ4] at G
    have h := h σ4 eσ4
    exact e_vret hx hb hr hlocks G h dX11_fault_12
abbrev rm_X11_here : Room := { frames := 0, cells := 0, slots := 0, locals := 0 }
theorem in_X11_here_X11 : ∀ w ∈ wsX110, w ∈ wsX11_here := fun w h => List.mem_cons_of_mem _ (List.mem_append_right _ h)
def w_X11_here (σ : eS) (post : Int32 → eS → Prop) : Prop := (((σ.1 97 20) ≤ (σ.1 97 22) → post (-1 : Int32) σ) ∧ (¬ ((σ.1 97 20) ≤ (σ.1 97 22)) → (((σ.1 97 21) ≤ (σ.1 97 22) → post (-1 : Int32) σ) ∧ (¬ ((σ.1 97 21) ≤ (σ.1 97 22)) → ((σ.2.2 97 19 = 108 ∧ (vp_in (σ.1 97 22) 80) ∧ post (σ.1 107 (σ.1 97 22).toNatClampNeg) σ) ∨ (σ.2.2 97 19 = 120 ∧ (vp_in (σ.1 97 22) 40) ∧ post (σ.1 119 (σ.1 97 22).toNatClampNeg) σ))))))
set_option maxHeartbeats 4000000 in
set_option maxRecDepth 100000 in
theorem c_X11_here {l : Launch} {D : va_G} {ρ : Nat → Nat} {κ : Nat → ClassId} {base : Nat} {σ : eS} {post : Int32 → eS → Prop} (h : w_X11_here σ post) : gMi l yX11_here wsX11_here rm_X11_here D ρ κ base [.ref (ρ (97))] σ post := by
  refine e_ofWi (cc := cX11_here) (maxL := 1) (ret := (some .int)) (by decide) rfl (Nat.le_of_ble_eq_true rfl) ?_
  intro p e s m below meth c ls C K G hl
  obtain ⟨hx, hb, hml, hown, hts, hr, hlocks⟩ := id C
  have hl : lv_has ls 1 [(0, .ref (ρ (97)))] := hl
  unfold w_X11_here at h
  refine lv_aload_n hx hb dX11_here_0 rfl (lv_at hl 0 rfl) ?_
  refine e_geti hx hb hts in_X11_here_X11 hown K G 97 (by decide) gl_97 rfl 22 (by decide) rfl (hts (.fieldLink RX11 133 "StreetsStepOnModel" "at" "I") (e_mem (n := 1) rfl)) dX11_here_1 ?_
  refine lv_aload_n hx hb dX11_here_4 rfl (lv_at hl 0 rfl) ?_
  refine e_geti hx hb hts in_X11_here_X11 hown K G 97 (by decide) gl_97 rfl 20 (by decide) rfl (hts (.fieldLink RX11 127 "StreetsStepOnModel" "size" "I") (e_mem (n := 2) rfl)) dX11_here_5 ?_
  refine lv_icmp_ge (tgt := 34) hx hb dX11_here_8 (by decide) (fun c1 => ?_) (fun c1 => ?_)
  · have h := h.1 c1
    refine lv_iconst (v := (-1 : Int32)) hx hb dX11_here_34 (by decide) ?_
    exact e_iret hx hb hr hlocks G h dX11_here_35
  · have h := h.2 c1
    refine lv_aload_n hx hb dX11_here_11 rfl (lv_at hl 0 rfl) ?_
    refine e_geti hx hb hts in_X11_here_X11 hown K G 97 (by decide) gl_97 rfl 22 (by decide) rfl (hts (.fieldLink RX11 133 "StreetsStepOnModel" "at" "I") (e_mem (n := 1) rfl)) dX11_here_12 ?_
    refine lv_aload_n hx hb dX11_here_15 rfl (lv_at hl 0 rfl) ?_
    refine e_geti hx hb hts in_X11_here_X11 hown K G 97 (by decide) gl_97 rfl 21 (by decide) rfl (hts (.fieldLink RX11 130 "StreetsStepOnModel" "top" "I") (e_mem (n := 3) rfl)) dX11_here_16 ?_
    refine lv_icmp_ge (tgt := 34) hx hb dX11_here_19 (by decide) (fun c2 => ?_) (fun c2 => ?_)
    · have h := h.1 c2
      refine lv_iconst (v := (-1 : Int32)) hx hb dX11_here_34 (by decide) ?_
      exact e_iret hx hb hr hlocks G h dX11_here_35
    · have h := h.2 c2
      refine lv_aload_n hx hb dX11_here_22 rfl (lv_at hl 0 rfl) ?_
      refine e_getr hx hb hts in_X11_here_X11 hown K G 97 (by decide) gl_97 rfl 19 (by decide) rfl (hts (.fieldLink RX11 124 "StreetsStepOnModel" "read" "[B") (e_mem (n := 4) rfl)) dX11_here_23 ?_
      rcases h with ⟨c5, h⟩ | ⟨c5, h⟩
      · rw [c5]
        refine W.eq (g2 := F0 m 26 ls ([.ref (ρ (107))])) rfl ?_
        refine lv_aload_n hx hb dX11_here_26 rfl (lv_at hl 0 rfl) ?_
        refine e_geti hx hb hts in_X11_here_X11 hown K G 97 (by decide) gl_97 rfl 22 (by decide) rfl (hts (.fieldLink RX11 133 "StreetsStepOnModel" "at" "I") (e_mem (n := 1) rfl)) dX11_here_27 ?_
        have hi3 := h.1
        have h := h.2
        refine e_bald hx hb K G 107 3 3 80 (by decide) gl_107 rfl hi3 dX11_here_30 ?_
        refine lv_goto (tgt := 35) hx hb dX11_here_31 (by decide) ?_
        exact e_iret hx hb hr hlocks G h dX11_here_35
      · rw [c5]
        refine W.eq (g2 := F0 m 26 ls ([.ref (ρ (119))])) rfl ?_
        refine lv_aload_n hx hb dX11_here_26 rfl (lv_at hl 0 rfl) ?_
        refine e_geti hx hb hts in_X11_here_X11 hown K G 97 (by decide) gl_97 rfl 22 (by decide) rfl (hts (.fieldLink RX11 133 "StreetsStepOnModel" "at" "I") (e_mem (n := 1) rfl)) dX11_here_27 ?_
        have hi4 := h.1
        have h := h.2
        refine e_bald hx hb K G 119 3 3 40 (by decide) gl_119 rfl hi4 dX11_here_30 ?_
        refine lv_goto (tgt := 35) hx hb dX11_here_31 (by decide) ?_
        exact e_iret hx hb hr hlocks G h dX11_here_35
abbrev rm_X11_passes : Room := { frames := 1, cells := 0, slots := 0, locals := 20 }
theorem in_X11_passes_X11 : ∀ w ∈ wsX110, w ∈ wsX11_passes := fun w h => List.mem_cons_of_mem _ (List.mem_append_right _ h)
def w_X11_passes (σ : eS) (x1 : Int32) (post : Int32 → eS → Prop) : Prop := w_X11_fine σ (fun r2 σ1 => ((r2 = 0 → ((narrow .boolean (.int (0 : Int32)) = .int (0 : Int32)) ∧ post (0 : Int32) σ1)) ∧ (¬ (r2 = 0) → w_X11_here σ1 (fun r5 σ4 => ((r5 = x1 → ∀ σ7 : eS, σ7 = e_ui σ4 97 22 ((σ4.1 97 22) + (1 : Int32)) → ((narrow .boolean (.int (1 : Int32)) = .int (1 : Int32)) ∧ post (1 : Int32) σ7)) ∧ (¬ (r5 = x1) → ((narrow .boolean (.int (0 : Int32)) = .int (0 : Int32)) ∧ post (0 : Int32) σ4)))))))
set_option maxHeartbeats 4000000 in
set_option maxRecDepth 100000 in
theorem c_X11_passes {l : Launch} {D : va_G} {ρ : Nat → Nat} {κ : Nat → ClassId} {base : Nat} {σ : eS} {x1 : Int32} {post : Int32 → eS → Prop} (h : w_X11_passes σ x1 post) : gMi l yX11_passes wsX11_passes rm_X11_passes D ρ κ base [.ref (ρ (97)), .int (x1)] σ post := by
  refine e_ofWi (cc := cX11_passes) (maxL := 2) (ret := (some .boolean)) (by decide) rfl (Nat.le_of_ble_eq_true rfl) ?_
  intro p e s m below meth c ls C K G hl
  obtain ⟨hx, hb, hml, hown, hts, hr, hlocks⟩ := id C
  have hl : lv_has ls 2 [(0, .ref (ρ (97))), (1, .int (x1))] := hl
  unfold w_X11_passes at h
  refine lv_aload_n hx hb dX11_passes_0 rfl (lv_at hl 0 rfl) ?_
  refine e_callVi (As := []) (rest := []) ⟨hx, hb, hml, hown, hts⟩ K G 97 (by decide) gl_97 rfl (c_X11_fine h) (cwV 0 hts gX11_passes_X11_fine rfl rfl rfl (by decide +kernel) ⟨Nat.le_of_ble_eq_true rfl, Nat.le_of_ble_eq_true rfl⟩) rfl hl.1 rfl (Nat.le_of_ble_eq_true rfl) dX11_passes_1 ⟨Nat.zero_le _, Nat.zero_le _⟩ (fun r2 σ1 H locs h G => ?_)
  refine lv_if_eq (tgt := 15) hx hb dX11_passes_4 (by decide) (fun c3 => ?_) (fun c3 => ?_)
  · have h := h.1 c3
    refine lv_iconst (v := (0 : Int32)) hx hb dX11_passes_15 (by decide) ?_
    exact e_zret hx hb hr hlocks G h.1 h.2 dX11_passes_16
  · have h := h.2 c3
    refine lv_aload_n hx hb dX11_passes_7 rfl (lv_at hl 0 rfl) ?_
    refine e_callVi (As := []) (rest := []) ⟨hx, hb, hml, hown, hts⟩ K G 97 (by decide) gl_97 rfl (c_X11_here h) (cwV 0 hts gX11_passes_X11_here rfl rfl rfl (by decide +kernel) ⟨Nat.le_of_ble_eq_true rfl, Nat.le_of_ble_eq_true rfl⟩) rfl hl.1 rfl (Nat.le_of_ble_eq_true rfl) dX11_passes_8 ⟨Nat.zero_le _, Nat.zero_le _⟩ (fun r5 σ4 H locs h G => ?_)
    refine lv_iload_n hx hb dX11_passes_11 rfl (lv_at hl 1 rfl) ?_
    refine lv_icmp_eq (tgt := 17) hx hb dX11_passes_12 (by decide) (fun c6 => ?_) (fun c6 => ?_)
    · have h := h.1 c6
      refine lv_aload_n hx hb dX11_passes_17 rfl (lv_at hl 0 rfl) ?_
      refine lv_dup hx hb dX11_passes_18 rfl ?_
      refine e_geti hx hb hts in_X11_passes_X11 hown K G 97 (by decide) gl_97 rfl 22 (by decide) rfl (hts (.fieldLink RX11 133 "StreetsStepOnModel" "at" "I") (e_mem (n := 1) rfl)) dX11_passes_19 ?_
      refine lv_iconst (v := (1 : Int32)) hx hb dX11_passes_22 (by decide) ?_
      refine lv_iadd hx hb dX11_passes_23 ?_
      refine e_puti hx hb hts in_X11_passes_X11 tyX11 tyX11_ok nmX11 hown K G 97 (by decide) gl_97 rfl 22 (by decide) rfl (hts (.fieldLink RX11 133 "StreetsStepOnModel" "at" "I") (e_mem (n := 1) rfl)) rfl (tyX11_ok 22 (by decide)) rfl rfl dX11_passes_24 (fun H locs G => ?_)
      obtain ⟨σ7, eσ7⟩ : ∃ z : eS, z = e_ui σ4 97 22 ((σ4.1 97 22) + (1 : Int32)) := ⟨_, rfl⟩
      rw [← eσ7] at G
      have h := h σ7 eσ7
      refine lv_iconst (v := (1 : Int32)) hx hb dX11_passes_27 (by decide) ?_
      exact e_zret hx hb hr hlocks G h.1 h.2 dX11_passes_28
    · have h := h.2 c6
      refine lv_iconst (v := (0 : Int32)) hx hb dX11_passes_15 (by decide) ?_
      exact e_zret hx hb hr hlocks G h.1 h.2 dX11_passes_16
abbrev rm_X11_town : Room := { frames := 2, cells := 0, slots := 0, locals := 41 }
theorem in_X11_town_X11 : ∀ w ∈ wsX110, w ∈ wsX11_town := fun w h => List.mem_cons_of_mem _ (List.mem_append_right _ h)
def b_X11_town_155 (post : Int32 → eS → Prop) (σ : eS) (x1 : Int32) (x2 : Int32) (x3 : Int32) : Prop := w_X11_fine σ (fun r11 σ10 => ((r11 = 0 → ∀ σ13 : eS, σ13 = e_ui σ10 97 0 x1 → ∀ σ14 : eS, σ14 = e_ui σ13 97 4 x2 → post ((-1 : Int32) - (σ14.1 97 23)) σ14) ∧ (¬ (r11 = 0) → (((σ10.1 97 0) ≤ x1 → post x3 σ10) ∧ (¬ ((σ10.1 97 0) ≤ x1) → ∀ σ16 : eS, σ16 = e_ui σ10 97 50 ((σ10.1 97 50) + (1 : Int32)) → post x3 σ16)))))
set_option maxHeartbeats 4000000 in
set_option maxRecDepth 100000 in
theorem l_X11_town_155 {p : Program} {l : Launch} {e : Env} {s : State} {m : MethodId} {args : Array Value} {below : List Frame} {meth : Method} {c : Code} {D : va_G} {ρ : Nat → Nat} {κ : Nat → ClassId} {base : Nat} {post : Int32 → eS → Prop} (C : eCx p s m args meth c cX11_town RX11 5 (some .int) wsX11_town) (K : gK D ρ κ base s) : ∀ (σ : eS) (x1 : Int32) (x2 : Int32) (x3 : Int32) (H : Heap) (locs : List Loc) (ls : Array Slot), b_X11_town_155 post σ x1 x2 x3 → gG D ρ κ base s σ H locs → lv_has ls 5 [(0, .ref (ρ (97))), (1, .int (x1)), (2, .int (x2)), (3, .int (x3))] → W p l e rm_X11_town s m args below meth c H locs 0 0 (gQi below args s D ρ κ base post) (F0 m 155 ls []) := by
  obtain ⟨hx, hb, hml, hown, hts, hr, hlocks⟩ := id C
  intro σ x1 x2 x3 H locs ls h G hl
  unfold b_X11_town_155 at h
  refine lv_aload_n hx hb dX11_town_155 rfl (lv_at hl 0 rfl) ?_
  refine e_callVi (As := []) (rest := []) ⟨hx, hb, hml, hown, hts⟩ K G 97 (by decide) gl_97 rfl (c_X11_fine h) (cwV 0 hts gX11_town_X11_fine rfl rfl rfl (by decide +kernel) ⟨Nat.le_of_ble_eq_true rfl, Nat.le_of_ble_eq_true rfl⟩) rfl hl.1 rfl (Nat.le_of_ble_eq_true rfl) dX11_town_156 ⟨Nat.zero_le _, Nat.zero_le _⟩ (fun r11 σ10 H locs h G => ?_)
  refine lv_if_eq (tgt := 182) hx hb dX11_town_159 (by decide) (fun c12 => ?_) (fun c12 => ?_)
  · have h := h.1 c12
    refine lv_aload_n hx hb dX11_town_182 rfl (lv_at hl 0 rfl) ?_
    refine lv_iload_n hx hb dX11_town_183 rfl (lv_at hl 1 rfl) ?_
    refine e_puti hx hb hts in_X11_town_X11 tyX11 tyX11_ok nmX11 hown K G 97 (by decide) gl_97 rfl 0 (by decide) rfl (hts (.fieldLink RX11 104 "StreetsStepOnModel" "streets" "I") (e_mem (n := 4) rfl)) rfl (tyX11_ok 0 (by decide)) rfl rfl dX11_town_184 (fun H locs G => ?_)
    obtain ⟨σ13, eσ13⟩ : ∃ z : eS, z = e_ui σ10 97 0 x1 := ⟨_, rfl⟩
    rw [← eσ13] at G
    have h := h σ13 eσ13
    refine lv_aload_n hx hb dX11_town_187 rfl (lv_at hl 0 rfl) ?_
    refine lv_iload_n hx hb dX11_town_188 rfl (lv_at hl 2 rfl) ?_
    refine e_puti hx hb hts in_X11_town_X11 tyX11 tyX11_ok nmX11 hown K G 97 (by decide) gl_97 rfl 4 (by decide) rfl (hts (.fieldLink RX11 111 "StreetsStepOnModel" "orders" "I") (e_mem (n := 5) rfl)) rfl (tyX11_ok 4 (by decide)) rfl rfl dX11_town_189 (fun H locs G => ?_)
    obtain ⟨σ14, eσ14⟩ : ∃ z : eS, z = e_ui σ13 97 4 x2 := ⟨_, rfl⟩
    rw [← eσ14] at G
    have h := h σ14 eσ14
    refine lv_iconst (v := (-1 : Int32)) hx hb dX11_town_192 (by decide) ?_
    refine lv_aload_n hx hb dX11_town_193 rfl (lv_at hl 0 rfl) ?_
    refine e_geti hx hb hts in_X11_town_X11 hown K G 97 (by decide) gl_97 rfl 23 (by decide) rfl (hts (.fieldLink RX11 136 "StreetsStepOnModel" "wrong" "I") (e_mem (n := 9) rfl)) dX11_town_194 ?_
    refine lv_isub hx hb dX11_town_197 ?_
    exact e_iret hx hb hr hlocks G h dX11_town_198
  · have h := h.2 c12
    refine lv_aload_n hx hb dX11_town_162 rfl (lv_at hl 0 rfl) ?_
    refine e_geti hx hb hts in_X11_town_X11 hown K G 97 (by decide) gl_97 rfl 0 (by decide) rfl (hts (.fieldLink RX11 104 "StreetsStepOnModel" "streets" "I") (e_mem (n := 4) rfl)) dX11_town_163 ?_
    refine lv_iload_n hx hb dX11_town_166 rfl (lv_at hl 1 rfl) ?_
    refine lv_icmp_le (tgt := 180) hx hb dX11_town_167 (by decide) (fun c15 => ?_) (fun c15 => ?_)
    · have h := h.1 c15
      refine lv_iload_n hx hb dX11_town_180 rfl (lv_at hl 3 rfl) ?_
      exact e_iret hx hb hr hlocks G h dX11_town_181
    · have h := h.2 c15
      refine lv_aload_n hx hb dX11_town_170 rfl (lv_at hl 0 rfl) ?_
      refine lv_dup hx hb dX11_town_171 rfl ?_
      refine e_geti hx hb hts in_X11_town_X11 hown K G 97 (by decide) gl_97 rfl 50 (by decide) rfl (hts (.fieldLink RX11 169 "StreetsStepOnModel" "streetsTold" "I") (e_mem (n := 8) rfl)) dX11_town_172 ?_
      refine lv_iconst (v := (1 : Int32)) hx hb dX11_town_175 (by decide) ?_
      refine lv_iadd hx hb dX11_town_176 ?_
      refine e_puti hx hb hts in_X11_town_X11 tyX11 tyX11_ok nmX11 hown K G 97 (by decide) gl_97 rfl 50 (by decide) rfl (hts (.fieldLink RX11 169 "StreetsStepOnModel" "streetsTold" "I") (e_mem (n := 8) rfl)) rfl (tyX11_ok 50 (by decide)) rfl rfl dX11_town_177 (fun H locs G => ?_)
      obtain ⟨σ16, eσ16⟩ : ∃ z : eS, z = e_ui σ10 97 50 ((σ10.1 97 50) + (1 : Int32)) := ⟨_, rfl⟩
      rw [← eσ16] at G
      have h := h σ16 eσ16
      refine lv_iload_n hx hb dX11_town_180 rfl (lv_at hl 3 rfl) ?_
      exact e_iret hx hb hr hlocks G h dX11_town_181
def b_X11_town_136 (post : Int32 → eS → Prop) (σ : eS) (x1 : Int32) (x2 : Int32) (x3 : Int32) : Prop := (((σ.1 97 20) ≤ (σ.1 97 22) → b_X11_town_155 post σ x1 x2 x3) ∧ (¬ ((σ.1 97 20) ≤ (σ.1 97 22)) → w_X11_fault σ (σ.1 97 22) (fun σ17 => b_X11_town_155 post σ17 x1 x2 x3)))
set_option maxHeartbeats 4000000 in
set_option maxRecDepth 100000 in
theorem l_X11_town_136 {p : Program} {l : Launch} {e : Env} {s : State} {m : MethodId} {args : Array Value} {below : List Frame} {meth : Method} {c : Code} {D : va_G} {ρ : Nat → Nat} {κ : Nat → ClassId} {base : Nat} {post : Int32 → eS → Prop} (C : eCx p s m args meth c cX11_town RX11 5 (some .int) wsX11_town) (K : gK D ρ κ base s) : ∀ (σ : eS) (x1 : Int32) (x2 : Int32) (x3 : Int32) (H : Heap) (locs : List Loc) (ls : Array Slot), b_X11_town_136 post σ x1 x2 x3 → gG D ρ κ base s σ H locs → lv_has ls 5 [(0, .ref (ρ (97))), (1, .int (x1)), (2, .int (x2)), (3, .int (x3))] → W p l e rm_X11_town s m args below meth c H locs 0 0 (gQi below args s D ρ κ base post) (F0 m 136 ls []) := by
  obtain ⟨hx, hb, hml, hown, hts, hr, hlocks⟩ := id C
  intro σ x1 x2 x3 H locs ls h G hl
  unfold b_X11_town_136 at h
  refine lv_aload_n hx hb dX11_town_136 rfl (lv_at hl 0 rfl) ?_
  refine e_geti hx hb hts in_X11_town_X11 hown K G 97 (by decide) gl_97 rfl 22 (by decide) rfl (hts (.fieldLink RX11 133 "StreetsStepOnModel" "at" "I") (e_mem (n := 7) rfl)) dX11_town_137 ?_
  refine lv_aload_n hx hb dX11_town_140 rfl (lv_at hl 0 rfl) ?_
  refine e_geti hx hb hts in_X11_town_X11 hown K G 97 (by decide) gl_97 rfl 20 (by decide) rfl (hts (.fieldLink RX11 127 "StreetsStepOnModel" "size" "I") (e_mem (n := 6) rfl)) dX11_town_141 ?_
  refine lv_icmp_ge (tgt := 155) hx hb dX11_town_144 (by decide) (fun c9 => ?_) (fun c9 => ?_)
  · have h := h.1 c9
    exact l_X11_town_155 C K σ x1 x2 x3 _ _ _  h G (lv_sub hl [0, 1, 2, 3] rfl)
  · have h := h.2 c9
    refine lv_aload_n hx hb dX11_town_147 rfl (lv_at hl 0 rfl) ?_
    refine lv_aload_n hx hb dX11_town_148 rfl (lv_at hl 0 rfl) ?_
    refine e_geti hx hb hts in_X11_town_X11 hown K G 97 (by decide) gl_97 rfl 22 (by decide) rfl (hts (.fieldLink RX11 133 "StreetsStepOnModel" "at" "I") (e_mem (n := 7) rfl)) dX11_town_149 ?_
    refine e_callVv (As := [.int (σ.1 97 22)]) (rest := []) ⟨hx, hb, hml, hown, hts⟩ K G 97 (by decide) gl_97 rfl (c_X11_fault h) (cwV 1 hts gX11_town_X11_fault rfl rfl rfl (by decide +kernel) ⟨Nat.le_of_ble_eq_true rfl, Nat.le_of_ble_eq_true rfl⟩) rfl hl.1 rfl (Nat.le_of_ble_eq_true rfl) dX11_town_152 ⟨Nat.zero_le _, Nat.zero_le _⟩ (fun σ17 H locs h G => ?_)
    exact l_X11_town_155 C K σ17 x1 x2 x3 _ _ _  h G (lv_sub hl [0, 1, 2, 3] rfl)
def b_X11_town_122 (post : Int32 → eS → Prop) (K50 : eS → Int32 → Int32 → Int32 → Int32 → Prop) (σ : eS) (x1 : Int32) (x2 : Int32) (x3 : Int32) : Prop := ∀ v26 : Int32, v26 = (x3 + (1 : Int32)) → w_X11_passes σ (59 : Int32) (fun r28 σ27 => K50 σ27 x1 x2 v26 r28)
set_option maxHeartbeats 4000000 in
set_option maxRecDepth 100000 in
theorem l_X11_town_122 {p : Program} {l : Launch} {e : Env} {s : State} {m : MethodId} {args : Array Value} {below : List Frame} {meth : Method} {c : Code} {D : va_G} {ρ : Nat → Nat} {κ : Nat → ClassId} {base : Nat} {post : Int32 → eS → Prop} (C : eCx p s m args meth c cX11_town RX11 5 (some .int) wsX11_town) (K : gK D ρ κ base s) {K50 : eS → Int32 → Int32 → Int32 → Int32 → Prop} (hK50 : ∀ (σ : eS) (x1 : Int32) (x2 : Int32) (x3 : Int32) (x4 : Int32) (H : Heap) (locs : List Loc) (ls : Array Slot), K50 σ x1 x2 x3 x4 → gG D ρ κ base s σ H locs → lv_has ls 5 [(0, .ref (ρ (97))), (1, .int (x1)), (2, .int (x2)), (3, .int (x3)), (4, .int (x4))] → W p l e rm_X11_town s m args below meth c H locs 0 0 (gQi below args s D ρ κ base post) (F0 m 50 ls [])) : ∀ (σ : eS) (x1 : Int32) (x2 : Int32) (x3 : Int32) (H : Heap) (locs : List Loc) (ls : Array Slot), b_X11_town_122 post K50 σ x1 x2 x3 → gG D ρ κ base s σ H locs → lv_has ls 5 [(0, .ref (ρ (97))), (1, .int (x1)), (2, .int (x2)), (3, .int (x3))] → W p l e rm_X11_town s m args below meth c H locs 0 0 (gQi below args s D ρ κ base post) (F0 m 122 ls []) := by
  obtain ⟨hx, hb, hml, hown, hts, hr, hlocks⟩ := id C
  intro σ x1 x2 x3 H locs ls h G hl
  unfold b_X11_town_122 at h
  obtain ⟨v26, ev26⟩ : ∃ y : Int32, y = x3 + (1 : Int32) := ⟨_, rfl⟩
  have h := h v26 ev26
  refine lv_iinc (v := v26) (lv' := [(3, .int (v26)), (0, .ref (ρ (97))), (1, .int (x1)), (2, .int (x2))]) hx hb dX11_town_122 hl (k := 3) rfl (by rw [ev26]; rfl) (by decide) rfl (fun ls hl => ?_)
  refine lv_aload_n hx hb dX11_town_125 rfl (lv_at hl 1 rfl) ?_
  refine lv_bipush (v := (59 : Int32)) hx hb dX11_town_126 (by decide) ?_
  refine e_callVi (As := [.int ((59 : Int32))]) (rest := []) ⟨hx, hb, hml, hown, hts⟩ K G 97 (by decide) gl_97 rfl (c_X11_passes h) (cwV 1 hts gX11_town_X11_passes rfl rfl rfl (by decide +kernel) ⟨Nat.le_of_ble_eq_true rfl, Nat.le_of_ble_eq_true rfl⟩) rfl hl.1 rfl (Nat.le_of_ble_eq_true rfl) dX11_town_128 ⟨Nat.zero_le _, Nat.zero_le _⟩ (fun r28 σ27 H locs h G => ?_)
  refine lv_istore (lv' := [(4, .int (r28)), (3, .int (v26)), (0, .ref (ρ (97))), (1, .int (x1)), (2, .int (x2))]) hx hb dX11_town_131 hl (by decide) rfl (fun ls hl => ?_)
  refine lv_goto (tgt := 50) hx hb dX11_town_133 (by decide) ?_
  exact hK50 σ27 x1 x2 v26 r28 _ _ _  h G (lv_sub hl [2, 3, 4, 1, 0] rfl)
def b_X11_town_50 (post : Int32 → eS → Prop) : Nat → eS → Int32 → Int32 → Int32 → Int32 → Prop
  | 0, _, _, _, _, _ => False
  | n + 1, σ, x1, x2, x3, x4 => ((x4 = 0 → b_X11_town_136 post σ x1 x2 x3) ∧ (¬ (x4 = 0) → w_X11_fine σ (fun r19 σ18 => ((r19 = 0 → b_X11_town_136 post σ18 x1 x2 x3) ∧ (¬ (r19 = 0) → w_X11_here σ18 (fun r22 σ21 => ((¬ r22 = (111 : Int32) → ((¬ (σ21.1 97 0) = (12 : Int32) → False) ∧ ((σ21.1 97 0) = (12 : Int32) → w_X11_fault σ21 (σ21.1 97 22) (fun σ25 => b_X11_town_122 post (fun s x1 x2 x3 x4 => b_X11_town_50 post n s x1 x2 x3 x4) σ25 x1 x2 x3)))) ∧ (r22 = (111 : Int32) → ((¬ (σ21.1 97 4) = (7 : Int32) → False) ∧ ((σ21.1 97 4) = (7 : Int32) → w_X11_fault σ21 (σ21.1 97 22) (fun σ30 => b_X11_town_122 post (fun s x1 x2 x3 x4 => b_X11_town_50 post n s x1 x2 x3 x4) σ30 x1 x2 x3)))))))))))
set_option maxHeartbeats 4000000 in
set_option maxRecDepth 100000 in
theorem l_X11_town_50 {p : Program} {l : Launch} {e : Env} {s : State} {m : MethodId} {args : Array Value} {below : List Frame} {meth : Method} {c : Code} {D : va_G} {ρ : Nat → Nat} {κ : Nat → ClassId} {base : Nat} {post : Int32 → eS → Prop} (C : eCx p s m args meth c cX11_town RX11 5 (some .int) wsX11_town) (K : gK D ρ κ base s) : ∀ (n : Nat) (σ : eS) (x1 : Int32) (x2 : Int32) (x3 : Int32) (x4 : Int32) (H : Heap) (locs : List Loc) (ls : Array Slot), b_X11_town_50 post n σ x1 x2 x3 x4 → gG D ρ κ base s σ H locs → lv_has ls 5 [(0, .ref (ρ (97))), (1, .int (x1)), (2, .int (x2)), (3, .int (x3)), (4, .int (x4))] → W p l e rm_X11_town s m args below meth c H locs 0 0 (gQi below args s D ρ κ base post) (F0 m 50 ls []) := by
  obtain ⟨hx, hb, hml, hown, hts, hr, hlocks⟩ := id C
  intro n
  induction n with
  | zero => intro σ x1 x2 x3 x4 H locs ls h G hl; exact False.elim h
  | succ n ih =>
    intro σ x1 x2 x3 x4 H locs ls h G hl
    rw [b_X11_town_50] at h
    refine lv_iload hx hb dX11_town_50 (lv_at hl 4 rfl) ?_
    refine lv_if_eq (tgt := 136) hx hb dX11_town_52 (by decide) (fun c8 => ?_) (fun c8 => ?_)
    · have h := h.1 c8
      exact l_X11_town_136 C K σ x1 x2 x3 _ _ _  h G (lv_sub hl [0, 1, 2, 3] rfl)
    · have h := h.2 c8
      refine lv_aload_n hx hb dX11_town_55 rfl (lv_at hl 0 rfl) ?_
      refine e_callVi (As := []) (rest := []) ⟨hx, hb, hml, hown, hts⟩ K G 97 (by decide) gl_97 rfl (c_X11_fine h) (cwV 0 hts gX11_town_X11_fine rfl rfl rfl (by decide +kernel) ⟨Nat.le_of_ble_eq_true rfl, Nat.le_of_ble_eq_true rfl⟩) rfl hl.1 rfl (Nat.le_of_ble_eq_true rfl) dX11_town_56 ⟨Nat.zero_le _, Nat.zero_le _⟩ (fun r19 σ18 H locs h G => ?_)
      refine lv_if_eq (tgt := 136) hx hb dX11_town_59 (by decide) (fun c20 => ?_) (fun c20 => ?_)
      · have h := h.1 c20
        exact l_X11_town_136 C K σ18 x1 x2 x3 _ _ _  h G (lv_sub hl [0, 1, 2, 3] rfl)
      · have h := h.2 c20
        refine lv_aload_n hx hb dX11_town_62 rfl (lv_at hl 0 rfl) ?_
        refine e_callVi (As := []) (rest := []) ⟨hx, hb, hml, hown, hts⟩ K G 97 (by decide) gl_97 rfl (c_X11_here h) (cwV 0 hts gX11_town_X11_here rfl rfl rfl (by decide +kernel) ⟨Nat.le_of_ble_eq_true rfl, Nat.le_of_ble_eq_true rfl⟩) rfl hl.1 rfl (Nat.le_of_ble_eq_true rfl) dX11_town_63 ⟨Nat.zero_le _, Nat.zero_le _⟩ (fun r22 σ21 H locs h G => ?_)
        refine lv_bipush (v := (111 : Int32)) hx hb dX11_town_66 (by decide) ?_
        refine lv_icmp_ne (tgt := 98) hx hb dX11_town_68 (by decide) (fun c23 => ?_) (fun c23 => ?_)
        · have h := h.1 c23
          refine lv_aload_n hx hb dX11_town_98 rfl (lv_at hl 0 rfl) ?_
          refine e_geti hx hb hts in_X11_town_X11 hown K G 97 (by decide) gl_97 rfl 0 (by decide) rfl (hts (.fieldLink RX11 104 "StreetsStepOnModel" "streets" "I") (e_mem (n := 4) rfl)) dX11_town_99 ?_
          refine lv_bipush (v := (12 : Int32)) hx hb dX11_town_102 (by decide) ?_
          refine lv_icmp_ne (tgt := 118) hx hb dX11_town_104 (by decide) (fun c24 => ?_) (fun c24 => ?_)
          · have h := h.1 c24
            refine lv_aload_n hx hb dX11_town_118 rfl (lv_at hl 0 rfl) ?_
            exact h.elim
          · have h := h.2 c24
            refine lv_aload_n hx hb dX11_town_107 rfl (lv_at hl 0 rfl) ?_
            refine lv_aload_n hx hb dX11_town_108 rfl (lv_at hl 0 rfl) ?_
            refine e_geti hx hb hts in_X11_town_X11 hown K G 97 (by decide) gl_97 rfl 22 (by decide) rfl (hts (.fieldLink RX11 133 "StreetsStepOnModel" "at" "I") (e_mem (n := 7) rfl)) dX11_town_109 ?_
            refine e_callVv (As := [.int (σ21.1 97 22)]) (rest := []) ⟨hx, hb, hml, hown, hts⟩ K G 97 (by decide) gl_97 rfl (c_X11_fault h) (cwV 1 hts gX11_town_X11_fault rfl rfl rfl (by decide +kernel) ⟨Nat.le_of_ble_eq_true rfl, Nat.le_of_ble_eq_true rfl⟩) rfl hl.1 rfl (Nat.le_of_ble_eq_true rfl) dX11_town_112 ⟨Nat.zero_le _, Nat.zero_le _⟩ (fun σ25 H locs h G => ?_)
            refine lv_goto (tgt := 122) hx hb dX11_town_115 (by decide) ?_
            exact l_X11_town_122 C K (hK50 := ih) σ25 x1 x2 x3 _ _ _  h G (lv_sub hl [0, 1, 2, 3] rfl)
        · have h := h.2 c23
          refine lv_aload_n hx hb dX11_town_71 rfl (lv_at hl 0 rfl) ?_
          refine e_geti hx hb hts in_X11_town_X11 hown K G 97 (by decide) gl_97 rfl 4 (by decide) rfl (hts (.fieldLink RX11 111 "StreetsStepOnModel" "orders" "I") (e_mem (n := 5) rfl)) dX11_town_72 ?_
          refine lv_bipush (v := (7 : Int32)) hx hb dX11_town_75 (by decide) ?_
          refine lv_icmp_ne (tgt := 91) hx hb dX11_town_77 (by decide) (fun c29 => ?_) (fun c29 => ?_)
          · have h := h.1 c29
            refine lv_aload_n hx hb dX11_town_91 rfl (lv_at hl 0 rfl) ?_
            exact h.elim
          · have h := h.2 c29
            refine lv_aload_n hx hb dX11_town_80 rfl (lv_at hl 0 rfl) ?_
            refine lv_aload_n hx hb dX11_town_81 rfl (lv_at hl 0 rfl) ?_
            refine e_geti hx hb hts in_X11_town_X11 hown K G 97 (by decide) gl_97 rfl 22 (by decide) rfl (hts (.fieldLink RX11 133 "StreetsStepOnModel" "at" "I") (e_mem (n := 7) rfl)) dX11_town_82 ?_
            refine e_callVv (As := [.int (σ21.1 97 22)]) (rest := []) ⟨hx, hb, hml, hown, hts⟩ K G 97 (by decide) gl_97 rfl (c_X11_fault h) (cwV 1 hts gX11_town_X11_fault rfl rfl rfl (by decide +kernel) ⟨Nat.le_of_ble_eq_true rfl, Nat.le_of_ble_eq_true rfl⟩) rfl hl.1 rfl (Nat.le_of_ble_eq_true rfl) dX11_town_85 ⟨Nat.zero_le _, Nat.zero_le _⟩ (fun σ30 H locs h G => ?_)
            refine lv_goto (tgt := 122) hx hb dX11_town_88 (by decide) ?_
            exact l_X11_town_122 C K (hK50 := ih) σ30 x1 x2 x3 _ _ _  h G (lv_sub hl [0, 1, 2, 3] rfl)
def b_X11_town_48 (post : Int32 → eS → Prop) (σ : eS) (x1 : Int32) (x2 : Int32) (x3 : Int32) (y0 : Int32) : Prop := (∃ n31 : Nat, b_X11_town_50 post n31 σ x1 x2 x3 y0)
set_option maxHeartbeats 4000000 in
set_option maxRecDepth 100000 in
theorem l_X11_town_48 {p : Program} {l : Launch} {e : Env} {s : State} {m : MethodId} {args : Array Value} {below : List Frame} {meth : Method} {c : Code} {D : va_G} {ρ : Nat → Nat} {κ : Nat → ClassId} {base : Nat} {post : Int32 → eS → Prop} (C : eCx p s m args meth c cX11_town RX11 5 (some .int) wsX11_town) (K : gK D ρ κ base s) : ∀ (σ : eS) (x1 : Int32) (x2 : Int32) (x3 : Int32) (y0 : Int32) (H : Heap) (locs : List Loc) (ls : Array Slot), b_X11_town_48 post σ x1 x2 x3 y0 → gG D ρ κ base s σ H locs → lv_has ls 5 [(0, .ref (ρ (97))), (1, .int (x1)), (2, .int (x2)), (3, .int (x3))] → W p l e rm_X11_town s m args below meth c H locs 0 0 (gQi below args s D ρ κ base post) (F0 m 48 ls [.int (y0)]) := by
  obtain ⟨hx, hb, hml, hown, hts, hr, hlocks⟩ := id C
  intro σ x1 x2 x3 y0 H locs ls h G hl
  unfold b_X11_town_48 at h
  refine lv_istore (lv' := [(4, .int (y0)), (0, .ref (ρ (97))), (1, .int (x1)), (2, .int (x2)), (3, .int (x3))]) hx hb dX11_town_48 hl (by decide) rfl (fun ls hl => ?_)
  obtain ⟨n31, h⟩ := h
  exact l_X11_town_50 C K n31 σ x1 x2 x3 y0 _ _ _  h G (lv_sub hl [1, 2, 3, 4, 0] rfl)
def w_X11_town (σ : eS) (post : Int32 → eS → Prop) : Prop := ∀ σ1 : eS, σ1 = e_ui σ 97 18 (0 : Int32) → w_X11_begin σ1 (σ1.1 97 15) (76 : Int32) (fun σ2 => ∀ σ3 : eS, σ3 = e_ui σ2 97 15 (0 : Int32) → ∀ v4 : Int32, v4 = (σ3.1 97 0) → ∀ v5 : Int32, v5 = (σ3.1 97 4) → ∀ v6 : Int32, v6 = (0 : Int32) → (((σ3.1 97 20) ≤ 0 → b_X11_town_48 post σ3 v4 v5 v6 (0 : Int32)) ∧ (¬ ((σ3.1 97 20) ≤ 0) → b_X11_town_48 post σ3 v4 v5 v6 (1 : Int32))))
set_option maxHeartbeats 4000000 in
set_option maxRecDepth 100000 in
theorem c_X11_town {l : Launch} {D : va_G} {ρ : Nat → Nat} {κ : Nat → ClassId} {base : Nat} {σ : eS} {post : Int32 → eS → Prop} (h : w_X11_town σ post) : gMi l yX11_town wsX11_town rm_X11_town D ρ κ base [.ref (ρ (97))] σ post := by
  refine e_ofWi (cc := cX11_town) (maxL := 5) (ret := (some .int)) (by decide) rfl (Nat.le_of_ble_eq_true rfl) ?_
  intro p e s m below meth c ls C K G hl
  obtain ⟨hx, hb, hml, hown, hts, hr, hlocks⟩ := id C
  have hl : lv_has ls 5 [(0, .ref (ρ (97)))] := hl
  unfold w_X11_town at h
  refine lv_aload_n hx hb dX11_town_0 rfl (lv_at hl 0 rfl) ?_
  refine lv_iconst (v := (0 : Int32)) hx hb dX11_town_1 (by decide) ?_
  refine e_puti hx hb hts in_X11_town_X11 tyX11 tyX11_ok nmX11 hown K G 97 (by decide) gl_97 rfl 18 (by decide) rfl (hts (.fieldLink RX11 98 "StreetsStepOnModel" "thrown" "I") (e_mem (n := 1) rfl)) rfl (tyX11_ok 18 (by decide)) rfl rfl dX11_town_2 (fun H locs G => ?_)
  obtain ⟨σ1, eσ1⟩ : ∃ z : eS, z = e_ui σ 97 18 (0 : Int32) := ⟨_, rfl⟩
  rw [← eσ1] at G
  have h := h σ1 eσ1
  refine lv_aload_n hx hb dX11_town_5 rfl (lv_at hl 0 rfl) ?_
  refine lv_aload_n hx hb dX11_town_6 rfl (lv_at hl 0 rfl) ?_
  refine e_getq hx hb hts in_X11_town_X11 hown K G 97 (by decide) gl_97 rfl 14 (by decide) 107 rfl (hts (.fieldLink RX11 38 "StreetsStepOnModel" "text" "[B") (e_mem (n := 2) rfl)) dX11_town_7 ?_
  refine lv_aload_n hx hb dX11_town_10 rfl (lv_at hl 0 rfl) ?_
  refine e_geti hx hb hts in_X11_town_X11 hown K G 97 (by decide) gl_97 rfl 15 (by decide) rfl (hts (.fieldLink RX11 121 "StreetsStepOnModel" "typed" "I") (e_mem (n := 3) rfl)) dX11_town_11 ?_
  refine lv_bipush (v := (76 : Int32)) hx hb dX11_town_14 (by decide) ?_
  refine e_callVv (As := [.ref (ρ (107)), .int (σ1.1 97 15), .int ((76 : Int32))]) (rest := []) ⟨hx, hb, hml, hown, hts⟩ K G 97 (by decide) gl_97 rfl (c_X11_begin h) (cwV 3 hts gX11_town_X11_begin rfl rfl rfl (by decide +kernel) ⟨Nat.le_of_ble_eq_true rfl, Nat.le_of_ble_eq_true rfl⟩) rfl hl.1 rfl (Nat.le_of_ble_eq_true rfl) dX11_town_16 ⟨Nat.zero_le _, Nat.zero_le _⟩ (fun σ2 H locs h G => ?_)
  refine lv_aload_n hx hb dX11_town_19 rfl (lv_at hl 0 rfl) ?_
  refine lv_iconst (v := (0 : Int32)) hx hb dX11_town_20 (by decide) ?_
  refine e_puti hx hb hts in_X11_town_X11 tyX11 tyX11_ok nmX11 hown K G 97 (by decide) gl_97 rfl 15 (by decide) rfl (hts (.fieldLink RX11 121 "StreetsStepOnModel" "typed" "I") (e_mem (n := 3) rfl)) rfl (tyX11_ok 15 (by decide)) rfl rfl dX11_town_21 (fun H locs G => ?_)
  obtain ⟨σ3, eσ3⟩ : ∃ z : eS, z = e_ui σ2 97 15 (0 : Int32) := ⟨_, rfl⟩
  rw [← eσ3] at G
  have h := h σ3 eσ3
  refine lv_aload_n hx hb dX11_town_24 rfl (lv_at hl 0 rfl) ?_
  refine e_geti hx hb hts in_X11_town_X11 hown K G 97 (by decide) gl_97 rfl 0 (by decide) rfl (hts (.fieldLink RX11 104 "StreetsStepOnModel" "streets" "I") (e_mem (n := 4) rfl)) dX11_town_25 ?_
  refine lv_topi (fun v4 ev4 => ?_)
  have h := h v4 ev4
  refine lv_istore_n (lv' := [(1, .int (v4)), (0, .ref (ρ (97)))]) hx hb dX11_town_28 rfl hl (by decide) rfl (fun ls hl => ?_)
  refine lv_aload_n hx hb dX11_town_29 rfl (lv_at hl 1 rfl) ?_
  refine e_geti hx hb hts in_X11_town_X11 hown K G 97 (by decide) gl_97 rfl 4 (by decide) rfl (hts (.fieldLink RX11 111 "StreetsStepOnModel" "orders" "I") (e_mem (n := 5) rfl)) dX11_town_30 ?_
  refine lv_topi (fun v5 ev5 => ?_)
  have h := h v5 ev5
  refine lv_istore_n (lv' := [(2, .int (v5)), (1, .int (v4)), (0, .ref (ρ (97)))]) hx hb dX11_town_33 rfl hl (by decide) rfl (fun ls hl => ?_)
  refine lv_iconst (v := (0 : Int32)) hx hb dX11_town_34 (by decide) ?_
  refine lv_topi (fun v6 ev6 => ?_)
  have h := h v6 ev6
  refine lv_istore_n (lv' := [(3, .int (v6)), (2, .int (v5)), (1, .int (v4)), (0, .ref (ρ (97)))]) hx hb dX11_town_35 rfl hl (by decide) rfl (fun ls hl => ?_)
  refine lv_aload_n hx hb dX11_town_36 rfl (lv_at hl 3 rfl) ?_
  refine e_geti hx hb hts in_X11_town_X11 hown K G 97 (by decide) gl_97 rfl 20 (by decide) rfl (hts (.fieldLink RX11 127 "StreetsStepOnModel" "size" "I") (e_mem (n := 6) rfl)) dX11_town_37 ?_
  refine lv_if_le (tgt := 47) hx hb dX11_town_40 (by decide) (fun c7 => ?_) (fun c7 => ?_)
  · have h := h.1 c7
    refine lv_iconst (v := (0 : Int32)) hx hb dX11_town_47 (by decide) ?_
    exact l_X11_town_48 C K σ3 v4 v5 v6 (0 : Int32) _ _ _  h G (lv_sub hl [3, 2, 1, 0] rfl)
  · have h := h.2 c7
    refine lv_iconst (v := (1 : Int32)) hx hb dX11_town_43 (by decide) ?_
    refine lv_goto (tgt := 48) hx hb dX11_town_44 (by decide) ?_
    exact l_X11_town_48 C K σ3 v4 v5 v6 (1 : Int32) _ _ _  h G (lv_sub hl [3, 2, 1, 0] rfl)
abbrev rm_X11_isStreet : Room := { frames := 1, cells := 0, slots := 0, locals := 25 }
theorem in_X11_isStreet_X11 : ∀ w ∈ wsX110, w ∈ wsX11_isStreet := fun w h => List.mem_cons_of_mem _ (List.mem_append_right _ h)
def w_X11_isStreet (σ : eS) (x1 : Int32) (post : Int32 → eS → Prop) : Prop := w_X11_in σ (x1.toInt64) (0 : Int64) (((σ.1 97 0) - (1 : Int32)).toInt64) (fun r2 σ1 => ((narrow .boolean (.int r2) = .int r2) ∧ post r2 σ1))
set_option maxHeartbeats 4000000 in
set_option maxRecDepth 100000 in
theorem c_X11_isStreet {l : Launch} {D : va_G} {ρ : Nat → Nat} {κ : Nat → ClassId} {base : Nat} {σ : eS} {x1 : Int32} {post : Int32 → eS → Prop} (h : w_X11_isStreet σ x1 post) : gMi l yX11_isStreet wsX11_isStreet rm_X11_isStreet D ρ κ base [.ref (ρ (97)), .int (x1)] σ post := by
  refine e_ofWi (cc := cX11_isStreet) (maxL := 2) (ret := (some .boolean)) (by decide) rfl (Nat.le_of_ble_eq_true rfl) ?_
  intro p e s m below meth c ls C K G hl
  obtain ⟨hx, hb, hml, hown, hts, hr, hlocks⟩ := id C
  have hl : lv_has ls 2 [(0, .ref (ρ (97))), (1, .int (x1))] := hl
  unfold w_X11_isStreet at h
  refine lv_iload_n hx hb dX11_isStreet_0 rfl (lv_at hl 1 rfl) ?_
  refine lv_i2l hx hb dX11_isStreet_1 rfl ?_
  refine lv_lconst (v := (0 : Int64)) hx hb dX11_isStreet_2 (by decide) ?_
  refine lv_aload_n hx hb dX11_isStreet_3 rfl (lv_at hl 0 rfl) ?_
  refine e_geti hx hb hts in_X11_isStreet_X11 hown K G 97 (by decide) gl_97 rfl 0 (by decide) rfl (hts (.fieldLink RX11 104 "StreetsStepOnModel" "streets" "I") (e_mem (n := 1) rfl)) dX11_isStreet_4 ?_
  refine lv_iconst (v := (1 : Int32)) hx hb dX11_isStreet_7 (by decide) ?_
  refine lv_isub hx hb dX11_isStreet_8 ?_
  refine lv_i2l hx hb dX11_isStreet_9 rfl ?_
  refine e_callSi (As := [.long (x1.toInt64), .long ((0 : Int64)), .long (((σ.1 97 0) - (1 : Int32)).toInt64)]) (rest := []) ⟨hx, hb, hml, hown, hts⟩ K G (c_X11_in h) (va_cwS 3 hts gX11_isStreet_X11_in rfl rfl rfl (by decide +kernel) ⟨Nat.le_of_ble_eq_true rfl, Nat.le_of_ble_eq_true rfl⟩) rfl hl.1 rfl (Nat.le_of_ble_eq_true rfl) dX11_isStreet_10 ⟨Nat.zero_le _, Nat.zero_le _⟩ (fun r2 σ1 H locs h G => ?_)
  exact e_zret hx hb hr hlocks G h.1 h.2 dX11_isStreet_13
abbrev rm_X11_lost : Room := { frames := 0, cells := 0, slots := 0, locals := 0 }
theorem in_X11_lost_X11 : ∀ w ∈ wsX110, w ∈ wsX11_lost := fun w h => List.mem_cons_of_mem _ (List.mem_append_right _ h)
def w_X11_lost (σ : eS) (post : Int32 → eS → Prop) : Prop := ∀ σ1 : eS, σ1 = e_ui σ 97 18 (1 : Int32) → post (0 : Int32) σ1
set_option maxHeartbeats 4000000 in
set_option maxRecDepth 100000 in
theorem c_X11_lost {l : Launch} {D : va_G} {ρ : Nat → Nat} {κ : Nat → ClassId} {base : Nat} {σ : eS} {post : Int32 → eS → Prop} (h : w_X11_lost σ post) : gMi l yX11_lost wsX11_lost rm_X11_lost D ρ κ base [.ref (ρ (97))] σ post := by
  refine e_ofWi (cc := cX11_lost) (maxL := 1) (ret := (some .int)) (by decide) rfl (Nat.le_of_ble_eq_true rfl) ?_
  intro p e s m below meth c ls C K G hl
  obtain ⟨hx, hb, hml, hown, hts, hr, hlocks⟩ := id C
  have hl : lv_has ls 1 [(0, .ref (ρ (97)))] := hl
  unfold w_X11_lost at h
  refine lv_aload_n hx hb dX11_lost_0 rfl (lv_at hl 0 rfl) ?_
  refine lv_iconst (v := (1 : Int32)) hx hb dX11_lost_1 (by decide) ?_
  refine e_puti hx hb hts in_X11_lost_X11 tyX11 tyX11_ok nmX11 hown K G 97 (by decide) gl_97 rfl 18 (by decide) rfl (hts (.fieldLink RX11 98 "StreetsStepOnModel" "thrown" "I") (e_mem (n := 1) rfl)) rfl (tyX11_ok 18 (by decide)) rfl rfl dX11_lost_2 (fun H locs G => ?_)
  obtain ⟨σ1, eσ1⟩ : ∃ z : eS, z = e_ui σ 97 18 (1 : Int32) := ⟨_, rfl⟩
  rw [← eσ1] at G
  have h := h σ1 eσ1
  refine lv_iconst (v := (0 : Int32)) hx hb dX11_lost_5 (by decide) ?_
  exact e_iret hx hb hr hlocks G h dX11_lost_6
abbrev rm_X11_street : Room := { frames := 2, cells := 0, slots := 0, locals := 46 }
theorem in_X11_street_X11 : ∀ w ∈ wsX110, w ∈ wsX11_street := fun w h => List.mem_cons_of_mem _ (List.mem_append_right _ h)
def b_X11_street_25 (post : Int32 → eS → Prop) (σ : eS) : Prop := w_X11_lost σ (fun r6 σ5 => post r6 σ5)
set_option maxHeartbeats 4000000 in
set_option maxRecDepth 100000 in
theorem l_X11_street_25 {p : Program} {l : Launch} {e : Env} {s : State} {m : MethodId} {args : Array Value} {below : List Frame} {meth : Method} {c : Code} {D : va_G} {ρ : Nat → Nat} {κ : Nat → ClassId} {base : Nat} {post : Int32 → eS → Prop} (C : eCx p s m args meth c cX11_street RX11 3 (some .int) wsX11_street) (K : gK D ρ κ base s) : ∀ (σ : eS) (H : Heap) (locs : List Loc) (ls : Array Slot), b_X11_street_25 post σ → gG D ρ κ base s σ H locs → lv_has ls 3 [(0, .ref (ρ (97)))] → W p l e rm_X11_street s m args below meth c H locs 0 0 (gQi below args s D ρ κ base post) (F0 m 25 ls []) := by
  obtain ⟨hx, hb, hml, hown, hts, hr, hlocks⟩ := id C
  intro σ H locs ls h G hl
  unfold b_X11_street_25 at h
  refine lv_aload_n hx hb dX11_street_25 rfl (lv_at hl 0 rfl) ?_
  refine e_callVi (As := []) (rest := []) ⟨hx, hb, hml, hown, hts⟩ K G 97 (by decide) gl_97 rfl (c_X11_lost h) (cwV 0 hts gX11_street_X11_lost rfl rfl rfl (by decide +kernel) ⟨Nat.le_of_ble_eq_true rfl, Nat.le_of_ble_eq_true rfl⟩) rfl hl.1 rfl (Nat.le_of_ble_eq_true rfl) dX11_street_26 ⟨Nat.zero_le _, Nat.zero_le _⟩ (fun r6 σ5 H locs h G => ?_)
  exact e_iret hx hb hr hlocks G h dX11_street_29
def w_X11_street (σ : eS) (x1 : Int32) (x2 : Int32) (post : Int32 → eS → Prop) : Prop := ∀ σ1 : eS, σ1 = e_ui σ 97 18 (0 : Int32) → w_X11_isStreet σ1 x1 (fun r3 σ2 => ((r3 = 0 → b_X11_street_25 post σ2) ∧ (¬ (r3 = 0) → w_X11_in σ2 (x2.toInt64) (0 : Int64) (3 : Int64) (fun r8 σ7 => ((¬ r8 = 0 → ((¬ x2 = 0 → ((¬ x2 = (1 : Int32) → ((¬ x2 = (2 : Int32) → False) ∧ (x2 = (2 : Int32) → (vp_in x1 12) ∧ post (σ7.1 100 x1.toNatClampNeg) σ7))) ∧ (x2 = (1 : Int32) → (vp_in x1 12) ∧ post (σ7.1 99 x1.toNatClampNeg) σ7))) ∧ (x2 = 0 → (vp_in x1 12) ∧ post (σ7.1 98 x1.toNatClampNeg) σ7))) ∧ (r8 = 0 → b_X11_street_25 post σ7))))))
set_option maxHeartbeats 4000000 in
set_option maxRecDepth 100000 in
theorem c_X11_street {l : Launch} {D : va_G} {ρ : Nat → Nat} {κ : Nat → ClassId} {base : Nat} {σ : eS} {x1 : Int32} {x2 : Int32} {post : Int32 → eS → Prop} (h : w_X11_street σ x1 x2 post) : gMi l yX11_street wsX11_street rm_X11_street D ρ κ base [.ref (ρ (97)), .int (x1), .int (x2)] σ post := by
  refine e_ofWi (cc := cX11_street) (maxL := 3) (ret := (some .int)) (by decide) rfl (Nat.le_of_ble_eq_true rfl) ?_
  intro p e s m below meth c ls C K G hl
  obtain ⟨hx, hb, hml, hown, hts, hr, hlocks⟩ := id C
  have hl : lv_has ls 3 [(0, .ref (ρ (97))), (1, .int (x1)), (2, .int (x2))] := hl
  unfold w_X11_street at h
  refine lv_aload_n hx hb dX11_street_0 rfl (lv_at hl 0 rfl) ?_
  refine lv_iconst (v := (0 : Int32)) hx hb dX11_street_1 (by decide) ?_
  refine e_puti hx hb hts in_X11_street_X11 tyX11 tyX11_ok nmX11 hown K G 97 (by decide) gl_97 rfl 18 (by decide) rfl (hts (.fieldLink RX11 98 "StreetsStepOnModel" "thrown" "I") (e_mem (n := 1) rfl)) rfl (tyX11_ok 18 (by decide)) rfl rfl dX11_street_2 (fun H locs G => ?_)
  obtain ⟨σ1, eσ1⟩ : ∃ z : eS, z = e_ui σ 97 18 (0 : Int32) := ⟨_, rfl⟩
  rw [← eσ1] at G
  have h := h σ1 eσ1
  refine lv_aload_n hx hb dX11_street_5 rfl (lv_at hl 0 rfl) ?_
  refine lv_iload_n hx hb dX11_street_6 rfl (lv_at hl 1 rfl) ?_
  refine e_callVi (As := [.int (x1)]) (rest := []) ⟨hx, hb, hml, hown, hts⟩ K G 97 (by decide) gl_97 rfl (c_X11_isStreet h) (cwV 1 hts gX11_street_X11_isStreet rfl rfl rfl (by decide +kernel) ⟨Nat.le_of_ble_eq_true rfl, Nat.le_of_ble_eq_true rfl⟩) rfl hl.1 rfl (Nat.le_of_ble_eq_true rfl) dX11_street_7 ⟨Nat.zero_le _, Nat.zero_le _⟩ (fun r3 σ2 H locs h G => ?_)
  refine lv_if_eq (tgt := 25) hx hb dX11_street_10 (by decide) (fun c4 => ?_) (fun c4 => ?_)
  · have h := h.1 c4
    exact l_X11_street_25 C K σ2 _ _ _  h G (lv_sub hl [0] rfl)
  · have h := h.2 c4
    refine lv_iload_n hx hb dX11_street_13 rfl (lv_at hl 2 rfl) ?_
    refine lv_i2l hx hb dX11_street_14 rfl ?_
    refine lv_lconst (v := (0 : Int64)) hx hb dX11_street_15 (by decide) ?_
    refine lv_ldc2 (v := (3 : Int64)) hx hb hown (hts (.constantLong RX11 192 (3)) (e_mem (n := 2) rfl)) dX11_street_16 ?_
    refine e_callSi (As := [.long (x2.toInt64), .long ((0 : Int64)), .long ((3 : Int64))]) (rest := []) ⟨hx, hb, hml, hown, hts⟩ K G (c_X11_in h) (va_cwS 3 hts gX11_street_X11_in rfl rfl rfl (by decide +kernel) ⟨Nat.le_of_ble_eq_true rfl, Nat.le_of_ble_eq_true rfl⟩) rfl hl.1 rfl (Nat.le_of_ble_eq_true rfl) dX11_street_19 ⟨Nat.zero_le _, Nat.zero_le _⟩ (fun r8 σ7 H locs h G => ?_)
    refine lv_if_ne (tgt := 30) hx hb dX11_street_22 (by decide) (fun c9 => ?_) (fun c9 => ?_)
    · have h := h.1 c9
      refine lv_iload_n hx hb dX11_street_30 rfl (lv_at hl 2 rfl) ?_
      refine lv_if_ne (tgt := 43) hx hb dX11_street_31 (by decide) (fun c10 => ?_) (fun c10 => ?_)
      · have h := h.1 c10
        refine lv_iload_n hx hb dX11_street_43 rfl (lv_at hl 2 rfl) ?_
        refine lv_iconst (v := (1 : Int32)) hx hb dX11_street_44 (by decide) ?_
        refine lv_icmp_ne (tgt := 57) hx hb dX11_street_45 (by decide) (fun c11 => ?_) (fun c11 => ?_)
        · have h := h.1 c11
          refine lv_iload_n hx hb dX11_street_57 rfl (lv_at hl 2 rfl) ?_
          refine lv_iconst (v := (2 : Int32)) hx hb dX11_street_58 (by decide) ?_
          refine lv_icmp_ne (tgt := 71) hx hb dX11_street_59 (by decide) (fun c12 => ?_) (fun c12 => ?_)
          · have h := h.1 c12
            refine lv_aload_n hx hb dX11_street_71 rfl (lv_at hl 0 rfl) ?_
            refine lv_iload_n hx hb dX11_street_72 rfl (lv_at hl 1 rfl) ?_
            refine lv_aload_n hx hb dX11_street_73 rfl (lv_at hl 0 rfl) ?_
            refine e_getl hx hb hts in_X11_street_X11 hown K G 97 (by decide) gl_97 rfl 6 (by decide) rfl (hts (.fieldLink RX11 197 "StreetsStepOnModel" "today" "J") (e_mem (n := 6) rfl)) dX11_street_74 ?_
            exact h.elim
          · have h := h.2 c12
            refine lv_aload_n hx hb dX11_street_62 rfl (lv_at hl 0 rfl) ?_
            refine e_getq hx hb hts in_X11_street_X11 hown K G 97 (by decide) gl_97 rfl 3 (by decide) 100 rfl (hts (.fieldLink RX11 16 "StreetsStepOnModel" "length" "[I") (e_mem (n := 5) rfl)) dX11_street_63 ?_
            refine lv_iload_n hx hb dX11_street_66 rfl (lv_at hl 1 rfl) ?_
            have hi13 := h.1
            have h := h.2
            refine e_iald hx hb K G 100 0 0 12 (by decide) gl_100 rfl hi13 dX11_street_67 ?_
            refine lv_goto (tgt := 80) hx hb dX11_street_68 (by decide) ?_
            exact e_iret hx hb hr hlocks G h dX11_street_80
        · have h := h.2 c11
          refine lv_aload_n hx hb dX11_street_48 rfl (lv_at hl 0 rfl) ?_
          refine e_getq hx hb hts in_X11_street_X11 hown K G 97 (by decide) gl_97 rfl 2 (by decide) 99 rfl (hts (.fieldLink RX11 13 "StreetsStepOnModel" "streetB" "[I") (e_mem (n := 4) rfl)) dX11_street_49 ?_
          refine lv_iload_n hx hb dX11_street_52 rfl (lv_at hl 1 rfl) ?_
          have hi14 := h.1
          have h := h.2
          refine e_iald hx hb K G 99 0 0 12 (by decide) gl_99 rfl hi14 dX11_street_53 ?_
          refine lv_goto (tgt := 80) hx hb dX11_street_54 (by decide) ?_
          exact e_iret hx hb hr hlocks G h dX11_street_80
      · have h := h.2 c10
        refine lv_aload_n hx hb dX11_street_34 rfl (lv_at hl 0 rfl) ?_
        refine e_getq hx hb hts in_X11_street_X11 hown K G 97 (by decide) gl_97 rfl 1 (by decide) 98 rfl (hts (.fieldLink RX11 9 "StreetsStepOnModel" "streetA" "[I") (e_mem (n := 3) rfl)) dX11_street_35 ?_
        refine lv_iload_n hx hb dX11_street_38 rfl (lv_at hl 1 rfl) ?_
        have hi15 := h.1
        have h := h.2
        refine e_iald hx hb K G 98 0 0 12 (by decide) gl_98 rfl hi15 dX11_street_39 ?_
        refine lv_goto (tgt := 80) hx hb dX11_street_40 (by decide) ?_
        exact e_iret hx hb hr hlocks G h dX11_street_80
    · have h := h.2 c9
      exact l_X11_street_25 C K σ7 _ _ _  h G (lv_sub hl [0] rfl)
abbrev rm_X10_isOrder : Room := { frames := 0, cells := 0, slots := 0, locals := 0 }
theorem in_X10_isOrder_X1 : ∀ w ∈ wsX10, w ∈ wsX10_isOrder := fun w h => List.mem_cons_of_mem _ (List.mem_append_right _ h)
theorem in_X10_isOrder_X10 : ∀ w ∈ wsX100, w ∈ wsX10_isOrder := fun w h => List.mem_cons_of_mem _ (List.mem_append_left _ (List.mem_append_right _ h))
def w_X10_isOrder (σ : eS) (x1 : Int32) (post : Int32 → eS → Prop) : Prop := ((x1 < 0 → ((narrow .boolean (.int (0 : Int32)) = .int (0 : Int32)) ∧ post (0 : Int32) σ)) ∧ (¬ (x1 < 0) → (((σ.1 5 5) ≤ x1 → ((narrow .boolean (.int (0 : Int32)) = .int (0 : Int32)) ∧ post (0 : Int32) σ)) ∧ (¬ ((σ.1 5 5) ≤ x1) → ((narrow .boolean (.int (1 : Int32)) = .int (1 : Int32)) ∧ post (1 : Int32) σ)))))
set_option maxHeartbeats 4000000 in
set_option maxRecDepth 100000 in
theorem c_X10_isOrder {l : Launch} {D : va_G} {ρ : Nat → Nat} {κ : Nat → ClassId} {base : Nat} {σ : eS} {x1 : Int32} {post : Int32 → eS → Prop} (h : w_X10_isOrder σ x1 post) : gMi l yX10_isOrder wsX10_isOrder rm_X10_isOrder D ρ κ base [.ref (ρ (0)), .int (x1)] σ post := by
  refine e_ofWi (cc := cX10_isOrder) (maxL := 2) (ret := (some .boolean)) (by decide) rfl (Nat.le_of_ble_eq_true rfl) ?_
  intro p e s m below meth c ls C K G hl
  obtain ⟨hx, hb, hml, hown, hts, hr, hlocks⟩ := id C
  have hl : lv_has ls 2 [(0, .ref (ρ (0))), (1, .int (x1))] := hl
  unfold w_X10_isOrder at h
  refine lv_iload_n hx hb dX10_isOrder_0 rfl (lv_at hl 1 rfl) ?_
  refine lv_if_lt (tgt := 19) hx hb dX10_isOrder_1 (by decide) (fun c1 => ?_) (fun c1 => ?_)
  · have h := h.1 c1
    refine lv_iconst (v := (0 : Int32)) hx hb dX10_isOrder_19 (by decide) ?_
    exact e_zret hx hb hr hlocks G h.1 h.2 dX10_isOrder_20
  · have h := h.2 c1
    refine lv_iload_n hx hb dX10_isOrder_4 rfl (lv_at hl 1 rfl) ?_
    refine lv_aload_n hx hb dX10_isOrder_5 rfl (lv_at hl 0 rfl) ?_
    refine e_getq hx hb hts in_X10_isOrder_X10 hown K G 0 (by decide) gl_0 rfl 2 (by decide) 5 rfl (hts (.fieldLink RX10 26 "StreetsStepOn" "book" "LStreetsStepOn$Book;") (e_mem (n := 1) rfl)) dX10_isOrder_6 ?_
    refine e_getiN hx hb hts in_X10_isOrder_X1 hown K G 5 (by decide) gl_5 rfl 5 (by decide) rfl (e_memq (n := 22) rfl) dX10_isOrder_9 ?_
    refine lv_icmp_ge (tgt := 19) hx hb dX10_isOrder_12 (by decide) (fun c2 => ?_) (fun c2 => ?_)
    · have h := h.1 c2
      refine lv_iconst (v := (0 : Int32)) hx hb dX10_isOrder_19 (by decide) ?_
      exact e_zret hx hb hr hlocks G h.1 h.2 dX10_isOrder_20
    · have h := h.2 c2
      refine lv_iconst (v := (1 : Int32)) hx hb dX10_isOrder_15 (by decide) ?_
      refine lv_goto (tgt := 20) hx hb dX10_isOrder_16 (by decide) ?_
      exact e_zret hx hb hr hlocks G h.1 h.2 dX10_isOrder_20
abbrev rm_X10_isStreet : Room := { frames := 0, cells := 0, slots := 0, locals := 0 }
theorem in_X10_isStreet_X1 : ∀ w ∈ wsX10, w ∈ wsX10_isStreet := fun w h => List.mem_cons_of_mem _ (List.mem_append_right _ h)
theorem in_X10_isStreet_X10 : ∀ w ∈ wsX100, w ∈ wsX10_isStreet := fun w h => List.mem_cons_of_mem _ (List.mem_append_left _ (List.mem_append_right _ h))
def w_X10_isStreet (σ : eS) (x1 : Int32) (post : Int32 → eS → Prop) : Prop := ((x1 < 0 → ((narrow .boolean (.int (0 : Int32)) = .int (0 : Int32)) ∧ post (0 : Int32) σ)) ∧ (¬ (x1 < 0) → (((σ.1 5 4) ≤ x1 → ((narrow .boolean (.int (0 : Int32)) = .int (0 : Int32)) ∧ post (0 : Int32) σ)) ∧ (¬ ((σ.1 5 4) ≤ x1) → ((narrow .boolean (.int (1 : Int32)) = .int (1 : Int32)) ∧ post (1 : Int32) σ)))))
set_option maxHeartbeats 4000000 in
set_option maxRecDepth 100000 in
theorem c_X10_isStreet {l : Launch} {D : va_G} {ρ : Nat → Nat} {κ : Nat → ClassId} {base : Nat} {σ : eS} {x1 : Int32} {post : Int32 → eS → Prop} (h : w_X10_isStreet σ x1 post) : gMi l yX10_isStreet wsX10_isStreet rm_X10_isStreet D ρ κ base [.ref (ρ (0)), .int (x1)] σ post := by
  refine e_ofWi (cc := cX10_isStreet) (maxL := 2) (ret := (some .boolean)) (by decide) rfl (Nat.le_of_ble_eq_true rfl) ?_
  intro p e s m below meth c ls C K G hl
  obtain ⟨hx, hb, hml, hown, hts, hr, hlocks⟩ := id C
  have hl : lv_has ls 2 [(0, .ref (ρ (0))), (1, .int (x1))] := hl
  unfold w_X10_isStreet at h
  refine lv_iload_n hx hb dX10_isStreet_0 rfl (lv_at hl 1 rfl) ?_
  refine lv_if_lt (tgt := 19) hx hb dX10_isStreet_1 (by decide) (fun c1 => ?_) (fun c1 => ?_)
  · have h := h.1 c1
    refine lv_iconst (v := (0 : Int32)) hx hb dX10_isStreet_19 (by decide) ?_
    exact e_zret hx hb hr hlocks G h.1 h.2 dX10_isStreet_20
  · have h := h.2 c1
    refine lv_iload_n hx hb dX10_isStreet_4 rfl (lv_at hl 1 rfl) ?_
    refine lv_aload_n hx hb dX10_isStreet_5 rfl (lv_at hl 0 rfl) ?_
    refine e_getq hx hb hts in_X10_isStreet_X10 hown K G 0 (by decide) gl_0 rfl 2 (by decide) 5 rfl (hts (.fieldLink RX10 26 "StreetsStepOn" "book" "LStreetsStepOn$Book;") (e_mem (n := 1) rfl)) dX10_isStreet_6 ?_
    refine e_getiN hx hb hts in_X10_isStreet_X1 hown K G 5 (by decide) gl_5 rfl 4 (by decide) rfl (e_memq (n := 18) rfl) dX10_isStreet_9 ?_
    refine lv_icmp_ge (tgt := 19) hx hb dX10_isStreet_12 (by decide) (fun c2 => ?_) (fun c2 => ?_)
    · have h := h.1 c2
      refine lv_iconst (v := (0 : Int32)) hx hb dX10_isStreet_19 (by decide) ?_
      exact e_zret hx hb hr hlocks G h.1 h.2 dX10_isStreet_20
    · have h := h.2 c2
      refine lv_iconst (v := (1 : Int32)) hx hb dX10_isStreet_15 (by decide) ?_
      refine lv_goto (tgt := 20) hx hb dX10_isStreet_16 (by decide) ?_
      exact e_zret hx hb hr hlocks G h.1 h.2 dX10_isStreet_20
abbrev rm_X10_next : Room := { frames := 1, cells := 0, slots := 0, locals := 21 }
theorem in_X10_next_X1 : ∀ w ∈ wsX10, w ∈ wsX10_next := fun w h => List.mem_cons_of_mem _ (List.mem_append_right _ h)
theorem in_X10_next_X10 : ∀ w ∈ wsX100, w ∈ wsX10_next := fun w h => List.mem_cons_of_mem _ (List.mem_append_left _ (List.mem_append_right _ h))
def w_X10_next (σ : eS) (x1 : Int32) (x2 : Int32) (post : Int32 → eS → Prop) : Prop := w_X10_isOrder σ x1 (fun r2 σ1 => ((r2 = 0 → post (-1 : Int32) σ1) ∧ (¬ (r2 = 0) → w_X10_isStreet σ1 x2 (fun r5 σ4 => ((¬ r5 = 0 → (vp_in x1 7) ∧ (vp_in x2 12) ∧ post (σ4.1 (7 + x1.toNatClampNeg) x2.toNatClampNeg) σ4) ∧ (r5 = 0 → post (-1 : Int32) σ4))))))
set_option maxHeartbeats 4000000 in
set_option maxRecDepth 100000 in
theorem c_X10_next {l : Launch} {D : va_G} {ρ : Nat → Nat} {κ : Nat → ClassId} {base : Nat} {σ : eS} {x1 : Int32} {x2 : Int32} {post : Int32 → eS → Prop} (h : w_X10_next σ x1 x2 post) : gMi l yX10_next wsX10_next rm_X10_next D ρ κ base [.ref (ρ (0)), .int (x1), .int (x2)] σ post := by
  refine e_ofWi (cc := cX10_next) (maxL := 3) (ret := (some .int)) (by decide) rfl (Nat.le_of_ble_eq_true rfl) ?_
  intro p e s m below meth c ls C K G hl
  obtain ⟨hx, hb, hml, hown, hts, hr, hlocks⟩ := id C
  have hl : lv_has ls 3 [(0, .ref (ρ (0))), (1, .int (x1)), (2, .int (x2))] := hl
  unfold w_X10_next at h
  refine lv_aload_n hx hb dX10_next_0 rfl (lv_at hl 0 rfl) ?_
  refine lv_iload_n hx hb dX10_next_1 rfl (lv_at hl 1 rfl) ?_
  refine e_callVi (As := [.int (x1)]) (rest := []) ⟨hx, hb, hml, hown, hts⟩ K G 0 (by decide) gl_0 rfl (c_X10_isOrder h) (cwV 1 hts gX10_next_X10_isOrder rfl rfl rfl (by decide +kernel) ⟨Nat.le_of_ble_eq_true rfl, Nat.le_of_ble_eq_true rfl⟩) rfl hl.1 rfl (Nat.le_of_ble_eq_true rfl) dX10_next_2 ⟨Nat.zero_le _, Nat.zero_le _⟩ (fun r2 σ1 H locs h G => ?_)
  refine lv_if_eq (tgt := 16) hx hb dX10_next_5 (by decide) (fun c3 => ?_) (fun c3 => ?_)
  · have h := h.1 c3
    refine lv_iconst (v := (-1 : Int32)) hx hb dX10_next_16 (by decide) ?_
    exact e_iret hx hb hr hlocks G h dX10_next_17
  · have h := h.2 c3
    refine lv_aload_n hx hb dX10_next_8 rfl (lv_at hl 0 rfl) ?_
    refine lv_iload_n hx hb dX10_next_9 rfl (lv_at hl 2 rfl) ?_
    refine e_callVi (As := [.int (x2)]) (rest := []) ⟨hx, hb, hml, hown, hts⟩ K G 0 (by decide) gl_0 rfl (c_X10_isStreet h) (cwV 1 hts gX10_next_X10_isStreet rfl rfl rfl (by decide +kernel) ⟨Nat.le_of_ble_eq_true rfl, Nat.le_of_ble_eq_true rfl⟩) rfl hl.1 rfl (Nat.le_of_ble_eq_true rfl) dX10_next_10 ⟨Nat.zero_le _, Nat.zero_le _⟩ (fun r5 σ4 H locs h G => ?_)
    refine lv_if_ne (tgt := 18) hx hb dX10_next_13 (by decide) (fun c6 => ?_) (fun c6 => ?_)
    · have h := h.1 c6
      refine lv_aload_n hx hb dX10_next_18 rfl (lv_at hl 0 rfl) ?_
      refine e_getq hx hb hts in_X10_next_X10 hown K G 0 (by decide) gl_0 rfl 2 (by decide) 5 rfl (hts (.fieldLink RX10 26 "StreetsStepOn" "book" "LStreetsStepOn$Book;") (e_mem (n := 1) rfl)) dX10_next_19 ?_
      refine e_getqN hx hb hts in_X10_next_X1 hown K G 5 (by decide) gl_5 rfl 0 (by decide) 6 rfl (e_memq (n := 7) rfl) dX10_next_22 ?_
      refine lv_iload_n hx hb dX10_next_25 rfl (lv_at hl 1 rfl) ?_
      have hi7 := h.1
      have h := h.2
      refine e_aald hx hb K G 6 5 5 7 (by decide) _ gl_6 rfl rfl hi7 (7 + x1.toNatClampNeg) (gr_6 _ (e_lt hi7)).1 dX10_next_26 ?_
      refine lv_iload_n hx hb dX10_next_27 rfl (lv_at hl 2 rfl) ?_
      have hi8 := h.1
      have h := h.2
      refine e_iald hx hb K G (7 + x1.toNatClampNeg) 0 0 12 (gr_6 _ (e_lt hi7)).2.2 (gr_6 _ (e_lt hi7)).2.1 rfl hi8 dX10_next_28 ?_
      exact e_iret hx hb hr hlocks G h dX10_next_29
    · have h := h.2 c6
      refine lv_iconst (v := (-1 : Int32)) hx hb dX10_next_16 (by decide) ?_
      exact e_iret hx hb hr hlocks G h dX10_next_17
abbrev rm_X11_isOrder : Room := { frames := 1, cells := 0, slots := 0, locals := 25 }
theorem in_X11_isOrder_X11 : ∀ w ∈ wsX110, w ∈ wsX11_isOrder := fun w h => List.mem_cons_of_mem _ (List.mem_append_right _ h)
def w_X11_isOrder (σ : eS) (x1 : Int32) (post : Int32 → eS → Prop) : Prop := w_X11_in σ (x1.toInt64) (0 : Int64) (((σ.1 97 4) - (1 : Int32)).toInt64) (fun r2 σ1 => ((narrow .boolean (.int r2) = .int r2) ∧ post r2 σ1))
set_option maxHeartbeats 4000000 in
set_option maxRecDepth 100000 in
theorem c_X11_isOrder {l : Launch} {D : va_G} {ρ : Nat → Nat} {κ : Nat → ClassId} {base : Nat} {σ : eS} {x1 : Int32} {post : Int32 → eS → Prop} (h : w_X11_isOrder σ x1 post) : gMi l yX11_isOrder wsX11_isOrder rm_X11_isOrder D ρ κ base [.ref (ρ (97)), .int (x1)] σ post := by
  refine e_ofWi (cc := cX11_isOrder) (maxL := 2) (ret := (some .boolean)) (by decide) rfl (Nat.le_of_ble_eq_true rfl) ?_
  intro p e s m below meth c ls C K G hl
  obtain ⟨hx, hb, hml, hown, hts, hr, hlocks⟩ := id C
  have hl : lv_has ls 2 [(0, .ref (ρ (97))), (1, .int (x1))] := hl
  unfold w_X11_isOrder at h
  refine lv_iload_n hx hb dX11_isOrder_0 rfl (lv_at hl 1 rfl) ?_
  refine lv_i2l hx hb dX11_isOrder_1 rfl ?_
  refine lv_lconst (v := (0 : Int64)) hx hb dX11_isOrder_2 (by decide) ?_
  refine lv_aload_n hx hb dX11_isOrder_3 rfl (lv_at hl 0 rfl) ?_
  refine e_geti hx hb hts in_X11_isOrder_X11 hown K G 97 (by decide) gl_97 rfl 4 (by decide) rfl (hts (.fieldLink RX11 111 "StreetsStepOnModel" "orders" "I") (e_mem (n := 1) rfl)) dX11_isOrder_4 ?_
  refine lv_iconst (v := (1 : Int32)) hx hb dX11_isOrder_7 (by decide) ?_
  refine lv_isub hx hb dX11_isOrder_8 ?_
  refine lv_i2l hx hb dX11_isOrder_9 rfl ?_
  refine e_callSi (As := [.long (x1.toInt64), .long ((0 : Int64)), .long (((σ.1 97 4) - (1 : Int32)).toInt64)]) (rest := []) ⟨hx, hb, hml, hown, hts⟩ K G (c_X11_in h) (va_cwS 3 hts gX11_isOrder_X11_in rfl rfl rfl (by decide +kernel) ⟨Nat.le_of_ble_eq_true rfl, Nat.le_of_ble_eq_true rfl⟩) rfl hl.1 rfl (Nat.le_of_ble_eq_true rfl) dX11_isOrder_10 ⟨Nat.zero_le _, Nat.zero_le _⟩ (fun r2 σ1 H locs h G => ?_)
  exact e_zret hx hb hr hlocks G h.1 h.2 dX11_isOrder_13
abbrev rm_X11_next : Room := { frames := 2, cells := 0, slots := 0, locals := 46 }
theorem in_X11_next_X11 : ∀ w ∈ wsX110, w ∈ wsX11_next := fun w h => List.mem_cons_of_mem _ (List.mem_append_right _ h)
def w_X11_next (σ : eS) (x1 : Int32) (x2 : Int32) (post : Int32 → eS → Prop) : Prop := ∀ σ1 : eS, σ1 = e_ui σ 97 18 (0 : Int32) → w_X11_isOrder σ1 x1 (fun r3 σ2 => ((r3 = 0 → post (-1 : Int32) σ2) ∧ (¬ (r3 = 0) → w_X11_isStreet σ2 x2 (fun r6 σ5 => ((r6 = 0 → post (-1 : Int32) σ5) ∧ (¬ (r6 = 0) → (vp_in (((12 : Int32) * x1) + x2) 84) ∧ post (σ5.1 101 (((12 : Int32) * x1) + x2).toNatClampNeg) σ5))))))
set_option maxHeartbeats 4000000 in
set_option maxRecDepth 100000 in
theorem c_X11_next {l : Launch} {D : va_G} {ρ : Nat → Nat} {κ : Nat → ClassId} {base : Nat} {σ : eS} {x1 : Int32} {x2 : Int32} {post : Int32 → eS → Prop} (h : w_X11_next σ x1 x2 post) : gMi l yX11_next wsX11_next rm_X11_next D ρ κ base [.ref (ρ (97)), .int (x1), .int (x2)] σ post := by
  refine e_ofWi (cc := cX11_next) (maxL := 3) (ret := (some .int)) (by decide) rfl (Nat.le_of_ble_eq_true rfl) ?_
  intro p e s m below meth c ls C K G hl
  obtain ⟨hx, hb, hml, hown, hts, hr, hlocks⟩ := id C
  have hl : lv_has ls 3 [(0, .ref (ρ (97))), (1, .int (x1)), (2, .int (x2))] := hl
  unfold w_X11_next at h
  refine lv_aload_n hx hb dX11_next_0 rfl (lv_at hl 0 rfl) ?_
  refine lv_iconst (v := (0 : Int32)) hx hb dX11_next_1 (by decide) ?_
  refine e_puti hx hb hts in_X11_next_X11 tyX11 tyX11_ok nmX11 hown K G 97 (by decide) gl_97 rfl 18 (by decide) rfl (hts (.fieldLink RX11 98 "StreetsStepOnModel" "thrown" "I") (e_mem (n := 1) rfl)) rfl (tyX11_ok 18 (by decide)) rfl rfl dX11_next_2 (fun H locs G => ?_)
  obtain ⟨σ1, eσ1⟩ : ∃ z : eS, z = e_ui σ 97 18 (0 : Int32) := ⟨_, rfl⟩
  rw [← eσ1] at G
  have h := h σ1 eσ1
  refine lv_aload_n hx hb dX11_next_5 rfl (lv_at hl 0 rfl) ?_
  refine lv_iload_n hx hb dX11_next_6 rfl (lv_at hl 1 rfl) ?_
  refine e_callVi (As := [.int (x1)]) (rest := []) ⟨hx, hb, hml, hown, hts⟩ K G 97 (by decide) gl_97 rfl (c_X11_isOrder h) (cwV 1 hts gX11_next_X11_isOrder rfl rfl rfl (by decide +kernel) ⟨Nat.le_of_ble_eq_true rfl, Nat.le_of_ble_eq_true rfl⟩) rfl hl.1 rfl (Nat.le_of_ble_eq_true rfl) dX11_next_7 ⟨Nat.zero_le _, Nat.zero_le _⟩ (fun r3 σ2 H locs h G => ?_)
  refine lv_if_eq (tgt := 35) hx hb dX11_next_10 (by decide) (fun c4 => ?_) (fun c4 => ?_)
  · have h := h.1 c4
    refine lv_iconst (v := (-1 : Int32)) hx hb dX11_next_35 (by decide) ?_
    exact e_iret hx hb hr hlocks G h dX11_next_36
  · have h := h.2 c4
    refine lv_aload_n hx hb dX11_next_13 rfl (lv_at hl 0 rfl) ?_
    refine lv_iload_n hx hb dX11_next_14 rfl (lv_at hl 2 rfl) ?_
    refine e_callVi (As := [.int (x2)]) (rest := []) ⟨hx, hb, hml, hown, hts⟩ K G 97 (by decide) gl_97 rfl (c_X11_isStreet h) (cwV 1 hts gX11_next_X11_isStreet rfl rfl rfl (by decide +kernel) ⟨Nat.le_of_ble_eq_true rfl, Nat.le_of_ble_eq_true rfl⟩) rfl hl.1 rfl (Nat.le_of_ble_eq_true rfl) dX11_next_15 ⟨Nat.zero_le _, Nat.zero_le _⟩ (fun r6 σ5 H locs h G => ?_)
    refine lv_if_eq (tgt := 35) hx hb dX11_next_18 (by decide) (fun c7 => ?_) (fun c7 => ?_)
    · have h := h.1 c7
      refine lv_iconst (v := (-1 : Int32)) hx hb dX11_next_35 (by decide) ?_
      exact e_iret hx hb hr hlocks G h dX11_next_36
    · have h := h.2 c7
      refine lv_aload_n hx hb dX11_next_21 rfl (lv_at hl 0 rfl) ?_
      refine e_getq hx hb hts in_X11_next_X11 hown K G 97 (by decide) gl_97 rfl 5 (by decide) 101 rfl (hts (.fieldLink RX11 19 "StreetsStepOnModel" "nexts" "[I") (e_mem (n := 2) rfl)) dX11_next_22 ?_
      refine lv_bipush (v := (12 : Int32)) hx hb dX11_next_25 (by decide) ?_
      refine lv_iload_n hx hb dX11_next_27 rfl (lv_at hl 1 rfl) ?_
      refine lv_imul hx hb dX11_next_28 ?_
      refine lv_iload_n hx hb dX11_next_29 rfl (lv_at hl 2 rfl) ?_
      refine lv_iadd hx hb dX11_next_30 ?_
      have hi8 := h.1
      have h := h.2
      refine e_iald hx hb K G 101 0 0 84 (by decide) gl_101 rfl hi8 dX11_next_31 ?_
      refine lv_goto (tgt := 36) hx hb dX11_next_32 (by decide) ?_
      exact e_iret hx hb hr hlocks G h dX11_next_36
abbrev rm_X10_sheet : Room := { frames := 3, cells := 0, slots := 0, locals := 63 }
theorem in_X10_sheet_X1 : ∀ w ∈ wsX10, w ∈ wsX10_sheet := fun w h => List.mem_cons_of_mem _ (List.mem_append_left _ (List.mem_append_right _ h))
theorem in_X10_sheet_X10 : ∀ w ∈ wsX100, w ∈ wsX10_sheet := fun w h => List.mem_cons_of_mem _ (List.mem_append_left _ (List.mem_append_left _ (List.mem_append_right _ h)))
def b_X10_sheet_81 (post : Int32 → eS → Prop) (K47 : eS → Int32 → Int32 → Int32 → Int32 → Int32 → Int32 → Prop) (σ : eS) (x1 : Int32) (x3 : Int32) (x4 : Int32) (x5 : Int32) (x6 : Int32) (x7 : Int32) (y0 : Int32) : Prop := (vp_in x7 12) ∧ ∀ σ13 : eS, σ13 = e_ui σ 14 x7.toNatClampNeg y0 → ∀ v14 : Int32, v14 = (x6 + y0) → ∀ v15 : Int32, v15 = (x7 + (1 : Int32)) → K47 σ13 x1 x3 x4 x5 v14 v15
set_option maxHeartbeats 4000000 in
set_option maxRecDepth 100000 in
theorem l_X10_sheet_81 {p : Program} {l : Launch} {e : Env} {s : State} {m : MethodId} {args : Array Value} {below : List Frame} {meth : Method} {c : Code} {D : va_G} {ρ : Nat → Nat} {κ : Nat → ClassId} {base : Nat} {post : Int32 → eS → Prop} (C : eCx p s m args meth c cX10_sheet RX10 9 (some .int) wsX10_sheet) (K : gK D ρ κ base s) {K47 : eS → Int32 → Int32 → Int32 → Int32 → Int32 → Int32 → Prop} (hK47 : ∀ (σ : eS) (x1 : Int32) (x3 : Int32) (x4 : Int32) (x5 : Int32) (x6 : Int32) (x7 : Int32) (H : Heap) (locs : List Loc) (ls : Array Slot), K47 σ x1 x3 x4 x5 x6 x7 → gG D ρ κ base s σ H locs → lv_has ls 9 [(0, .ref (ρ (0))), (1, .int (x1)), (3, .int (x3)), (4, .int (x4)), (5, .int (x5)), (6, .int (x6)), (7, .int (x7))] → W p l e rm_X10_sheet s m args below meth c H locs 0 0 (gQi below args s D ρ κ base post) (F0 m 47 ls [])) : ∀ (σ : eS) (x1 : Int32) (x3 : Int32) (x4 : Int32) (x5 : Int32) (x6 : Int32) (x7 : Int32) (y0 : Int32) (H : Heap) (locs : List Loc) (ls : Array Slot), b_X10_sheet_81 post K47 σ x1 x3 x4 x5 x6 x7 y0 → gG D ρ κ base s σ H locs → lv_has ls 9 [(0, .ref (ρ (0))), (1, .int (x1)), (3, .int (x3)), (4, .int (x4)), (5, .int (x5)), (6, .int (x6)), (7, .int (x7))] → W p l e rm_X10_sheet s m args below meth c H locs 0 0 (gQi below args s D ρ κ base post) (F0 m 81 ls [.int (y0)]) := by
  obtain ⟨hx, hb, hml, hown, hts, hr, hlocks⟩ := id C
  intro σ x1 x3 x4 x5 x6 x7 y0 H locs ls h G hl
  unfold b_X10_sheet_81 at h
  refine lv_istore (lv' := [(8, .int (y0)), (0, .ref (ρ (0))), (1, .int (x1)), (3, .int (x3)), (4, .int (x4)), (5, .int (x5)), (6, .int (x6)), (7, .int (x7))]) hx hb dX10_sheet_81 hl (by decide) rfl (fun ls hl => ?_)
  refine lv_aload_n hx hb dX10_sheet_83 rfl (lv_at hl 1 rfl) ?_
  refine e_getq hx hb hts in_X10_sheet_X10 hown K G 0 (by decide) gl_0 rfl 2 (by decide) 5 rfl (hts (.fieldLink RX10 26 "StreetsStepOn" "book" "LStreetsStepOn$Book;") (e_mem (n := 1) rfl)) dX10_sheet_84 ?_
  refine e_getqN hx hb hts in_X10_sheet_X1 hown K G 5 (by decide) gl_5 rfl 1 (by decide) 14 rfl (e_memq (n := 11) rfl) dX10_sheet_87 ?_
  refine lv_iload hx hb dX10_sheet_90 (lv_at hl 7 rfl) ?_
  refine lv_iload hx hb dX10_sheet_92 (lv_at hl 0 rfl) ?_
  have hi12 := h.1
  have h := h.2
  refine e_iast hx hb K G 14 0 0 12 (by decide) gl_14 rfl hi12 dX10_sheet_94 (fun H locs G => ?_)
  obtain ⟨σ13, eσ13⟩ : ∃ z : eS, z = e_ui σ 14 x7.toNatClampNeg y0 := ⟨_, rfl⟩
  rw [← eσ13] at G
  have h := h σ13 eσ13
  refine lv_iload hx hb dX10_sheet_95 (lv_at hl 6 rfl) ?_
  refine lv_iload hx hb dX10_sheet_97 (lv_at hl 0 rfl) ?_
  refine lv_iadd hx hb dX10_sheet_99 ?_
  refine lv_topi (fun v14 ev14 => ?_)
  have h := h v14 ev14
  refine lv_istore (lv' := [(6, .int (v14)), (8, .int (y0)), (0, .ref (ρ (0))), (1, .int (x1)), (3, .int (x3)), (4, .int (x4)), (5, .int (x5)), (7, .int (x7))]) hx hb dX10_sheet_100 hl (by decide) rfl (fun ls hl => ?_)
  obtain ⟨v15, ev15⟩ : ∃ y : Int32, y = x7 + (1 : Int32) := ⟨_, rfl⟩
  have h := h v15 ev15
  refine lv_iinc (v := v15) (lv' := [(7, .int (v15)), (6, .int (v14)), (8, .int (y0)), (0, .ref (ρ (0))), (1, .int (x1)), (3, .int (x3)), (4, .int (x4)), (5, .int (x5))]) hx hb dX10_sheet_102 hl (k := 7) rfl (by rw [ev15]; rfl) (by decide) rfl (fun ls hl => ?_)
  refine lv_goto (tgt := 47) hx hb dX10_sheet_105 (by decide) ?_
  exact hK47 σ13 x1 x3 x4 x5 v14 v15 _ _ _  h G (lv_sub hl [3, 4, 5, 6, 7, 1, 0] rfl)
def b_X10_sheet_47 (post : Int32 → eS → Prop) : Nat → eS → Int32 → Int32 → Int32 → Int32 → Int32 → Int32 → Prop
  | 0, _, _, _, _, _, _, _ => False
  | n + 1, σ, x1, x3, x4, x5, x6, x7 => (((σ.1 5 4) ≤ x7 → w_X4_measure σ (fun σ9 => ((¬ x1 = (3 : Int32) → post x6 σ9) ∧ (x1 = (3 : Int32) → post (-3 : Int32) σ9)))) ∧ (¬ ((σ.1 5 4) ≤ x7) → ((x5 ≤ x7 → b_X10_sheet_81 post (fun s x1 x3 x4 x5 x6 x7 => b_X10_sheet_47 post n s x1 x3 x4 x5 x6 x7) σ x1 x3 x4 x5 x6 x7 (1 : Int32)) ∧ (¬ (x5 ≤ x7) → False))))
set_option maxHeartbeats 4000000 in
set_option maxRecDepth 100000 in
theorem l_X10_sheet_47 {p : Program} {l : Launch} {e : Env} {s : State} {m : MethodId} {args : Array Value} {below : List Frame} {meth : Method} {c : Code} {D : va_G} {ρ : Nat → Nat} {κ : Nat → ClassId} {base : Nat} {post : Int32 → eS → Prop} (C : eCx p s m args meth c cX10_sheet RX10 9 (some .int) wsX10_sheet) (K : gK D ρ κ base s) : ∀ (n : Nat) (σ : eS) (x1 : Int32) (x3 : Int32) (x4 : Int32) (x5 : Int32) (x6 : Int32) (x7 : Int32) (H : Heap) (locs : List Loc) (ls : Array Slot), b_X10_sheet_47 post n σ x1 x3 x4 x5 x6 x7 → gG D ρ κ base s σ H locs → lv_has ls 9 [(0, .ref (ρ (0))), (1, .int (x1)), (3, .int (x3)), (4, .int (x4)), (5, .int (x5)), (6, .int (x6)), (7, .int (x7))] → W p l e rm_X10_sheet s m args below meth c H locs 0 0 (gQi below args s D ρ κ base post) (F0 m 47 ls []) := by
  obtain ⟨hx, hb, hml, hown, hts, hr, hlocks⟩ := id C
  intro n
  induction n with
  | zero => intro σ x1 x3 x4 x5 x6 x7 H locs ls h G hl; exact False.elim h
  | succ n ih =>
    intro σ x1 x3 x4 x5 x6 x7 H locs ls h G hl
    rw [b_X10_sheet_47] at h
    refine lv_iload hx hb dX10_sheet_47 (lv_at hl 6 rfl) ?_
    refine lv_aload_n hx hb dX10_sheet_49 rfl (lv_at hl 0 rfl) ?_
    refine e_getq hx hb hts in_X10_sheet_X10 hown K G 0 (by decide) gl_0 rfl 2 (by decide) 5 rfl (hts (.fieldLink RX10 26 "StreetsStepOn" "book" "LStreetsStepOn$Book;") (e_mem (n := 1) rfl)) dX10_sheet_50 ?_
    refine e_getiN hx hb hts in_X10_sheet_X1 hown K G 5 (by decide) gl_5 rfl 4 (by decide) rfl (e_memq (n := 18) rfl) dX10_sheet_53 ?_
    refine lv_icmp_ge (tgt := 108) hx hb dX10_sheet_56 (by decide) (fun c8 => ?_) (fun c8 => ?_)
    · have h := h.1 c8
      refine lv_aload_n hx hb dX10_sheet_108 rfl (lv_at hl 0 rfl) ?_
      refine e_getq hx hb hts in_X10_sheet_X10 hown K G 0 (by decide) gl_0 rfl 4 (by decide) 18 rfl (hts (.fieldLink RX10 37 "StreetsStepOn" "roads" "LStreetsStepOn$Roads;") (e_mem (n := 2) rfl)) dX10_sheet_109 ?_
      refine lv_aload_n hx hb dX10_sheet_112 rfl (lv_at hl 0 rfl) ?_
      refine e_getq hx hb hts in_X10_sheet_X10 hown K G 0 (by decide) gl_0 rfl 2 (by decide) 5 rfl (hts (.fieldLink RX10 26 "StreetsStepOn" "book" "LStreetsStepOn$Book;") (e_mem (n := 1) rfl)) dX10_sheet_113 ?_
      refine e_callVv (As := [.ref (ρ (5))]) (rest := []) ⟨hx, hb, hml, hown, hts⟩ K G 18 (by decide) gl_18 rfl (c_X4_measure h) (cwV 1 hts gX10_sheet_X4_measure rfl rfl rfl (by decide +kernel) ⟨Nat.le_of_ble_eq_true rfl, Nat.le_of_ble_eq_true rfl⟩) rfl hl.1 rfl (Nat.le_of_ble_eq_true rfl) dX10_sheet_116 ⟨Nat.zero_le _, Nat.zero_le _⟩ (fun σ9 H locs h G => ?_)
      refine lv_iload_n hx hb dX10_sheet_119 rfl (lv_at hl 1 rfl) ?_
      refine lv_iconst (v := (3 : Int32)) hx hb dX10_sheet_120 (by decide) ?_
      refine lv_icmp_ne (tgt := 129) hx hb dX10_sheet_121 (by decide) (fun c10 => ?_) (fun c10 => ?_)
      · have h := h.1 c10
        refine lv_iload hx hb dX10_sheet_129 (lv_at hl 5 rfl) ?_
        exact e_iret hx hb hr hlocks G h dX10_sheet_131
      · have h := h.2 c10
        refine lv_bipush (v := (-3 : Int32)) hx hb dX10_sheet_124 (by decide) ?_
        refine lv_goto (tgt := 131) hx hb dX10_sheet_126 (by decide) ?_
        exact e_iret hx hb hr hlocks G h dX10_sheet_131
    · have h := h.2 c8
      refine lv_iload hx hb dX10_sheet_59 (lv_at hl 6 rfl) ?_
      refine lv_iload hx hb dX10_sheet_61 (lv_at hl 4 rfl) ?_
      refine lv_icmp_ge (tgt := 80) hx hb dX10_sheet_63 (by decide) (fun c11 => ?_) (fun c11 => ?_)
      · have h := h.1 c11
        refine lv_iconst (v := (1 : Int32)) hx hb dX10_sheet_80 (by decide) ?_
        exact l_X10_sheet_81 C K (hK47 := ih) σ x1 x3 x4 x5 x6 x7 (1 : Int32) _ _ _  h G (lv_sub hl [0, 1, 2, 3, 4, 5, 6] rfl)
      · have h := h.2 c11
        refine lv_iload_n hx hb dX10_sheet_66 rfl (lv_at hl 1 rfl) ?_
        refine lv_iload_n hx hb dX10_sheet_67 rfl (lv_at hl 2 rfl) ?_
        refine lv_iload hx hb dX10_sheet_68 (lv_at hl 6 rfl) ?_
        refine lv_iload hx hb dX10_sheet_70 (lv_at hl 3 rfl) ?_
        refine lv_imul hx hb dX10_sheet_72 ?_
        refine lv_iadd hx hb dX10_sheet_73 ?_
        exact h.elim
def b_X10_sheet_39 (post : Int32 → eS → Prop) (σ : eS) (x1 : Int32) (x3 : Int32) (x4 : Int32) (y0 : Int32) : Prop := ∀ v6 : Int32, v6 = (0 : Int32) → ∀ v7 : Int32, v7 = (0 : Int32) → (∃ n16 : Nat, b_X10_sheet_47 post n16 σ x1 x3 x4 y0 v6 v7)
set_option maxHeartbeats 4000000 in
set_option maxRecDepth 100000 in
theorem l_X10_sheet_39 {p : Program} {l : Launch} {e : Env} {s : State} {m : MethodId} {args : Array Value} {below : List Frame} {meth : Method} {c : Code} {D : va_G} {ρ : Nat → Nat} {κ : Nat → ClassId} {base : Nat} {post : Int32 → eS → Prop} (C : eCx p s m args meth c cX10_sheet RX10 9 (some .int) wsX10_sheet) (K : gK D ρ κ base s) : ∀ (σ : eS) (x1 : Int32) (x3 : Int32) (x4 : Int32) (y0 : Int32) (H : Heap) (locs : List Loc) (ls : Array Slot), b_X10_sheet_39 post σ x1 x3 x4 y0 → gG D ρ κ base s σ H locs → lv_has ls 9 [(0, .ref (ρ (0))), (1, .int (x1)), (3, .int (x3)), (4, .int (x4))] → W p l e rm_X10_sheet s m args below meth c H locs 0 0 (gQi below args s D ρ κ base post) (F0 m 39 ls [.int (y0)]) := by
  obtain ⟨hx, hb, hml, hown, hts, hr, hlocks⟩ := id C
  intro σ x1 x3 x4 y0 H locs ls h G hl
  unfold b_X10_sheet_39 at h
  refine lv_istore (lv' := [(5, .int (y0)), (0, .ref (ρ (0))), (1, .int (x1)), (3, .int (x3)), (4, .int (x4))]) hx hb dX10_sheet_39 hl (by decide) rfl (fun ls hl => ?_)
  refine lv_iconst (v := (0 : Int32)) hx hb dX10_sheet_41 (by decide) ?_
  refine lv_topi (fun v6 ev6 => ?_)
  have h := h v6 ev6
  refine lv_istore (lv' := [(6, .int (v6)), (5, .int (y0)), (0, .ref (ρ (0))), (1, .int (x1)), (3, .int (x3)), (4, .int (x4))]) hx hb dX10_sheet_42 hl (by decide) rfl (fun ls hl => ?_)
  refine lv_iconst (v := (0 : Int32)) hx hb dX10_sheet_44 (by decide) ?_
  refine lv_topi (fun v7 ev7 => ?_)
  have h := h v7 ev7
  refine lv_istore (lv' := [(7, .int (v7)), (6, .int (v6)), (5, .int (y0)), (0, .ref (ρ (0))), (1, .int (x1)), (3, .int (x3)), (4, .int (x4))]) hx hb dX10_sheet_45 hl (by decide) rfl (fun ls hl => ?_)
  obtain ⟨n16, h⟩ := h
  exact l_X10_sheet_47 C K n16 σ x1 x3 x4 y0 v6 v7 _ _ _  h G (lv_sub hl [3, 4, 5, 6, 2, 1, 0] rfl)
def b_X10_sheet_29 (post : Int32 → eS → Prop) (σ : eS) (x1 : Int32) (x2 : Int32) (x3 : Int32) (x4 : Int32) : Prop := (((3 : Int32) ≤ x1 → b_X10_sheet_39 post σ x1 x3 x4 (0 : Int32)) ∧ (¬ ((3 : Int32) ≤ x1) → b_X10_sheet_39 post σ x1 x3 x4 x2))
set_option maxHeartbeats 4000000 in
set_option maxRecDepth 100000 in
theorem l_X10_sheet_29 {p : Program} {l : Launch} {e : Env} {s : State} {m : MethodId} {args : Array Value} {below : List Frame} {meth : Method} {c : Code} {D : va_G} {ρ : Nat → Nat} {κ : Nat → ClassId} {base : Nat} {post : Int32 → eS → Prop} (C : eCx p s m args meth c cX10_sheet RX10 9 (some .int) wsX10_sheet) (K : gK D ρ κ base s) : ∀ (σ : eS) (x1 : Int32) (x2 : Int32) (x3 : Int32) (x4 : Int32) (H : Heap) (locs : List Loc) (ls : Array Slot), b_X10_sheet_29 post σ x1 x2 x3 x4 → gG D ρ κ base s σ H locs → lv_has ls 9 [(0, .ref (ρ (0))), (1, .int (x1)), (2, .int (x2)), (3, .int (x3)), (4, .int (x4))] → W p l e rm_X10_sheet s m args below meth c H locs 0 0 (gQi below args s D ρ κ base post) (F0 m 29 ls []) := by
  obtain ⟨hx, hb, hml, hown, hts, hr, hlocks⟩ := id C
  intro σ x1 x2 x3 x4 H locs ls h G hl
  unfold b_X10_sheet_29 at h
  refine lv_iload_n hx hb dX10_sheet_29 rfl (lv_at hl 1 rfl) ?_
  refine lv_iconst (v := (3 : Int32)) hx hb dX10_sheet_30 (by decide) ?_
  refine lv_icmp_ge (tgt := 38) hx hb dX10_sheet_31 (by decide) (fun c5 => ?_) (fun c5 => ?_)
  · have h := h.1 c5
    refine lv_iconst (v := (0 : Int32)) hx hb dX10_sheet_38 (by decide) ?_
    exact l_X10_sheet_39 C K σ x1 x3 x4 (0 : Int32) _ _ _  h G (lv_sub hl [0, 1, 3, 4] rfl)
  · have h := h.2 c5
    refine lv_iload_n hx hb dX10_sheet_34 rfl (lv_at hl 2 rfl) ?_
    refine lv_goto (tgt := 39) hx hb dX10_sheet_35 (by decide) ?_
    exact l_X10_sheet_39 C K σ x1 x3 x4 x2 _ _ _  h G (lv_sub hl [0, 1, 3, 4] rfl)
def w_X10_sheet (σ : eS) (x1 : Int32) (x2 : Int32) (x3 : Int32) (x4 : Int32) (post : Int32 → eS → Prop) : Prop := ((x1 < 0 → post (-1 : Int32) σ) ∧ (¬ (x1 < 0) → (((3 : Int32) < x1 → post (-1 : Int32) σ) ∧ (¬ ((3 : Int32) < x1) → ((x2 ≤ (12 : Int32) → (((3 : Int32) ≤ x1 → b_X10_sheet_29 post σ x1 x2 x3 x4) ∧ (¬ ((3 : Int32) ≤ x1) → ((0 ≤ x2 → b_X10_sheet_29 post σ x1 x2 x3 x4) ∧ (¬ (0 ≤ x2) → post (-2 : Int32) σ))))) ∧ (¬ (x2 ≤ (12 : Int32)) → post (-1 : Int32) σ))))))
set_option maxHeartbeats 4000000 in
set_option maxRecDepth 100000 in
theorem c_X10_sheet {l : Launch} {D : va_G} {ρ : Nat → Nat} {κ : Nat → ClassId} {base : Nat} {σ : eS} {x1 : Int32} {x2 : Int32} {x3 : Int32} {x4 : Int32} {post : Int32 → eS → Prop} (h : w_X10_sheet σ x1 x2 x3 x4 post) : gMi l yX10_sheet wsX10_sheet rm_X10_sheet D ρ κ base [.ref (ρ (0)), .int (x1), .int (x2), .int (x3), .int (x4)] σ post := by
  refine e_ofWi (cc := cX10_sheet) (maxL := 9) (ret := (some .int)) (by decide) rfl (Nat.le_of_ble_eq_true rfl) ?_
  intro p e s m below meth c ls C K G hl
  obtain ⟨hx, hb, hml, hown, hts, hr, hlocks⟩ := id C
  have hl : lv_has ls 9 [(0, .ref (ρ (0))), (1, .int (x1)), (2, .int (x2)), (3, .int (x3)), (4, .int (x4))] := hl
  unfold w_X10_sheet at h
  refine lv_iload_n hx hb dX10_sheet_0 rfl (lv_at hl 1 rfl) ?_
  refine lv_if_lt (tgt := 15) hx hb dX10_sheet_1 (by decide) (fun c1 => ?_) (fun c1 => ?_)
  · have h := h.1 c1
    refine lv_iconst (v := (-1 : Int32)) hx hb dX10_sheet_15 (by decide) ?_
    exact e_iret hx hb hr hlocks G h dX10_sheet_16
  · have h := h.2 c1
    refine lv_iload_n hx hb dX10_sheet_4 rfl (lv_at hl 1 rfl) ?_
    refine lv_iconst (v := (3 : Int32)) hx hb dX10_sheet_5 (by decide) ?_
    refine lv_icmp_gt (tgt := 15) hx hb dX10_sheet_6 (by decide) (fun c2 => ?_) (fun c2 => ?_)
    · have h := h.1 c2
      refine lv_iconst (v := (-1 : Int32)) hx hb dX10_sheet_15 (by decide) ?_
      exact e_iret hx hb hr hlocks G h dX10_sheet_16
    · have h := h.2 c2
      refine lv_iload_n hx hb dX10_sheet_9 rfl (lv_at hl 2 rfl) ?_
      refine lv_bipush (v := (12 : Int32)) hx hb dX10_sheet_10 (by decide) ?_
      refine lv_icmp_le (tgt := 17) hx hb dX10_sheet_12 (by decide) (fun c3 => ?_) (fun c3 => ?_)
      · have h := h.1 c3
        refine lv_iload_n hx hb dX10_sheet_17 rfl (lv_at hl 1 rfl) ?_
        refine lv_iconst (v := (3 : Int32)) hx hb dX10_sheet_18 (by decide) ?_
        refine lv_icmp_ge (tgt := 29) hx hb dX10_sheet_19 (by decide) (fun c4 => ?_) (fun c4 => ?_)
        · have h := h.1 c4
          exact l_X10_sheet_29 C K σ x1 x2 x3 x4 _ _ _  h G (lv_sub hl [0, 1, 2, 3, 4] rfl)
        · have h := h.2 c4
          refine lv_iload_n hx hb dX10_sheet_22 rfl (lv_at hl 2 rfl) ?_
          refine lv_if_ge (tgt := 29) hx hb dX10_sheet_23 (by decide) (fun c17 => ?_) (fun c17 => ?_)
          · have h := h.1 c17
            exact l_X10_sheet_29 C K σ x1 x2 x3 x4 _ _ _  h G (lv_sub hl [0, 1, 2, 3, 4] rfl)
          · have h := h.2 c17
            refine lv_bipush (v := (-2 : Int32)) hx hb dX10_sheet_26 (by decide) ?_
            exact e_iret hx hb hr hlocks G h dX10_sheet_28
      · have h := h.2 c3
        refine lv_iconst (v := (-1 : Int32)) hx hb dX10_sheet_15 (by decide) ?_
        exact e_iret hx hb hr hlocks G h dX10_sheet_16
abbrev rm_X11_sheet : Room := { frames := 1, cells := 0, slots := 0, locals := 25 }
theorem in_X11_sheet_X11 : ∀ w ∈ wsX110, w ∈ wsX11_sheet := fun w h => List.mem_cons_of_mem _ (List.mem_append_right _ h)
def b_X11_sheet_112 (post : Int32 → eS → Prop) (K46 : eS → Int32 → Int32 → Int32 → Int32 → Int32 → Int32 → Prop) (σ : eS) (x1 : Int32) (x2 : Int32) (x4 : Int32) (x5 : Int32) (x6 : Int32) (x7 : Int32) (y0 : Int32) (y1 : Int32) : Prop := (vp_in y1 12) ∧ ∀ σ15 : eS, σ15 = e_ui σ 100 y1.toNatClampNeg y0 → (vp_in x7 12) ∧ ∀ v17 : Int32, v17 = (x5 + (σ15.1 100 x7.toNatClampNeg)) → ∀ v18 : Int32, v18 = (x6 + x4) → ∀ v19 : Int32, v19 = (x7 + (1 : Int32)) → K46 σ15 x1 x2 x4 v17 v18 v19
set_option maxHeartbeats 4000000 in
set_option maxRecDepth 100000 in
theorem l_X11_sheet_112 {p : Program} {l : Launch} {e : Env} {s : State} {m : MethodId} {args : Array Value} {below : List Frame} {meth : Method} {c : Code} {D : va_G} {ρ : Nat → Nat} {κ : Nat → ClassId} {base : Nat} {post : Int32 → eS → Prop} (C : eCx p s m args meth c cX11_sheet RX11 9 (some .int) wsX11_sheet) (K : gK D ρ κ base s) {K46 : eS → Int32 → Int32 → Int32 → Int32 → Int32 → Int32 → Prop} (hK46 : ∀ (σ : eS) (x1 : Int32) (x2 : Int32) (x4 : Int32) (x5 : Int32) (x6 : Int32) (x7 : Int32) (H : Heap) (locs : List Loc) (ls : Array Slot), K46 σ x1 x2 x4 x5 x6 x7 → gG D ρ κ base s σ H locs → lv_has ls 9 [(0, .ref (ρ (97))), (1, .int (x1)), (2, .int (x2)), (4, .int (x4)), (5, .int (x5)), (6, .int (x6)), (7, .int (x7))] → W p l e rm_X11_sheet s m args below meth c H locs 0 0 (gQi below args s D ρ κ base post) (F0 m 46 ls [])) : ∀ (σ : eS) (x1 : Int32) (x2 : Int32) (x4 : Int32) (x5 : Int32) (x6 : Int32) (x7 : Int32) (y0 : Int32) (y1 : Int32) (H : Heap) (locs : List Loc) (ls : Array Slot), b_X11_sheet_112 post K46 σ x1 x2 x4 x5 x6 x7 y0 y1 → gG D ρ κ base s σ H locs → lv_has ls 9 [(0, .ref (ρ (97))), (1, .int (x1)), (2, .int (x2)), (4, .int (x4)), (5, .int (x5)), (6, .int (x6)), (7, .int (x7))] → W p l e rm_X11_sheet s m args below meth c H locs 0 0 (gQi below args s D ρ κ base post) (F0 m 112 ls [.int (y0), .int (y1), .ref (ρ (100))]) := by
  obtain ⟨hx, hb, hml, hown, hts, hr, hlocks⟩ := id C
  intro σ x1 x2 x4 x5 x6 x7 y0 y1 H locs ls h G hl
  unfold b_X11_sheet_112 at h
  have hi14 := h.1
  have h := h.2
  refine e_iast hx hb K G 100 0 0 12 (by decide) gl_100 rfl hi14 dX11_sheet_112 (fun H locs G => ?_)
  obtain ⟨σ15, eσ15⟩ : ∃ z : eS, z = e_ui σ 100 y1.toNatClampNeg y0 := ⟨_, rfl⟩
  rw [← eσ15] at G
  have h := h σ15 eσ15
  refine lv_iload hx hb dX11_sheet_113 (lv_at hl 4 rfl) ?_
  refine lv_aload_n hx hb dX11_sheet_115 rfl (lv_at hl 0 rfl) ?_
  refine e_getq hx hb hts in_X11_sheet_X11 hown K G 97 (by decide) gl_97 rfl 3 (by decide) 100 rfl (hts (.fieldLink RX11 16 "StreetsStepOnModel" "length" "[I") (e_mem (n := 4) rfl)) dX11_sheet_116 ?_
  refine lv_iload hx hb dX11_sheet_119 (lv_at hl 6 rfl) ?_
  have hi16 := h.1
  have h := h.2
  refine e_iald hx hb K G 100 0 0 12 (by decide) gl_100 rfl hi16 dX11_sheet_121 ?_
  refine lv_iadd hx hb dX11_sheet_122 ?_
  refine lv_topi (fun v17 ev17 => ?_)
  have h := h v17 ev17
  refine lv_istore (lv' := [(5, .int (v17)), (0, .ref (ρ (97))), (1, .int (x1)), (2, .int (x2)), (4, .int (x4)), (6, .int (x6)), (7, .int (x7))]) hx hb dX11_sheet_123 hl (by decide) rfl (fun ls hl => ?_)
  refine lv_iload hx hb dX11_sheet_125 (lv_at hl 5 rfl) ?_
  refine lv_iload hx hb dX11_sheet_127 (lv_at hl 4 rfl) ?_
  refine lv_iadd hx hb dX11_sheet_129 ?_
  refine lv_topi (fun v18 ev18 => ?_)
  have h := h v18 ev18
  refine lv_istore (lv' := [(6, .int (v18)), (5, .int (v17)), (0, .ref (ρ (97))), (1, .int (x1)), (2, .int (x2)), (4, .int (x4)), (7, .int (x7))]) hx hb dX11_sheet_130 hl (by decide) rfl (fun ls hl => ?_)
  obtain ⟨v19, ev19⟩ : ∃ y : Int32, y = x7 + (1 : Int32) := ⟨_, rfl⟩
  have h := h v19 ev19
  refine lv_iinc (v := v19) (lv' := [(7, .int (v19)), (6, .int (v18)), (5, .int (v17)), (0, .ref (ρ (97))), (1, .int (x1)), (2, .int (x2)), (4, .int (x4))]) hx hb dX11_sheet_132 hl (k := 6) rfl (by rw [ev19]; rfl) (by decide) rfl (fun ls hl => ?_)
  refine lv_goto (tgt := 46) hx hb dX11_sheet_135 (by decide) ?_
  exact hK46 σ15 x1 x2 x4 v17 v18 v19 _ _ _  h G (lv_sub hl [3, 4, 5, 6, 2, 1, 0] rfl)
def b_X11_sheet_97 (post : Int32 → eS → Prop) (K46 : eS → Int32 → Int32 → Int32 → Int32 → Int32 → Int32 → Prop) (σ : eS) (x1 : Int32) (x2 : Int32) (x4 : Int32) (x5 : Int32) (x6 : Int32) (x7 : Int32) (y0 : Int32) : Prop := b_X11_sheet_112 post K46 σ x1 x2 x4 x5 x6 x7 (1 : Int32) y0
set_option maxHeartbeats 4000000 in
set_option maxRecDepth 100000 in
theorem l_X11_sheet_97 {p : Program} {l : Launch} {e : Env} {s : State} {m : MethodId} {args : Array Value} {below : List Frame} {meth : Method} {c : Code} {D : va_G} {ρ : Nat → Nat} {κ : Nat → ClassId} {base : Nat} {post : Int32 → eS → Prop} (C : eCx p s m args meth c cX11_sheet RX11 9 (some .int) wsX11_sheet) (K : gK D ρ κ base s) {K46 : eS → Int32 → Int32 → Int32 → Int32 → Int32 → Int32 → Prop} (hK46 : ∀ (σ : eS) (x1 : Int32) (x2 : Int32) (x4 : Int32) (x5 : Int32) (x6 : Int32) (x7 : Int32) (H : Heap) (locs : List Loc) (ls : Array Slot), K46 σ x1 x2 x4 x5 x6 x7 → gG D ρ κ base s σ H locs → lv_has ls 9 [(0, .ref (ρ (97))), (1, .int (x1)), (2, .int (x2)), (4, .int (x4)), (5, .int (x5)), (6, .int (x6)), (7, .int (x7))] → W p l e rm_X11_sheet s m args below meth c H locs 0 0 (gQi below args s D ρ κ base post) (F0 m 46 ls [])) : ∀ (σ : eS) (x1 : Int32) (x2 : Int32) (x4 : Int32) (x5 : Int32) (x6 : Int32) (x7 : Int32) (y0 : Int32) (H : Heap) (locs : List Loc) (ls : Array Slot), b_X11_sheet_97 post K46 σ x1 x2 x4 x5 x6 x7 y0 → gG D ρ κ base s σ H locs → lv_has ls 9 [(0, .ref (ρ (97))), (1, .int (x1)), (2, .int (x2)), (4, .int (x4)), (5, .int (x5)), (6, .int (x6)), (7, .int (x7))] → W p l e rm_X11_sheet s m args below meth c H locs 0 0 (gQi below args s D ρ κ base post) (F0 m 97 ls [.int (y0), .ref (ρ (100))]) := by
  obtain ⟨hx, hb, hml, hown, hts, hr, hlocks⟩ := id C
  intro σ x1 x2 x4 x5 x6 x7 y0 H locs ls h G hl
  unfold b_X11_sheet_97 at h
  refine lv_iconst (v := (1 : Int32)) hx hb dX11_sheet_97 (by decide) ?_
  refine lv_goto (tgt := 112) hx hb dX11_sheet_98 (by decide) ?_
  exact l_X11_sheet_112 C K (hK46 := hK46) σ x1 x2 x4 x5 x6 x7 (1 : Int32) y0 _ _ _  h G (lv_sub hl [0, 1, 2, 3, 4, 5, 6] rfl)
def b_X11_sheet_78 (post : Int32 → eS → Prop) (K46 : eS → Int32 → Int32 → Int32 → Int32 → Int32 → Int32 → Prop) (σ : eS) (x1 : Int32) (x2 : Int32) (x4 : Int32) (x5 : Int32) (x6 : Int32) (x7 : Int32) (y0 : Int32) : Prop := ((x1 = (3 : Int32) → b_X11_sheet_97 post K46 σ x1 x2 x4 x5 x6 x7 x7) ∧ (¬ (x1 = (3 : Int32)) → ((x7 < x2 → b_X11_sheet_112 post K46 σ x1 x2 x4 x5 x6 x7 (if (1 : Int32) < (if y0 < (20 : Int32) then y0 else (20 : Int32)) then (if y0 < (20 : Int32) then y0 else (20 : Int32)) else (1 : Int32)) x7) ∧ (¬ (x7 < x2) → b_X11_sheet_97 post K46 σ x1 x2 x4 x5 x6 x7 x7))))
set_option maxHeartbeats 4000000 in
set_option maxRecDepth 100000 in
theorem l_X11_sheet_78 {p : Program} {l : Launch} {e : Env} {s : State} {m : MethodId} {args : Array Value} {below : List Frame} {meth : Method} {c : Code} {D : va_G} {ρ : Nat → Nat} {κ : Nat → ClassId} {base : Nat} {post : Int32 → eS → Prop} (C : eCx p s m args meth c cX11_sheet RX11 9 (some .int) wsX11_sheet) (K : gK D ρ κ base s) {K46 : eS → Int32 → Int32 → Int32 → Int32 → Int32 → Int32 → Prop} (hK46 : ∀ (σ : eS) (x1 : Int32) (x2 : Int32) (x4 : Int32) (x5 : Int32) (x6 : Int32) (x7 : Int32) (H : Heap) (locs : List Loc) (ls : Array Slot), K46 σ x1 x2 x4 x5 x6 x7 → gG D ρ κ base s σ H locs → lv_has ls 9 [(0, .ref (ρ (97))), (1, .int (x1)), (2, .int (x2)), (4, .int (x4)), (5, .int (x5)), (6, .int (x6)), (7, .int (x7))] → W p l e rm_X11_sheet s m args below meth c H locs 0 0 (gQi below args s D ρ κ base post) (F0 m 46 ls [])) : ∀ (σ : eS) (x1 : Int32) (x2 : Int32) (x4 : Int32) (x5 : Int32) (x6 : Int32) (x7 : Int32) (y0 : Int32) (H : Heap) (locs : List Loc) (ls : Array Slot), b_X11_sheet_78 post K46 σ x1 x2 x4 x5 x6 x7 y0 → gG D ρ κ base s σ H locs → lv_has ls 9 [(0, .ref (ρ (97))), (1, .int (x1)), (2, .int (x2)), (4, .int (x4)), (5, .int (x5)), (6, .int (x6)), (7, .int (x7))] → W p l e rm_X11_sheet s m args below meth c H locs 0 0 (gQi below args s D ρ κ base post) (F0 m 78 ls [.int (y0)]) := by
  obtain ⟨hx, hb, hml, hown, hts, hr, hlocks⟩ := id C
  intro σ x1 x2 x4 x5 x6 x7 y0 H locs ls h G hl
  unfold b_X11_sheet_78 at h
  refine lv_istore (lv' := [(8, .int (y0)), (0, .ref (ρ (97))), (1, .int (x1)), (2, .int (x2)), (4, .int (x4)), (5, .int (x5)), (6, .int (x6)), (7, .int (x7))]) hx hb dX11_sheet_78 hl (by decide) rfl (fun ls hl => ?_)
  refine lv_aload_n hx hb dX11_sheet_80 rfl (lv_at hl 1 rfl) ?_
  refine e_getq hx hb hts in_X11_sheet_X11 hown K G 97 (by decide) gl_97 rfl 3 (by decide) 100 rfl (hts (.fieldLink RX11 16 "StreetsStepOnModel" "length" "[I") (e_mem (n := 4) rfl)) dX11_sheet_81 ?_
  refine lv_iload hx hb dX11_sheet_84 (lv_at hl 7 rfl) ?_
  refine lv_iload_n hx hb dX11_sheet_86 rfl (lv_at hl 2 rfl) ?_
  refine lv_iconst (v := (3 : Int32)) hx hb dX11_sheet_87 (by decide) ?_
  refine lv_icmp_eq (tgt := 97) hx hb dX11_sheet_88 (by decide) (fun c13 => ?_) (fun c13 => ?_)
  · have h := h.1 c13
    exact l_X11_sheet_97 C K (hK46 := hK46) σ x1 x2 x4 x5 x6 x7 x7 _ _ _  h G (lv_sub hl [1, 2, 3, 4, 5, 6, 7] rfl)
  · have h := h.2 c13
    refine lv_iload hx hb dX11_sheet_91 (lv_at hl 7 rfl) ?_
    refine lv_iload_n hx hb dX11_sheet_93 rfl (lv_at hl 3 rfl) ?_
    refine lv_icmp_lt (tgt := 101) hx hb dX11_sheet_94 (by decide) (fun c20 => ?_) (fun c20 => ?_)
    · have h := h.1 c20
      refine lv_iconst (v := (1 : Int32)) hx hb dX11_sheet_101 (by decide) ?_
      refine lv_bipush (v := (20 : Int32)) hx hb dX11_sheet_102 (by decide) ?_
      refine lv_iload hx hb dX11_sheet_104 (lv_at hl 0 rfl) ?_
      refine va_mmin hx hb (hml.trans hl.1.symm) hown (hts (.methodLink RX11 208 Lib.Math.min.name) (e_mem (n := 5) rfl)) (hts (.static Lib.Math.min.name) (e_mem (n := 6) rfl)) (hts (.initialized "java/lang/Math") (e_mem (n := 7) rfl)) (hts (.code Lib.Math.min.name Lib.Math.min.code 2 (some .int)) (e_mem (n := 8) rfl)) (Nat.le_of_ble_eq_true rfl) (Nat.le_of_ble_eq_true rfl) (Nat.zero_le _) (Nat.zero_le _) dX11_sheet_106 ?_
      refine va_mmax hx hb (hml.trans hl.1.symm) hown (hts (.methodLink RX11 214 Lib.Math.max.name) (e_mem (n := 9) rfl)) (hts (.static Lib.Math.max.name) (e_mem (n := 10) rfl)) (hts (.initialized "java/lang/Math") (e_mem (n := 7) rfl)) (hts (.code Lib.Math.max.name Lib.Math.max.code 2 (some .int)) (e_mem (n := 11) rfl)) (Nat.le_of_ble_eq_true rfl) (Nat.le_of_ble_eq_true rfl) (Nat.zero_le _) (Nat.zero_le _) dX11_sheet_109 ?_
      exact l_X11_sheet_112 C K (hK46 := hK46) σ x1 x2 x4 x5 x6 x7 (if (1 : Int32) < (if y0 < (20 : Int32) then y0 else (20 : Int32)) then (if y0 < (20 : Int32) then y0 else (20 : Int32)) else (1 : Int32)) x7 _ _ _  h G (lv_sub hl [1, 2, 3, 4, 5, 6, 7] rfl)
    · have h := h.2 c20
      exact l_X11_sheet_97 C K (hK46 := hK46) σ x1 x2 x4 x5 x6 x7 x7 _ _ _  h G (lv_sub hl [1, 2, 3, 4, 5, 6, 7] rfl)
def b_X11_sheet_46 (post : Int32 → eS → Prop) : Nat → eS → Int32 → Int32 → Int32 → Int32 → Int32 → Int32 → Prop
  | 0, _, _, _, _, _, _, _ => False
  | n + 1, σ, x1, x2, x4, x5, x6, x7 => (((σ.1 97 0) ≤ x7 → ((¬ x1 = (3 : Int32) → post x5 σ) ∧ (x1 = (3 : Int32) → post (-3 : Int32) σ))) ∧ (¬ ((σ.1 97 0) ≤ x7) → ((¬ x1 = 0 → ((¬ x1 = (1 : Int32) → b_X11_sheet_78 post (fun s x1 x2 x4 x5 x6 x7 => b_X11_sheet_46 post n s x1 x2 x4 x5 x6 x7) σ x1 x2 x4 x5 x6 x7 x6) ∧ (x1 = (1 : Int32) → b_X11_sheet_78 post (fun s x1 x2 x4 x5 x6 x7 => b_X11_sheet_46 post n s x1 x2 x4 x5 x6 x7) σ x1 x2 x4 x5 x6 x7 (x6.toInt16.toInt32)))) ∧ (x1 = 0 → b_X11_sheet_78 post (fun s x1 x2 x4 x5 x6 x7 => b_X11_sheet_46 post n s x1 x2 x4 x5 x6 x7) σ x1 x2 x4 x5 x6 x7 (x6.toInt8.toInt32)))))
set_option maxHeartbeats 4000000 in
set_option maxRecDepth 100000 in
theorem l_X11_sheet_46 {p : Program} {l : Launch} {e : Env} {s : State} {m : MethodId} {args : Array Value} {below : List Frame} {meth : Method} {c : Code} {D : va_G} {ρ : Nat → Nat} {κ : Nat → ClassId} {base : Nat} {post : Int32 → eS → Prop} (C : eCx p s m args meth c cX11_sheet RX11 9 (some .int) wsX11_sheet) (K : gK D ρ κ base s) : ∀ (n : Nat) (σ : eS) (x1 : Int32) (x2 : Int32) (x4 : Int32) (x5 : Int32) (x6 : Int32) (x7 : Int32) (H : Heap) (locs : List Loc) (ls : Array Slot), b_X11_sheet_46 post n σ x1 x2 x4 x5 x6 x7 → gG D ρ κ base s σ H locs → lv_has ls 9 [(0, .ref (ρ (97))), (1, .int (x1)), (2, .int (x2)), (4, .int (x4)), (5, .int (x5)), (6, .int (x6)), (7, .int (x7))] → W p l e rm_X11_sheet s m args below meth c H locs 0 0 (gQi below args s D ρ κ base post) (F0 m 46 ls []) := by
  obtain ⟨hx, hb, hml, hown, hts, hr, hlocks⟩ := id C
  intro n
  induction n with
  | zero => intro σ x1 x2 x4 x5 x6 x7 H locs ls h G hl; exact False.elim h
  | succ n ih =>
    intro σ x1 x2 x4 x5 x6 x7 H locs ls h G hl
    rw [b_X11_sheet_46] at h
    refine lv_iload hx hb dX11_sheet_46 (lv_at hl 6 rfl) ?_
    refine lv_aload_n hx hb dX11_sheet_48 rfl (lv_at hl 0 rfl) ?_
    refine e_geti hx hb hts in_X11_sheet_X11 hown K G 97 (by decide) gl_97 rfl 0 (by decide) rfl (hts (.fieldLink RX11 104 "StreetsStepOnModel" "streets" "I") (e_mem (n := 3) rfl)) dX11_sheet_49 ?_
    refine lv_icmp_ge (tgt := 138) hx hb dX11_sheet_52 (by decide) (fun c9 => ?_) (fun c9 => ?_)
    · have h := h.1 c9
      refine lv_iload_n hx hb dX11_sheet_138 rfl (lv_at hl 1 rfl) ?_
      refine lv_iconst (v := (3 : Int32)) hx hb dX11_sheet_139 (by decide) ?_
      refine lv_icmp_ne (tgt := 148) hx hb dX11_sheet_140 (by decide) (fun c10 => ?_) (fun c10 => ?_)
      · have h := h.1 c10
        refine lv_iload hx hb dX11_sheet_148 (lv_at hl 4 rfl) ?_
        exact e_iret hx hb hr hlocks G h dX11_sheet_150
      · have h := h.2 c10
        refine lv_bipush (v := (-3 : Int32)) hx hb dX11_sheet_143 (by decide) ?_
        refine lv_goto (tgt := 150) hx hb dX11_sheet_145 (by decide) ?_
        exact e_iret hx hb hr hlocks G h dX11_sheet_150
    · have h := h.2 c9
      refine lv_iload_n hx hb dX11_sheet_55 rfl (lv_at hl 1 rfl) ?_
      refine lv_if_ne (tgt := 65) hx hb dX11_sheet_56 (by decide) (fun c11 => ?_) (fun c11 => ?_)
      · have h := h.1 c11
        refine lv_iload_n hx hb dX11_sheet_65 rfl (lv_at hl 1 rfl) ?_
        refine lv_iconst (v := (1 : Int32)) hx hb dX11_sheet_66 (by decide) ?_
        refine lv_icmp_ne (tgt := 76) hx hb dX11_sheet_67 (by decide) (fun c12 => ?_) (fun c12 => ?_)
        · have h := h.1 c12
          refine lv_iload hx hb dX11_sheet_76 (lv_at hl 5 rfl) ?_
          exact l_X11_sheet_78 C K (hK46 := ih) σ x1 x2 x4 x5 x6 x7 x6 _ _ _  h G (lv_sub hl [0, 1, 2, 3, 4, 5, 6] rfl)
        · have h := h.2 c12
          refine lv_iload hx hb dX11_sheet_70 (lv_at hl 5 rfl) ?_
          refine lv_i2s hx hb dX11_sheet_72 rfl ?_
          refine lv_goto (tgt := 78) hx hb dX11_sheet_73 (by decide) ?_
          exact l_X11_sheet_78 C K (hK46 := ih) σ x1 x2 x4 x5 x6 x7 (x6.toInt16.toInt32) _ _ _  h G (lv_sub hl [0, 1, 2, 3, 4, 5, 6] rfl)
      · have h := h.2 c11
        refine lv_iload hx hb dX11_sheet_59 (lv_at hl 5 rfl) ?_
        refine lv_i2b hx hb dX11_sheet_61 rfl ?_
        refine lv_goto (tgt := 78) hx hb dX11_sheet_62 (by decide) ?_
        exact l_X11_sheet_78 C K (hK46 := ih) σ x1 x2 x4 x5 x6 x7 (x6.toInt8.toInt32) _ _ _  h G (lv_sub hl [0, 1, 2, 3, 4, 5, 6] rfl)
def b_X11_sheet_37 (post : Int32 → eS → Prop) (σ : eS) (x1 : Int32) (x2 : Int32) (x3 : Int32) (x4 : Int32) : Prop := ∀ v7 : Int32, v7 = (0 : Int32) → ∀ v8 : Int32, v8 = (0 : Int32) → (∃ n21 : Nat, b_X11_sheet_46 post n21 σ x1 x2 x4 v7 x3 v8)
set_option maxHeartbeats 4000000 in
set_option maxRecDepth 100000 in
theorem l_X11_sheet_37 {p : Program} {l : Launch} {e : Env} {s : State} {m : MethodId} {args : Array Value} {below : List Frame} {meth : Method} {c : Code} {D : va_G} {ρ : Nat → Nat} {κ : Nat → ClassId} {base : Nat} {post : Int32 → eS → Prop} (C : eCx p s m args meth c cX11_sheet RX11 9 (some .int) wsX11_sheet) (K : gK D ρ κ base s) : ∀ (σ : eS) (x1 : Int32) (x2 : Int32) (x3 : Int32) (x4 : Int32) (H : Heap) (locs : List Loc) (ls : Array Slot), b_X11_sheet_37 post σ x1 x2 x3 x4 → gG D ρ κ base s σ H locs → lv_has ls 9 [(0, .ref (ρ (97))), (1, .int (x1)), (2, .int (x2)), (3, .int (x3)), (4, .int (x4))] → W p l e rm_X11_sheet s m args below meth c H locs 0 0 (gQi below args s D ρ κ base post) (F0 m 37 ls []) := by
  obtain ⟨hx, hb, hml, hown, hts, hr, hlocks⟩ := id C
  intro σ x1 x2 x3 x4 H locs ls h G hl
  unfold b_X11_sheet_37 at h
  refine lv_iconst (v := (0 : Int32)) hx hb dX11_sheet_37 (by decide) ?_
  refine lv_topi (fun v7 ev7 => ?_)
  have h := h v7 ev7
  refine lv_istore (lv' := [(5, .int (v7)), (0, .ref (ρ (97))), (1, .int (x1)), (2, .int (x2)), (3, .int (x3)), (4, .int (x4))]) hx hb dX11_sheet_38 hl (by decide) rfl (fun ls hl => ?_)
  refine lv_iload_n hx hb dX11_sheet_40 rfl (lv_at hl 4 rfl) ?_
  refine lv_istore (lv' := [(6, .int (x3)), (5, .int (v7)), (0, .ref (ρ (97))), (1, .int (x1)), (2, .int (x2)), (3, .int (x3)), (4, .int (x4))]) hx hb dX11_sheet_41 hl (by decide) rfl (fun ls hl => ?_)
  refine lv_iconst (v := (0 : Int32)) hx hb dX11_sheet_43 (by decide) ?_
  refine lv_topi (fun v8 ev8 => ?_)
  have h := h v8 ev8
  refine lv_istore (lv' := [(7, .int (v8)), (6, .int (x3)), (5, .int (v7)), (0, .ref (ρ (97))), (1, .int (x1)), (2, .int (x2)), (3, .int (x3)), (4, .int (x4))]) hx hb dX11_sheet_44 hl (by decide) rfl (fun ls hl => ?_)
  obtain ⟨n21, h⟩ := h
  exact l_X11_sheet_46 C K n21 σ x1 x2 x4 v7 x3 v8 _ _ _  h G (lv_sub hl [3, 4, 5, 7, 2, 1, 0] rfl)
def w_X11_sheet (σ : eS) (x1 : Int32) (x2 : Int32) (x3 : Int32) (x4 : Int32) (post : Int32 → eS → Prop) : Prop := ∀ σ1 : eS, σ1 = e_ui σ 97 18 (0 : Int32) → w_X11_in σ1 (x1.toInt64) (0 : Int64) (3 : Int64) (fun r3 σ2 => ((r3 = 0 → post (-1 : Int32) σ2) ∧ (¬ (r3 = 0) → ((x2 ≤ (12 : Int32) → (((3 : Int32) ≤ x1 → b_X11_sheet_37 post σ2 x1 x2 x3 x4) ∧ (¬ ((3 : Int32) ≤ x1) → ((0 ≤ x2 → b_X11_sheet_37 post σ2 x1 x2 x3 x4) ∧ (¬ (0 ≤ x2) → post (-2 : Int32) σ2))))) ∧ (¬ (x2 ≤ (12 : Int32)) → post (-1 : Int32) σ2)))))
set_option maxHeartbeats 4000000 in
set_option maxRecDepth 100000 in
theorem c_X11_sheet {l : Launch} {D : va_G} {ρ : Nat → Nat} {κ : Nat → ClassId} {base : Nat} {σ : eS} {x1 : Int32} {x2 : Int32} {x3 : Int32} {x4 : Int32} {post : Int32 → eS → Prop} (h : w_X11_sheet σ x1 x2 x3 x4 post) : gMi l yX11_sheet wsX11_sheet rm_X11_sheet D ρ κ base [.ref (ρ (97)), .int (x1), .int (x2), .int (x3), .int (x4)] σ post := by
  refine e_ofWi (cc := cX11_sheet) (maxL := 9) (ret := (some .int)) (by decide) rfl (Nat.le_of_ble_eq_true rfl) ?_
  intro p e s m below meth c ls C K G hl
  obtain ⟨hx, hb, hml, hown, hts, hr, hlocks⟩ := id C
  have hl : lv_has ls 9 [(0, .ref (ρ (97))), (1, .int (x1)), (2, .int (x2)), (3, .int (x3)), (4, .int (x4))] := hl
  unfold w_X11_sheet at h
  refine lv_aload_n hx hb dX11_sheet_0 rfl (lv_at hl 0 rfl) ?_
  refine lv_iconst (v := (0 : Int32)) hx hb dX11_sheet_1 (by decide) ?_
  refine e_puti hx hb hts in_X11_sheet_X11 tyX11 tyX11_ok nmX11 hown K G 97 (by decide) gl_97 rfl 18 (by decide) rfl (hts (.fieldLink RX11 98 "StreetsStepOnModel" "thrown" "I") (e_mem (n := 1) rfl)) rfl (tyX11_ok 18 (by decide)) rfl rfl dX11_sheet_2 (fun H locs G => ?_)
  obtain ⟨σ1, eσ1⟩ : ∃ z : eS, z = e_ui σ 97 18 (0 : Int32) := ⟨_, rfl⟩
  rw [← eσ1] at G
  have h := h σ1 eσ1
  refine lv_iload_n hx hb dX11_sheet_5 rfl (lv_at hl 1 rfl) ?_
  refine lv_i2l hx hb dX11_sheet_6 rfl ?_
  refine lv_lconst (v := (0 : Int64)) hx hb dX11_sheet_7 (by decide) ?_
  refine lv_ldc2 (v := (3 : Int64)) hx hb hown (hts (.constantLong RX11 192 (3)) (e_mem (n := 2) rfl)) dX11_sheet_8 ?_
  refine e_callSi (As := [.long (x1.toInt64), .long ((0 : Int64)), .long ((3 : Int64))]) (rest := []) ⟨hx, hb, hml, hown, hts⟩ K G (c_X11_in h) (va_cwS 3 hts gX11_sheet_X11_in rfl rfl rfl (by decide +kernel) ⟨Nat.le_of_ble_eq_true rfl, Nat.le_of_ble_eq_true rfl⟩) rfl hl.1 rfl (Nat.le_of_ble_eq_true rfl) dX11_sheet_11 ⟨Nat.zero_le _, Nat.zero_le _⟩ (fun r3 σ2 H locs h G => ?_)
  refine lv_if_eq (tgt := 23) hx hb dX11_sheet_14 (by decide) (fun c4 => ?_) (fun c4 => ?_)
  · have h := h.1 c4
    refine lv_iconst (v := (-1 : Int32)) hx hb dX11_sheet_23 (by decide) ?_
    exact e_iret hx hb hr hlocks G h dX11_sheet_24
  · have h := h.2 c4
    refine lv_iload_n hx hb dX11_sheet_17 rfl (lv_at hl 2 rfl) ?_
    refine lv_bipush (v := (12 : Int32)) hx hb dX11_sheet_18 (by decide) ?_
    refine lv_icmp_le (tgt := 25) hx hb dX11_sheet_20 (by decide) (fun c5 => ?_) (fun c5 => ?_)
    · have h := h.1 c5
      refine lv_iload_n hx hb dX11_sheet_25 rfl (lv_at hl 1 rfl) ?_
      refine lv_iconst (v := (3 : Int32)) hx hb dX11_sheet_26 (by decide) ?_
      refine lv_icmp_ge (tgt := 37) hx hb dX11_sheet_27 (by decide) (fun c6 => ?_) (fun c6 => ?_)
      · have h := h.1 c6
        exact l_X11_sheet_37 C K σ2 x1 x2 x3 x4 _ _ _  h G (lv_sub hl [0, 1, 2, 3, 4] rfl)
      · have h := h.2 c6
        refine lv_iload_n hx hb dX11_sheet_30 rfl (lv_at hl 2 rfl) ?_
        refine lv_if_ge (tgt := 37) hx hb dX11_sheet_31 (by decide) (fun c22 => ?_) (fun c22 => ?_)
        · have h := h.1 c22
          exact l_X11_sheet_37 C K σ2 x1 x2 x3 x4 _ _ _  h G (lv_sub hl [0, 1, 2, 3, 4] rfl)
        · have h := h.2 c22
          refine lv_bipush (v := (-2 : Int32)) hx hb dX11_sheet_34 (by decide) ?_
          exact e_iret hx hb hr hlocks G h dX11_sheet_36
    · have h := h.2 c5
      refine lv_iconst (v := (-1 : Int32)) hx hb dX11_sheet_23 (by decide) ?_
      exact e_iret hx hb hr hlocks G h dX11_sheet_24
abbrev rm_X10_isPlace : Room := { frames := 0, cells := 0, slots := 0, locals := 0 }
def w_X10_isPlace (σ : eS) (x0 : Int32) (post : Int32 → eS → Prop) : Prop := ((x0 < 0 → ((narrow .boolean (.int (0 : Int32)) = .int (0 : Int32)) ∧ post (0 : Int32) σ)) ∧ (¬ (x0 < 0) → (((10 : Int32) ≤ x0 → ((narrow .boolean (.int (0 : Int32)) = .int (0 : Int32)) ∧ post (0 : Int32) σ)) ∧ (¬ ((10 : Int32) ≤ x0) → ((narrow .boolean (.int (1 : Int32)) = .int (1 : Int32)) ∧ post (1 : Int32) σ)))))
set_option maxHeartbeats 4000000 in
set_option maxRecDepth 100000 in
theorem c_X10_isPlace {l : Launch} {D : va_G} {ρ : Nat → Nat} {κ : Nat → ClassId} {base : Nat} {σ : eS} {x0 : Int32} {post : Int32 → eS → Prop} (h : w_X10_isPlace σ x0 post) : gMi l yX10_isPlace wsX10_isPlace rm_X10_isPlace D ρ κ base [.int (x0)] σ post := by
  refine e_ofWi (cc := cX10_isPlace) (maxL := 1) (ret := (some .boolean)) (by decide) rfl (Nat.le_of_ble_eq_true rfl) ?_
  intro p e s m below meth c ls C K G hl
  obtain ⟨hx, hb, hml, hown, hts, hr, hlocks⟩ := id C
  have hl : lv_has ls 1 [(0, .int (x0))] := hl
  unfold w_X10_isPlace at h
  refine lv_iload_n hx hb dX10_isPlace_0 rfl (lv_at hl 0 rfl) ?_
  refine lv_if_lt (tgt := 14) hx hb dX10_isPlace_1 (by decide) (fun c1 => ?_) (fun c1 => ?_)
  · have h := h.1 c1
    refine lv_iconst (v := (0 : Int32)) hx hb dX10_isPlace_14 (by decide) ?_
    exact e_zret hx hb hr hlocks G h.1 h.2 dX10_isPlace_15
  · have h := h.2 c1
    refine lv_iload_n hx hb dX10_isPlace_4 rfl (lv_at hl 0 rfl) ?_
    refine lv_bipush (v := (10 : Int32)) hx hb dX10_isPlace_5 (by decide) ?_
    refine lv_icmp_ge (tgt := 14) hx hb dX10_isPlace_7 (by decide) (fun c2 => ?_) (fun c2 => ?_)
    · have h := h.1 c2
      refine lv_iconst (v := (0 : Int32)) hx hb dX10_isPlace_14 (by decide) ?_
      exact e_zret hx hb hr hlocks G h.1 h.2 dX10_isPlace_15
    · have h := h.2 c2
      refine lv_iconst (v := (1 : Int32)) hx hb dX10_isPlace_10 (by decide) ?_
      refine lv_goto (tgt := 15) hx hb dX10_isPlace_11 (by decide) ?_
      exact e_zret hx hb hr hlocks G h.1 h.2 dX10_isPlace_15
abbrev rm_X4_between : Room := { frames := 0, cells := 0, slots := 0, locals := 0 }
theorem in_X4_between_X4 : ∀ w ∈ wsX40, w ∈ wsX4_between := fun w h => List.mem_cons_of_mem _ (List.mem_append_right _ h)
def w_X4_between (σ : eS) (x1 : Int32) (x2 : Int32) (post : Int32 → eS → Prop) : Prop := (vp_in x1 10) ∧ (vp_in x2 10) ∧ post (σ.1 (22 + x1.toNatClampNeg) x2.toNatClampNeg) σ
set_option maxHeartbeats 4000000 in
set_option maxRecDepth 100000 in
theorem c_X4_between {l : Launch} {D : va_G} {ρ : Nat → Nat} {κ : Nat → ClassId} {base : Nat} {σ : eS} {x1 : Int32} {x2 : Int32} {post : Int32 → eS → Prop} (h : w_X4_between σ x1 x2 post) : gMi l yX4_between wsX4_between rm_X4_between D ρ κ base [.ref (ρ (18)), .int (x1), .int (x2)] σ post := by
  refine e_ofWi (cc := cX4_between) (maxL := 3) (ret := (some .int)) (by decide) rfl (Nat.le_of_ble_eq_true rfl) ?_
  intro p e s m below meth c ls C K G hl
  obtain ⟨hx, hb, hml, hown, hts, hr, hlocks⟩ := id C
  have hl : lv_has ls 3 [(0, .ref (ρ (18))), (1, .int (x1)), (2, .int (x2))] := hl
  unfold w_X4_between at h
  refine lv_aload_n hx hb dX4_between_0 rfl (lv_at hl 0 rfl) ?_
  refine e_getq hx hb hts in_X4_between_X4 hown K G 18 (by decide) gl_18 rfl 2 (by decide) 21 rfl (hts (.fieldLink RX4 20 "StreetsStepOn$Roads" "ways" "[[I") (e_mem (n := 1) rfl)) dX4_between_1 ?_
  refine lv_iload_n hx hb dX4_between_4 rfl (lv_at hl 1 rfl) ?_
  have hi1 := h.1
  have h := h.2
  refine e_aald hx hb K G 21 5 5 10 (by decide) _ gl_21 rfl rfl hi1 (22 + x1.toNatClampNeg) (gr_21 _ (e_lt hi1)).1 dX4_between_5 ?_
  refine lv_iload_n hx hb dX4_between_6 rfl (lv_at hl 2 rfl) ?_
  have hi2 := h.1
  have h := h.2
  refine e_iald hx hb K G (22 + x1.toNatClampNeg) 0 0 10 (gr_21 _ (e_lt hi1)).2.2 (gr_21 _ (e_lt hi1)).2.1 rfl hi2 dX4_between_7 ?_
  exact e_iret hx hb hr hlocks G h dX4_between_8
abbrev rm_X10_far : Room := { frames := 1, cells := 0, slots := 0, locals := 22 }
theorem in_X10_far_X10 : ∀ w ∈ wsX100, w ∈ wsX10_far := fun w h => List.mem_cons_of_mem _ (List.mem_append_left _ (List.mem_append_right _ h))
def w_X10_far (σ : eS) (x1 : Int32) (x2 : Int32) (post : Int32 → eS → Prop) : Prop := w_X10_isPlace σ x1 (fun r2 σ1 => ((r2 = 0 → post (-1 : Int32) σ1) ∧ (¬ (r2 = 0) → w_X10_isPlace σ1 x2 (fun r5 σ4 => ((¬ r5 = 0 → w_X4_between σ4 x1 x2 (fun r8 σ7 => post r8 σ7)) ∧ (r5 = 0 → post (-1 : Int32) σ4))))))
set_option maxHeartbeats 4000000 in
set_option maxRecDepth 100000 in
theorem c_X10_far {l : Launch} {D : va_G} {ρ : Nat → Nat} {κ : Nat → ClassId} {base : Nat} {σ : eS} {x1 : Int32} {x2 : Int32} {post : Int32 → eS → Prop} (h : w_X10_far σ x1 x2 post) : gMi l yX10_far wsX10_far rm_X10_far D ρ κ base [.ref (ρ (0)), .int (x1), .int (x2)] σ post := by
  refine e_ofWi (cc := cX10_far) (maxL := 3) (ret := (some .int)) (by decide) rfl (Nat.le_of_ble_eq_true rfl) ?_
  intro p e s m below meth c ls C K G hl
  obtain ⟨hx, hb, hml, hown, hts, hr, hlocks⟩ := id C
  have hl : lv_has ls 3 [(0, .ref (ρ (0))), (1, .int (x1)), (2, .int (x2))] := hl
  unfold w_X10_far at h
  refine lv_iload_n hx hb dX10_far_0 rfl (lv_at hl 1 rfl) ?_
  refine e_callSi (As := [.int (x1)]) (rest := []) ⟨hx, hb, hml, hown, hts⟩ K G (c_X10_isPlace h) (va_cwS 1 hts gX10_far_X10_isPlace rfl rfl rfl (by decide +kernel) ⟨Nat.le_of_ble_eq_true rfl, Nat.le_of_ble_eq_true rfl⟩) rfl hl.1 rfl (Nat.le_of_ble_eq_true rfl) dX10_far_1 ⟨Nat.zero_le _, Nat.zero_le _⟩ (fun r2 σ1 H locs h G => ?_)
  refine lv_if_eq (tgt := 14) hx hb dX10_far_4 (by decide) (fun c3 => ?_) (fun c3 => ?_)
  · have h := h.1 c3
    refine lv_iconst (v := (-1 : Int32)) hx hb dX10_far_14 (by decide) ?_
    exact e_iret hx hb hr hlocks G h dX10_far_15
  · have h := h.2 c3
    refine lv_iload_n hx hb dX10_far_7 rfl (lv_at hl 2 rfl) ?_
    refine e_callSi (As := [.int (x2)]) (rest := []) ⟨hx, hb, hml, hown, hts⟩ K G (c_X10_isPlace h) (va_cwS 1 hts gX10_far_X10_isPlace rfl rfl rfl (by decide +kernel) ⟨Nat.le_of_ble_eq_true rfl, Nat.le_of_ble_eq_true rfl⟩) rfl hl.1 rfl (Nat.le_of_ble_eq_true rfl) dX10_far_8 ⟨Nat.zero_le _, Nat.zero_le _⟩ (fun r5 σ4 H locs h G => ?_)
    refine lv_if_ne (tgt := 16) hx hb dX10_far_11 (by decide) (fun c6 => ?_) (fun c6 => ?_)
    · have h := h.1 c6
      refine lv_aload_n hx hb dX10_far_16 rfl (lv_at hl 0 rfl) ?_
      refine e_getq hx hb hts in_X10_far_X10 hown K G 0 (by decide) gl_0 rfl 4 (by decide) 18 rfl (hts (.fieldLink RX10 37 "StreetsStepOn" "roads" "LStreetsStepOn$Roads;") (e_mem (n := 1) rfl)) dX10_far_17 ?_
      refine lv_iload_n hx hb dX10_far_20 rfl (lv_at hl 1 rfl) ?_
      refine lv_iload_n hx hb dX10_far_21 rfl (lv_at hl 2 rfl) ?_
      refine e_callVi (As := [.int (x1), .int (x2)]) (rest := []) ⟨hx, hb, hml, hown, hts⟩ K G 18 (by decide) gl_18 rfl (c_X4_between h) (cwV 2 hts gX10_far_X4_between rfl rfl rfl (by decide +kernel) ⟨Nat.le_of_ble_eq_true rfl, Nat.le_of_ble_eq_true rfl⟩) rfl hl.1 rfl (Nat.le_of_ble_eq_true rfl) dX10_far_22 ⟨Nat.zero_le _, Nat.zero_le _⟩ (fun r8 σ7 H locs h G => ?_)
      exact e_iret hx hb hr hlocks G h dX10_far_25
    · have h := h.2 c6
      refine lv_iconst (v := (-1 : Int32)) hx hb dX10_far_14 (by decide) ?_
      exact e_iret hx hb hr hlocks G h dX10_far_15
abbrev rm_X11_isPlace : Room := { frames := 1, cells := 0, slots := 0, locals := 25 }
def w_X11_isPlace (σ : eS) (x0 : Int32) (post : Int32 → eS → Prop) : Prop := w_X11_in σ (x0.toInt64) (0 : Int64) (9 : Int64) (fun r2 σ1 => ((narrow .boolean (.int r2) = .int r2) ∧ post r2 σ1))
set_option maxHeartbeats 4000000 in
set_option maxRecDepth 100000 in
theorem c_X11_isPlace {l : Launch} {D : va_G} {ρ : Nat → Nat} {κ : Nat → ClassId} {base : Nat} {σ : eS} {x0 : Int32} {post : Int32 → eS → Prop} (h : w_X11_isPlace σ x0 post) : gMi l yX11_isPlace wsX11_isPlace rm_X11_isPlace D ρ κ base [.int (x0)] σ post := by
  refine e_ofWi (cc := cX11_isPlace) (maxL := 1) (ret := (some .boolean)) (by decide) rfl (Nat.le_of_ble_eq_true rfl) ?_
  intro p e s m below meth c ls C K G hl
  obtain ⟨hx, hb, hml, hown, hts, hr, hlocks⟩ := id C
  have hl : lv_has ls 1 [(0, .int (x0))] := hl
  unfold w_X11_isPlace at h
  refine lv_iload_n hx hb dX11_isPlace_0 rfl (lv_at hl 0 rfl) ?_
  refine lv_i2l hx hb dX11_isPlace_1 rfl ?_
  refine lv_lconst (v := (0 : Int64)) hx hb dX11_isPlace_2 (by decide) ?_
  refine lv_ldc2 (v := (9 : Int64)) hx hb hown (hts (.constantLong RX11 117 (9)) (e_mem (n := 1) rfl)) dX11_isPlace_3 ?_
  refine e_callSi (As := [.long (x0.toInt64), .long ((0 : Int64)), .long ((9 : Int64))]) (rest := []) ⟨hx, hb, hml, hown, hts⟩ K G (c_X11_in h) (va_cwS 3 hts gX11_isPlace_X11_in rfl rfl rfl (by decide +kernel) ⟨Nat.le_of_ble_eq_true rfl, Nat.le_of_ble_eq_true rfl⟩) rfl hl.1 rfl (Nat.le_of_ble_eq_true rfl) dX11_isPlace_6 ⟨Nat.zero_le _, Nat.zero_le _⟩ (fun r2 σ1 H locs h G => ?_)
  exact e_zret hx hb hr hlocks G h.1 h.2 dX11_isPlace_9
abbrev rm_X11_findFar : Room := { frames := 1, cells := 0, slots := 0, locals := 15 }
theorem in_X11_findFar_X11 : ∀ w ∈ wsX110, w ∈ wsX11_findFar := fun w h => List.mem_cons_of_mem _ (List.mem_append_right _ h)
def b_X11_findFar_212 (post : eS → Prop) (K136 : eS → Int32 → Prop) (K144 : eS → Int32 → Int32 → Prop) (K152 : eS → Int32 → Int32 → Int32 → Prop) (σ : eS) (x1 : Int32) (x2 : Int32) (x3 : Int32) : Prop := ∀ v18 : Int32, v18 = (x3 + (1 : Int32)) → K152 σ x1 x2 v18
set_option maxHeartbeats 4000000 in
set_option maxRecDepth 100000 in
theorem l_X11_findFar_212 {p : Program} {l : Launch} {e : Env} {s : State} {m : MethodId} {args : Array Value} {below : List Frame} {meth : Method} {c : Code} {D : va_G} {ρ : Nat → Nat} {κ : Nat → ClassId} {base : Nat} {post : eS → Prop} (C : eCx p s m args meth c cX11_findFar RX11 5 none wsX11_findFar) (K : gK D ρ κ base s) {K136 : eS → Int32 → Prop} (hK136 : ∀ (σ : eS) (x1 : Int32) (H : Heap) (locs : List Loc) (ls : Array Slot), K136 σ x1 → gG D ρ κ base s σ H locs → lv_has ls 5 [(0, .ref (ρ (97))), (1, .int (x1))] → W p l e rm_X11_findFar s m args below meth c H locs 0 0 (gQv below args s D ρ κ base post) (F0 m 136 ls [])) {K144 : eS → Int32 → Int32 → Prop} (hK144 : ∀ (σ : eS) (x1 : Int32) (x2 : Int32) (H : Heap) (locs : List Loc) (ls : Array Slot), K144 σ x1 x2 → gG D ρ κ base s σ H locs → lv_has ls 5 [(0, .ref (ρ (97))), (1, .int (x1)), (2, .int (x2))] → W p l e rm_X11_findFar s m args below meth c H locs 0 0 (gQv below args s D ρ κ base post) (F0 m 144 ls [])) {K152 : eS → Int32 → Int32 → Int32 → Prop} (hK152 : ∀ (σ : eS) (x1 : Int32) (x2 : Int32) (x3 : Int32) (H : Heap) (locs : List Loc) (ls : Array Slot), K152 σ x1 x2 x3 → gG D ρ κ base s σ H locs → lv_has ls 5 [(0, .ref (ρ (97))), (1, .int (x1)), (2, .int (x2)), (3, .int (x3))] → W p l e rm_X11_findFar s m args below meth c H locs 0 0 (gQv below args s D ρ κ base post) (F0 m 152 ls [])) : ∀ (σ : eS) (x1 : Int32) (x2 : Int32) (x3 : Int32) (H : Heap) (locs : List Loc) (ls : Array Slot), b_X11_findFar_212 post K136 K144 K152 σ x1 x2 x3 → gG D ρ κ base s σ H locs → lv_has ls 5 [(0, .ref (ρ (97))), (1, .int (x1)), (2, .int (x2)), (3, .int (x3))] → W p l e rm_X11_findFar s m args below meth c H locs 0 0 (gQv below args s D ρ κ base post) (F0 m 212 ls []) := by
  obtain ⟨hx, hb, hml, hown, hts, hr, hlocks⟩ := id C
  intro σ x1 x2 x3 H locs ls h G hl
  unfold b_X11_findFar_212 at h
  obtain ⟨v18, ev18⟩ : ∃ y : Int32, y = x3 + (1 : Int32) := ⟨_, rfl⟩
  have h := h v18 ev18
  refine lv_iinc (v := v18) (lv' := [(3, .int (v18)), (0, .ref (ρ (97))), (1, .int (x1)), (2, .int (x2))]) hx hb dX11_findFar_212 hl (k := 3) rfl (by rw [ev18]; rfl) (by decide) rfl (fun ls hl => ?_)
  refine lv_goto (tgt := 152) hx hb dX11_findFar_215 (by decide) ?_
  exact hK152 σ x1 x2 v18 _ _ _  h G (lv_sub hl [1, 2, 3, 0] rfl)
def b_X11_findFar_152 (post : eS → Prop) (K136 : eS → Int32 → Prop) (K144 : eS → Int32 → Int32 → Prop) : Nat → eS → Int32 → Int32 → Int32 → Prop
  | 0, _, _, _, _ => False
  | n + 1, σ, x1, x2, x3 => (((10 : Int32) ≤ x3 → ∀ v12 : Int32, v12 = (x2 + (1 : Int32)) → K144 σ x1 v12) ∧ (¬ ((10 : Int32) ≤ x3) → (vp_in (((10 : Int32) * x2) + x1) 100) ∧ (vp_in (((10 : Int32) * x1) + x3) 100) ∧ ∀ v15 : Int32, v15 = ((σ.1 109 (((10 : Int32) * x2) + x1).toNatClampNeg) + (σ.1 109 (((10 : Int32) * x1) + x3).toNatClampNeg)) → (vp_in (((10 : Int32) * x2) + x3) 100) ∧ (((σ.1 109 (((10 : Int32) * x2) + x3).toNatClampNeg) ≤ v15 → b_X11_findFar_212 post K136 K144 (fun s x1 x2 x3 => b_X11_findFar_152 post K136 K144 n s x1 x2 x3) σ x1 x2 x3) ∧ (¬ ((σ.1 109 (((10 : Int32) * x2) + x3).toNatClampNeg) ≤ v15) → (vp_in (((10 : Int32) * x2) + x3) 100) ∧ ∀ σ20 : eS, σ20 = e_ui σ 109 (((10 : Int32) * x2) + x3).toNatClampNeg v15 → b_X11_findFar_212 post K136 K144 (fun s x1 x2 x3 => b_X11_findFar_152 post K136 K144 n s x1 x2 x3) σ20 x1 x2 x3))))
set_option maxHeartbeats 4000000 in
set_option maxRecDepth 100000 in
theorem l_X11_findFar_152 {p : Program} {l : Launch} {e : Env} {s : State} {m : MethodId} {args : Array Value} {below : List Frame} {meth : Method} {c : Code} {D : va_G} {ρ : Nat → Nat} {κ : Nat → ClassId} {base : Nat} {post : eS → Prop} (C : eCx p s m args meth c cX11_findFar RX11 5 none wsX11_findFar) (K : gK D ρ κ base s) {K136 : eS → Int32 → Prop} (hK136 : ∀ (σ : eS) (x1 : Int32) (H : Heap) (locs : List Loc) (ls : Array Slot), K136 σ x1 → gG D ρ κ base s σ H locs → lv_has ls 5 [(0, .ref (ρ (97))), (1, .int (x1))] → W p l e rm_X11_findFar s m args below meth c H locs 0 0 (gQv below args s D ρ κ base post) (F0 m 136 ls [])) {K144 : eS → Int32 → Int32 → Prop} (hK144 : ∀ (σ : eS) (x1 : Int32) (x2 : Int32) (H : Heap) (locs : List Loc) (ls : Array Slot), K144 σ x1 x2 → gG D ρ κ base s σ H locs → lv_has ls 5 [(0, .ref (ρ (97))), (1, .int (x1)), (2, .int (x2))] → W p l e rm_X11_findFar s m args below meth c H locs 0 0 (gQv below args s D ρ κ base post) (F0 m 144 ls [])) : ∀ (n : Nat) (σ : eS) (x1 : Int32) (x2 : Int32) (x3 : Int32) (H : Heap) (locs : List Loc) (ls : Array Slot), b_X11_findFar_152 post K136 K144 n σ x1 x2 x3 → gG D ρ κ base s σ H locs → lv_has ls 5 [(0, .ref (ρ (97))), (1, .int (x1)), (2, .int (x2)), (3, .int (x3))] → W p l e rm_X11_findFar s m args below meth c H locs 0 0 (gQv below args s D ρ κ base post) (F0 m 152 ls []) := by
  obtain ⟨hx, hb, hml, hown, hts, hr, hlocks⟩ := id C
  intro n
  induction n with
  | zero => intro σ x1 x2 x3 H locs ls h G hl; exact False.elim h
  | succ n ih =>
    intro σ x1 x2 x3 H locs ls h G hl
    rw [b_X11_findFar_152] at h
    refine lv_iload_n hx hb dX11_findFar_152 rfl (lv_at hl 3 rfl) ?_
    refine lv_bipush (v := (10 : Int32)) hx hb dX11_findFar_153 (by decide) ?_
    refine lv_icmp_ge (tgt := 218) hx hb dX11_findFar_155 (by decide) (fun c11 => ?_) (fun c11 => ?_)
    · have h := h.1 c11
      obtain ⟨v12, ev12⟩ : ∃ y : Int32, y = x2 + (1 : Int32) := ⟨_, rfl⟩
      have h := h v12 ev12
      refine lv_iinc (v := v12) (lv' := [(2, .int (v12)), (0, .ref (ρ (97))), (1, .int (x1)), (3, .int (x3))]) hx hb dX11_findFar_218 hl (k := 2) rfl (by rw [ev12]; rfl) (by decide) rfl (fun ls hl => ?_)
      refine lv_goto (tgt := 144) hx hb dX11_findFar_221 (by decide) ?_
      exact hK144 σ x1 v12 _ _ _  h G (lv_sub hl [1, 2, 0] rfl)
    · have h := h.2 c11
      refine lv_aload_n hx hb dX11_findFar_158 rfl (lv_at hl 0 rfl) ?_
      refine e_getq hx hb hts in_X11_findFar_X11 hown K G 97 (by decide) gl_97 rfl 24 (by decide) 109 rfl (hts (.fieldLink RX11 45 "StreetsStepOnModel" "fars" "[I") (e_mem (n := 1) rfl)) dX11_findFar_159 ?_
      refine lv_bipush (v := (10 : Int32)) hx hb dX11_findFar_162 (by decide) ?_
      refine lv_iload_n hx hb dX11_findFar_164 rfl (lv_at hl 2 rfl) ?_
      refine lv_imul hx hb dX11_findFar_165 ?_
      refine lv_iload_n hx hb dX11_findFar_166 rfl (lv_at hl 1 rfl) ?_
      refine lv_iadd hx hb dX11_findFar_167 ?_
      have hi13 := h.1
      have h := h.2
      refine e_iald hx hb K G 109 0 0 100 (by decide) gl_109 rfl hi13 dX11_findFar_168 ?_
      refine lv_aload_n hx hb dX11_findFar_169 rfl (lv_at hl 0 rfl) ?_
      refine e_getq hx hb hts in_X11_findFar_X11 hown K G 97 (by decide) gl_97 rfl 24 (by decide) 109 rfl (hts (.fieldLink RX11 45 "StreetsStepOnModel" "fars" "[I") (e_mem (n := 1) rfl)) dX11_findFar_170 ?_
      refine lv_bipush (v := (10 : Int32)) hx hb dX11_findFar_173 (by decide) ?_
      refine lv_iload_n hx hb dX11_findFar_175 rfl (lv_at hl 1 rfl) ?_
      refine lv_imul hx hb dX11_findFar_176 ?_
      refine lv_iload_n hx hb dX11_findFar_177 rfl (lv_at hl 3 rfl) ?_
      refine lv_iadd hx hb dX11_findFar_178 ?_
      have hi14 := h.1
      have h := h.2
      refine e_iald hx hb K G 109 0 0 100 (by decide) gl_109 rfl hi14 dX11_findFar_179 ?_
      refine lv_iadd hx hb dX11_findFar_180 ?_
      refine lv_topi (fun v15 ev15 => ?_)
      have h := h v15 ev15
      refine lv_istore (lv' := [(4, .int (v15)), (0, .ref (ρ (97))), (1, .int (x1)), (2, .int (x2)), (3, .int (x3))]) hx hb dX11_findFar_181 hl (by decide) rfl (fun ls hl => ?_)
      refine lv_iload hx hb dX11_findFar_183 (lv_at hl 0 rfl) ?_
      refine lv_aload_n hx hb dX11_findFar_185 rfl (lv_at hl 1 rfl) ?_
      refine e_getq hx hb hts in_X11_findFar_X11 hown K G 97 (by decide) gl_97 rfl 24 (by decide) 109 rfl (hts (.fieldLink RX11 45 "StreetsStepOnModel" "fars" "[I") (e_mem (n := 1) rfl)) dX11_findFar_186 ?_
      refine lv_bipush (v := (10 : Int32)) hx hb dX11_findFar_189 (by decide) ?_
      refine lv_iload_n hx hb dX11_findFar_191 rfl (lv_at hl 3 rfl) ?_
      refine lv_imul hx hb dX11_findFar_192 ?_
      refine lv_iload_n hx hb dX11_findFar_193 rfl (lv_at hl 4 rfl) ?_
      refine lv_iadd hx hb dX11_findFar_194 ?_
      have hi16 := h.1
      have h := h.2
      refine e_iald hx hb K G 109 0 0 100 (by decide) gl_109 rfl hi16 dX11_findFar_195 ?_
      refine lv_icmp_ge (tgt := 212) hx hb dX11_findFar_196 (by decide) (fun c17 => ?_) (fun c17 => ?_)
      · have h := h.1 c17
        exact l_X11_findFar_212 C K (hK136 := hK136) (hK144 := hK144) (hK152 := ih) σ x1 x2 x3 _ _ _  h G (lv_sub hl [1, 2, 3, 4] rfl)
      · have h := h.2 c17
        refine lv_aload_n hx hb dX11_findFar_199 rfl (lv_at hl 1 rfl) ?_
        refine e_getq hx hb hts in_X11_findFar_X11 hown K G 97 (by decide) gl_97 rfl 24 (by decide) 109 rfl (hts (.fieldLink RX11 45 "StreetsStepOnModel" "fars" "[I") (e_mem (n := 1) rfl)) dX11_findFar_200 ?_
        refine lv_bipush (v := (10 : Int32)) hx hb dX11_findFar_203 (by decide) ?_
        refine lv_iload_n hx hb dX11_findFar_205 rfl (lv_at hl 3 rfl) ?_
        refine lv_imul hx hb dX11_findFar_206 ?_
        refine lv_iload_n hx hb dX11_findFar_207 rfl (lv_at hl 4 rfl) ?_
        refine lv_iadd hx hb dX11_findFar_208 ?_
        refine lv_iload hx hb dX11_findFar_209 (lv_at hl 0 rfl) ?_
        have hi19 := h.1
        have h := h.2
        refine e_iast hx hb K G 109 0 0 100 (by decide) gl_109 rfl hi19 dX11_findFar_211 (fun H locs G => ?_)
        obtain ⟨σ20, eσ20⟩ : ∃ z : eS, z = e_ui σ 109 (((10 : Int32) * x2) + x3).toNatClampNeg v15 := ⟨_, rfl⟩
        rw [← eσ20] at G
        have h := h σ20 eσ20
        exact l_X11_findFar_212 C K (hK136 := hK136) (hK144 := hK144) (hK152 := ih) σ20 x1 x2 x3 _ _ _  h G (lv_sub hl [1, 2, 3, 4] rfl)
def b_X11_findFar_144 (post : eS → Prop) (K136 : eS → Int32 → Prop) : Nat → eS → Int32 → Int32 → Prop
  | 0, _, _, _ => False
  | n + 1, σ, x1, x2 => (((10 : Int32) ≤ x2 → ∀ v9 : Int32, v9 = (x1 + (1 : Int32)) → K136 σ v9) ∧ (¬ ((10 : Int32) ≤ x2) → ∀ v10 : Int32, v10 = (0 : Int32) → (∃ n21 : Nat, b_X11_findFar_152 post K136 (fun s x1 x2 => b_X11_findFar_144 post K136 n s x1 x2) n21 σ x1 x2 v10)))
set_option maxHeartbeats 4000000 in
set_option maxRecDepth 100000 in
theorem l_X11_findFar_144 {p : Program} {l : Launch} {e : Env} {s : State} {m : MethodId} {args : Array Value} {below : List Frame} {meth : Method} {c : Code} {D : va_G} {ρ : Nat → Nat} {κ : Nat → ClassId} {base : Nat} {post : eS → Prop} (C : eCx p s m args meth c cX11_findFar RX11 5 none wsX11_findFar) (K : gK D ρ κ base s) {K136 : eS → Int32 → Prop} (hK136 : ∀ (σ : eS) (x1 : Int32) (H : Heap) (locs : List Loc) (ls : Array Slot), K136 σ x1 → gG D ρ κ base s σ H locs → lv_has ls 5 [(0, .ref (ρ (97))), (1, .int (x1))] → W p l e rm_X11_findFar s m args below meth c H locs 0 0 (gQv below args s D ρ κ base post) (F0 m 136 ls [])) : ∀ (n : Nat) (σ : eS) (x1 : Int32) (x2 : Int32) (H : Heap) (locs : List Loc) (ls : Array Slot), b_X11_findFar_144 post K136 n σ x1 x2 → gG D ρ κ base s σ H locs → lv_has ls 5 [(0, .ref (ρ (97))), (1, .int (x1)), (2, .int (x2))] → W p l e rm_X11_findFar s m args below meth c H locs 0 0 (gQv below args s D ρ κ base post) (F0 m 144 ls []) := by
  obtain ⟨hx, hb, hml, hown, hts, hr, hlocks⟩ := id C
  intro n
  induction n with
  | zero => intro σ x1 x2 H locs ls h G hl; exact False.elim h
  | succ n ih =>
    intro σ x1 x2 H locs ls h G hl
    rw [b_X11_findFar_144] at h
    refine lv_iload_n hx hb dX11_findFar_144 rfl (lv_at hl 2 rfl) ?_
    refine lv_bipush (v := (10 : Int32)) hx hb dX11_findFar_145 (by decide) ?_
    refine lv_icmp_ge (tgt := 224) hx hb dX11_findFar_147 (by decide) (fun c8 => ?_) (fun c8 => ?_)
    · have h := h.1 c8
      obtain ⟨v9, ev9⟩ : ∃ y : Int32, y = x1 + (1 : Int32) := ⟨_, rfl⟩
      have h := h v9 ev9
      refine lv_iinc (v := v9) (lv' := [(1, .int (v9)), (0, .ref (ρ (97))), (2, .int (x2))]) hx hb dX11_findFar_224 hl (k := 1) rfl (by rw [ev9]; rfl) (by decide) rfl (fun ls hl => ?_)
      refine lv_goto (tgt := 136) hx hb dX11_findFar_227 (by decide) ?_
      exact hK136 σ v9 _ _ _  h G (lv_sub hl [1, 0] rfl)
    · have h := h.2 c8
      refine lv_iconst (v := (0 : Int32)) hx hb dX11_findFar_150 (by decide) ?_
      refine lv_topi (fun v10 ev10 => ?_)
      have h := h v10 ev10
      refine lv_istore_n (lv' := [(3, .int (v10)), (0, .ref (ρ (97))), (1, .int (x1)), (2, .int (x2))]) hx hb dX11_findFar_151 rfl hl (by decide) rfl (fun ls hl => ?_)
      obtain ⟨n21, h⟩ := h
      exact l_X11_findFar_152 C K (hK136 := hK136) (hK144 := ih) n21 σ x1 x2 v10 _ _ _  h G (lv_sub hl [1, 2, 3, 0] rfl)
def b_X11_findFar_136 (post : eS → Prop) : Nat → eS → Int32 → Prop
  | 0, _, _ => False
  | n + 1, σ, x1 => (((10 : Int32) ≤ x1 → post σ) ∧ (¬ ((10 : Int32) ≤ x1) → ∀ v7 : Int32, v7 = (0 : Int32) → (∃ n22 : Nat, b_X11_findFar_144 post (fun s x1 => b_X11_findFar_136 post n s x1) n22 σ x1 v7)))
set_option maxHeartbeats 4000000 in
set_option maxRecDepth 100000 in
theorem l_X11_findFar_136 {p : Program} {l : Launch} {e : Env} {s : State} {m : MethodId} {args : Array Value} {below : List Frame} {meth : Method} {c : Code} {D : va_G} {ρ : Nat → Nat} {κ : Nat → ClassId} {base : Nat} {post : eS → Prop} (C : eCx p s m args meth c cX11_findFar RX11 5 none wsX11_findFar) (K : gK D ρ κ base s) : ∀ (n : Nat) (σ : eS) (x1 : Int32) (H : Heap) (locs : List Loc) (ls : Array Slot), b_X11_findFar_136 post n σ x1 → gG D ρ κ base s σ H locs → lv_has ls 5 [(0, .ref (ρ (97))), (1, .int (x1))] → W p l e rm_X11_findFar s m args below meth c H locs 0 0 (gQv below args s D ρ κ base post) (F0 m 136 ls []) := by
  obtain ⟨hx, hb, hml, hown, hts, hr, hlocks⟩ := id C
  intro n
  induction n with
  | zero => intro σ x1 H locs ls h G hl; exact False.elim h
  | succ n ih =>
    intro σ x1 H locs ls h G hl
    rw [b_X11_findFar_136] at h
    refine lv_iload_n hx hb dX11_findFar_136 rfl (lv_at hl 1 rfl) ?_
    refine lv_bipush (v := (10 : Int32)) hx hb dX11_findFar_137 (by decide) ?_
    refine lv_icmp_ge (tgt := 230) hx hb dX11_findFar_139 (by decide) (fun c6 => ?_) (fun c6 => ?_)
    · have h := h.1 c6
      exact e_vret hx hb hr hlocks G h dX11_findFar_230
    · have h := h.2 c6
      refine lv_iconst (v := (0 : Int32)) hx hb dX11_findFar_142 (by decide) ?_
      refine lv_topi (fun v7 ev7 => ?_)
      have h := h v7 ev7
      refine lv_istore_n (lv' := [(2, .int (v7)), (0, .ref (ρ (97))), (1, .int (x1))]) hx hb dX11_findFar_143 rfl hl (by decide) rfl (fun ls hl => ?_)
      obtain ⟨n22, h⟩ := h
      exact l_X11_findFar_144 C K (hK136 := ih) n22 σ x1 v7 _ _ _  h G (lv_sub hl [1, 2, 0] rfl)
def b_X11_findFar_53 (post : eS → Prop) : Nat → eS → Int32 → Prop
  | 0, _, _ => False
  | n + 1, σ, x1 => (((σ.1 97 0) ≤ x1 → ∀ v5 : Int32, v5 = (0 : Int32) → (∃ n23 : Nat, b_X11_findFar_136 post n23 σ v5)) ∧ (¬ ((σ.1 97 0) ≤ x1) → (vp_in x1 12) ∧ (vp_in x1 12) ∧ ∀ v26 : Int32, v26 = (((10 : Int32) * (σ.1 98 x1.toNatClampNeg)) + (σ.1 99 x1.toNatClampNeg)) → (vp_in x1 12) ∧ (vp_in x1 12) ∧ ∀ v29 : Int32, v29 = (((10 : Int32) * (σ.1 99 x1.toNatClampNeg)) + (σ.1 98 x1.toNatClampNeg)) → (vp_in v26 100) ∧ (vp_in x1 12) ∧ (vp_in v26 100) ∧ ∀ σ33 : eS, σ33 = e_ui σ 109 v26.toNatClampNeg (if (σ.1 100 x1.toNatClampNeg) < (σ.1 109 v26.toNatClampNeg) then (σ.1 100 x1.toNatClampNeg) else (σ.1 109 v26.toNatClampNeg)) → (vp_in v26 100) ∧ (vp_in v29 100) ∧ ∀ σ36 : eS, σ36 = e_ui σ33 109 v29.toNatClampNeg (σ33.1 109 v26.toNatClampNeg) → ∀ v37 : Int32, v37 = (x1 + (1 : Int32)) → b_X11_findFar_53 post n σ36 v37))
set_option maxHeartbeats 4000000 in
set_option maxRecDepth 100000 in
theorem l_X11_findFar_53 {p : Program} {l : Launch} {e : Env} {s : State} {m : MethodId} {args : Array Value} {below : List Frame} {meth : Method} {c : Code} {D : va_G} {ρ : Nat → Nat} {κ : Nat → ClassId} {base : Nat} {post : eS → Prop} (C : eCx p s m args meth c cX11_findFar RX11 5 none wsX11_findFar) (K : gK D ρ κ base s) : ∀ (n : Nat) (σ : eS) (x1 : Int32) (H : Heap) (locs : List Loc) (ls : Array Slot), b_X11_findFar_53 post n σ x1 → gG D ρ κ base s σ H locs → lv_has ls 5 [(0, .ref (ρ (97))), (1, .int (x1))] → W p l e rm_X11_findFar s m args below meth c H locs 0 0 (gQv below args s D ρ κ base post) (F0 m 53 ls []) := by
  obtain ⟨hx, hb, hml, hown, hts, hr, hlocks⟩ := id C
  intro n
  induction n with
  | zero => intro σ x1 H locs ls h G hl; exact False.elim h
  | succ n ih =>
    intro σ x1 H locs ls h G hl
    rw [b_X11_findFar_53] at h
    refine lv_iload_n hx hb dX11_findFar_53 rfl (lv_at hl 1 rfl) ?_
    refine lv_aload_n hx hb dX11_findFar_54 rfl (lv_at hl 0 rfl) ?_
    refine e_geti hx hb hts in_X11_findFar_X11 hown K G 97 (by decide) gl_97 rfl 0 (by decide) rfl (hts (.fieldLink RX11 104 "StreetsStepOnModel" "streets" "I") (e_mem (n := 2) rfl)) dX11_findFar_55 ?_
    refine lv_icmp_ge (tgt := 134) hx hb dX11_findFar_58 (by decide) (fun c4 => ?_) (fun c4 => ?_)
    · have h := h.1 c4
      refine lv_iconst (v := (0 : Int32)) hx hb dX11_findFar_134 (by decide) ?_
      refine lv_topi (fun v5 ev5 => ?_)
      have h := h v5 ev5
      refine lv_istore_n (lv' := [(1, .int (v5)), (0, .ref (ρ (97)))]) hx hb dX11_findFar_135 rfl hl (by decide) rfl (fun ls hl => ?_)
      obtain ⟨n23, h⟩ := h
      exact l_X11_findFar_136 C K n23 σ v5 _ _ _  h G (lv_sub hl [1, 0] rfl)
    · have h := h.2 c4
      refine lv_bipush (v := (10 : Int32)) hx hb dX11_findFar_61 (by decide) ?_
      refine lv_aload_n hx hb dX11_findFar_63 rfl (lv_at hl 0 rfl) ?_
      refine e_getq hx hb hts in_X11_findFar_X11 hown K G 97 (by decide) gl_97 rfl 1 (by decide) 98 rfl (hts (.fieldLink RX11 9 "StreetsStepOnModel" "streetA" "[I") (e_mem (n := 3) rfl)) dX11_findFar_64 ?_
      refine lv_iload_n hx hb dX11_findFar_67 rfl (lv_at hl 1 rfl) ?_
      have hi24 := h.1
      have h := h.2
      refine e_iald hx hb K G 98 0 0 12 (by decide) gl_98 rfl hi24 dX11_findFar_68 ?_
      refine lv_imul hx hb dX11_findFar_69 ?_
      refine lv_aload_n hx hb dX11_findFar_70 rfl (lv_at hl 0 rfl) ?_
      refine e_getq hx hb hts in_X11_findFar_X11 hown K G 97 (by decide) gl_97 rfl 2 (by decide) 99 rfl (hts (.fieldLink RX11 13 "StreetsStepOnModel" "streetB" "[I") (e_mem (n := 4) rfl)) dX11_findFar_71 ?_
      refine lv_iload_n hx hb dX11_findFar_74 rfl (lv_at hl 1 rfl) ?_
      have hi25 := h.1
      have h := h.2
      refine e_iald hx hb K G 99 0 0 12 (by decide) gl_99 rfl hi25 dX11_findFar_75 ?_
      refine lv_iadd hx hb dX11_findFar_76 ?_
      refine lv_topi (fun v26 ev26 => ?_)
      have h := h v26 ev26
      refine lv_istore_n (lv' := [(2, .int (v26)), (0, .ref (ρ (97))), (1, .int (x1))]) hx hb dX11_findFar_77 rfl hl (by decide) rfl (fun ls hl => ?_)
      refine lv_bipush (v := (10 : Int32)) hx hb dX11_findFar_78 (by decide) ?_
      refine lv_aload_n hx hb dX11_findFar_80 rfl (lv_at hl 1 rfl) ?_
      refine e_getq hx hb hts in_X11_findFar_X11 hown K G 97 (by decide) gl_97 rfl 2 (by decide) 99 rfl (hts (.fieldLink RX11 13 "StreetsStepOnModel" "streetB" "[I") (e_mem (n := 4) rfl)) dX11_findFar_81 ?_
      refine lv_iload_n hx hb dX11_findFar_84 rfl (lv_at hl 2 rfl) ?_
      have hi27 := h.1
      have h := h.2
      refine e_iald hx hb K G 99 0 0 12 (by decide) gl_99 rfl hi27 dX11_findFar_85 ?_
      refine lv_imul hx hb dX11_findFar_86 ?_
      refine lv_aload_n hx hb dX11_findFar_87 rfl (lv_at hl 1 rfl) ?_
      refine e_getq hx hb hts in_X11_findFar_X11 hown K G 97 (by decide) gl_97 rfl 1 (by decide) 98 rfl (hts (.fieldLink RX11 9 "StreetsStepOnModel" "streetA" "[I") (e_mem (n := 3) rfl)) dX11_findFar_88 ?_
      refine lv_iload_n hx hb dX11_findFar_91 rfl (lv_at hl 2 rfl) ?_
      have hi28 := h.1
      have h := h.2
      refine e_iald hx hb K G 98 0 0 12 (by decide) gl_98 rfl hi28 dX11_findFar_92 ?_
      refine lv_iadd hx hb dX11_findFar_93 ?_
      refine lv_topi (fun v29 ev29 => ?_)
      have h := h v29 ev29
      refine lv_istore_n (lv' := [(3, .int (v29)), (2, .int (v26)), (0, .ref (ρ (97))), (1, .int (x1))]) hx hb dX11_findFar_94 rfl hl (by decide) rfl (fun ls hl => ?_)
      refine lv_aload_n hx hb dX11_findFar_95 rfl (lv_at hl 2 rfl) ?_
      refine e_getq hx hb hts in_X11_findFar_X11 hown K G 97 (by decide) gl_97 rfl 24 (by decide) 109 rfl (hts (.fieldLink RX11 45 "StreetsStepOnModel" "fars" "[I") (e_mem (n := 1) rfl)) dX11_findFar_96 ?_
      refine lv_iload_n hx hb dX11_findFar_99 rfl (lv_at hl 1 rfl) ?_
      refine lv_aload_n hx hb dX11_findFar_100 rfl (lv_at hl 2 rfl) ?_
      refine e_getq hx hb hts in_X11_findFar_X11 hown K G 97 (by decide) gl_97 rfl 24 (by decide) 109 rfl (hts (.fieldLink RX11 45 "StreetsStepOnModel" "fars" "[I") (e_mem (n := 1) rfl)) dX11_findFar_101 ?_
      refine lv_iload_n hx hb dX11_findFar_104 rfl (lv_at hl 1 rfl) ?_
      have hi30 := h.1
      have h := h.2
      refine e_iald hx hb K G 109 0 0 100 (by decide) gl_109 rfl hi30 dX11_findFar_105 ?_
      refine lv_aload_n hx hb dX11_findFar_106 rfl (lv_at hl 2 rfl) ?_
      refine e_getq hx hb hts in_X11_findFar_X11 hown K G 97 (by decide) gl_97 rfl 3 (by decide) 100 rfl (hts (.fieldLink RX11 16 "StreetsStepOnModel" "length" "[I") (e_mem (n := 5) rfl)) dX11_findFar_107 ?_
      refine lv_iload_n hx hb dX11_findFar_110 rfl (lv_at hl 3 rfl) ?_
      have hi31 := h.1
      have h := h.2
      refine e_iald hx hb K G 100 0 0 12 (by decide) gl_100 rfl hi31 dX11_findFar_111 ?_
      refine va_mmin hx hb (hml.trans hl.1.symm) hown (hts (.methodLink RX11 208 Lib.Math.min.name) (e_mem (n := 6) rfl)) (hts (.static Lib.Math.min.name) (e_mem (n := 7) rfl)) (hts (.initialized "java/lang/Math") (e_mem (n := 8) rfl)) (hts (.code Lib.Math.min.name Lib.Math.min.code 2 (some .int)) (e_mem (n := 9) rfl)) (Nat.le_of_ble_eq_true rfl) (Nat.le_of_ble_eq_true rfl) (Nat.zero_le _) (Nat.zero_le _) dX11_findFar_112 ?_
      have hi32 := h.1
      have h := h.2
      refine e_iast hx hb K G 109 0 0 100 (by decide) gl_109 rfl hi32 dX11_findFar_115 (fun H locs G => ?_)
      obtain ⟨σ33, eσ33⟩ : ∃ z : eS, z = e_ui σ 109 v26.toNatClampNeg (if (σ.1 100 x1.toNatClampNeg) < (σ.1 109 v26.toNatClampNeg) then (σ.1 100 x1.toNatClampNeg) else (σ.1 109 v26.toNatClampNeg)) := ⟨_, rfl⟩
      rw [← eσ33] at G
      have h := h σ33 eσ33
      refine lv_aload_n hx hb dX11_findFar_116 rfl (lv_at hl 2 rfl) ?_
      refine e_getq hx hb hts in_X11_findFar_X11 hown K G 97 (by decide) gl_97 rfl 24 (by decide) 109 rfl (hts (.fieldLink RX11 45 "StreetsStepOnModel" "fars" "[I") (e_mem (n := 1) rfl)) dX11_findFar_117 ?_
      refine lv_iload_n hx hb dX11_findFar_120 rfl (lv_at hl 0 rfl) ?_
      refine lv_aload_n hx hb dX11_findFar_121 rfl (lv_at hl 2 rfl) ?_
      refine e_getq hx hb hts in_X11_findFar_X11 hown K G 97 (by decide) gl_97 rfl 24 (by decide) 109 rfl (hts (.fieldLink RX11 45 "StreetsStepOnModel" "fars" "[I") (e_mem (n := 1) rfl)) dX11_findFar_122 ?_
      refine lv_iload_n hx hb dX11_findFar_125 rfl (lv_at hl 1 rfl) ?_
      have hi34 := h.1
      have h := h.2
      refine e_iald hx hb K G 109 0 0 100 (by decide) gl_109 rfl hi34 dX11_findFar_126 ?_
      have hi35 := h.1
      have h := h.2
      refine e_iast hx hb K G 109 0 0 100 (by decide) gl_109 rfl hi35 dX11_findFar_127 (fun H locs G => ?_)
      obtain ⟨σ36, eσ36⟩ : ∃ z : eS, z = e_ui σ33 109 v29.toNatClampNeg (σ33.1 109 v26.toNatClampNeg) := ⟨_, rfl⟩
      rw [← eσ36] at G
      have h := h σ36 eσ36
      obtain ⟨v37, ev37⟩ : ∃ y : Int32, y = x1 + (1 : Int32) := ⟨_, rfl⟩
      have h := h v37 ev37
      refine lv_iinc (v := v37) (lv' := [(1, .int (v37)), (3, .int (v29)), (2, .int (v26)), (0, .ref (ρ (97)))]) hx hb dX11_findFar_128 hl (k := 3) rfl (by rw [ev37]; rfl) (by decide) rfl (fun ls hl => ?_)
      refine lv_goto (tgt := 53) hx hb dX11_findFar_131 (by decide) ?_
      exact ih σ36 v37 _ _ _  h G (lv_sub hl [3, 0] rfl)
def b_X11_findFar_38 (post : eS → Prop) (K2 : eS → Int32 → Prop) (K10 : eS → Int32 → Int32 → Prop) (σ : eS) (x1 : Int32) (x2 : Int32) (y0 : Int32) (y1 : Int32) : Prop := (vp_in y1 100) ∧ ∀ σ44 : eS, σ44 = e_ui σ 109 y1.toNatClampNeg y0 → ∀ v45 : Int32, v45 = (x2 + (1 : Int32)) → K10 σ44 x1 v45
set_option maxHeartbeats 4000000 in
set_option maxRecDepth 100000 in
theorem l_X11_findFar_38 {p : Program} {l : Launch} {e : Env} {s : State} {m : MethodId} {args : Array Value} {below : List Frame} {meth : Method} {c : Code} {D : va_G} {ρ : Nat → Nat} {κ : Nat → ClassId} {base : Nat} {post : eS → Prop} (C : eCx p s m args meth c cX11_findFar RX11 5 none wsX11_findFar) (K : gK D ρ κ base s) {K2 : eS → Int32 → Prop} (hK2 : ∀ (σ : eS) (x1 : Int32) (H : Heap) (locs : List Loc) (ls : Array Slot), K2 σ x1 → gG D ρ κ base s σ H locs → lv_has ls 5 [(0, .ref (ρ (97))), (1, .int (x1))] → W p l e rm_X11_findFar s m args below meth c H locs 0 0 (gQv below args s D ρ κ base post) (F0 m 2 ls [])) {K10 : eS → Int32 → Int32 → Prop} (hK10 : ∀ (σ : eS) (x1 : Int32) (x2 : Int32) (H : Heap) (locs : List Loc) (ls : Array Slot), K10 σ x1 x2 → gG D ρ κ base s σ H locs → lv_has ls 5 [(0, .ref (ρ (97))), (1, .int (x1)), (2, .int (x2))] → W p l e rm_X11_findFar s m args below meth c H locs 0 0 (gQv below args s D ρ κ base post) (F0 m 10 ls [])) : ∀ (σ : eS) (x1 : Int32) (x2 : Int32) (y0 : Int32) (y1 : Int32) (H : Heap) (locs : List Loc) (ls : Array Slot), b_X11_findFar_38 post K2 K10 σ x1 x2 y0 y1 → gG D ρ κ base s σ H locs → lv_has ls 5 [(0, .ref (ρ (97))), (1, .int (x1)), (2, .int (x2))] → W p l e rm_X11_findFar s m args below meth c H locs 0 0 (gQv below args s D ρ κ base post) (F0 m 38 ls [.int (y0), .int (y1), .ref (ρ (109))]) := by
  obtain ⟨hx, hb, hml, hown, hts, hr, hlocks⟩ := id C
  intro σ x1 x2 y0 y1 H locs ls h G hl
  unfold b_X11_findFar_38 at h
  have hi43 := h.1
  have h := h.2
  refine e_iast hx hb K G 109 0 0 100 (by decide) gl_109 rfl hi43 dX11_findFar_38 (fun H locs G => ?_)
  obtain ⟨σ44, eσ44⟩ : ∃ z : eS, z = e_ui σ 109 y1.toNatClampNeg y0 := ⟨_, rfl⟩
  rw [← eσ44] at G
  have h := h σ44 eσ44
  obtain ⟨v45, ev45⟩ : ∃ y : Int32, y = x2 + (1 : Int32) := ⟨_, rfl⟩
  have h := h v45 ev45
  refine lv_iinc (v := v45) (lv' := [(2, .int (v45)), (0, .ref (ρ (97))), (1, .int (x1))]) hx hb dX11_findFar_39 hl (k := 2) rfl (by rw [ev45]; rfl) (by decide) rfl (fun ls hl => ?_)
  refine lv_goto (tgt := 10) hx hb dX11_findFar_42 (by decide) ?_
  exact hK10 σ44 x1 v45 _ _ _  h G (lv_sub hl [1, 2, 0] rfl)
def b_X11_findFar_10 (post : eS → Prop) (K2 : eS → Int32 → Prop) : Nat → eS → Int32 → Int32 → Prop
  | 0, _, _, _ => False
  | n + 1, σ, x1, x2 => (((10 : Int32) ≤ x2 → ∀ v41 : Int32, v41 = (x1 + (1 : Int32)) → K2 σ v41) ∧ (¬ ((10 : Int32) ≤ x2) → ((¬ x1 = x2 → b_X11_findFar_38 post K2 (fun s x1 x2 => b_X11_findFar_10 post K2 n s x1 x2) σ x1 x2 (999 : Int32) (((10 : Int32) * x1) + x2)) ∧ (x1 = x2 → b_X11_findFar_38 post K2 (fun s x1 x2 => b_X11_findFar_10 post K2 n s x1 x2) σ x1 x2 (0 : Int32) (((10 : Int32) * x1) + x2)))))
set_option maxHeartbeats 4000000 in
set_option maxRecDepth 100000 in
theorem l_X11_findFar_10 {p : Program} {l : Launch} {e : Env} {s : State} {m : MethodId} {args : Array Value} {below : List Frame} {meth : Method} {c : Code} {D : va_G} {ρ : Nat → Nat} {κ : Nat → ClassId} {base : Nat} {post : eS → Prop} (C : eCx p s m args meth c cX11_findFar RX11 5 none wsX11_findFar) (K : gK D ρ κ base s) {K2 : eS → Int32 → Prop} (hK2 : ∀ (σ : eS) (x1 : Int32) (H : Heap) (locs : List Loc) (ls : Array Slot), K2 σ x1 → gG D ρ κ base s σ H locs → lv_has ls 5 [(0, .ref (ρ (97))), (1, .int (x1))] → W p l e rm_X11_findFar s m args below meth c H locs 0 0 (gQv below args s D ρ κ base post) (F0 m 2 ls [])) : ∀ (n : Nat) (σ : eS) (x1 : Int32) (x2 : Int32) (H : Heap) (locs : List Loc) (ls : Array Slot), b_X11_findFar_10 post K2 n σ x1 x2 → gG D ρ κ base s σ H locs → lv_has ls 5 [(0, .ref (ρ (97))), (1, .int (x1)), (2, .int (x2))] → W p l e rm_X11_findFar s m args below meth c H locs 0 0 (gQv below args s D ρ κ base post) (F0 m 10 ls []) := by
  obtain ⟨hx, hb, hml, hown, hts, hr, hlocks⟩ := id C
  intro n
  induction n with
  | zero => intro σ x1 x2 H locs ls h G hl; exact False.elim h
  | succ n ih =>
    intro σ x1 x2 H locs ls h G hl
    rw [b_X11_findFar_10] at h
    refine lv_iload_n hx hb dX11_findFar_10 rfl (lv_at hl 2 rfl) ?_
    refine lv_bipush (v := (10 : Int32)) hx hb dX11_findFar_11 (by decide) ?_
    refine lv_icmp_ge (tgt := 45) hx hb dX11_findFar_13 (by decide) (fun c40 => ?_) (fun c40 => ?_)
    · have h := h.1 c40
      obtain ⟨v41, ev41⟩ : ∃ y : Int32, y = x1 + (1 : Int32) := ⟨_, rfl⟩
      have h := h v41 ev41
      refine lv_iinc (v := v41) (lv' := [(1, .int (v41)), (0, .ref (ρ (97))), (2, .int (x2))]) hx hb dX11_findFar_45 hl (k := 1) rfl (by rw [ev41]; rfl) (by decide) rfl (fun ls hl => ?_)
      refine lv_goto (tgt := 2) hx hb dX11_findFar_48 (by decide) ?_
      exact hK2 σ v41 _ _ _  h G (lv_sub hl [1, 0] rfl)
    · have h := h.2 c40
      refine lv_aload_n hx hb dX11_findFar_16 rfl (lv_at hl 0 rfl) ?_
      refine e_getq hx hb hts in_X11_findFar_X11 hown K G 97 (by decide) gl_97 rfl 24 (by decide) 109 rfl (hts (.fieldLink RX11 45 "StreetsStepOnModel" "fars" "[I") (e_mem (n := 1) rfl)) dX11_findFar_17 ?_
      refine lv_bipush (v := (10 : Int32)) hx hb dX11_findFar_20 (by decide) ?_
      refine lv_iload_n hx hb dX11_findFar_22 rfl (lv_at hl 1 rfl) ?_
      refine lv_imul hx hb dX11_findFar_23 ?_
      refine lv_iload_n hx hb dX11_findFar_24 rfl (lv_at hl 2 rfl) ?_
      refine lv_iadd hx hb dX11_findFar_25 ?_
      refine lv_iload_n hx hb dX11_findFar_26 rfl (lv_at hl 1 rfl) ?_
      refine lv_iload_n hx hb dX11_findFar_27 rfl (lv_at hl 2 rfl) ?_
      refine lv_icmp_ne (tgt := 35) hx hb dX11_findFar_28 (by decide) (fun c42 => ?_) (fun c42 => ?_)
      · have h := h.1 c42
        refine lv_sipush (v := (999 : Int32)) hx hb dX11_findFar_35 (by decide) ?_
        exact l_X11_findFar_38 C K (hK2 := hK2) (hK10 := ih) σ x1 x2 (999 : Int32) (((10 : Int32) * x1) + x2) _ _ _  h G (lv_sub hl [0, 1, 2] rfl)
      · have h := h.2 c42
        refine lv_iconst (v := (0 : Int32)) hx hb dX11_findFar_31 (by decide) ?_
        refine lv_goto (tgt := 38) hx hb dX11_findFar_32 (by decide) ?_
        exact l_X11_findFar_38 C K (hK2 := hK2) (hK10 := ih) σ x1 x2 (0 : Int32) (((10 : Int32) * x1) + x2) _ _ _  h G (lv_sub hl [0, 1, 2] rfl)
def b_X11_findFar_2 (post : eS → Prop) : Nat → eS → Int32 → Prop
  | 0, _, _ => False
  | n + 1, σ, x1 => (((10 : Int32) ≤ x1 → ∀ v3 : Int32, v3 = (0 : Int32) → (∃ n38 : Nat, b_X11_findFar_53 post n38 σ v3)) ∧ (¬ ((10 : Int32) ≤ x1) → ∀ v39 : Int32, v39 = (0 : Int32) → (∃ n46 : Nat, b_X11_findFar_10 post (fun s x1 => b_X11_findFar_2 post n s x1) n46 σ x1 v39)))
set_option maxHeartbeats 4000000 in
set_option maxRecDepth 100000 in
theorem l_X11_findFar_2 {p : Program} {l : Launch} {e : Env} {s : State} {m : MethodId} {args : Array Value} {below : List Frame} {meth : Method} {c : Code} {D : va_G} {ρ : Nat → Nat} {κ : Nat → ClassId} {base : Nat} {post : eS → Prop} (C : eCx p s m args meth c cX11_findFar RX11 5 none wsX11_findFar) (K : gK D ρ κ base s) : ∀ (n : Nat) (σ : eS) (x1 : Int32) (H : Heap) (locs : List Loc) (ls : Array Slot), b_X11_findFar_2 post n σ x1 → gG D ρ κ base s σ H locs → lv_has ls 5 [(0, .ref (ρ (97))), (1, .int (x1))] → W p l e rm_X11_findFar s m args below meth c H locs 0 0 (gQv below args s D ρ κ base post) (F0 m 2 ls []) := by
  obtain ⟨hx, hb, hml, hown, hts, hr, hlocks⟩ := id C
  intro n
  induction n with
  | zero => intro σ x1 H locs ls h G hl; exact False.elim h
  | succ n ih =>
    intro σ x1 H locs ls h G hl
    rw [b_X11_findFar_2] at h
    refine lv_iload_n hx hb dX11_findFar_2 rfl (lv_at hl 1 rfl) ?_
    refine lv_bipush (v := (10 : Int32)) hx hb dX11_findFar_3 (by decide) ?_
    refine lv_icmp_ge (tgt := 51) hx hb dX11_findFar_5 (by decide) (fun c2 => ?_) (fun c2 => ?_)
    · have h := h.1 c2
      refine lv_iconst (v := (0 : Int32)) hx hb dX11_findFar_51 (by decide) ?_
      refine lv_topi (fun v3 ev3 => ?_)
      have h := h v3 ev3
      refine lv_istore_n (lv' := [(1, .int (v3)), (0, .ref (ρ (97)))]) hx hb dX11_findFar_52 rfl hl (by decide) rfl (fun ls hl => ?_)
      obtain ⟨n38, h⟩ := h
      exact l_X11_findFar_53 C K n38 σ v3 _ _ _  h G (lv_sub hl [1, 0] rfl)
    · have h := h.2 c2
      refine lv_iconst (v := (0 : Int32)) hx hb dX11_findFar_8 (by decide) ?_
      refine lv_topi (fun v39 ev39 => ?_)
      have h := h v39 ev39
      refine lv_istore_n (lv' := [(2, .int (v39)), (0, .ref (ρ (97))), (1, .int (x1))]) hx hb dX11_findFar_9 rfl hl (by decide) rfl (fun ls hl => ?_)
      obtain ⟨n46, h⟩ := h
      exact l_X11_findFar_10 C K (hK2 := ih) n46 σ x1 v39 _ _ _  h G (lv_sub hl [1, 2, 0] rfl)
def w_X11_findFar (σ : eS) (post : eS → Prop) : Prop := ∀ v1 : Int32, v1 = (0 : Int32) → (∃ n47 : Nat, b_X11_findFar_2 post n47 σ v1)
set_option maxHeartbeats 4000000 in
set_option maxRecDepth 100000 in
theorem c_X11_findFar {l : Launch} {D : va_G} {ρ : Nat → Nat} {κ : Nat → ClassId} {base : Nat} {σ : eS} {post : eS → Prop} (h : w_X11_findFar σ post) : gMv l yX11_findFar wsX11_findFar rm_X11_findFar D ρ κ base [.ref (ρ (97))] σ post := by
  refine e_ofWv (cc := cX11_findFar) (maxL := 5) (ret := none) (by decide) rfl (Nat.le_of_ble_eq_true rfl) ?_
  intro p e s m below meth c ls C K G hl
  obtain ⟨hx, hb, hml, hown, hts, hr, hlocks⟩ := id C
  have hl : lv_has ls 5 [(0, .ref (ρ (97)))] := hl
  unfold w_X11_findFar at h
  refine lv_iconst (v := (0 : Int32)) hx hb dX11_findFar_0 (by decide) ?_
  refine lv_topi (fun v1 ev1 => ?_)
  have h := h v1 ev1
  refine lv_istore_n (lv' := [(1, .int (v1)), (0, .ref (ρ (97)))]) hx hb dX11_findFar_1 rfl hl (by decide) rfl (fun ls hl => ?_)
  obtain ⟨n47, h⟩ := h
  exact l_X11_findFar_2 C K n47 σ v1 _ _ _  h G (lv_sub hl [1, 0] rfl)
