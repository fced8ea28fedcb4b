abbrev rm_X11_swap : Room := { frames := 2, cells := 0, slots := 0, locals := 46 }
theorem in_X11_swap_X11 : ∀ w ∈ wsX110, w ∈ wsX11_swap := fun w h => List.mem_cons_of_mem _ (List.mem_append_right _ h)
def w_X11_swap (σ : eS) (x1 : Int32) (x2 : Int32) (post : Int32 → eS → Prop) : Prop := ∀ σ1 : eS, σ1 = e_ui σ 97 18 (0 : Int32) → w_X11_isOrder σ1 x1 (fun r3 σ2 => ((r3 = 0 → ((narrow .boolean (.int (0 : Int32)) = .int (0 : Int32)) ∧ post (0 : Int32) σ2)) ∧ (¬ (r3 = 0) → w_X11_isOrder σ2 x2 (fun r6 σ5 => ((¬ r6 = 0 → False) ∧ (r6 = 0 → ((narrow .boolean (.int (0 : Int32)) = .int (0 : Int32)) ∧ post (0 : Int32) σ5)))))))
set_option maxHeartbeats 4000000 in
set_option maxRecDepth 100000 in
theorem c_X11_swap {l : Launch} {D : va_G} {ρ : Nat → Nat} {κ : Nat → ClassId} {base : Nat} {σ : eS} {x1 : Int32} {x2 : Int32} {post : Int32 → eS → Prop} (h : w_X11_swap σ x1 x2 post) : gMi l yX11_swap wsX11_swap rm_X11_swap D ρ κ base [.ref (ρ (97)), .int (x1), .int (x2)] σ post := by
  refine e_ofWi (cc := cX11_swap) (maxL := 3) (ret := (some .boolean)) (by decide) rfl (Nat.le_of_ble_eq_true rfl) ?_
  intro p e s m below meth c ls C K G hl
  obtain ⟨hx, hb, hml, hown, hts, hr, hlocks⟩ := id C
  have hl : lv_has ls 3 [(0, .ref (ρ (97))), (1, .int (x1)), (2, .int (x2))] := hl
  unfold w_X11_swap at h
  refine lv_aload_n hx hb dX11_swap_0 rfl (lv_at hl 0 rfl) ?_
  refine lv_iconst (v := (0 : Int32)) hx hb dX11_swap_1 (by decide) ?_
  refine e_puti hx hb hts in_X11_swap_X11 tyX11 tyX11_ok nmX11 hown K G 97 (by decide) gl_97 rfl 18 (by decide) rfl (hts (.fieldLink RX11 98 "StreetsStepOnModel" "thrown" "I") (e_mem (n := 1) rfl)) rfl (tyX11_ok 18 (by decide)) rfl rfl dX11_swap_2 (fun H locs G => ?_)
  obtain ⟨σ1, eσ1⟩ : ∃ z : eS, z = e_ui σ 97 18 (0 : Int32) := ⟨_, rfl⟩
  rw [← eσ1] at G
  have h := h σ1 eσ1
  refine lv_aload_n hx hb dX11_swap_5 rfl (lv_at hl 0 rfl) ?_
  refine lv_iload_n hx hb dX11_swap_6 rfl (lv_at hl 1 rfl) ?_
  refine e_callVi (As := [.int (x1)]) (rest := []) ⟨hx, hb, hml, hown, hts⟩ K G 97 (by decide) gl_97 rfl (c_X11_isOrder h) (cwV 1 hts gX11_swap_X11_isOrder rfl rfl rfl (by decide +kernel) ⟨Nat.le_of_ble_eq_true rfl, Nat.le_of_ble_eq_true rfl⟩) rfl hl.1 rfl (Nat.le_of_ble_eq_true rfl) dX11_swap_7 ⟨Nat.zero_le _, Nat.zero_le _⟩ (fun r3 σ2 H locs h G => ?_)
  refine lv_if_eq (tgt := 21) hx hb dX11_swap_10 (by decide) (fun c4 => ?_) (fun c4 => ?_)
  · have h := h.1 c4
    refine lv_iconst (v := (0 : Int32)) hx hb dX11_swap_21 (by decide) ?_
    exact e_zret hx hb hr hlocks G h.1 h.2 dX11_swap_22
  · have h := h.2 c4
    refine lv_aload_n hx hb dX11_swap_13 rfl (lv_at hl 0 rfl) ?_
    refine lv_iload_n hx hb dX11_swap_14 rfl (lv_at hl 2 rfl) ?_
    refine e_callVi (As := [.int (x2)]) (rest := []) ⟨hx, hb, hml, hown, hts⟩ K G 97 (by decide) gl_97 rfl (c_X11_isOrder h) (cwV 1 hts gX11_swap_X11_isOrder rfl rfl rfl (by decide +kernel) ⟨Nat.le_of_ble_eq_true rfl, Nat.le_of_ble_eq_true rfl⟩) rfl hl.1 rfl (Nat.le_of_ble_eq_true rfl) dX11_swap_15 ⟨Nat.zero_le _, Nat.zero_le _⟩ (fun r6 σ5 H locs h G => ?_)
    refine lv_if_ne (tgt := 23) hx hb dX11_swap_18 (by decide) (fun c7 => ?_) (fun c7 => ?_)
    · have h := h.1 c7
      refine lv_aload_n hx hb dX11_swap_23 rfl (lv_at hl 0 rfl) ?_
      refine lv_iload_n hx hb dX11_swap_24 rfl (lv_at hl 1 rfl) ?_
      refine lv_iload_n hx hb dX11_swap_25 rfl (lv_at hl 2 rfl) ?_
      exact h.elim
    · have h := h.2 c7
      refine lv_iconst (v := (0 : Int32)) hx hb dX11_swap_21 (by decide) ?_
      exact e_zret hx hb hr hlocks G h.1 h.2 dX11_swap_22
abbrev rm_X5_tell_ : Room := { frames := 2, cells := 0, slots := 0, locals := 44 }
def w_X5_tell_ (σ : eS) (x1 : Int64) (x3 : Int64) (post : eS → Prop) : Prop := w_X5_tell σ x1 (fun σ1 => w_X5_add σ1 x3 (fun σ2 => post σ2))
set_option maxHeartbeats 4000000 in
set_option maxRecDepth 100000 in
theorem c_X5_tell_ {l : Launch} {D : va_G} {ρ : Nat → Nat} {κ : Nat → ClassId} {base : Nat} {σ : eS} {x1 : Int64} {x3 : Int64} {post : eS → Prop} (h : w_X5_tell_ σ x1 x3 post) : gMv l yX5_tell_ wsX5_tell_ rm_X5_tell_ D ρ κ base [.ref (ρ (3)), .long (x1), .long (x3)] σ post := by
  refine e_ofWv (cc := cX5_tell_) (maxL := 5) (ret := none) (by decide) rfl (Nat.le_of_ble_eq_true rfl) ?_
  intro p e s m below meth c ls C K G hl
  obtain ⟨hx, hb, hml, hown, hts, hr, hlocks⟩ := id C
  have hl : lv_has ls 5 [(0, .ref (ρ (3))), (1, .long (x1)), (3, .long (x3))] := hl
  unfold w_X5_tell_ at h
  refine lv_aload_n hx hb dX5_tell__0 rfl (lv_at hl 0 rfl) ?_
  refine lv_lload_n hx hb dX5_tell__1 rfl (lv_at hl 1 rfl) ?_
  refine e_callVv (As := [.long (x1)]) (rest := []) ⟨hx, hb, hml, hown, hts⟩ K G 3 (by decide) gl_3 rfl (c_X5_tell h) (cwV 1 hts gX5_tell__X5_tell rfl rfl rfl (by decide +kernel) ⟨Nat.le_of_ble_eq_true rfl, Nat.le_of_ble_eq_true rfl⟩) rfl hl.1 rfl (Nat.le_of_ble_eq_true rfl) dX5_tell__2 ⟨Nat.zero_le _, Nat.zero_le _⟩ (fun σ1 H locs h G => ?_)
  refine lv_aload_n hx hb dX5_tell__5 rfl (lv_at hl 0 rfl) ?_
  refine lv_lload_n hx hb dX5_tell__6 rfl (lv_at hl 2 rfl) ?_
  refine e_callVv (As := [.long (x3)]) (rest := []) ⟨hx, hb, hml, hown, hts⟩ K G 3 (by decide) gl_3 rfl (c_X5_add h) (cwV 1 hts gX5_tell__X5_add rfl rfl rfl (by decide +kernel) ⟨Nat.le_of_ble_eq_true rfl, Nat.le_of_ble_eq_true rfl⟩) rfl hl.1 rfl (Nat.le_of_ble_eq_true rfl) dX5_tell__7 ⟨Nat.zero_le _, Nat.zero_le _⟩ (fun σ2 H locs h G => ?_)
  exact e_vret hx hb hr hlocks G h dX5_tell__10
abbrev rm_X10_soonest : Room := { frames := 3, cells := 0, slots := 0, locals := 68 }
theorem in_X10_soonest_X0 : ∀ w ∈ wsX00, w ∈ wsX10_soonest := fun w h => List.mem_cons_of_mem _ (List.mem_append_left _ (List.mem_append_right _ h))
theorem in_X10_soonest_X1 : ∀ w ∈ wsX10, w ∈ wsX10_soonest := fun w h => List.mem_cons_of_mem _ (List.mem_append_left _ (List.mem_append_left _ (List.mem_append_right _ h)))
theorem in_X10_soonest_X10 : ∀ w ∈ wsX100, w ∈ wsX10_soonest := fun w h => List.mem_cons_of_mem _ (List.mem_append_left _ (List.mem_append_left _ (List.mem_append_left _ (List.mem_append_right _ h))))
def b_X10_soonest_82 (post : Int32 → eS → Prop) (K24 : eS → Int32 → Int32 → Int32 → Int32 → Prop) (K42 : eS → Int32 → Int32 → Int32 → Int32 → Int32 → Prop) (σ : eS) (x1 : Int32) (x2 : Int32) (x3 : Int32) (x4 : Int32) (x5 : Int32) : Prop := ∀ v15 : Int32, v15 = (x5 + (1 : Int32)) → K42 σ x1 x2 x3 x4 v15
set_option maxHeartbeats 4000000 in
set_option maxRecDepth 100000 in
theorem l_X10_soonest_82 {p : Program} {l : Launch} {e : Env} {s : State} {m : MethodId} {args : Array Value} {below : List Frame} {meth : Method} {c : Code} {D : va_G} {ρ : Nat → Nat} {κ : Nat → ClassId} {base : Nat} {post : Int32 → eS → Prop} (C : eCx p s m args meth c cX10_soonest RX10 7 (some .int) wsX10_soonest) (K : gK D ρ κ base s) {K24 : eS → Int32 → Int32 → Int32 → Int32 → Prop} (hK24 : ∀ (σ : eS) (x1 : Int32) (x2 : Int32) (x3 : Int32) (x4 : Int32) (H : Heap) (locs : List Loc) (ls : Array Slot), K24 σ x1 x2 x3 x4 → gG D ρ κ base s σ H locs → lv_has ls 7 [(0, .ref (ρ (0))), (1, .int (x1)), (2, .int (x2)), (3, .int (x3)), (4, .int (x4))] → W p l e rm_X10_soonest s m args below meth c H locs 0 0 (gQi below args s D ρ κ base post) (F0 m 24 ls [])) {K42 : eS → Int32 → Int32 → Int32 → Int32 → Int32 → Prop} (hK42 : ∀ (σ : eS) (x1 : Int32) (x2 : Int32) (x3 : Int32) (x4 : Int32) (x5 : Int32) (H : Heap) (locs : List Loc) (ls : Array Slot), K42 σ x1 x2 x3 x4 x5 → gG D ρ κ base s σ H locs → lv_has ls 7 [(0, .ref (ρ (0))), (1, .int (x1)), (2, .int (x2)), (3, .int (x3)), (4, .int (x4)), (5, .int (x5))] → W p l e rm_X10_soonest s m args below meth c H locs 0 0 (gQi below args s D ρ κ base post) (F0 m 42 ls [])) : ∀ (σ : eS) (x1 : Int32) (x2 : Int32) (x3 : Int32) (x4 : Int32) (x5 : Int32) (H : Heap) (locs : List Loc) (ls : Array Slot), b_X10_soonest_82 post K24 K42 σ x1 x2 x3 x4 x5 → gG D ρ κ base s σ H locs → lv_has ls 7 [(0, .ref (ρ (0))), (1, .int (x1)), (2, .int (x2)), (3, .int (x3)), (4, .int (x4)), (5, .int (x5))] → W p l e rm_X10_soonest s m args below meth c H locs 0 0 (gQi below args s D ρ κ base post) (F0 m 82 ls []) := by
  obtain ⟨hx, hb, hml, hown, hts, hr, hlocks⟩ := id C
  intro σ x1 x2 x3 x4 x5 H locs ls h G hl
  unfold b_X10_soonest_82 at h
  obtain ⟨v15, ev15⟩ : ∃ y : Int32, y = x5 + (1 : Int32) := ⟨_, rfl⟩
  have h := h v15 ev15
  refine lv_iinc (v := v15) (lv' := [(5, .int (v15)), (0, .ref (ρ (0))), (1, .int (x1)), (2, .int (x2)), (3, .int (x3)), (4, .int (x4))]) hx hb dX10_soonest_82 hl (k := 5) rfl (by rw [ev15]; rfl) (by decide) rfl (fun ls hl => ?_)
  refine lv_goto (tgt := 42) hx hb dX10_soonest_85 (by decide) ?_
  exact hK42 σ x1 x2 x3 x4 v15 _ _ _  h G (lv_sub hl [1, 2, 3, 4, 5, 0] rfl)
def b_X10_soonest_42 (post : Int32 → eS → Prop) (K24 : eS → Int32 → Int32 → Int32 → Int32 → Prop) : Nat → eS → Int32 → Int32 → Int32 → Int32 → Int32 → Prop
  | 0, _, _, _, _, _, _ => False
  | n + 1, σ, x1, x2, x3, x4, x5 => (((σ.1 5 5) ≤ x5 → ∀ v11 : Int32, v11 = (x4 + (1 : Int32)) → K24 σ x1 x2 x3 v11) ∧ (¬ ((σ.1 5 5) ≤ x5) → w_X0_firstOwnDay σ x4 x5 (fun r13 σ12 => ((x1 ≤ r13 → b_X10_soonest_82 post K24 (fun s x1 x2 x3 x4 x5 => b_X10_soonest_42 post K24 n s x1 x2 x3 x4 x5) σ12 x1 x2 x3 x4 x5) ∧ (¬ (x1 ≤ r13) → b_X10_soonest_82 post K24 (fun s x1 x2 x3 x4 x5 => b_X10_soonest_42 post K24 n s x1 x2 x3 x4 x5) σ12 r13 x4 x5 x4 x5)))))
set_option maxHeartbeats 4000000 in
set_option maxRecDepth 100000 in
theorem l_X10_soonest_42 {p : Program} {l : Launch} {e : Env} {s : State} {m : MethodId} {args : Array Value} {below : List Frame} {meth : Method} {c : Code} {D : va_G} {ρ : Nat → Nat} {κ : Nat → ClassId} {base : Nat} {post : Int32 → eS → Prop} (C : eCx p s m args meth c cX10_soonest RX10 7 (some .int) wsX10_soonest) (K : gK D ρ κ base s) {K24 : eS → Int32 → Int32 → Int32 → Int32 → Prop} (hK24 : ∀ (σ : eS) (x1 : Int32) (x2 : Int32) (x3 : Int32) (x4 : Int32) (H : Heap) (locs : List Loc) (ls : Array Slot), K24 σ x1 x2 x3 x4 → gG D ρ κ base s σ H locs → lv_has ls 7 [(0, .ref (ρ (0))), (1, .int (x1)), (2, .int (x2)), (3, .int (x3)), (4, .int (x4))] → W p l e rm_X10_soonest s m args below meth c H locs 0 0 (gQi below args s D ρ κ base post) (F0 m 24 ls [])) : ∀ (n : Nat) (σ : eS) (x1 : Int32) (x2 : Int32) (x3 : Int32) (x4 : Int32) (x5 : Int32) (H : Heap) (locs : List Loc) (ls : Array Slot), b_X10_soonest_42 post K24 n σ x1 x2 x3 x4 x5 → gG D ρ κ base s σ H locs → lv_has ls 7 [(0, .ref (ρ (0))), (1, .int (x1)), (2, .int (x2)), (3, .int (x3)), (4, .int (x4)), (5, .int (x5))] → W p l e rm_X10_soonest s m args below meth c H locs 0 0 (gQi below args s D ρ κ base post) (F0 m 42 ls []) := by
  obtain ⟨hx, hb, hml, hown, hts, hr, hlocks⟩ := id C
  intro n
  induction n with
  | zero => intro σ x1 x2 x3 x4 x5 H locs ls h G hl; exact False.elim h
  | succ n ih =>
    intro σ x1 x2 x3 x4 x5 H locs ls h G hl
    rw [b_X10_soonest_42] at h
    refine lv_iload hx hb dX10_soonest_42 (lv_at hl 5 rfl) ?_
    refine lv_aload_n hx hb dX10_soonest_44 rfl (lv_at hl 0 rfl) ?_
    refine e_getq hx hb hts in_X10_soonest_X10 hown K G 0 (by decide) gl_0 rfl 2 (by decide) 5 rfl (hts (.fieldLink RX10 26 "StreetsStepOn" "book" "LStreetsStepOn$Book;") (e_mem (n := 1) rfl)) dX10_soonest_45 ?_
    refine e_getiN hx hb hts in_X10_soonest_X1 hown K G 5 (by decide) gl_5 rfl 5 (by decide) rfl (e_memq (n := 22) rfl) dX10_soonest_48 ?_
    refine lv_icmp_ge (tgt := 88) hx hb dX10_soonest_51 (by decide) (fun c10 => ?_) (fun c10 => ?_)
    · have h := h.1 c10
      obtain ⟨v11, ev11⟩ : ∃ y : Int32, y = x4 + (1 : Int32) := ⟨_, rfl⟩
      have h := h v11 ev11
      refine lv_iinc (v := v11) (lv' := [(4, .int (v11)), (0, .ref (ρ (0))), (1, .int (x1)), (2, .int (x2)), (3, .int (x3)), (5, .int (x5))]) hx hb dX10_soonest_88 hl (k := 4) rfl (by rw [ev11]; rfl) (by decide) rfl (fun ls hl => ?_)
      refine lv_goto (tgt := 24) hx hb dX10_soonest_91 (by decide) ?_
      exact hK24 σ x1 x2 x3 v11 _ _ _  h G (lv_sub hl [1, 2, 3, 4, 0] rfl)
    · have h := h.2 c10
      refine lv_aload_n hx hb dX10_soonest_54 rfl (lv_at hl 0 rfl) ?_
      refine e_getq hx hb hts in_X10_soonest_X10 hown K G 0 (by decide) gl_0 rfl 2 (by decide) 5 rfl (hts (.fieldLink RX10 26 "StreetsStepOn" "book" "LStreetsStepOn$Book;") (e_mem (n := 1) rfl)) dX10_soonest_55 ?_
      refine lv_iload hx hb dX10_soonest_58 (lv_at hl 4 rfl) ?_
      refine lv_iload hx hb dX10_soonest_60 (lv_at hl 5 rfl) ?_
      refine e_callSi (As := [.ref (ρ (5)), .int (x4), .int (x5)]) (rest := []) ⟨hx, hb, hml, hown, hts⟩ K G (c_X0_firstOwnDay h) (va_cwS 3 hts gX10_soonest_X0_firstOwnDay rfl rfl rfl (by decide +kernel) ⟨Nat.le_of_ble_eq_true rfl, Nat.le_of_ble_eq_true rfl⟩) rfl hl.1 rfl (Nat.le_of_ble_eq_true rfl) dX10_soonest_62 ⟨Nat.zero_le _, Nat.zero_le _⟩ (fun r13 σ12 H locs h G => ?_)
      refine lv_istore (lv' := [(6, .int (r13)), (0, .ref (ρ (0))), (1, .int (x1)), (2, .int (x2)), (3, .int (x3)), (4, .int (x4)), (5, .int (x5))]) hx hb dX10_soonest_65 hl (by decide) rfl (fun ls hl => ?_)
      refine lv_iload hx hb dX10_soonest_67 (lv_at hl 0 rfl) ?_
      refine lv_iload_n hx hb dX10_soonest_69 rfl (lv_at hl 2 rfl) ?_
      refine lv_icmp_ge (tgt := 82) hx hb dX10_soonest_70 (by decide) (fun c14 => ?_) (fun c14 => ?_)
      · have h := h.1 c14
        exact l_X10_soonest_82 C K (hK24 := hK24) (hK42 := ih) σ12 x1 x2 x3 x4 x5 _ _ _  h G (lv_sub hl [1, 2, 3, 4, 5, 6] rfl)
      · have h := h.2 c14
        refine lv_iload hx hb dX10_soonest_73 (lv_at hl 0 rfl) ?_
        refine lv_istore_n (lv' := [(1, .int (r13)), (6, .int (r13)), (0, .ref (ρ (0))), (2, .int (x2)), (3, .int (x3)), (4, .int (x4)), (5, .int (x5))]) hx hb dX10_soonest_75 rfl hl (by decide) rfl (fun ls hl => ?_)
        refine lv_iload hx hb dX10_soonest_76 (lv_at hl 5 rfl) ?_
        refine lv_istore_n (lv' := [(2, .int (x4)), (1, .int (r13)), (6, .int (r13)), (0, .ref (ρ (0))), (3, .int (x3)), (4, .int (x4)), (5, .int (x5))]) hx hb dX10_soonest_78 rfl hl (by decide) rfl (fun ls hl => ?_)
        refine lv_iload hx hb dX10_soonest_79 (lv_at hl 6 rfl) ?_
        refine lv_istore_n (lv' := [(3, .int (x5)), (2, .int (x4)), (1, .int (r13)), (6, .int (r13)), (0, .ref (ρ (0))), (4, .int (x4)), (5, .int (x5))]) hx hb dX10_soonest_81 rfl hl (by decide) rfl (fun ls hl => ?_)
        exact l_X10_soonest_82 C K (hK24 := hK24) (hK42 := ih) σ12 r13 x4 x5 x4 x5 _ _ _  h G (lv_sub hl [4, 2, 1, 0, 5, 6] rfl)
def b_X10_soonest_24 (post : Int32 → eS → Prop) : Nat → eS → Int32 → Int32 → Int32 → Int32 → Prop
  | 0, _, _, _, _, _ => False
  | n + 1, σ, x1, x2, x3, x4 => (((σ.1 5 5) ≤ x4 → w_X5_tell_ σ (x2.toInt64) (x3.toInt64) (fun σ7 => w_X5_add σ7 ((σ7.1 32 3).toInt64) (fun σ8 => post x1 σ8))) ∧ (¬ ((σ.1 5 5) ≤ x4) → ∀ v9 : Int32, v9 = (x4 + (1 : Int32)) → (∃ n16 : Nat, b_X10_soonest_42 post (fun s x1 x2 x3 x4 => b_X10_soonest_24 post n s x1 x2 x3 x4) n16 σ x1 x2 x3 x4 v9)))
set_option maxHeartbeats 4000000 in
set_option maxRecDepth 100000 in
theorem l_X10_soonest_24 {p : Program} {l : Launch} {e : Env} {s : State} {m : MethodId} {args : Array Value} {below : List Frame} {meth : Method} {c : Code} {D : va_G} {ρ : Nat → Nat} {κ : Nat → ClassId} {base : Nat} {post : Int32 → eS → Prop} (C : eCx p s m args meth c cX10_soonest RX10 7 (some .int) wsX10_soonest) (K : gK D ρ κ base s) : ∀ (n : Nat) (σ : eS) (x1 : Int32) (x2 : Int32) (x3 : Int32) (x4 : Int32) (H : Heap) (locs : List Loc) (ls : Array Slot), b_X10_soonest_24 post n σ x1 x2 x3 x4 → gG D ρ κ base s σ H locs → lv_has ls 7 [(0, .ref (ρ (0))), (1, .int (x1)), (2, .int (x2)), (3, .int (x3)), (4, .int (x4))] → W p l e rm_X10_soonest s m args below meth c H locs 0 0 (gQi below args s D ρ κ base post) (F0 m 24 ls []) := by
  obtain ⟨hx, hb, hml, hown, hts, hr, hlocks⟩ := id C
  intro n
  induction n with
  | zero => intro σ x1 x2 x3 x4 H locs ls h G hl; exact False.elim h
  | succ n ih =>
    intro σ x1 x2 x3 x4 H locs ls h G hl
    rw [b_X10_soonest_24] at h
    refine lv_iload hx hb dX10_soonest_24 (lv_at hl 4 rfl) ?_
    refine lv_aload_n hx hb dX10_soonest_26 rfl (lv_at hl 0 rfl) ?_
    refine e_getq hx hb hts in_X10_soonest_X10 hown K G 0 (by decide) gl_0 rfl 2 (by decide) 5 rfl (hts (.fieldLink RX10 26 "StreetsStepOn" "book" "LStreetsStepOn$Book;") (e_mem (n := 1) rfl)) dX10_soonest_27 ?_
    refine e_getiN hx hb hts in_X10_soonest_X1 hown K G 5 (by decide) gl_5 rfl 5 (by decide) rfl (e_memq (n := 22) rfl) dX10_soonest_30 ?_
    refine lv_icmp_ge (tgt := 94) hx hb dX10_soonest_33 (by decide) (fun c6 => ?_) (fun c6 => ?_)
    · have h := h.1 c6
      refine lv_aload_n hx hb dX10_soonest_94 rfl (lv_at hl 0 rfl) ?_
      refine e_getq hx hb hts in_X10_soonest_X10 hown K G 0 (by decide) gl_0 rfl 1 (by decide) 3 rfl (hts (.fieldLink RX10 19 "StreetsStepOn" "told" "LStreetsStepOn$Row;") (e_mem (n := 2) rfl)) dX10_soonest_95 ?_
      refine lv_iload_n hx hb dX10_soonest_98 rfl (lv_at hl 2 rfl) ?_
      refine lv_i2l hx hb dX10_soonest_99 rfl ?_
      refine lv_iload_n hx hb dX10_soonest_100 rfl (lv_at hl 3 rfl) ?_
      refine lv_i2l hx hb dX10_soonest_101 rfl ?_
      refine e_callVv (As := [.long (x2.toInt64), .long (x3.toInt64)]) (rest := []) ⟨hx, hb, hml, hown, hts⟩ K G 3 (by decide) gl_3 rfl (c_X5_tell_ h) (cwV 2 hts gX10_soonest_X5_tell_ rfl rfl rfl (by decide +kernel) ⟨Nat.le_of_ble_eq_true rfl, Nat.le_of_ble_eq_true rfl⟩) rfl hl.1 rfl (Nat.le_of_ble_eq_true rfl) dX10_soonest_102 ⟨Nat.zero_le _, Nat.zero_le _⟩ (fun σ7 H locs h G => ?_)
      refine lv_aload_n hx hb dX10_soonest_105 rfl (lv_at hl 0 rfl) ?_
      refine e_getq hx hb hts in_X10_soonest_X10 hown K G 0 (by decide) gl_0 rfl 1 (by decide) 3 rfl (hts (.fieldLink RX10 19 "StreetsStepOn" "told" "LStreetsStepOn$Row;") (e_mem (n := 2) rfl)) dX10_soonest_106 ?_
      refine lv_aload_n hx hb dX10_soonest_109 rfl (lv_at hl 0 rfl) ?_
      refine e_getq hx hb hts in_X10_soonest_X10 hown K G 0 (by decide) gl_0 rfl 5 (by decide) 32 rfl (hts (.fieldLink RX10 44 "StreetsStepOn" "almanac" "LStreetsStepOn$Almanac;") (e_mem (n := 3) rfl)) dX10_soonest_110 ?_
      refine e_getiN hx hb hts in_X10_soonest_X0 hown K G 32 (by decide) gl_32 rfl 3 (by decide) rfl (e_memq (n := 29) rfl) dX10_soonest_113 ?_
      refine lv_i2l hx hb dX10_soonest_116 rfl ?_
      refine e_callVv (As := [.long ((σ7.1 32 3).toInt64)]) (rest := []) ⟨hx, hb, hml, hown, hts⟩ K G 3 (by decide) gl_3 rfl (c_X5_add h) (cwV 1 hts gX10_soonest_X5_add rfl rfl rfl (by decide +kernel) ⟨Nat.le_of_ble_eq_true rfl, Nat.le_of_ble_eq_true rfl⟩) rfl hl.1 rfl (Nat.le_of_ble_eq_true rfl) dX10_soonest_117 ⟨Nat.zero_le _, Nat.zero_le _⟩ (fun σ8 H locs h G => ?_)
      refine lv_iload_n hx hb dX10_soonest_120 rfl (lv_at hl 1 rfl) ?_
      exact e_iret hx hb hr hlocks G h dX10_soonest_121
    · have h := h.2 c6
      refine lv_iload hx hb dX10_soonest_36 (lv_at hl 4 rfl) ?_
      refine lv_iconst (v := (1 : Int32)) hx hb dX10_soonest_38 (by decide) ?_
      refine lv_iadd hx hb dX10_soonest_39 ?_
      refine lv_topi (fun v9 ev9 => ?_)
      have h := h v9 ev9
      refine lv_istore (lv' := [(5, .int (v9)), (0, .ref (ρ (0))), (1, .int (x1)), (2, .int (x2)), (3, .int (x3)), (4, .int (x4))]) hx hb dX10_soonest_40 hl (by decide) rfl (fun ls hl => ?_)
      obtain ⟨n16, h⟩ := h
      exact l_X10_soonest_42 C K (hK24 := ih) n16 σ x1 x2 x3 x4 v9 _ _ _  h G (lv_sub hl [1, 2, 3, 4, 5, 0] rfl)
def w_X10_soonest (σ : eS) (post : Int32 → eS → Prop) : Prop := (((2 : Int32) ≤ (σ.1 5 5) → ∀ v2 : Int32, v2 = (421 : Int32) → ∀ v3 : Int32, v3 = (0 : Int32) → ∀ v4 : Int32, v4 = (0 : Int32) → ∀ v5 : Int32, v5 = (0 : Int32) → (∃ n17 : Nat, b_X10_soonest_24 post n17 σ v2 v3 v4 v5)) ∧ (¬ ((2 : Int32) ≤ (σ.1 5 5)) → post (-1 : Int32) σ))
set_option maxHeartbeats 4000000 in
set_option maxRecDepth 100000 in
theorem c_X10_soonest {l : Launch} {D : va_G} {ρ : Nat → Nat} {κ : Nat → ClassId} {base : Nat} {σ : eS} {post : Int32 → eS → Prop} (h : w_X10_soonest σ post) : gMi l yX10_soonest wsX10_soonest rm_X10_soonest D ρ κ base [.ref (ρ (0))] σ post := by
  refine e_ofWi (cc := cX10_soonest) (maxL := 7) (ret := (some .int)) (by decide) rfl (Nat.le_of_ble_eq_true rfl) ?_
  intro p e s m below meth c ls C K G hl
  obtain ⟨hx, hb, hml, hown, hts, hr, hlocks⟩ := id C
  have hl : lv_has ls 7 [(0, .ref (ρ (0)))] := hl
  unfold w_X10_soonest at h
  refine lv_aload_n hx hb dX10_soonest_0 rfl (lv_at hl 0 rfl) ?_
  refine e_getq hx hb hts in_X10_soonest_X10 hown K G 0 (by decide) gl_0 rfl 2 (by decide) 5 rfl (hts (.fieldLink RX10 26 "StreetsStepOn" "book" "LStreetsStepOn$Book;") (e_mem (n := 1) rfl)) dX10_soonest_1 ?_
  refine e_getiN hx hb hts in_X10_soonest_X1 hown K G 5 (by decide) gl_5 rfl 5 (by decide) rfl (e_memq (n := 22) rfl) dX10_soonest_4 ?_
  refine lv_iconst (v := (2 : Int32)) hx hb dX10_soonest_7 (by decide) ?_
  refine lv_icmp_ge (tgt := 13) hx hb dX10_soonest_8 (by decide) (fun c1 => ?_) (fun c1 => ?_)
  · have h := h.1 c1
    refine lv_sipush (v := (421 : Int32)) hx hb dX10_soonest_13 (by decide) ?_
    refine lv_topi (fun v2 ev2 => ?_)
    have h := h v2 ev2
    refine lv_istore_n (lv' := [(1, .int (v2)), (0, .ref (ρ (0)))]) hx hb dX10_soonest_16 rfl hl (by decide) rfl (fun ls hl => ?_)
    refine lv_iconst (v := (0 : Int32)) hx hb dX10_soonest_17 (by decide) ?_
    refine lv_topi (fun v3 ev3 => ?_)
    have h := h v3 ev3
    refine lv_istore_n (lv' := [(2, .int (v3)), (1, .int (v2)), (0, .ref (ρ (0)))]) hx hb dX10_soonest_18 rfl hl (by decide) rfl (fun ls hl => ?_)
    refine lv_iconst (v := (0 : Int32)) hx hb dX10_soonest_19 (by decide) ?_
    refine lv_topi (fun v4 ev4 => ?_)
    have h := h v4 ev4
    refine lv_istore_n (lv' := [(3, .int (v4)), (2, .int (v3)), (1, .int (v2)), (0, .ref (ρ (0)))]) hx hb dX10_soonest_20 rfl hl (by decide) rfl (fun ls hl => ?_)
    refine lv_iconst (v := (0 : Int32)) hx hb dX10_soonest_21 (by decide) ?_
    refine lv_topi (fun v5 ev5 => ?_)
    have h := h v5 ev5
    refine lv_istore (lv' := [(4, .int (v5)), (3, .int (v4)), (2, .int (v3)), (1, .int (v2)), (0, .ref (ρ (0)))]) hx hb dX10_soonest_22 hl (by decide) rfl (fun ls hl => ?_)
    obtain ⟨n17, h⟩ := h
    exact l_X10_soonest_24 C K n17 σ v2 v3 v4 v5 _ _ _  h G (lv_sub hl [4, 3, 2, 1, 0] rfl)
  · have h := h.2 c1
    refine lv_iconst (v := (-1 : Int32)) hx hb dX10_soonest_11 (by decide) ?_
    exact e_iret hx hb hr hlocks G h dX10_soonest_12
abbrev rm_X11_soonest : Room := { frames := 2, cells := 0, slots := 0, locals := 46 }
theorem in_X11_soonest_X11 : ∀ w ∈ wsX110, w ∈ wsX11_soonest := fun w h => List.mem_cons_of_mem _ (List.mem_append_right _ h)
def b_X11_soonest_45 (post : Int32 → eS → Prop) (K30 : eS → Int32 → Int32 → Int32 → Int32 → Int32 → Prop) : Nat → eS → Int32 → Int32 → Int32 → Int32 → Int32 → Int32 → Prop
  | 0, _, _, _, _, _, _, _ => False
  | n + 1, σ, x1, x2, x3, x4, x5, x6 => (((σ.1 97 4) ≤ x6 → ∀ v16 : Int32, v16 = (x5 + (1 : Int32)) → K30 σ x1 x2 x3 x4 v16) ∧ (¬ ((σ.1 97 4) ≤ x6) → False))
set_option maxHeartbeats 4000000 in
set_option maxRecDepth 100000 in
theorem l_X11_soonest_45 {p : Program} {l : Launch} {e : Env} {s : State} {m : MethodId} {args : Array Value} {below : List Frame} {meth : Method} {c : Code} {D : va_G} {ρ : Nat → Nat} {κ : Nat → ClassId} {base : Nat} {post : Int32 → eS → Prop} (C : eCx p s m args meth c cX11_soonest RX11 8 (some .int) wsX11_soonest) (K : gK D ρ κ base s) {K30 : eS → Int32 → Int32 → Int32 → Int32 → Int32 → Prop} (hK30 : ∀ (σ : eS) (x1 : Int32) (x2 : Int32) (x3 : Int32) (x4 : Int32) (x5 : Int32) (H : Heap) (locs : List Loc) (ls : Array Slot), K30 σ x1 x2 x3 x4 x5 → gG D ρ κ base s σ H locs → lv_has ls 8 [(0, .ref (ρ (97))), (1, .int (x1)), (2, .int (x2)), (3, .int (x3)), (4, .int (x4)), (5, .int (x5))] → W p l e rm_X11_soonest s m args below meth c H locs 0 0 (gQi below args s D ρ κ base post) (F0 m 30 ls [])) : ∀ (n : Nat) (σ : eS) (x1 : Int32) (x2 : Int32) (x3 : Int32) (x4 : Int32) (x5 : Int32) (x6 : Int32) (H : Heap) (locs : List Loc) (ls : Array Slot), b_X11_soonest_45 post K30 n σ x1 x2 x3 x4 x5 x6 → gG D ρ κ base s σ H locs → lv_has ls 8 [(0, .ref (ρ (97))), (1, .int (x1)), (2, .int (x2)), (3, .int (x3)), (4, .int (x4)), (5, .int (x5)), (6, .int (x6))] → W p l e rm_X11_soonest s m args below meth c H locs 0 0 (gQi below args s D ρ κ base post) (F0 m 45 ls []) := by
  obtain ⟨hx, hb, hml, hown, hts, hr, hlocks⟩ := id C
  intro n
  induction n with
  | zero => intro σ x1 x2 x3 x4 x5 x6 H locs ls h G hl; exact False.elim h
  | succ n ih =>
    intro σ x1 x2 x3 x4 x5 x6 H locs ls h G hl
    rw [b_X11_soonest_45] at h
    refine lv_iload hx hb dX11_soonest_45 (lv_at hl 6 rfl) ?_
    refine lv_aload_n hx hb dX11_soonest_47 rfl (lv_at hl 0 rfl) ?_
    refine e_geti hx hb hts in_X11_soonest_X11 hown K G 97 (by decide) gl_97 rfl 4 (by decide) rfl (hts (.fieldLink RX11 111 "StreetsStepOnModel" "orders" "I") (e_mem (n := 2) rfl)) dX11_soonest_48 ?_
    refine lv_icmp_ge (tgt := 106) hx hb dX11_soonest_51 (by decide) (fun c15 => ?_) (fun c15 => ?_)
    · have h := h.1 c15
      obtain ⟨v16, ev16⟩ : ∃ y : Int32, y = x5 + (1 : Int32) := ⟨_, rfl⟩
      have h := h v16 ev16
      refine lv_iinc (v := v16) (lv' := [(5, .int (v16)), (0, .ref (ρ (97))), (1, .int (x1)), (2, .int (x2)), (3, .int (x3)), (4, .int (x4)), (6, .int (x6))]) hx hb dX11_soonest_106 hl (k := 5) rfl (by rw [ev16]; rfl) (by decide) rfl (fun ls hl => ?_)
      refine lv_goto (tgt := 30) hx hb dX11_soonest_109 (by decide) ?_
      exact hK30 σ x1 x2 x3 x4 v16 _ _ _  h G (lv_sub hl [1, 2, 3, 4, 5, 0] rfl)
    · have h := h.2 c15
      refine lv_aload_n hx hb dX11_soonest_54 rfl (lv_at hl 0 rfl) ?_
      refine lv_iload hx hb dX11_soonest_55 (lv_at hl 5 rfl) ?_
      refine lv_iload hx hb dX11_soonest_57 (lv_at hl 6 rfl) ?_
      exact h.elim
def b_X11_soonest_30 (post : Int32 → eS → Prop) : Nat → eS → Int32 → Int32 → Int32 → Int32 → Int32 → Prop
  | 0, _, _, _, _, _, _ => False
  | n + 1, σ, x1, x2, x3, x4, x5 => (((σ.1 97 4) ≤ x5 → ∀ σ10 : eS, σ10 = e_ui σ 97 17 (0 : Int32) → w_X11_tell σ10 (x3.toInt64) (fun σ11 => w_X11_tell σ11 (x4.toInt64) (fun σ12 => w_X11_tell σ12 (x1.toInt64) (fun σ13 => post x2 σ13)))) ∧ (¬ ((σ.1 97 4) ≤ x5) → ∀ v14 : Int32, v14 = (x5 + (1 : Int32)) → (∃ n17 : Nat, b_X11_soonest_45 post (fun s x1 x2 x3 x4 x5 => b_X11_soonest_30 post n s x1 x2 x3 x4 x5) n17 σ x1 x2 x3 x4 x5 v14)))
set_option maxHeartbeats 4000000 in
set_option maxRecDepth 100000 in
theorem l_X11_soonest_30 {p : Program} {l : Launch} {e : Env} {s : State} {m : MethodId} {args : Array Value} {below : List Frame} {meth : Method} {c : Code} {D : va_G} {ρ : Nat → Nat} {κ : Nat → ClassId} {base : Nat} {post : Int32 → eS → Prop} (C : eCx p s m args meth c cX11_soonest RX11 8 (some .int) wsX11_soonest) (K : gK D ρ κ base s) : ∀ (n : Nat) (σ : eS) (x1 : Int32) (x2 : Int32) (x3 : Int32) (x4 : Int32) (x5 : Int32) (H : Heap) (locs : List Loc) (ls : Array Slot), b_X11_soonest_30 post n σ x1 x2 x3 x4 x5 → gG D ρ κ base s σ H locs → lv_has ls 8 [(0, .ref (ρ (97))), (1, .int (x1)), (2, .int (x2)), (3, .int (x3)), (4, .int (x4)), (5, .int (x5))] → W p l e rm_X11_soonest s m args below meth c H locs 0 0 (gQi below args s D ρ κ base post) (F0 m 30 ls []) := by
  obtain ⟨hx, hb, hml, hown, hts, hr, hlocks⟩ := id C
  intro n
  induction n with
  | zero => intro σ x1 x2 x3 x4 x5 H locs ls h G hl; exact False.elim h
  | succ n ih =>
    intro σ x1 x2 x3 x4 x5 H locs ls h G hl
    rw [b_X11_soonest_30] at h
    refine lv_iload hx hb dX11_soonest_30 (lv_at hl 5 rfl) ?_
    refine lv_aload_n hx hb dX11_soonest_32 rfl (lv_at hl 0 rfl) ?_
    refine e_geti hx hb hts in_X11_soonest_X11 hown K G 97 (by decide) gl_97 rfl 4 (by decide) rfl (hts (.fieldLink RX11 111 "StreetsStepOnModel" "orders" "I") (e_mem (n := 2) rfl)) dX11_soonest_33 ?_
    refine lv_icmp_ge (tgt := 112) hx hb dX11_soonest_36 (by decide) (fun c9 => ?_) (fun c9 => ?_)
    · have h := h.1 c9
      refine lv_aload_n hx hb dX11_soonest_112 rfl (lv_at hl 0 rfl) ?_
      refine lv_iconst (v := (0 : Int32)) hx hb dX11_soonest_113 (by decide) ?_
      refine e_puti hx hb hts in_X11_soonest_X11 tyX11 tyX11_ok nmX11 hown K G 97 (by decide) gl_97 rfl 17 (by decide) rfl (hts (.fieldLink RX11 101 "StreetsStepOnModel" "rowMany" "I") (e_mem (n := 3) rfl)) rfl (tyX11_ok 17 (by decide)) rfl rfl dX11_soonest_114 (fun H locs G => ?_)
      obtain ⟨σ10, eσ10⟩ : ∃ z : eS, z = e_ui σ 97 17 (0 : Int32) := ⟨_, rfl⟩
      rw [← eσ10] at G
      have h := h σ10 eσ10
      refine lv_aload_n hx hb dX11_soonest_117 rfl (lv_at hl 0 rfl) ?_
      refine lv_iload_n hx hb dX11_soonest_118 rfl (lv_at hl 3 rfl) ?_
      refine lv_i2l hx hb dX11_soonest_119 rfl ?_
      refine e_callVv (As := [.long (x3.toInt64)]) (rest := []) ⟨hx, hb, hml, hown, hts⟩ K G 97 (by decide) gl_97 rfl (c_X11_tell h) (cwV 1 hts gX11_soonest_X11_tell rfl rfl rfl (by decide +kernel) ⟨Nat.le_of_ble_eq_true rfl, Nat.le_of_ble_eq_true rfl⟩) rfl hl.1 rfl (Nat.le_of_ble_eq_true rfl) dX11_soonest_120 ⟨Nat.zero_le _, Nat.zero_le _⟩ (fun σ11 H locs h G => ?_)
      refine lv_aload_n hx hb dX11_soonest_123 rfl (lv_at hl 0 rfl) ?_
      refine lv_iload hx hb dX11_soonest_124 (lv_at hl 4 rfl) ?_
      refine lv_i2l hx hb dX11_soonest_126 rfl ?_
      refine e_callVv (As := [.long (x4.toInt64)]) (rest := []) ⟨hx, hb, hml, hown, hts⟩ K G 97 (by decide) gl_97 rfl (c_X11_tell h) (cwV 1 hts gX11_soonest_X11_tell rfl rfl rfl (by decide +kernel) ⟨Nat.le_of_ble_eq_true rfl, Nat.le_of_ble_eq_true rfl⟩) rfl hl.1 rfl (Nat.le_of_ble_eq_true rfl) dX11_soonest_127 ⟨Nat.zero_le _, Nat.zero_le _⟩ (fun σ12 H locs h G => ?_)
      refine lv_aload_n hx hb dX11_soonest_130 rfl (lv_at hl 0 rfl) ?_
      refine lv_iload_n hx hb dX11_soonest_131 rfl (lv_at hl 1 rfl) ?_
      refine lv_i2l hx hb dX11_soonest_132 rfl ?_
      refine e_callVv (As := [.long (x1.toInt64)]) (rest := []) ⟨hx, hb, hml, hown, hts⟩ K G 97 (by decide) gl_97 rfl (c_X11_tell h) (cwV 1 hts gX11_soonest_X11_tell rfl rfl rfl (by decide +kernel) ⟨Nat.le_of_ble_eq_true rfl, Nat.le_of_ble_eq_true rfl⟩) rfl hl.1 rfl (Nat.le_of_ble_eq_true rfl) dX11_soonest_133 ⟨Nat.zero_le _, Nat.zero_le _⟩ (fun σ13 H locs h G => ?_)
      refine lv_iload_n hx hb dX11_soonest_136 rfl (lv_at hl 2 rfl) ?_
      exact e_iret hx hb hr hlocks G h dX11_soonest_137
    · have h := h.2 c9
      refine lv_iload hx hb dX11_soonest_39 (lv_at hl 5 rfl) ?_
      refine lv_iconst (v := (1 : Int32)) hx hb dX11_soonest_41 (by decide) ?_
      refine lv_iadd hx hb dX11_soonest_42 ?_
      refine lv_topi (fun v14 ev14 => ?_)
      have h := h v14 ev14
      refine lv_istore (lv' := [(6, .int (v14)), (0, .ref (ρ (97))), (1, .int (x1)), (2, .int (x2)), (3, .int (x3)), (4, .int (x4)), (5, .int (x5))]) hx hb dX11_soonest_43 hl (by decide) rfl (fun ls hl => ?_)
      obtain ⟨n17, h⟩ := h
      exact l_X11_soonest_45 C K (hK30 := ih) n17 σ x1 x2 x3 x4 x5 v14 _ _ _  h G (lv_sub hl [1, 2, 3, 4, 5, 6, 0] rfl)
def w_X11_soonest (σ : eS) (post : Int32 → eS → Prop) : Prop := ∀ σ1 : eS, σ1 = e_ui σ 97 18 (0 : Int32) → (((2 : Int32) ≤ (σ1.1 97 4) → w_X11_findPeriod σ1 (fun r4 σ3 => ∀ v5 : Int32, v5 = (-1 : Int32) → ∀ v6 : Int32, v6 = (0 : Int32) → ∀ v7 : Int32, v7 = (0 : Int32) → ∀ v8 : Int32, v8 = (0 : Int32) → (∃ n18 : Nat, b_X11_soonest_30 post n18 σ3 r4 v5 v6 v7 v8))) ∧ (¬ ((2 : Int32) ≤ (σ1.1 97 4)) → post (-1 : Int32) σ1))
set_option maxHeartbeats 4000000 in
set_option maxRecDepth 100000 in
theorem c_X11_soonest {l : Launch} {D : va_G} {ρ : Nat → Nat} {κ : Nat → ClassId} {base : Nat} {σ : eS} {post : Int32 → eS → Prop} (h : w_X11_soonest σ post) : gMi l yX11_soonest wsX11_soonest rm_X11_soonest D ρ κ base [.ref (ρ (97))] σ post := by
  refine e_ofWi (cc := cX11_soonest) (maxL := 8) (ret := (some .int)) (by decide) rfl (Nat.le_of_ble_eq_true rfl) ?_
  intro p e s m below meth c ls C K G hl
  obtain ⟨hx, hb, hml, hown, hts, hr, hlocks⟩ := id C
  have hl : lv_has ls 8 [(0, .ref (ρ (97)))] := hl
  unfold w_X11_soonest at h
  refine lv_aload_n hx hb dX11_soonest_0 rfl (lv_at hl 0 rfl) ?_
  refine lv_iconst (v := (0 : Int32)) hx hb dX11_soonest_1 (by decide) ?_
  refine e_puti hx hb hts in_X11_soonest_X11 tyX11 tyX11_ok nmX11 hown K G 97 (by decide) gl_97 rfl 18 (by decide) rfl (hts (.fieldLink RX11 98 "StreetsStepOnModel" "thrown" "I") (e_mem (n := 1) rfl)) rfl (tyX11_ok 18 (by decide)) rfl rfl dX11_soonest_2 (fun H locs G => ?_)
  obtain ⟨σ1, eσ1⟩ : ∃ z : eS, z = e_ui σ 97 18 (0 : Int32) := ⟨_, rfl⟩
  rw [← eσ1] at G
  have h := h σ1 eσ1
  refine lv_aload_n hx hb dX11_soonest_5 rfl (lv_at hl 0 rfl) ?_
  refine e_geti hx hb hts in_X11_soonest_X11 hown K G 97 (by decide) gl_97 rfl 4 (by decide) rfl (hts (.fieldLink RX11 111 "StreetsStepOnModel" "orders" "I") (e_mem (n := 2) rfl)) dX11_soonest_6 ?_
  refine lv_iconst (v := (2 : Int32)) hx hb dX11_soonest_9 (by decide) ?_
  refine lv_icmp_ge (tgt := 15) hx hb dX11_soonest_10 (by decide) (fun c2 => ?_) (fun c2 => ?_)
  · have h := h.1 c2
    refine lv_aload_n hx hb dX11_soonest_15 rfl (lv_at hl 0 rfl) ?_
    refine e_callVi (As := []) (rest := []) ⟨hx, hb, hml, hown, hts⟩ K G 97 (by decide) gl_97 rfl (c_X11_findPeriod h) (cwV 0 hts gX11_soonest_X11_findPeriod rfl rfl rfl (by decide +kernel) ⟨Nat.le_of_ble_eq_true rfl, Nat.le_of_ble_eq_true rfl⟩) rfl hl.1 rfl (Nat.le_of_ble_eq_true rfl) dX11_soonest_16 ⟨Nat.zero_le _, Nat.zero_le _⟩ (fun r4 σ3 H locs h G => ?_)
    refine lv_istore_n (lv' := [(1, .int (r4)), (0, .ref (ρ (97)))]) hx hb dX11_soonest_19 rfl hl (by decide) rfl (fun ls hl => ?_)
    refine lv_iconst (v := (-1 : Int32)) hx hb dX11_soonest_20 (by decide) ?_
    refine lv_topi (fun v5 ev5 => ?_)
    have h := h v5 ev5
    refine lv_istore_n (lv' := [(2, .int (v5)), (1, .int (r4)), (0, .ref (ρ (97)))]) hx hb dX11_soonest_21 rfl hl (by decide) rfl (fun ls hl => ?_)
    refine lv_iconst (v := (0 : Int32)) hx hb dX11_soonest_22 (by decide) ?_
    refine lv_topi (fun v6 ev6 => ?_)
    have h := h v6 ev6
    refine lv_istore_n (lv' := [(3, .int (v6)), (2, .int (v5)), (1, .int (r4)), (0, .ref (ρ (97)))]) hx hb dX11_soonest_23 rfl hl (by decide) rfl (fun ls hl => ?_)
    refine lv_iconst (v := (0 : Int32)) hx hb dX11_soonest_24 (by decide) ?_
    refine lv_topi (fun v7 ev7 => ?_)
    have h := h v7 ev7
    refine lv_istore (lv' := [(4, .int (v7)), (3, .int (v6)), (2, .int (v5)), (1, .int (r4)), (0, .ref (ρ (97)))]) hx hb dX11_soonest_25 hl (by decide) rfl (fun ls hl => ?_)
    refine lv_iconst (v := (0 : Int32)) hx hb dX11_soonest_27 (by decide) ?_
    refine lv_topi (fun v8 ev8 => ?_)
    have h := h v8 ev8
    refine lv_istore (lv' := [(5, .int (v8)), (4, .int (v7)), (3, .int (v6)), (2, .int (v5)), (1, .int (r4)), (0, .ref (ρ (97)))]) hx hb dX11_soonest_28 hl (by decide) rfl (fun ls hl => ?_)
    obtain ⟨n18, h⟩ := h
    exact l_X11_soonest_30 C K n18 σ3 r4 v5 v6 v7 v8 _ _ _  h G (lv_sub hl [5, 4, 3, 2, 1, 0] rfl)
  · have h := h.2 c2
    refine lv_iconst (v := (-1 : Int32)) hx hb dX11_soonest_13 (by decide) ?_
    exact e_iret hx hb hr hlocks G h dX11_soonest_14
abbrev rm_X1_copyFrom : Room := { frames := 1, cells := 0, slots := 0, locals := 40 }
theorem in_X1_copyFrom_X1 : ∀ w ∈ wsX10, w ∈ wsX1_copyFrom := fun w h => List.mem_cons_of_mem _ (List.mem_append_right _ h)
def b_X1_copyFrom_2 (post : eS → Prop) : Nat → eS → Int32 → Prop
  | 0, _, _ => False
  | n + 1, σ, x2 => (((7 : Int32) ≤ x2 → (¬ (0 : Int32) < 0) ∧ (¬ (0 : Int32) < 0) ∧ (¬ (12 : Int32) < 0) ∧ (((0 : Int32)).toNatClampNeg + ((12 : Int32)).toNatClampNeg ≤ 12) ∧ (((0 : Int32)).toNatClampNeg + ((12 : Int32)).toNatClampNeg ≤ 12) ∧ ∀ σ8 : eS, σ8 = e_ua σ 82 (va_cpy (σ.1 14) (σ.1 82) ((0 : Int32)).toNatClampNeg ((0 : Int32)).toNatClampNeg ((12 : Int32)).toNatClampNeg) → (¬ (0 : Int32) < 0) ∧ (¬ (0 : Int32) < 0) ∧ (¬ (12 : Int32) < 0) ∧ (((0 : Int32)).toNatClampNeg + ((12 : Int32)).toNatClampNeg ≤ 12) ∧ (((0 : Int32)).toNatClampNeg + ((12 : Int32)).toNatClampNeg ≤ 12) ∧ ∀ σ14 : eS, σ14 = e_ua σ8 83 (va_cpy (σ8.1 15) (σ8.1 83) ((0 : Int32)).toNatClampNeg ((0 : Int32)).toNatClampNeg ((12 : Int32)).toNatClampNeg) → (¬ (0 : Int32) < 0) ∧ (¬ (0 : Int32) < 0) ∧ (¬ (12 : Int32) < 0) ∧ (((0 : Int32)).toNatClampNeg + ((12 : Int32)).toNatClampNeg ≤ 12) ∧ (((0 : Int32)).toNatClampNeg + ((12 : Int32)).toNatClampNeg ≤ 12) ∧ ∀ σ20 : eS, σ20 = e_ula σ14 84 (va_cpy (σ14.2.1 16) (σ14.2.1 84) ((0 : Int32)).toNatClampNeg ((0 : Int32)).toNatClampNeg ((12 : Int32)).toNatClampNeg) → ∀ σ21 : eS, σ21 = e_ui σ20 73 4 (σ20.1 5 4) → ∀ σ22 : eS, σ22 = e_ui σ21 73 5 (σ21.1 5 5) → ∀ σ23 : eS, σ23 = e_ui σ22 73 6 (σ22.1 5 6) → ∀ σ24 : eS, σ24 = e_ul σ23 73 7 (σ23.2.1 5 7) → post σ24) ∧ (¬ ((7 : Int32) ≤ x2) → (vp_in x2 7) ∧ (vp_in x2 7) ∧ (¬ (0 : Int32) < 0) ∧ (¬ (0 : Int32) < 0) ∧ (¬ (12 : Int32) < 0) ∧ (((0 : Int32)).toNatClampNeg + ((12 : Int32)).toNatClampNeg ≤ 12) ∧ (((0 : Int32)).toNatClampNeg + ((12 : Int32)).toNatClampNeg ≤ 12) ∧ ∀ σ32 : eS, σ32 = e_ua σ (75 + x2.toNatClampNeg) (va_cpy (σ.1 (7 + x2.toNatClampNeg)) (σ.1 (75 + x2.toNatClampNeg)) ((0 : Int32)).toNatClampNeg ((0 : Int32)).toNatClampNeg ((12 : Int32)).toNatClampNeg) → ∀ v33 : Int32, v33 = (x2 + (1 : Int32)) → b_X1_copyFrom_2 post n σ32 v33))
set_option maxHeartbeats 4000000 in
set_option maxRecDepth 100000 in
theorem l_X1_copyFrom_2 {p : Program} {l : Launch} {e : Env} {s : State} {m : MethodId} {args : Array Value} {below : List Frame} {meth : Method} {c : Code} {D : va_G} {ρ : Nat → Nat} {κ : Nat → ClassId} {base : Nat} {post : eS → Prop} (C : eCx p s m args meth c cX1_copyFrom RX1 3 none wsX1_copyFrom) (K : gK D ρ κ base s) : ∀ (n : Nat) (σ : eS) (x2 : Int32) (H : Heap) (locs : List Loc) (ls : Array Slot), b_X1_copyFrom_2 post n σ x2 → gG D ρ κ base s σ H locs → lv_has ls 3 [(0, .ref (ρ (73))), (1, .ref (ρ (5))), (2, .int (x2))] → W p l e rm_X1_copyFrom s m args below meth c H locs 0 0 (gQv below args s D ρ κ base post) (F0 m 2 ls []) := by
  obtain ⟨hx, hb, hml, hown, hts, hr, hlocks⟩ := id C
  intro n
  induction n with
  | zero => intro σ x2 H locs ls h G hl; exact False.elim h
  | succ n ih =>
    intro σ x2 H locs ls h G hl
    rw [b_X1_copyFrom_2] at h
    refine lv_iload_n hx hb dX1_copyFrom_2 rfl (lv_at hl 2 rfl) ?_
    refine lv_bipush (v := (7 : Int32)) hx hb dX1_copyFrom_3 (by decide) ?_
    refine lv_icmp_ge (tgt := 33) hx hb dX1_copyFrom_5 (by decide) (fun c2 => ?_) (fun c2 => ?_)
    · have h := h.1 c2
      refine lv_aload_n hx hb dX1_copyFrom_33 rfl (lv_at hl 1 rfl) ?_
      refine e_getq hx hb hts in_X1_copyFrom_X1 hown K G 5 (by decide) gl_5 rfl 1 (by decide) 14 rfl (hts (.fieldLink RX1 16 "StreetsStepOn$Book" "lengths" "[I") (e_mem (n := 6) rfl)) dX1_copyFrom_34 ?_
      refine lv_iconst (v := (0 : Int32)) hx hb dX1_copyFrom_37 (by decide) ?_
      refine lv_aload_n hx hb dX1_copyFrom_38 rfl (lv_at hl 0 rfl) ?_
      refine e_getq hx hb hts in_X1_copyFrom_X1 hown K G 73 (by decide) gl_73 rfl 1 (by decide) 82 rfl (hts (.fieldLink RX1 16 "StreetsStepOn$Book" "lengths" "[I") (e_mem (n := 6) rfl)) dX1_copyFrom_39 ?_
      refine lv_iconst (v := (0 : Int32)) hx hb dX1_copyFrom_42 (by decide) ?_
      refine lv_bipush (v := (12 : Int32)) hx hb dX1_copyFrom_43 (by decide) ?_
      have ha3 := h.1
      have h := h.2
      have ha4 := h.1
      have h := h.2
      have ha5 := h.1
      have h := h.2
      have ha6 := h.1
      have h := h.2
      have ha7 := h.1
      have h := h.2
      refine e_copyi hx hb (hml.trans hl.1.symm) hown (hts (.methodLink RX1 27 arraycopyName) (e_mem (n := 2) rfl)) (hts (.native arraycopyName) (e_mem (n := 3) rfl)) (hts (.static arraycopyName) (e_mem (n := 4) rfl)) (hts (.initialized "java/lang/System") (e_mem (n := 5) rfl)) K G 14 82 0 0 12 12 (by decide) (by decide) gl_14 gl_82 rfl rfl ha3 ha4 ha5 ha6 ha7 (Nat.le_of_ble_eq_true rfl) (Nat.le_of_ble_eq_true rfl) dX1_copyFrom_45 (fun H locs G => ?_)
      obtain ⟨σ8, eσ8⟩ : ∃ z : eS, z = e_ua σ 82 (va_cpy (σ.1 14) (σ.1 82) ((0 : Int32)).toNatClampNeg ((0 : Int32)).toNatClampNeg ((12 : Int32)).toNatClampNeg) := ⟨_, rfl⟩
      rw [← eσ8] at G
      have h := h σ8 eσ8
      refine lv_aload_n hx hb dX1_copyFrom_48 rfl (lv_at hl 1 rfl) ?_
      refine e_getq hx hb hts in_X1_copyFrom_X1 hown K G 5 (by decide) gl_5 rfl 2 (by decide) 15 rfl (hts (.fieldLink RX1 20 "StreetsStepOn$Book" "letterNames" "[I") (e_mem (n := 7) rfl)) dX1_copyFrom_49 ?_
      refine lv_iconst (v := (0 : Int32)) hx hb dX1_copyFrom_52 (by decide) ?_
      refine lv_aload_n hx hb dX1_copyFrom_53 rfl (lv_at hl 0 rfl) ?_
      refine e_getq hx hb hts in_X1_copyFrom_X1 hown K G 73 (by decide) gl_73 rfl 2 (by decide) 83 rfl (hts (.fieldLink RX1 20 "StreetsStepOn$Book" "letterNames" "[I") (e_mem (n := 7) rfl)) dX1_copyFrom_54 ?_
      refine lv_iconst (v := (0 : Int32)) hx hb dX1_copyFrom_57 (by decide) ?_
      refine lv_bipush (v := (12 : Int32)) hx hb dX1_copyFrom_58 (by decide) ?_
      have ha9 := h.1
      have h := h.2
      have ha10 := h.1
      have h := h.2
      have ha11 := h.1
      have h := h.2
      have ha12 := h.1
      have h := h.2
      have ha13 := h.1
      have h := h.2
      refine e_copyi hx hb (hml.trans hl.1.symm) hown (hts (.methodLink RX1 27 arraycopyName) (e_mem (n := 2) rfl)) (hts (.native arraycopyName) (e_mem (n := 3) rfl)) (hts (.static arraycopyName) (e_mem (n := 4) rfl)) (hts (.initialized "java/lang/System") (e_mem (n := 5) rfl)) K G 15 83 0 0 12 12 (by decide) (by decide) gl_15 gl_83 rfl rfl ha9 ha10 ha11 ha12 ha13 (Nat.le_of_ble_eq_true rfl) (Nat.le_of_ble_eq_true rfl) dX1_copyFrom_60 (fun H locs G => ?_)
      obtain ⟨σ14, eσ14⟩ : ∃ z : eS, z = e_ua σ8 83 (va_cpy (σ8.1 15) (σ8.1 83) ((0 : Int32)).toNatClampNeg ((0 : Int32)).toNatClampNeg ((12 : Int32)).toNatClampNeg) := ⟨_, rfl⟩
      rw [← eσ14] at G
      have h := h σ14 eσ14
      refine lv_aload_n hx hb dX1_copyFrom_63 rfl (lv_at hl 1 rfl) ?_
      refine e_getq hx hb hts in_X1_copyFrom_X1 hown K G 5 (by decide) gl_5 rfl 3 (by decide) 16 rfl (hts (.fieldLink RX1 23 "StreetsStepOn$Book" "letterDays" "[J") (e_mem (n := 8) rfl)) dX1_copyFrom_64 ?_
      refine lv_iconst (v := (0 : Int32)) hx hb dX1_copyFrom_67 (by decide) ?_
      refine lv_aload_n hx hb dX1_copyFrom_68 rfl (lv_at hl 0 rfl) ?_
      refine e_getq hx hb hts in_X1_copyFrom_X1 hown K G 73 (by decide) gl_73 rfl 3 (by decide) 84 rfl (hts (.fieldLink RX1 23 "StreetsStepOn$Book" "letterDays" "[J") (e_mem (n := 8) rfl)) dX1_copyFrom_69 ?_
      refine lv_iconst (v := (0 : Int32)) hx hb dX1_copyFrom_72 (by decide) ?_
      refine lv_bipush (v := (12 : Int32)) hx hb dX1_copyFrom_73 (by decide) ?_
      have ha15 := h.1
      have h := h.2
      have ha16 := h.1
      have h := h.2
      have ha17 := h.1
      have h := h.2
      have ha18 := h.1
      have h := h.2
      have ha19 := h.1
      have h := h.2
      refine e_copyl hx hb (hml.trans hl.1.symm) hown (hts (.methodLink RX1 27 arraycopyName) (e_mem (n := 2) rfl)) (hts (.native arraycopyName) (e_mem (n := 3) rfl)) (hts (.static arraycopyName) (e_mem (n := 4) rfl)) (hts (.initialized "java/lang/System") (e_mem (n := 5) rfl)) K G 16 84 1 1 12 12 (by decide) (by decide) gl_16 gl_84 rfl rfl ha15 ha16 ha17 ha18 ha19 (Nat.le_of_ble_eq_true rfl) (Nat.le_of_ble_eq_true rfl) dX1_copyFrom_75 (fun H locs G => ?_)
      obtain ⟨σ20, eσ20⟩ : ∃ z : eS, z = e_ula σ14 84 (va_cpy (σ14.2.1 16) (σ14.2.1 84) ((0 : Int32)).toNatClampNeg ((0 : Int32)).toNatClampNeg ((12 : Int32)).toNatClampNeg) := ⟨_, rfl⟩
      rw [← eσ20] at G
      have h := h σ20 eσ20
      refine lv_aload_n hx hb dX1_copyFrom_78 rfl (lv_at hl 0 rfl) ?_
      refine lv_aload_n hx hb dX1_copyFrom_79 rfl (lv_at hl 1 rfl) ?_
      refine e_geti hx hb hts in_X1_copyFrom_X1 hown K G 5 (by decide) gl_5 rfl 4 (by decide) rfl (hts (.fieldLink RX1 33 "StreetsStepOn$Book" "streets" "I") (e_mem (n := 9) rfl)) dX1_copyFrom_80 ?_
      refine e_puti hx hb hts in_X1_copyFrom_X1 tyX1 tyX1_ok nmX1 hown K G 73 (by decide) gl_73 rfl 4 (by decide) rfl (hts (.fieldLink RX1 33 "StreetsStepOn$Book" "streets" "I") (e_mem (n := 9) rfl)) rfl (tyX1_ok 4 (by decide)) rfl rfl dX1_copyFrom_83 (fun H locs G => ?_)
      obtain ⟨σ21, eσ21⟩ : ∃ z : eS, z = e_ui σ20 73 4 (σ20.1 5 4) := ⟨_, rfl⟩
      rw [← eσ21] at G
      have h := h σ21 eσ21
      refine lv_aload_n hx hb dX1_copyFrom_86 rfl (lv_at hl 0 rfl) ?_
      refine lv_aload_n hx hb dX1_copyFrom_87 rfl (lv_at hl 1 rfl) ?_
      refine e_geti hx hb hts in_X1_copyFrom_X1 hown K G 5 (by decide) gl_5 rfl 5 (by decide) rfl (hts (.fieldLink RX1 37 "StreetsStepOn$Book" "orders" "I") (e_mem (n := 10) rfl)) dX1_copyFrom_88 ?_
      refine e_puti hx hb hts in_X1_copyFrom_X1 tyX1 tyX1_ok nmX1 hown K G 73 (by decide) gl_73 rfl 5 (by decide) rfl (hts (.fieldLink RX1 37 "StreetsStepOn$Book" "orders" "I") (e_mem (n := 10) rfl)) rfl (tyX1_ok 5 (by decide)) rfl rfl dX1_copyFrom_91 (fun H locs G => ?_)
      obtain ⟨σ22, eσ22⟩ : ∃ z : eS, z = e_ui σ21 73 5 (σ21.1 5 5) := ⟨_, rfl⟩
      rw [← eσ22] at G
      have h := h σ22 eσ22
      refine lv_aload_n hx hb dX1_copyFrom_94 rfl (lv_at hl 0 rfl) ?_
      refine lv_aload_n hx hb dX1_copyFrom_95 rfl (lv_at hl 1 rfl) ?_
      refine e_geti hx hb hts in_X1_copyFrom_X1 hown K G 5 (by decide) gl_5 rfl 6 (by decide) rfl (hts (.fieldLink RX1 40 "StreetsStepOn$Book" "letters" "I") (e_mem (n := 11) rfl)) dX1_copyFrom_96 ?_
      refine e_puti hx hb hts in_X1_copyFrom_X1 tyX1 tyX1_ok nmX1 hown K G 73 (by decide) gl_73 rfl 6 (by decide) rfl (hts (.fieldLink RX1 40 "StreetsStepOn$Book" "letters" "I") (e_mem (n := 11) rfl)) rfl (tyX1_ok 6 (by decide)) rfl rfl dX1_copyFrom_99 (fun H locs G => ?_)
      obtain ⟨σ23, eσ23⟩ : ∃ z : eS, z = e_ui σ22 73 6 (σ22.1 5 6) := ⟨_, rfl⟩
      rw [← eσ23] at G
      have h := h σ23 eσ23
      refine lv_aload_n hx hb dX1_copyFrom_102 rfl (lv_at hl 0 rfl) ?_
      refine lv_aload_n hx hb dX1_copyFrom_103 rfl (lv_at hl 1 rfl) ?_
      refine e_getl hx hb hts in_X1_copyFrom_X1 hown K G 5 (by decide) gl_5 rfl 7 (by decide) rfl (hts (.fieldLink RX1 43 "StreetsStepOn$Book" "today" "J") (e_mem (n := 12) rfl)) dX1_copyFrom_104 ?_
      refine e_putl hx hb hts in_X1_copyFrom_X1 tyX1 tyX1_ok nmX1 hown K G 73 (by decide) gl_73 rfl 7 (by decide) rfl (hts (.fieldLink RX1 43 "StreetsStepOn$Book" "today" "J") (e_mem (n := 12) rfl)) rfl rfl dX1_copyFrom_107 (fun H locs G => ?_)
      obtain ⟨σ24, eσ24⟩ : ∃ z : eS, z = e_ul σ23 73 7 (σ23.2.1 5 7) := ⟨_, rfl⟩
      rw [← eσ24] at G
      have h := h σ24 eσ24
      exact e_vret hx hb hr hlocks G h dX1_copyFrom_110
    · have h := h.2 c2
      refine lv_aload_n hx hb dX1_copyFrom_8 rfl (lv_at hl 1 rfl) ?_
      refine e_getq hx hb hts in_X1_copyFrom_X1 hown K G 5 (by decide) gl_5 rfl 0 (by decide) 6 rfl (hts (.fieldLink RX1 11 "StreetsStepOn$Book" "nexts" "[[I") (e_mem (n := 1) rfl)) dX1_copyFrom_9 ?_
      refine lv_iload_n hx hb dX1_copyFrom_12 rfl (lv_at hl 2 rfl) ?_
      have hi25 := h.1
      have h := h.2
      refine e_aald hx hb K G 6 5 5 7 (by decide) _ gl_6 rfl rfl hi25 (7 + x2.toNatClampNeg) (gr_6 _ (e_lt hi25)).1 dX1_copyFrom_13 ?_
      refine lv_iconst (v := (0 : Int32)) hx hb dX1_copyFrom_14 (by decide) ?_
      refine lv_aload_n hx hb dX1_copyFrom_15 rfl (lv_at hl 0 rfl) ?_
      refine e_getq hx hb hts in_X1_copyFrom_X1 hown K G 73 (by decide) gl_73 rfl 0 (by decide) 74 rfl (hts (.fieldLink RX1 11 "StreetsStepOn$Book" "nexts" "[[I") (e_mem (n := 1) rfl)) dX1_copyFrom_16 ?_
      refine lv_iload_n hx hb dX1_copyFrom_19 rfl (lv_at hl 2 rfl) ?_
      have hi26 := h.1
      have h := h.2
      refine e_aald hx hb K G 74 5 5 7 (by decide) _ gl_74 rfl rfl hi26 (75 + x2.toNatClampNeg) (gr_74 _ (e_lt hi26)).1 dX1_copyFrom_20 ?_
      refine lv_iconst (v := (0 : Int32)) hx hb dX1_copyFrom_21 (by decide) ?_
      refine lv_bipush (v := (12 : Int32)) hx hb dX1_copyFrom_22 (by decide) ?_
      have ha27 := h.1
      have h := h.2
      have ha28 := h.1
      have h := h.2
      have ha29 := h.1
      have h := h.2
      have ha30 := h.1
      have h := h.2
      have ha31 := h.1
      have h := h.2
      refine e_copyi hx hb (hml.trans hl.1.symm) hown (hts (.methodLink RX1 27 arraycopyName) (e_mem (n := 2) rfl)) (hts (.native arraycopyName) (e_mem (n := 3) rfl)) (hts (.static arraycopyName) (e_mem (n := 4) rfl)) (hts (.initialized "java/lang/System") (e_mem (n := 5) rfl)) K G (7 + x2.toNatClampNeg) (75 + x2.toNatClampNeg) 0 0 12 12 (gr_6 _ (e_lt hi25)).2.2 (gr_74 _ (e_lt hi26)).2.2 (gr_6 _ (e_lt hi25)).2.1 (gr_74 _ (e_lt hi26)).2.1 rfl rfl ha27 ha28 ha29 ha30 ha31 (Nat.le_of_ble_eq_true rfl) (Nat.le_of_ble_eq_true rfl) dX1_copyFrom_24 (fun H locs G => ?_)
      obtain ⟨σ32, eσ32⟩ : ∃ z : eS, z = e_ua σ (75 + x2.toNatClampNeg) (va_cpy (σ.1 (7 + x2.toNatClampNeg)) (σ.1 (75 + x2.toNatClampNeg)) ((0 : Int32)).toNatClampNeg ((0 : Int32)).toNatClampNeg ((12 : Int32)).toNatClampNeg) := ⟨_, rfl⟩
      rw [← eσ32] at G
      have h := h σ32 eσ32
      obtain ⟨v33, ev33⟩ : ∃ y : Int32, y = x2 + (1 : Int32) := ⟨_, rfl⟩
      have h := h v33 ev33
      refine lv_iinc (v := v33) (lv' := [(2, .int (v33)), (0, .ref (ρ (73))), (1, .ref (ρ (5)))]) hx hb dX1_copyFrom_27 hl (k := 2) rfl (by rw [ev33]; rfl) (by decide) rfl (fun ls hl => ?_)
      refine lv_goto (tgt := 2) hx hb dX1_copyFrom_30 (by decide) ?_
      exact ih σ32 v33 _ _ _  h G (lv_sub hl [1, 2, 0] rfl)
def w_X1_copyFrom (σ : eS) (post : eS → Prop) : Prop := ∀ v1 : Int32, v1 = (0 : Int32) → (∃ n34 : Nat, b_X1_copyFrom_2 post n34 σ v1)
set_option maxHeartbeats 4000000 in
set_option maxRecDepth 100000 in
theorem c_X1_copyFrom {l : Launch} {D : va_G} {ρ : Nat → Nat} {κ : Nat → ClassId} {base : Nat} {σ : eS} {post : eS → Prop} (h : w_X1_copyFrom σ post) : gMv l yX1_copyFrom wsX1_copyFrom rm_X1_copyFrom D ρ κ base [.ref (ρ (73)), .ref (ρ (5))] σ post := by
  refine e_ofWv (cc := cX1_copyFrom) (maxL := 3) (ret := none) (by decide) rfl (Nat.le_of_ble_eq_true rfl) ?_
  intro p e s m below meth c ls C K G hl
  obtain ⟨hx, hb, hml, hown, hts, hr, hlocks⟩ := id C
  have hl : lv_has ls 3 [(0, .ref (ρ (73))), (1, .ref (ρ (5)))] := hl
  unfold w_X1_copyFrom at h
  refine lv_iconst (v := (0 : Int32)) hx hb dX1_copyFrom_0 (by decide) ?_
  refine lv_topi (fun v1 ev1 => ?_)
  have h := h v1 ev1
  refine lv_istore_n (lv' := [(2, .int (v1)), (0, .ref (ρ (73))), (1, .ref (ρ (5)))]) hx hb dX1_copyFrom_1 rfl hl (by decide) rfl (fun ls hl => ?_)
  obtain ⟨n34, h⟩ := h
  exact l_X1_copyFrom_2 C K n34 σ v1 _ _ _  h G (lv_sub hl [1, 2, 0] rfl)
abbrev rm_X1_copyFrom_v1 : Room := { frames := 1, cells := 0, slots := 0, locals := 40 }
theorem in_X1_copyFrom_v1_X1 : ∀ w ∈ wsX10, w ∈ wsX1_copyFrom := fun w h => List.mem_cons_of_mem _ (List.mem_append_right _ h)
def b_X1_copyFrom_v1_2 (post : eS → Prop) : Nat → eS → Int32 → Prop
  | 0, _, _ => False
  | n + 1, σ, x2 => (((7 : Int32) ≤ x2 → (¬ (0 : Int32) < 0) ∧ (¬ (0 : Int32) < 0) ∧ (¬ (12 : Int32) < 0) ∧ (((0 : Int32)).toNatClampNeg + ((12 : Int32)).toNatClampNeg ≤ 12) ∧ (((0 : Int32)).toNatClampNeg + ((12 : Int32)).toNatClampNeg ≤ 12) ∧ ∀ σ8 : eS, σ8 = e_ua σ 94 (va_cpy (σ.1 14) (σ.1 94) ((0 : Int32)).toNatClampNeg ((0 : Int32)).toNatClampNeg ((12 : Int32)).toNatClampNeg) → (¬ (0 : Int32) < 0) ∧ (¬ (0 : Int32) < 0) ∧ (¬ (12 : Int32) < 0) ∧ (((0 : Int32)).toNatClampNeg + ((12 : Int32)).toNatClampNeg ≤ 12) ∧ (((0 : Int32)).toNatClampNeg + ((12 : Int32)).toNatClampNeg ≤ 12) ∧ ∀ σ14 : eS, σ14 = e_ua σ8 95 (va_cpy (σ8.1 15) (σ8.1 95) ((0 : Int32)).toNatClampNeg ((0 : Int32)).toNatClampNeg ((12 : Int32)).toNatClampNeg) → (¬ (0 : Int32) < 0) ∧ (¬ (0 : Int32) < 0) ∧ (¬ (12 : Int32) < 0) ∧ (((0 : Int32)).toNatClampNeg + ((12 : Int32)).toNatClampNeg ≤ 12) ∧ (((0 : Int32)).toNatClampNeg + ((12 : Int32)).toNatClampNeg ≤ 12) ∧ ∀ σ20 : eS, σ20 = e_ula σ14 96 (va_cpy (σ14.2.1 16) (σ14.2.1 96) ((0 : Int32)).toNatClampNeg ((0 : Int32)).toNatClampNeg ((12 : Int32)).toNatClampNeg) → ∀ σ21 : eS, σ21 = e_ui σ20 85 4 (σ20.1 5 4) → ∀ σ22 : eS, σ22 = e_ui σ21 85 5 (σ21.1 5 5) → ∀ σ23 : eS, σ23 = e_ui σ22 85 6 (σ22.1 5 6) → ∀ σ24 : eS, σ24 = e_ul σ23 85 7 (σ23.2.1 5 7) → post σ24) ∧ (¬ ((7 : Int32) ≤ x2) → (vp_in x2 7) ∧ (vp_in x2 7) ∧ (¬ (0 : Int32) < 0) ∧ (¬ (0 : Int32) < 0) ∧ (¬ (12 : Int32) < 0) ∧ (((0 : Int32)).toNatClampNeg + ((12 : Int32)).toNatClampNeg ≤ 12) ∧ (((0 : Int32)).toNatClampNeg + ((12 : Int32)).toNatClampNeg ≤ 12) ∧ ∀ σ32 : eS, σ32 = e_ua σ (87 + x2.toNatClampNeg) (va_cpy (σ.1 (7 + x2.toNatClampNeg)) (σ.1 (87 + x2.toNatClampNeg)) ((0 : Int32)).toNatClampNeg ((0 : Int32)).toNatClampNeg ((12 : Int32)).toNatClampNeg) → ∀ v33 : Int32, v33 = (x2 + (1 : Int32)) → b_X1_copyFrom_v1_2 post n σ32 v33))
set_option maxHeartbeats 4000000 in
set_option maxRecDepth 100000 in
theorem l_X1_copyFrom_v1_2 {p : Program} {l : Launch} {e : Env} {s : State} {m : MethodId} {args : Array Value} {below : List Frame} {meth : Method} {c : Code} {D : va_G} {ρ : Nat → Nat} {κ : Nat → ClassId} {base : Nat} {post : eS → Prop} (C : eCx p s m args meth c cX1_copyFrom RX1 3 none wsX1_copyFrom) (K : gK D ρ κ base s) : ∀ (n : Nat) (σ : eS) (x2 : Int32) (H : Heap) (locs : List Loc) (ls : Array Slot), b_X1_copyFrom_v1_2 post n σ x2 → gG D ρ κ base s σ H locs → lv_has ls 3 [(0, .ref (ρ (85))), (1, .ref (ρ (5))), (2, .int (x2))] → W p l e rm_X1_copyFrom_v1 s m args below meth c H locs 0 0 (gQv below args s D ρ κ base post) (F0 m 2 ls []) := by
  obtain ⟨hx, hb, hml, hown, hts, hr, hlocks⟩ := id C
  intro n
  induction n with
  | zero => intro σ x2 H locs ls h G hl; exact False.elim h
  | succ n ih =>
    intro σ x2 H locs ls h G hl
    rw [b_X1_copyFrom_v1_2] at h
    refine lv_iload_n hx hb dX1_copyFrom_2 rfl (lv_at hl 2 rfl) ?_
    refine lv_bipush (v := (7 : Int32)) hx hb dX1_copyFrom_3 (by decide) ?_
    refine lv_icmp_ge (tgt := 33) hx hb dX1_copyFrom_5 (by decide) (fun c2 => ?_) (fun c2 => ?_)
    · have h := h.1 c2
      refine lv_aload_n hx hb dX1_copyFrom_33 rfl (lv_at hl 1 rfl) ?_
      refine e_getq hx hb hts in_X1_copyFrom_v1_X1 hown K G 5 (by decide) gl_5 rfl 1 (by decide) 14 rfl (hts (.fieldLink RX1 16 "StreetsStepOn$Book" "lengths" "[I") (e_mem (n := 6) rfl)) dX1_copyFrom_34 ?_
      refine lv_iconst (v := (0 : Int32)) hx hb dX1_copyFrom_37 (by decide) ?_
      refine lv_aload_n hx hb dX1_copyFrom_38 rfl (lv_at hl 0 rfl) ?_
      refine e_getq hx hb hts in_X1_copyFrom_v1_X1 hown K G 85 (by decide) gl_85 rfl 1 (by decide) 94 rfl (hts (.fieldLink RX1 16 "StreetsStepOn$Book" "lengths" "[I") (e_mem (n := 6) rfl)) dX1_copyFrom_39 ?_
      refine lv_iconst (v := (0 : Int32)) hx hb dX1_copyFrom_42 (by decide) ?_
      refine lv_bipush (v := (12 : Int32)) hx hb dX1_copyFrom_43 (by decide) ?_
      have ha3 := h.1
      have h := h.2
      have ha4 := h.1
      have h := h.2
      have ha5 := h.1
      have h := h.2
      have ha6 := h.1
      have h := h.2
      have ha7 := h.1
      have h := h.2
      refine e_copyi hx hb (hml.trans hl.1.symm) hown (hts (.methodLink RX1 27 arraycopyName) (e_mem (n := 2) rfl)) (hts (.native arraycopyName) (e_mem (n := 3) rfl)) (hts (.static arraycopyName) (e_mem (n := 4) rfl)) (hts (.initialized "java/lang/System") (e_mem (n := 5) rfl)) K G 14 94 0 0 12 12 (by decide) (by decide) gl_14 gl_94 rfl rfl ha3 ha4 ha5 ha6 ha7 (Nat.le_of_ble_eq_true rfl) (Nat.le_of_ble_eq_true rfl) dX1_copyFrom_45 (fun H locs G => ?_)
      obtain ⟨σ8, eσ8⟩ : ∃ z : eS, z = e_ua σ 94 (va_cpy (σ.1 14) (σ.1 94) ((0 : Int32)).toNatClampNeg ((0 : Int32)).toNatClampNeg ((12 : Int32)).toNatClampNeg) := ⟨_, rfl⟩
      rw [← eσ8] at G
      have h := h σ8 eσ8
      refine lv_aload_n hx hb dX1_copyFrom_48 rfl (lv_at hl 1 rfl) ?_
      refine e_getq hx hb hts in_X1_copyFrom_v1_X1 hown K G 5 (by decide) gl_5 rfl 2 (by decide) 15 rfl (hts (.fieldLink RX1 20 "StreetsStepOn$Book" "letterNames" "[I") (e_mem (n := 7) rfl)) dX1_copyFrom_49 ?_
      refine lv_iconst (v := (0 : Int32)) hx hb dX1_copyFrom_52 (by decide) ?_
      refine lv_aload_n hx hb dX1_copyFrom_53 rfl (lv_at hl 0 rfl) ?_
      refine e_getq hx hb hts in_X1_copyFrom_v1_X1 hown K G 85 (by decide) gl_85 rfl 2 (by decide) 95 rfl (hts (.fieldLink RX1 20 "StreetsStepOn$Book" "letterNames" "[I") (e_mem (n := 7) rfl)) dX1_copyFrom_54 ?_
      refine lv_iconst (v := (0 : Int32)) hx hb dX1_copyFrom_57 (by decide) ?_
      refine lv_bipush (v := (12 : Int32)) hx hb dX1_copyFrom_58 (by decide) ?_
      have ha9 := h.1
      have h := h.2
      have ha10 := h.1
      have h := h.2
      have ha11 := h.1
      have h := h.2
      have ha12 := h.1
      have h := h.2
      have ha13 := h.1
      have h := h.2
      refine e_copyi hx hb (hml.trans hl.1.symm) hown (hts (.methodLink RX1 27 arraycopyName) (e_mem (n := 2) rfl)) (hts (.native arraycopyName) (e_mem (n := 3) rfl)) (hts (.static arraycopyName) (e_mem (n := 4) rfl)) (hts (.initialized "java/lang/System") (e_mem (n := 5) rfl)) K G 15 95 0 0 12 12 (by decide) (by decide) gl_15 gl_95 rfl rfl ha9 ha10 ha11 ha12 ha13 (Nat.le_of_ble_eq_true rfl) (Nat.le_of_ble_eq_true rfl) dX1_copyFrom_60 (fun H locs G => ?_)
      obtain ⟨σ14, eσ14⟩ : ∃ z : eS, z = e_ua σ8 95 (va_cpy (σ8.1 15) (σ8.1 95) ((0 : Int32)).toNatClampNeg ((0 : Int32)).toNatClampNeg ((12 : Int32)).toNatClampNeg) := ⟨_, rfl⟩
      rw [← eσ14] at G
      have h := h σ14 eσ14
      refine lv_aload_n hx hb dX1_copyFrom_63 rfl (lv_at hl 1 rfl) ?_
      refine e_getq hx hb hts in_X1_copyFrom_v1_X1 hown K G 5 (by decide) gl_5 rfl 3 (by decide) 16 rfl (hts (.fieldLink RX1 23 "StreetsStepOn$Book" "letterDays" "[J") (e_mem (n := 8) rfl)) dX1_copyFrom_64 ?_
      refine lv_iconst (v := (0 : Int32)) hx hb dX1_copyFrom_67 (by decide) ?_
      refine lv_aload_n hx hb dX1_copyFrom_68 rfl (lv_at hl 0 rfl) ?_
      refine e_getq hx hb hts in_X1_copyFrom_v1_X1 hown K G 85 (by decide) gl_85 rfl 3 (by decide) 96 rfl (hts (.fieldLink RX1 23 "StreetsStepOn$Book" "letterDays" "[J") (e_mem (n := 8) rfl)) dX1_copyFrom_69 ?_
      refine lv_iconst (v := (0 : Int32)) hx hb dX1_copyFrom_72 (by decide) ?_
      refine lv_bipush (v := (12 : Int32)) hx hb dX1_copyFrom_73 (by decide) ?_
      have ha15 := h.1
      have h := h.2
      have ha16 := h.1
      have h := h.2
      have ha17 := h.1
      have h := h.2
      have ha18 := h.1
      have h := h.2
      have ha19 := h.1
      have h := h.2
      refine e_copyl hx hb (hml.trans hl.1.symm) hown (hts (.methodLink RX1 27 arraycopyName) (e_mem (n := 2) rfl)) (hts (.native arraycopyName) (e_mem (n := 3) rfl)) (hts (.static arraycopyName) (e_mem (n := 4) rfl)) (hts (.initialized "java/lang/System") (e_mem (n := 5) rfl)) K G 16 96 1 1 12 12 (by decide) (by decide) gl_16 gl_96 rfl rfl ha15 ha16 ha17 ha18 ha19 (Nat.le_of_ble_eq_true rfl) (Nat.le_of_ble_eq_true rfl) dX1_copyFrom_75 (fun H locs G => ?_)
      obtain ⟨σ20, eσ20⟩ : ∃ z : eS, z = e_ula σ14 96 (va_cpy (σ14.2.1 16) (σ14.2.1 96) ((0 : Int32)).toNatClampNeg ((0 : Int32)).toNatClampNeg ((12 : Int32)).toNatClampNeg) := ⟨_, rfl⟩
      rw [← eσ20] at G
      have h := h σ20 eσ20
      refine lv_aload_n hx hb dX1_copyFrom_78 rfl (lv_at hl 0 rfl) ?_
      refine lv_aload_n hx hb dX1_copyFrom_79 rfl (lv_at hl 1 rfl) ?_
      refine e_geti hx hb hts in_X1_copyFrom_v1_X1 hown K G 5 (by decide) gl_5 rfl 4 (by decide) rfl (hts (.fieldLink RX1 33 "StreetsStepOn$Book" "streets" "I") (e_mem (n := 9) rfl)) dX1_copyFrom_80 ?_
      refine e_puti hx hb hts in_X1_copyFrom_v1_X1 tyX1 tyX1_ok nmX1 hown K G 85 (by decide) gl_85 rfl 4 (by decide) rfl (hts (.fieldLink RX1 33 "StreetsStepOn$Book" "streets" "I") (e_mem (n := 9) rfl)) rfl (tyX1_ok 4 (by decide)) rfl rfl dX1_copyFrom_83 (fun H locs G => ?_)
      obtain ⟨σ21, eσ21⟩ : ∃ z : eS, z = e_ui σ20 85 4 (σ20.1 5 4) := ⟨_, rfl⟩
      rw [← eσ21] at G
      have h := h σ21 eσ21
      refine lv_aload_n hx hb dX1_copyFrom_86 rfl (lv_at hl 0 rfl) ?_
      refine lv_aload_n hx hb dX1_copyFrom_87 rfl (lv_at hl 1 rfl) ?_
      refine e_geti hx hb hts in_X1_copyFrom_v1_X1 hown K G 5 (by decide) gl_5 rfl 5 (by decide) rfl (hts (.fieldLink RX1 37 "StreetsStepOn$Book" "orders" "I") (e_mem (n := 10) rfl)) dX1_copyFrom_88 ?_
      refine e_puti hx hb hts in_X1_copyFrom_v1_X1 tyX1 tyX1_ok nmX1 hown K G 85 (by decide) gl_85 rfl 5 (by decide) rfl (hts (.fieldLink RX1 37 "StreetsStepOn$Book" "orders" "I") (e_mem (n := 10) rfl)) rfl (tyX1_ok 5 (by decide)) rfl rfl dX1_copyFrom_91 (fun H locs G => ?_)
      obtain ⟨σ22, eσ22⟩ : ∃ z : eS, z = e_ui σ21 85 5 (σ21.1 5 5) := ⟨_, rfl⟩
      rw [← eσ22] at G
      have h := h σ22 eσ22
      refine lv_aload_n hx hb dX1_copyFrom_94 rfl (lv_at hl 0 rfl) ?_
      refine lv_aload_n hx hb dX1_copyFrom_95 rfl (lv_at hl 1 rfl) ?_
      refine e_geti hx hb hts in_X1_copyFrom_v1_X1 hown K G 5 (by decide) gl_5 rfl 6 (by decide) rfl (hts (.fieldLink RX1 40 "StreetsStepOn$Book" "letters" "I") (e_mem (n := 11) rfl)) dX1_copyFrom_96 ?_
      refine e_puti hx hb hts in_X1_copyFrom_v1_X1 tyX1 tyX1_ok nmX1 hown K G 85 (by decide) gl_85 rfl 6 (by decide) rfl (hts (.fieldLink RX1 40 "StreetsStepOn$Book" "letters" "I") (e_mem (n := 11) rfl)) rfl (tyX1_ok 6 (by decide)) rfl rfl dX1_copyFrom_99 (fun H locs G => ?_)
      obtain ⟨σ23, eσ23⟩ : ∃ z : eS, z = e_ui σ22 85 6 (σ22.1 5 6) := ⟨_, rfl⟩
      rw [← eσ23] at G
      have h := h σ23 eσ23
      refine lv_aload_n hx hb dX1_copyFrom_102 rfl (lv_at hl 0 rfl) ?_
      refine lv_aload_n hx hb dX1_copyFrom_103 rfl (lv_at hl 1 rfl) ?_
      refine e_getl hx hb hts in_X1_copyFrom_v1_X1 hown K G 5 (by decide) gl_5 rfl 7 (by decide) rfl (hts (.fieldLink RX1 43 "StreetsStepOn$Book" "today" "J") (e_mem (n := 12) rfl)) dX1_copyFrom_104 ?_
      refine e_putl hx hb hts in_X1_copyFrom_v1_X1 tyX1 tyX1_ok nmX1 hown K G 85 (by decide) gl_85 rfl 7 (by decide) rfl (hts (.fieldLink RX1 43 "StreetsStepOn$Book" "today" "J") (e_mem (n := 12) rfl)) rfl rfl dX1_copyFrom_107 (fun H locs G => ?_)
      obtain ⟨σ24, eσ24⟩ : ∃ z : eS, z = e_ul σ23 85 7 (σ23.2.1 5 7) := ⟨_, rfl⟩
      rw [← eσ24] at G
      have h := h σ24 eσ24
      exact e_vret hx hb hr hlocks G h dX1_copyFrom_110
    · have h := h.2 c2
      refine lv_aload_n hx hb dX1_copyFrom_8 rfl (lv_at hl 1 rfl) ?_
      refine e_getq hx hb hts in_X1_copyFrom_v1_X1 hown K G 5 (by decide) gl_5 rfl 0 (by decide) 6 rfl (hts (.fieldLink RX1 11 "StreetsStepOn$Book" "nexts" "[[I") (e_mem (n := 1) rfl)) dX1_copyFrom_9 ?_
      refine lv_iload_n hx hb dX1_copyFrom_12 rfl (lv_at hl 2 rfl) ?_
      have hi25 := h.1
      have h := h.2
      refine e_aald hx hb K G 6 5 5 7 (by decide) _ gl_6 rfl rfl hi25 (7 + x2.toNatClampNeg) (gr_6 _ (e_lt hi25)).1 dX1_copyFrom_13 ?_
      refine lv_iconst (v := (0 : Int32)) hx hb dX1_copyFrom_14 (by decide) ?_
      refine lv_aload_n hx hb dX1_copyFrom_15 rfl (lv_at hl 0 rfl) ?_
      refine e_getq hx hb hts in_X1_copyFrom_v1_X1 hown K G 85 (by decide) gl_85 rfl 0 (by decide) 86 rfl (hts (.fieldLink RX1 11 "StreetsStepOn$Book" "nexts" "[[I") (e_mem (n := 1) rfl)) dX1_copyFrom_16 ?_
      refine lv_iload_n hx hb dX1_copyFrom_19 rfl (lv_at hl 2 rfl) ?_
      have hi26 := h.1
      have h := h.2
      refine e_aald hx hb K G 86 5 5 7 (by decide) _ gl_86 rfl rfl hi26 (87 + x2.toNatClampNeg) (gr_86 _ (e_lt hi26)).1 dX1_copyFrom_20 ?_
      refine lv_iconst (v := (0 : Int32)) hx hb dX1_copyFrom_21 (by decide) ?_
      refine lv_bipush (v := (12 : Int32)) hx hb dX1_copyFrom_22 (by decide) ?_
      have ha27 := h.1
      have h := h.2
      have ha28 := h.1
      have h := h.2
      have ha29 := h.1
      have h := h.2
      have ha30 := h.1
      have h := h.2
      have ha31 := h.1
      have h := h.2
      refine e_copyi hx hb (hml.trans hl.1.symm) hown (hts (.methodLink RX1 27 arraycopyName) (e_mem (n := 2) rfl)) (hts (.native arraycopyName) (e_mem (n := 3) rfl)) (hts (.static arraycopyName) (e_mem (n := 4) rfl)) (hts (.initialized "java/lang/System") (e_mem (n := 5) rfl)) K G (7 + x2.toNatClampNeg) (87 + x2.toNatClampNeg) 0 0 12 12 (gr_6 _ (e_lt hi25)).2.2 (gr_86 _ (e_lt hi26)).2.2 (gr_6 _ (e_lt hi25)).2.1 (gr_86 _ (e_lt hi26)).2.1 rfl rfl ha27 ha28 ha29 ha30 ha31 (Nat.le_of_ble_eq_true rfl) (Nat.le_of_ble_eq_true rfl) dX1_copyFrom_24 (fun H locs G => ?_)
      obtain ⟨σ32, eσ32⟩ : ∃ z : eS, z = e_ua σ (87 + x2.toNatClampNeg) (va_cpy (σ.1 (7 + x2.toNatClampNeg)) (σ.1 (87 + x2.toNatClampNeg)) ((0 : Int32)).toNatClampNeg ((0 : Int32)).toNatClampNeg ((12 : Int32)).toNatClampNeg) := ⟨_, rfl⟩
      rw [← eσ32] at G
      have h := h σ32 eσ32
      obtain ⟨v33, ev33⟩ : ∃ y : Int32, y = x2 + (1 : Int32) := ⟨_, rfl⟩
      have h := h v33 ev33
      refine lv_iinc (v := v33) (lv' := [(2, .int (v33)), (0, .ref (ρ (85))), (1, .ref (ρ (5)))]) hx hb dX1_copyFrom_27 hl (k := 2) rfl (by rw [ev33]; rfl) (by decide) rfl (fun ls hl => ?_)
      refine lv_goto (tgt := 2) hx hb dX1_copyFrom_30 (by decide) ?_
      exact ih σ32 v33 _ _ _  h G (lv_sub hl [1, 2, 0] rfl)
def w_X1_copyFrom_v1 (σ : eS) (post : eS → Prop) : Prop := ∀ v1 : Int32, v1 = (0 : Int32) → (∃ n34 : Nat, b_X1_copyFrom_v1_2 post n34 σ v1)
set_option maxHeartbeats 4000000 in
set_option maxRecDepth 100000 in
theorem c_X1_copyFrom_v1 {l : Launch} {D : va_G} {ρ : Nat → Nat} {κ : Nat → ClassId} {base : Nat} {σ : eS} {post : eS → Prop} (h : w_X1_copyFrom_v1 σ post) : gMv l yX1_copyFrom wsX1_copyFrom rm_X1_copyFrom_v1 D ρ κ base [.ref (ρ (85)), .ref (ρ (5))] σ post := by
  refine e_ofWv (cc := cX1_copyFrom) (maxL := 3) (ret := none) (by decide) rfl (Nat.le_of_ble_eq_true rfl) ?_
  intro p e s m below meth c ls C K G hl
  obtain ⟨hx, hb, hml, hown, hts, hr, hlocks⟩ := id C
  have hl : lv_has ls 3 [(0, .ref (ρ (85))), (1, .ref (ρ (5)))] := hl
  unfold w_X1_copyFrom_v1 at h
  refine lv_iconst (v := (0 : Int32)) hx hb dX1_copyFrom_0 (by decide) ?_
  refine lv_topi (fun v1 ev1 => ?_)
  have h := h v1 ev1
  refine lv_istore_n (lv' := [(2, .int (v1)), (0, .ref (ρ (85))), (1, .ref (ρ (5)))]) hx hb dX1_copyFrom_1 rfl hl (by decide) rfl (fun ls hl => ?_)
  obtain ⟨n34, h⟩ := h
  exact l_X1_copyFrom_v1_2 C K n34 σ v1 _ _ _  h G (lv_sub hl [1, 2, 0] rfl)
abbrev rm_X10_keep : Room := { frames := 2, cells := 0, slots := 0, locals := 62 }
theorem in_X10_keep_X1 : ∀ w ∈ wsX10, w ∈ wsX10_keep := fun w h => List.mem_cons_of_mem _ (List.mem_append_right _ h)
theorem in_X10_keep_X10 : ∀ w ∈ wsX100, w ∈ wsX10_keep := fun w h => List.mem_cons_of_mem _ (List.mem_append_left _ (List.mem_append_right _ h))
def w_X10_keep (σ : eS) (x1 : Int32) (post : Int32 → eS → Prop) : Prop := ((x1 < 0 → ((narrow .boolean (.int (0 : Int32)) = .int (0 : Int32)) ∧ post (0 : Int32) σ)) ∧ (¬ (x1 < 0) → ((x1 < 2 → (vp_in x1 2) ∧ ((x1.toNatClampNeg = 0 → w_X1_copyFrom σ (fun σ4 => (vp_in x1 2) ∧ ((x1.toNatClampNeg = 0 → ∀ σ6 : eS, σ6 = e_ui σ4 73 8 (1 : Int32) → ((narrow .boolean (.int (1 : Int32)) = .int (1 : Int32)) ∧ post (1 : Int32) σ6)) ∧ (x1.toNatClampNeg = 1 → ∀ σ7 : eS, σ7 = e_ui σ4 85 8 (1 : Int32) → ((narrow .boolean (.int (1 : Int32)) = .int (1 : Int32)) ∧ post (1 : Int32) σ7))))) ∧ (x1.toNatClampNeg = 1 → w_X1_copyFrom_v1 σ (fun σ9 => (vp_in x1 2) ∧ ((x1.toNatClampNeg = 0 → ∀ σ11 : eS, σ11 = e_ui σ9 73 8 (1 : Int32) → ((narrow .boolean (.int (1 : Int32)) = .int (1 : Int32)) ∧ post (1 : Int32) σ11)) ∧ (x1.toNatClampNeg = 1 → ∀ σ12 : eS, σ12 = e_ui σ9 85 8 (1 : Int32) → ((narrow .boolean (.int (1 : Int32)) = .int (1 : Int32)) ∧ post (1 : Int32) σ12))))))) ∧ (¬ (x1 < 2) → ((narrow .boolean (.int (0 : Int32)) = .int (0 : Int32)) ∧ post (0 : Int32) σ)))))
set_option maxHeartbeats 4000000 in
set_option maxRecDepth 100000 in
theorem c_X10_keep {l : Launch} {D : va_G} {ρ : Nat → Nat} {κ : Nat → ClassId} {base : Nat} {σ : eS} {x1 : Int32} {post : Int32 → eS → Prop} (h : w_X10_keep σ x1 post) : gMi l yX10_keep wsX10_keep rm_X10_keep D ρ κ base [.ref (ρ (0)), .int (x1)] σ post := by
  refine e_ofWi (cc := cX10_keep) (maxL := 2) (ret := (some .boolean)) (by decide) rfl (Nat.le_of_ble_eq_true rfl) ?_
  intro p e s m below meth c ls C K G hl
  obtain ⟨hx, hb, hml, hown, hts, hr, hlocks⟩ := id C
  have hl : lv_has ls 2 [(0, .ref (ρ (0))), (1, .int (x1))] := hl
  unfold w_X10_keep at h
  refine lv_iload_n hx hb dX10_keep_0 rfl (lv_at hl 1 rfl) ?_
  refine lv_if_lt (tgt := 13) hx hb dX10_keep_1 (by decide) (fun c1 => ?_) (fun c1 => ?_)
  · have h := h.1 c1
    refine lv_iconst (v := (0 : Int32)) hx hb dX10_keep_13 (by decide) ?_
    exact e_zret hx hb hr hlocks G h.1 h.2 dX10_keep_14
  · have h := h.2 c1
    refine lv_iload_n hx hb dX10_keep_4 rfl (lv_at hl 1 rfl) ?_
    refine lv_aload_n hx hb dX10_keep_5 rfl (lv_at hl 0 rfl) ?_
    refine e_getq hx hb hts in_X10_keep_X10 hown K G 0 (by decide) gl_0 rfl 3 (by decide) 17 rfl (hts (.fieldLink RX10 30 "StreetsStepOn" "keptBooks" "[LStreetsStepOn$Book;") (e_mem (n := 1) rfl)) dX10_keep_6 ?_
    refine e_alen (v := 2) hx hb K G 17 7 7 2 (by decide) gl_17 rfl rfl dX10_keep_9 ?_
    refine lv_icmp_lt (tgt := 15) hx hb dX10_keep_10 (by decide) (fun c2 => ?_) (fun c2 => ?_)
    · have h := h.1 c2
      refine lv_aload_n hx hb dX10_keep_15 rfl (lv_at hl 0 rfl) ?_
      refine e_getq hx hb hts in_X10_keep_X10 hown K G 0 (by decide) gl_0 rfl 3 (by decide) 17 rfl (hts (.fieldLink RX10 30 "StreetsStepOn" "keptBooks" "[LStreetsStepOn$Book;") (e_mem (n := 1) rfl)) dX10_keep_16 ?_
      refine lv_iload_n hx hb dX10_keep_19 rfl (lv_at hl 1 rfl) ?_
      have hi3 := h.1
      have h := h.2
      have ec14 := e_lt hi3
      rcases (show x1.toNatClampNeg = 0 ∨ x1.toNatClampNeg = 1 by omega) with c14 | c14
      · have h := h.1 c14
        refine e_aald hx hb K G 17 7 7 2 (by decide) _ gl_17 rfl rfl hi3 73 (by rw [c14]; rfl) dX10_keep_20 ?_
        refine lv_aload_n hx hb dX10_keep_21 rfl (lv_at hl 0 rfl) ?_
        refine e_getq hx hb hts in_X10_keep_X10 hown K G 0 (by decide) gl_0 rfl 2 (by decide) 5 rfl (hts (.fieldLink RX10 26 "StreetsStepOn" "book" "LStreetsStepOn$Book;") (e_mem (n := 2) rfl)) dX10_keep_22 ?_
        refine e_callVv (As := [.ref (ρ (5))]) (rest := []) ⟨hx, hb, hml, hown, hts⟩ K G 73 (by decide) gl_73 rfl (c_X1_copyFrom h) (cwV 1 hts gX10_keep_X1_copyFrom rfl rfl rfl (by decide +kernel) ⟨Nat.le_of_ble_eq_true rfl, Nat.le_of_ble_eq_true rfl⟩) rfl hl.1 rfl (Nat.le_of_ble_eq_true rfl) dX10_keep_25 ⟨Nat.zero_le _, Nat.zero_le _⟩ (fun σ4 H locs h G => ?_)
        refine lv_aload_n hx hb dX10_keep_28 rfl (lv_at hl 0 rfl) ?_
        refine e_getq hx hb hts in_X10_keep_X10 hown K G 0 (by decide) gl_0 rfl 3 (by decide) 17 rfl (hts (.fieldLink RX10 30 "StreetsStepOn" "keptBooks" "[LStreetsStepOn$Book;") (e_mem (n := 1) rfl)) dX10_keep_29 ?_
        refine lv_iload_n hx hb dX10_keep_32 rfl (lv_at hl 1 rfl) ?_
        have hi5 := h.1
        have h := h.2
        have ec8 := e_lt hi5
        rcases (show x1.toNatClampNeg = 0 ∨ x1.toNatClampNeg = 1 by omega) with c8 | c8
        · have h := h.1 c8
          refine e_aald hx hb K G 17 7 7 2 (by decide) _ gl_17 rfl rfl hi5 73 (by rw [c8]; rfl) dX10_keep_33 ?_
          refine lv_iconst (v := (1 : Int32)) hx hb dX10_keep_34 (by decide) ?_
          refine e_putiN hx hb hts in_X10_keep_X1 tyX1 tyX1_ok nmX1 hown K G 73 (by decide) gl_73 rfl 8 (by decide) rfl (e_memq (n := 25) rfl) rfl (tyX1_ok 8 (by decide)) (by decide) (by decide) dX10_keep_35 (fun H locs G => ?_)
          obtain ⟨σ6, eσ6⟩ : ∃ z : eS, z = e_ui σ4 73 8 (1 : Int32) := ⟨_, rfl⟩
          rw [← eσ6] at G
          have h := h σ6 eσ6
          refine lv_iconst (v := (1 : Int32)) hx hb dX10_keep_38 (by decide) ?_
          exact e_zret hx hb hr hlocks G h.1 h.2 dX10_keep_39
        · have h := h.2 c8
          refine e_aald hx hb K G 17 7 7 2 (by decide) _ gl_17 rfl rfl hi5 85 (by rw [c8]; rfl) dX10_keep_33 ?_
          refine lv_iconst (v := (1 : Int32)) hx hb dX10_keep_34 (by decide) ?_
          refine e_putiN hx hb hts in_X10_keep_X1 tyX1 tyX1_ok nmX1 hown K G 85 (by decide) gl_85 rfl 8 (by decide) rfl (e_memq (n := 25) rfl) rfl (tyX1_ok 8 (by decide)) (by decide) (by decide) dX10_keep_35 (fun H locs G => ?_)
          obtain ⟨σ7, eσ7⟩ : ∃ z : eS, z = e_ui σ4 85 8 (1 : Int32) := ⟨_, rfl⟩
          rw [← eσ7] at G
          have h := h σ7 eσ7
          refine lv_iconst (v := (1 : Int32)) hx hb dX10_keep_38 (by decide) ?_
          exact e_zret hx hb hr hlocks G h.1 h.2 dX10_keep_39
      · have h := h.2 c14
        refine e_aald hx hb K G 17 7 7 2 (by decide) _ gl_17 rfl rfl hi3 85 (by rw [c14]; rfl) dX10_keep_20 ?_
        refine lv_aload_n hx hb dX10_keep_21 rfl (lv_at hl 0 rfl) ?_
        refine e_getq hx hb hts in_X10_keep_X10 hown K G 0 (by decide) gl_0 rfl 2 (by decide) 5 rfl (hts (.fieldLink RX10 26 "StreetsStepOn" "book" "LStreetsStepOn$Book;") (e_mem (n := 2) rfl)) dX10_keep_22 ?_
        refine e_callVv (As := [.ref (ρ (5))]) (rest := []) ⟨hx, hb, hml, hown, hts⟩ K G 85 (by decide) gl_85 rfl (c_X1_copyFrom_v1 h) (cwV 1 hts gX10_keep_X1_copyFrom rfl rfl rfl (by decide +kernel) ⟨Nat.le_of_ble_eq_true rfl, Nat.le_of_ble_eq_true rfl⟩) rfl hl.1 rfl (Nat.le_of_ble_eq_true rfl) dX10_keep_25 ⟨Nat.zero_le _, Nat.zero_le _⟩ (fun σ9 H locs h G => ?_)
        refine lv_aload_n hx hb dX10_keep_28 rfl (lv_at hl 0 rfl) ?_
        refine e_getq hx hb hts in_X10_keep_X10 hown K G 0 (by decide) gl_0 rfl 3 (by decide) 17 rfl (hts (.fieldLink RX10 30 "StreetsStepOn" "keptBooks" "[LStreetsStepOn$Book;") (e_mem (n := 1) rfl)) dX10_keep_29 ?_
        refine lv_iload_n hx hb dX10_keep_32 rfl (lv_at hl 1 rfl) ?_
        have hi10 := h.1
        have h := h.2
        have ec13 := e_lt hi10
        rcases (show x1.toNatClampNeg = 0 ∨ x1.toNatClampNeg = 1 by omega) with c13 | c13
        · have h := h.1 c13
          refine e_aald hx hb K G 17 7 7 2 (by decide) _ gl_17 rfl rfl hi10 73 (by rw [c13]; rfl) dX10_keep_33 ?_
          refine lv_iconst (v := (1 : Int32)) hx hb dX10_keep_34 (by decide) ?_
          refine e_putiN hx hb hts in_X10_keep_X1 tyX1 tyX1_ok nmX1 hown K G 73 (by decide) gl_73 rfl 8 (by decide) rfl (e_memq (n := 25) rfl) rfl (tyX1_ok 8 (by decide)) (by decide) (by decide) dX10_keep_35 (fun H locs G => ?_)
          obtain ⟨σ11, eσ11⟩ : ∃ z : eS, z = e_ui σ9 73 8 (1 : Int32) := ⟨_, rfl⟩
          rw [← eσ11] at G
          have h := h σ11 eσ11
          refine lv_iconst (v := (1 : Int32)) hx hb dX10_keep_38 (by decide) ?_
          exact e_zret hx hb hr hlocks G h.1 h.2 dX10_keep_39
        · have h := h.2 c13
          refine e_aald hx hb K G 17 7 7 2 (by decide) _ gl_17 rfl rfl hi10 85 (by rw [c13]; rfl) dX10_keep_33 ?_
          refine lv_iconst (v := (1 : Int32)) hx hb dX10_keep_34 (by decide) ?_
          refine e_putiN hx hb hts in_X10_keep_X1 tyX1 tyX1_ok nmX1 hown K G 85 (by decide) gl_85 rfl 8 (by decide) rfl (e_memq (n := 25) rfl) rfl (tyX1_ok 8 (by decide)) (by decide) (by decide) dX10_keep_35 (fun H locs G => ?_)
          obtain ⟨σ12, eσ12⟩ : ∃ z : eS, z = e_ui σ9 85 8 (1 : Int32) := ⟨_, rfl⟩
          rw [← eσ12] at G
          have h := h σ12 eσ12
          refine lv_iconst (v := (1 : Int32)) hx hb dX10_keep_38 (by decide) ?_
          exact e_zret hx hb hr hlocks G h.1 h.2 dX10_keep_39
    · have h := h.2 c2
      refine lv_iconst (v := (0 : Int32)) hx hb dX10_keep_13 (by decide) ?_
      exact e_zret hx hb hr hlocks G h.1 h.2 dX10_keep_14
abbrev rm_X11_keep : Room := { frames := 1, cells := 0, slots := 0, locals := 25 }
theorem in_X11_keep_X11 : ∀ w ∈ wsX110, w ∈ wsX11_keep := fun w h => List.mem_cons_of_mem _ (List.mem_append_right _ h)
def b_X11_keep_140 (post : Int32 → eS → Prop) : Nat → eS → Int32 → Int32 → Int32 → Prop
  | 0, _, _, _, _ => False
  | n + 1, σ, x1, x2, x3 => (((12 : Int32) ≤ x3 → ((narrow .boolean (.int (1 : Int32)) = .int (1 : Int32)) ∧ post (1 : Int32) σ)) ∧ (¬ ((12 : Int32) ≤ x3) → (vp_in x3 12) ∧ (vp_in (x2 + x3) 220) ∧ ∀ σ26 : eS, σ26 = e_ui σ 121 (x2 + x3).toNatClampNeg (σ.1 102 x3.toNatClampNeg) → (vp_in x3 12) ∧ (vp_in ((((13 : Int32) * x1) + (1 : Int32)) + x3) 26) ∧ ∀ σ29 : eS, σ29 = e_ul σ26 122 ((((13 : Int32) * x1) + (1 : Int32)) + x3).toNatClampNeg (σ26.2.1 103 x3.toNatClampNeg) → ∀ v30 : Int32, v30 = (x3 + (1 : Int32)) → b_X11_keep_140 post n σ29 x1 x2 v30))
set_option maxHeartbeats 4000000 in
set_option maxRecDepth 100000 in
theorem l_X11_keep_140 {p : Program} {l : Launch} {e : Env} {s : State} {m : MethodId} {args : Array Value} {below : List Frame} {meth : Method} {c : Code} {D : va_G} {ρ : Nat → Nat} {κ : Nat → ClassId} {base : Nat} {post : Int32 → eS → Prop} (C : eCx p s m args meth c cX11_keep RX11 4 (some .boolean) wsX11_keep) (K : gK D ρ κ base s) : ∀ (n : Nat) (σ : eS) (x1 : Int32) (x2 : Int32) (x3 : Int32) (H : Heap) (locs : List Loc) (ls : Array Slot), b_X11_keep_140 post n σ x1 x2 x3 → gG D ρ κ base s σ H locs → lv_has ls 4 [(0, .ref (ρ (97))), (1, .int (x1)), (2, .int (x2)), (3, .int (x3))] → W p l e rm_X11_keep s m args below meth c H locs 0 0 (gQi below args s D ρ κ base post) (F0 m 140 ls []) := by
  obtain ⟨hx, hb, hml, hown, hts, hr, hlocks⟩ := id C
  intro n
  induction n with
  | zero => intro σ x1 x2 x3 H locs ls h G hl; exact False.elim h
  | succ n ih =>
    intro σ x1 x2 x3 H locs ls h G hl
    rw [b_X11_keep_140] at h
    refine lv_iload_n hx hb dX11_keep_140 rfl (lv_at hl 3 rfl) ?_
    refine lv_bipush (v := (12 : Int32)) hx hb dX11_keep_141 (by decide) ?_
    refine lv_icmp_ge (tgt := 185) hx hb dX11_keep_143 (by decide) (fun c23 => ?_) (fun c23 => ?_)
    · have h := h.1 c23
      refine lv_iconst (v := (1 : Int32)) hx hb dX11_keep_185 (by decide) ?_
      exact e_zret hx hb hr hlocks G h.1 h.2 dX11_keep_186
    · have h := h.2 c23
      refine lv_aload_n hx hb dX11_keep_146 rfl (lv_at hl 0 rfl) ?_
      refine e_getq hx hb hts in_X11_keep_X11 hown K G 97 (by decide) gl_97 rfl 51 (by decide) 121 rfl (hts (.fieldLink RX11 85 "StreetsStepOnModel" "put" "[I") (e_mem (n := 5) rfl)) dX11_keep_147 ?_
      refine lv_iload_n hx hb dX11_keep_150 rfl (lv_at hl 2 rfl) ?_
      refine lv_iload_n hx hb dX11_keep_151 rfl (lv_at hl 3 rfl) ?_
      refine lv_iadd hx hb dX11_keep_152 ?_
      refine lv_aload_n hx hb dX11_keep_153 rfl (lv_at hl 0 rfl) ?_
      refine e_getq hx hb hts in_X11_keep_X11 hown K G 97 (by decide) gl_97 rfl 8 (by decide) 102 rfl (hts (.fieldLink RX11 22 "StreetsStepOnModel" "letterName" "[I") (e_mem (n := 12) rfl)) dX11_keep_154 ?_
      refine lv_iload_n hx hb dX11_keep_157 rfl (lv_at hl 3 rfl) ?_
      have hi24 := h.1
      have h := h.2
      refine e_iald hx hb K G 102 0 0 12 (by decide) gl_102 rfl hi24 dX11_keep_158 ?_
      have hi25 := h.1
      have h := h.2
      refine e_iast hx hb K G 121 0 0 220 (by decide) gl_121 rfl hi25 dX11_keep_159 (fun H locs G => ?_)
      obtain ⟨σ26, eσ26⟩ : ∃ z : eS, z = e_ui σ 121 (x2 + x3).toNatClampNeg (σ.1 102 x3.toNatClampNeg) := ⟨_, rfl⟩
      rw [← eσ26] at G
      have h := h σ26 eσ26
      refine lv_aload_n hx hb dX11_keep_160 rfl (lv_at hl 0 rfl) ?_
      refine e_getq hx hb hts in_X11_keep_X11 hown K G 97 (by decide) gl_97 rfl 52 (by decide) 122 rfl (hts (.fieldLink RX11 88 "StreetsStepOnModel" "putDays" "[J") (e_mem (n := 10) rfl)) dX11_keep_161 ?_
      refine lv_bipush (v := (13 : Int32)) hx hb dX11_keep_164 (by decide) ?_
      refine lv_iload_n hx hb dX11_keep_166 rfl (lv_at hl 1 rfl) ?_
      refine lv_imul hx hb dX11_keep_167 ?_
      refine lv_iconst (v := (1 : Int32)) hx hb dX11_keep_168 (by decide) ?_
      refine lv_iadd hx hb dX11_keep_169 ?_
      refine lv_iload_n hx hb dX11_keep_170 rfl (lv_at hl 3 rfl) ?_
      refine lv_iadd hx hb dX11_keep_171 ?_
      refine lv_aload_n hx hb dX11_keep_172 rfl (lv_at hl 0 rfl) ?_
      refine e_getq hx hb hts in_X11_keep_X11 hown K G 97 (by decide) gl_97 rfl 9 (by decide) 103 rfl (hts (.fieldLink RX11 25 "StreetsStepOnModel" "letterDay" "[J") (e_mem (n := 13) rfl)) dX11_keep_173 ?_
      refine lv_iload_n hx hb dX11_keep_176 rfl (lv_at hl 3 rfl) ?_
      have hi27 := h.1
      have h := h.2
      refine e_lald hx hb K G 103 1 1 12 (by decide) gl_103 rfl hi27 dX11_keep_177 ?_
      have hi28 := h.1
      have h := h.2
      refine e_last hx hb K G 122 1 1 26 (by decide) gl_122 rfl hi28 dX11_keep_178 (fun H locs G => ?_)
      obtain ⟨σ29, eσ29⟩ : ∃ z : eS, z = e_ul σ26 122 ((((13 : Int32) * x1) + (1 : Int32)) + x3).toNatClampNeg (σ26.2.1 103 x3.toNatClampNeg) := ⟨_, rfl⟩
      rw [← eσ29] at G
      have h := h σ29 eσ29
      obtain ⟨v30, ev30⟩ : ∃ y : Int32, y = x3 + (1 : Int32) := ⟨_, rfl⟩
      have h := h v30 ev30
      refine lv_iinc (v := v30) (lv' := [(3, .int (v30)), (0, .ref (ρ (97))), (1, .int (x1)), (2, .int (x2))]) hx hb dX11_keep_179 hl (k := 3) rfl (by rw [ev30]; rfl) (by decide) rfl (fun ls hl => ?_)
      refine lv_goto (tgt := 140) hx hb dX11_keep_182 (by decide) ?_
      exact ih σ29 x1 x2 v30 _ _ _  h G (lv_sub hl [1, 2, 3, 0] rfl)
def b_X11_keep_96 (post : Int32 → eS → Prop) : Nat → eS → Int32 → Int32 → Int32 → Prop
  | 0, _, _, _, _ => False
  | n + 1, σ, x1, x2, x3 => (((12 : Int32) ≤ x3 → ∀ v19 : Int32, v19 = (x2 + (12 : Int32)) → (vp_in ((13 : Int32) * x1) 26) ∧ ∀ σ21 : eS, σ21 = e_ul σ 122 ((13 : Int32) * x1).toNatClampNeg (σ.2.1 97 6) → ∀ v22 : Int32, v22 = (0 : Int32) → (∃ n31 : Nat, b_X11_keep_140 post n31 σ21 x1 v19 v22)) ∧ (¬ ((12 : Int32) ≤ x3) → (vp_in x3 12) ∧ (vp_in (x2 + x3) 220) ∧ ∀ σ34 : eS, σ34 = e_ui σ 121 (x2 + x3).toNatClampNeg (σ.1 100 x3.toNatClampNeg) → ∀ v35 : Int32, v35 = (x3 + (1 : Int32)) → b_X11_keep_96 post n σ34 x1 x2 v35))
set_option maxHeartbeats 4000000 in
set_option maxRecDepth 100000 in
theorem l_X11_keep_96 {p : Program} {l : Launch} {e : Env} {s : State} {m : MethodId} {args : Array Value} {below : List Frame} {meth : Method} {c : Code} {D : va_G} {ρ : Nat → Nat} {κ : Nat → ClassId} {base : Nat} {post : Int32 → eS → Prop} (C : eCx p s m args meth c cX11_keep RX11 4 (some .boolean) wsX11_keep) (K : gK D ρ κ base s) : ∀ (n : Nat) (σ : eS) (x1 : Int32) (x2 : Int32) (x3 : Int32) (H : Heap) (locs : List Loc) (ls : Array Slot), b_X11_keep_96 post n σ x1 x2 x3 → gG D ρ κ base s σ H locs → lv_has ls 4 [(0, .ref (ρ (97))), (1, .int (x1)), (2, .int (x2)), (3, .int (x3))] → W p l e rm_X11_keep s m args below meth c H locs 0 0 (gQi below args s D ρ κ base post) (F0 m 96 ls []) := by
  obtain ⟨hx, hb, hml, hown, hts, hr, hlocks⟩ := id C
  intro n
  induction n with
  | zero => intro σ x1 x2 x3 H locs ls h G hl; exact False.elim h
  | succ n ih =>
    intro σ x1 x2 x3 H locs ls h G hl
    rw [b_X11_keep_96] at h
    refine lv_iload_n hx hb dX11_keep_96 rfl (lv_at hl 3 rfl) ?_
    refine lv_bipush (v := (12 : Int32)) hx hb dX11_keep_97 (by decide) ?_
    refine lv_icmp_ge (tgt := 122) hx hb dX11_keep_99 (by decide) (fun c18 => ?_) (fun c18 => ?_)
    · have h := h.1 c18
      obtain ⟨v19, ev19⟩ : ∃ y : Int32, y = x2 + (12 : Int32) := ⟨_, rfl⟩
      have h := h v19 ev19
      refine lv_iinc (v := v19) (lv' := [(2, .int (v19)), (0, .ref (ρ (97))), (1, .int (x1)), (3, .int (x3))]) hx hb dX11_keep_122 hl (k := 2) rfl (by rw [ev19]; rfl) (by decide) rfl (fun ls hl => ?_)
      refine lv_aload_n hx hb dX11_keep_125 rfl (lv_at hl 1 rfl) ?_
      refine e_getq hx hb hts in_X11_keep_X11 hown K G 97 (by decide) gl_97 rfl 52 (by decide) 122 rfl (hts (.fieldLink RX11 88 "StreetsStepOnModel" "putDays" "[J") (e_mem (n := 10) rfl)) dX11_keep_126 ?_
      refine lv_bipush (v := (13 : Int32)) hx hb dX11_keep_129 (by decide) ?_
      refine lv_iload_n hx hb dX11_keep_131 rfl (lv_at hl 2 rfl) ?_
      refine lv_imul hx hb dX11_keep_132 ?_
      refine lv_aload_n hx hb dX11_keep_133 rfl (lv_at hl 1 rfl) ?_
      refine e_getl hx hb hts in_X11_keep_X11 hown K G 97 (by decide) gl_97 rfl 6 (by decide) rfl (hts (.fieldLink RX11 197 "StreetsStepOnModel" "today" "J") (e_mem (n := 11) rfl)) dX11_keep_134 ?_
      have hi20 := h.1
      have h := h.2
      refine e_last hx hb K G 122 1 1 26 (by decide) gl_122 rfl hi20 dX11_keep_137 (fun H locs G => ?_)
      obtain ⟨σ21, eσ21⟩ : ∃ z : eS, z = e_ul σ 122 ((13 : Int32) * x1).toNatClampNeg (σ.2.1 97 6) := ⟨_, rfl⟩
      rw [← eσ21] at G
      have h := h σ21 eσ21
      refine lv_iconst (v := (0 : Int32)) hx hb dX11_keep_138 (by decide) ?_
      refine lv_topi (fun v22 ev22 => ?_)
      have h := h v22 ev22
      refine lv_istore_n (lv' := [(3, .int (v22)), (2, .int (v19)), (0, .ref (ρ (97))), (1, .int (x1))]) hx hb dX11_keep_139 rfl hl (by decide) rfl (fun ls hl => ?_)
      obtain ⟨n31, h⟩ := h
      exact l_X11_keep_140 C K n31 σ21 x1 v19 v22 _ _ _  h G (lv_sub hl [2, 3, 1, 0] rfl)
    · have h := h.2 c18
      refine lv_aload_n hx hb dX11_keep_102 rfl (lv_at hl 0 rfl) ?_
      refine e_getq hx hb hts in_X11_keep_X11 hown K G 97 (by decide) gl_97 rfl 51 (by decide) 121 rfl (hts (.fieldLink RX11 85 "StreetsStepOnModel" "put" "[I") (e_mem (n := 5) rfl)) dX11_keep_103 ?_
      refine lv_iload_n hx hb dX11_keep_106 rfl (lv_at hl 2 rfl) ?_
      refine lv_iload_n hx hb dX11_keep_107 rfl (lv_at hl 3 rfl) ?_
      refine lv_iadd hx hb dX11_keep_108 ?_
      refine lv_aload_n hx hb dX11_keep_109 rfl (lv_at hl 0 rfl) ?_
      refine e_getq hx hb hts in_X11_keep_X11 hown K G 97 (by decide) gl_97 rfl 3 (by decide) 100 rfl (hts (.fieldLink RX11 16 "StreetsStepOnModel" "length" "[I") (e_mem (n := 9) rfl)) dX11_keep_110 ?_
      refine lv_iload_n hx hb dX11_keep_113 rfl (lv_at hl 3 rfl) ?_
      have hi32 := h.1
      have h := h.2
      refine e_iald hx hb K G 100 0 0 12 (by decide) gl_100 rfl hi32 dX11_keep_114 ?_
      have hi33 := h.1
      have h := h.2
      refine e_iast hx hb K G 121 0 0 220 (by decide) gl_121 rfl hi33 dX11_keep_115 (fun H locs G => ?_)
      obtain ⟨σ34, eσ34⟩ : ∃ z : eS, z = e_ui σ 121 (x2 + x3).toNatClampNeg (σ.1 100 x3.toNatClampNeg) := ⟨_, rfl⟩
      rw [← eσ34] at G
      have h := h σ34 eσ34
      obtain ⟨v35, ev35⟩ : ∃ y : Int32, y = x3 + (1 : Int32) := ⟨_, rfl⟩
      have h := h v35 ev35
      refine lv_iinc (v := v35) (lv' := [(3, .int (v35)), (0, .ref (ρ (97))), (1, .int (x1)), (2, .int (x2))]) hx hb dX11_keep_116 hl (k := 3) rfl (by rw [ev35]; rfl) (by decide) rfl (fun ls hl => ?_)
      refine lv_goto (tgt := 96) hx hb dX11_keep_119 (by decide) ?_
      exact ih σ34 x1 x2 v35 _ _ _  h G (lv_sub hl [1, 2, 3, 0] rfl)
def b_X11_keep_63 (post : Int32 → eS → Prop) : Nat → eS → Int32 → Int32 → Int32 → Prop
  | 0, _, _, _, _ => False
  | n + 1, σ, x1, x2, x3 => (((84 : Int32) ≤ x3 → ∀ v16 : Int32, v16 = (x2 + (86 : Int32)) → ∀ v17 : Int32, v17 = (0 : Int32) → (∃ n36 : Nat, b_X11_keep_96 post n36 σ x1 v16 v17)) ∧ (¬ ((84 : Int32) ≤ x3) → (vp_in x3 84) ∧ (vp_in ((x2 + (2 : Int32)) + x3) 220) ∧ ∀ σ39 : eS, σ39 = e_ui σ 121 ((x2 + (2 : Int32)) + x3).toNatClampNeg (σ.1 101 x3.toNatClampNeg) → ∀ v40 : Int32, v40 = (x3 + (1 : Int32)) → b_X11_keep_63 post n σ39 x1 x2 v40))
set_option maxHeartbeats 4000000 in
set_option maxRecDepth 100000 in
theorem l_X11_keep_63 {p : Program} {l : Launch} {e : Env} {s : State} {m : MethodId} {args : Array Value} {below : List Frame} {meth : Method} {c : Code} {D : va_G} {ρ : Nat → Nat} {κ : Nat → ClassId} {base : Nat} {post : Int32 → eS → Prop} (C : eCx p s m args meth c cX11_keep RX11 4 (some .boolean) wsX11_keep) (K : gK D ρ κ base s) : ∀ (n : Nat) (σ : eS) (x1 : Int32) (x2 : Int32) (x3 : Int32) (H : Heap) (locs : List Loc) (ls : Array Slot), b_X11_keep_63 post n σ x1 x2 x3 → gG D ρ κ base s σ H locs → lv_has ls 4 [(0, .ref (ρ (97))), (1, .int (x1)), (2, .int (x2)), (3, .int (x3))] → W p l e rm_X11_keep s m args below meth c H locs 0 0 (gQi below args s D ρ κ base post) (F0 m 63 ls []) := by
  obtain ⟨hx, hb, hml, hown, hts, hr, hlocks⟩ := id C
  intro n
  induction n with
  | zero => intro σ x1 x2 x3 H locs ls h G hl; exact False.elim h
  | succ n ih =>
    intro σ x1 x2 x3 H locs ls h G hl
    rw [b_X11_keep_63] at h
    refine lv_iload_n hx hb dX11_keep_63 rfl (lv_at hl 3 rfl) ?_
    refine lv_bipush (v := (84 : Int32)) hx hb dX11_keep_64 (by decide) ?_
    refine lv_icmp_ge (tgt := 91) hx hb dX11_keep_66 (by decide) (fun c15 => ?_) (fun c15 => ?_)
    · have h := h.1 c15
      obtain ⟨v16, ev16⟩ : ∃ y : Int32, y = x2 + (86 : Int32) := ⟨_, rfl⟩
      have h := h v16 ev16
      refine lv_iinc (v := v16) (lv' := [(2, .int (v16)), (0, .ref (ρ (97))), (1, .int (x1)), (3, .int (x3))]) hx hb dX11_keep_91 hl (k := 2) rfl (by rw [ev16]; rfl) (by decide) rfl (fun ls hl => ?_)
      refine lv_iconst (v := (0 : Int32)) hx hb dX11_keep_94 (by decide) ?_
      refine lv_topi (fun v17 ev17 => ?_)
      have h := h v17 ev17
      refine lv_istore_n (lv' := [(3, .int (v17)), (2, .int (v16)), (0, .ref (ρ (97))), (1, .int (x1))]) hx hb dX11_keep_95 rfl hl (by decide) rfl (fun ls hl => ?_)
      obtain ⟨n36, h⟩ := h
      exact l_X11_keep_96 C K n36 σ x1 v16 v17 _ _ _  h G (lv_sub hl [2, 3, 1, 0] rfl)
    · have h := h.2 c15
      refine lv_aload_n hx hb dX11_keep_69 rfl (lv_at hl 0 rfl) ?_
      refine e_getq hx hb hts in_X11_keep_X11 hown K G 97 (by decide) gl_97 rfl 51 (by decide) 121 rfl (hts (.fieldLink RX11 85 "StreetsStepOnModel" "put" "[I") (e_mem (n := 5) rfl)) dX11_keep_70 ?_
      refine lv_iload_n hx hb dX11_keep_73 rfl (lv_at hl 2 rfl) ?_
      refine lv_iconst (v := (2 : Int32)) hx hb dX11_keep_74 (by decide) ?_
      refine lv_iadd hx hb dX11_keep_75 ?_
      refine lv_iload_n hx hb dX11_keep_76 rfl (lv_at hl 3 rfl) ?_
      refine lv_iadd hx hb dX11_keep_77 ?_
      refine lv_aload_n hx hb dX11_keep_78 rfl (lv_at hl 0 rfl) ?_
      refine e_getq hx hb hts in_X11_keep_X11 hown K G 97 (by decide) gl_97 rfl 5 (by decide) 101 rfl (hts (.fieldLink RX11 19 "StreetsStepOnModel" "nexts" "[I") (e_mem (n := 8) rfl)) dX11_keep_79 ?_
      refine lv_iload_n hx hb dX11_keep_82 rfl (lv_at hl 3 rfl) ?_
      have hi37 := h.1
      have h := h.2
      refine e_iald hx hb K G 101 0 0 84 (by decide) gl_101 rfl hi37 dX11_keep_83 ?_
      have hi38 := h.1
      have h := h.2
      refine e_iast hx hb K G 121 0 0 220 (by decide) gl_121 rfl hi38 dX11_keep_84 (fun H locs G => ?_)
      obtain ⟨σ39, eσ39⟩ : ∃ z : eS, z = e_ui σ 121 ((x2 + (2 : Int32)) + x3).toNatClampNeg (σ.1 101 x3.toNatClampNeg) := ⟨_, rfl⟩
      rw [← eσ39] at G
      have h := h σ39 eσ39
      obtain ⟨v40, ev40⟩ : ∃ y : Int32, y = x3 + (1 : Int32) := ⟨_, rfl⟩
      have h := h v40 ev40
      refine lv_iinc (v := v40) (lv' := [(3, .int (v40)), (0, .ref (ρ (97))), (1, .int (x1)), (2, .int (x2))]) hx hb dX11_keep_85 hl (k := 3) rfl (by rw [ev40]; rfl) (by decide) rfl (fun ls hl => ?_)
      refine lv_goto (tgt := 63) hx hb dX11_keep_88 (by decide) ?_
      exact ih σ39 x1 x2 v40 _ _ _  h G (lv_sub hl [1, 2, 3, 0] rfl)
def w_X11_keep (σ : eS) (x1 : Int32) (post : Int32 → eS → Prop) : Prop := ∀ σ1 : eS, σ1 = e_ui σ 97 18 (0 : Int32) → w_X11_in σ1 (x1.toInt64) (0 : Int64) (1 : Int64) (fun r3 σ2 => ((¬ r3 = 0 → (vp_in x1 2) ∧ ∀ σ6 : eS, σ6 = e_ui σ2 123 x1.toNatClampNeg (vp_nar .boolean (1 : Int32)) → (vp_in x1 2) ∧ ∀ σ8 : eS, σ8 = e_ui σ6 124 x1.toNatClampNeg (σ6.1 97 50) → ∀ v9 : Int32, v9 = ((110 : Int32) * x1) → (vp_in v9 220) ∧ ∀ σ11 : eS, σ11 = e_ui σ8 121 v9.toNatClampNeg (σ8.1 97 4) → (vp_in (v9 + (1 : Int32)) 220) ∧ ∀ σ13 : eS, σ13 = e_ui σ11 121 (v9 + (1 : Int32)).toNatClampNeg (σ11.1 97 7) → ∀ v14 : Int32, v14 = (0 : Int32) → (∃ n41 : Nat, b_X11_keep_63 post n41 σ13 x1 v9 v14)) ∧ (r3 = 0 → ((narrow .boolean (.int (0 : Int32)) = .int (0 : Int32)) ∧ post (0 : Int32) σ2))))
set_option maxHeartbeats 4000000 in
set_option maxRecDepth 100000 in
theorem c_X11_keep {l : Launch} {D : va_G} {ρ : Nat → Nat} {κ : Nat → ClassId} {base : Nat} {σ : eS} {x1 : Int32} {post : Int32 → eS → Prop} (h : w_X11_keep σ x1 post) : gMi l yX11_keep wsX11_keep rm_X11_keep D ρ κ base [.ref (ρ (97)), .int (x1)] σ post := by
  refine e_ofWi (cc := cX11_keep) (maxL := 4) (ret := (some .boolean)) (by decide) rfl (Nat.le_of_ble_eq_true rfl) ?_
  intro p e s m below meth c ls C K G hl
  obtain ⟨hx, hb, hml, hown, hts, hr, hlocks⟩ := id C
  have hl : lv_has ls 4 [(0, .ref (ρ (97))), (1, .int (x1))] := hl
  unfold w_X11_keep at h
  refine lv_aload_n hx hb dX11_keep_0 rfl (lv_at hl 0 rfl) ?_
  refine lv_iconst (v := (0 : Int32)) hx hb dX11_keep_1 (by decide) ?_
  refine e_puti hx hb hts in_X11_keep_X11 tyX11 tyX11_ok nmX11 hown K G 97 (by decide) gl_97 rfl 18 (by decide) rfl (hts (.fieldLink RX11 98 "StreetsStepOnModel" "thrown" "I") (e_mem (n := 1) rfl)) rfl (tyX11_ok 18 (by decide)) rfl rfl dX11_keep_2 (fun H locs G => ?_)
  obtain ⟨σ1, eσ1⟩ : ∃ z : eS, z = e_ui σ 97 18 (0 : Int32) := ⟨_, rfl⟩
  rw [← eσ1] at G
  have h := h σ1 eσ1
  refine lv_iload_n hx hb dX11_keep_5 rfl (lv_at hl 1 rfl) ?_
  refine lv_i2l hx hb dX11_keep_6 rfl ?_
  refine lv_lconst (v := (0 : Int64)) hx hb dX11_keep_7 (by decide) ?_
  refine lv_lconst (v := (1 : Int64)) hx hb dX11_keep_8 (by decide) ?_
  refine e_callSi (As := [.long (x1.toInt64), .long ((0 : Int64)), .long ((1 : Int64))]) (rest := []) ⟨hx, hb, hml, hown, hts⟩ K G (c_X11_in h) (va_cwS 3 hts gX11_keep_X11_in rfl rfl rfl (by decide +kernel) ⟨Nat.le_of_ble_eq_true rfl, Nat.le_of_ble_eq_true rfl⟩) rfl hl.1 rfl (Nat.le_of_ble_eq_true rfl) dX11_keep_9 ⟨Nat.zero_le _, Nat.zero_le _⟩ (fun r3 σ2 H locs h G => ?_)
  refine lv_if_ne (tgt := 17) hx hb dX11_keep_12 (by decide) (fun c4 => ?_) (fun c4 => ?_)
  · have h := h.1 c4
    refine lv_aload_n hx hb dX11_keep_17 rfl (lv_at hl 0 rfl) ?_
    refine e_getq hx hb hts in_X11_keep_X11 hown K G 97 (by decide) gl_97 rfl 53 (by decide) 123 rfl (hts (.fieldLink RX11 91 "StreetsStepOnModel" "isPut" "[Z") (e_mem (n := 2) rfl)) dX11_keep_18 ?_
    refine lv_iload_n hx hb dX11_keep_21 rfl (lv_at hl 1 rfl) ?_
    refine lv_iconst (v := (1 : Int32)) hx hb dX11_keep_22 (by decide) ?_
    have hi5 := h.1
    have h := h.2
    refine e_zast hx hb K G 123 4 4 2 (by decide) gl_123 rfl hi5 dX11_keep_23 (fun H locs G => ?_)
    obtain ⟨σ6, eσ6⟩ : ∃ z : eS, z = e_ui σ2 123 x1.toNatClampNeg (vp_nar .boolean (1 : Int32)) := ⟨_, rfl⟩
    rw [← eσ6] at G
    have h := h σ6 eσ6
    refine lv_aload_n hx hb dX11_keep_24 rfl (lv_at hl 0 rfl) ?_
    refine e_getq hx hb hts in_X11_keep_X11 hown K G 97 (by decide) gl_97 rfl 54 (by decide) 124 rfl (hts (.fieldLink RX11 95 "StreetsStepOnModel" "putTold" "[I") (e_mem (n := 3) rfl)) dX11_keep_25 ?_
    refine lv_iload_n hx hb dX11_keep_28 rfl (lv_at hl 1 rfl) ?_
    refine lv_aload_n hx hb dX11_keep_29 rfl (lv_at hl 0 rfl) ?_
    refine e_geti hx hb hts in_X11_keep_X11 hown K G 97 (by decide) gl_97 rfl 50 (by decide) rfl (hts (.fieldLink RX11 169 "StreetsStepOnModel" "streetsTold" "I") (e_mem (n := 4) rfl)) dX11_keep_30 ?_
    have hi7 := h.1
    have h := h.2
    refine e_iast hx hb K G 124 0 0 2 (by decide) gl_124 rfl hi7 dX11_keep_33 (fun H locs G => ?_)
    obtain ⟨σ8, eσ8⟩ : ∃ z : eS, z = e_ui σ6 124 x1.toNatClampNeg (σ6.1 97 50) := ⟨_, rfl⟩
    rw [← eσ8] at G
    have h := h σ8 eσ8
    refine lv_bipush (v := (110 : Int32)) hx hb dX11_keep_34 (by decide) ?_
    refine lv_iload_n hx hb dX11_keep_36 rfl (lv_at hl 1 rfl) ?_
    refine lv_imul hx hb dX11_keep_37 ?_
    refine lv_topi (fun v9 ev9 => ?_)
    have h := h v9 ev9
    refine lv_istore_n (lv' := [(2, .int (v9)), (0, .ref (ρ (97))), (1, .int (x1))]) hx hb dX11_keep_38 rfl hl (by decide) rfl (fun ls hl => ?_)
    refine lv_aload_n hx hb dX11_keep_39 rfl (lv_at hl 1 rfl) ?_
    refine e_getq hx hb hts in_X11_keep_X11 hown K G 97 (by decide) gl_97 rfl 51 (by decide) 121 rfl (hts (.fieldLink RX11 85 "StreetsStepOnModel" "put" "[I") (e_mem (n := 5) rfl)) dX11_keep_40 ?_
    refine lv_iload_n hx hb dX11_keep_43 rfl (lv_at hl 0 rfl) ?_
    refine lv_aload_n hx hb dX11_keep_44 rfl (lv_at hl 1 rfl) ?_
    refine e_geti hx hb hts in_X11_keep_X11 hown K G 97 (by decide) gl_97 rfl 4 (by decide) rfl (hts (.fieldLink RX11 111 "StreetsStepOnModel" "orders" "I") (e_mem (n := 6) rfl)) dX11_keep_45 ?_
    have hi10 := h.1
    have h := h.2
    refine e_iast hx hb K G 121 0 0 220 (by decide) gl_121 rfl hi10 dX11_keep_48 (fun H locs G => ?_)
    obtain ⟨σ11, eσ11⟩ : ∃ z : eS, z = e_ui σ8 121 v9.toNatClampNeg (σ8.1 97 4) := ⟨_, rfl⟩
    rw [← eσ11] at G
    have h := h σ11 eσ11
    refine lv_aload_n hx hb dX11_keep_49 rfl (lv_at hl 1 rfl) ?_
    refine e_getq hx hb hts in_X11_keep_X11 hown K G 97 (by decide) gl_97 rfl 51 (by decide) 121 rfl (hts (.fieldLink RX11 85 "StreetsStepOnModel" "put" "[I") (e_mem (n := 5) rfl)) dX11_keep_50 ?_
    refine lv_iload_n hx hb dX11_keep_53 rfl (lv_at hl 0 rfl) ?_
    refine lv_iconst (v := (1 : Int32)) hx hb dX11_keep_54 (by decide) ?_
    refine lv_iadd hx hb dX11_keep_55 ?_
    refine lv_aload_n hx hb dX11_keep_56 rfl (lv_at hl 1 rfl) ?_
    refine e_geti hx hb hts in_X11_keep_X11 hown K G 97 (by decide) gl_97 rfl 7 (by decide) rfl (hts (.fieldLink RX11 114 "StreetsStepOnModel" "letters" "I") (e_mem (n := 7) rfl)) dX11_keep_57 ?_
    have hi12 := h.1
    have h := h.2
    refine e_iast hx hb K G 121 0 0 220 (by decide) gl_121 rfl hi12 dX11_keep_60 (fun H locs G => ?_)
    obtain ⟨σ13, eσ13⟩ : ∃ z : eS, z = e_ui σ11 121 (v9 + (1 : Int32)).toNatClampNeg (σ11.1 97 7) := ⟨_, rfl⟩
    rw [← eσ13] at G
    have h := h σ13 eσ13
    refine lv_iconst (v := (0 : Int32)) hx hb dX11_keep_61 (by decide) ?_
    refine lv_topi (fun v14 ev14 => ?_)
    have h := h v14 ev14
    refine lv_istore_n (lv' := [(3, .int (v14)), (2, .int (v9)), (0, .ref (ρ (97))), (1, .int (x1))]) hx hb dX11_keep_62 rfl hl (by decide) rfl (fun ls hl => ?_)
    obtain ⟨n41, h⟩ := h
    exact l_X11_keep_63 C K n41 σ13 x1 v9 v14 _ _ _  h G (lv_sub hl [2, 3, 1, 0] rfl)
  · have h := h.2 c4
    refine lv_iconst (v := (0 : Int32)) hx hb dX11_keep_15 (by decide) ?_
    exact e_zret hx hb hr hlocks G h.1 h.2 dX11_keep_16
abbrev rm_X1_copyFrom_v2 : Room := { frames := 1, cells := 0, slots := 0, locals := 40 }
theorem in_X1_copyFrom_v2_X1 : ∀ w ∈ wsX10, w ∈ wsX1_copyFrom := fun w h => List.mem_cons_of_mem _ (List.mem_append_right _ h)
def b_X1_copyFrom_v2_2 (post : eS → Prop) : Nat → eS → Int32 → Prop
  | 0, _, _ => False
  | n + 1, σ, x2 => (((7 : Int32) ≤ x2 → (¬ (0 : Int32) < 0) ∧ (¬ (0 : Int32) < 0) ∧ (¬ (12 : Int32) < 0) ∧ (((0 : Int32)).toNatClampNeg + ((12 : Int32)).toNatClampNeg ≤ 12) ∧ (((0 : Int32)).toNatClampNeg + ((12 : Int32)).toNatClampNeg ≤ 12) ∧ ∀ σ8 : eS, σ8 = e_ua σ 14 (va_cpy (σ.1 82) (σ.1 14) ((0 : Int32)).toNatClampNeg ((0 : Int32)).toNatClampNeg ((12 : Int32)).toNatClampNeg) → (¬ (0 : Int32) < 0) ∧ (¬ (0 : Int32) < 0) ∧ (¬ (12 : Int32) < 0) ∧ (((0 : Int32)).toNatClampNeg + ((12 : Int32)).toNatClampNeg ≤ 12) ∧ (((0 : Int32)).toNatClampNeg + ((12 : Int32)).toNatClampNeg ≤ 12) ∧ ∀ σ14 : eS, σ14 = e_ua σ8 15 (va_cpy (σ8.1 83) (σ8.1 15) ((0 : Int32)).toNatClampNeg ((0 : Int32)).toNatClampNeg ((12 : Int32)).toNatClampNeg) → (¬ (0 : Int32) < 0) ∧ (¬ (0 : Int32) < 0) ∧ (¬ (12 : Int32) < 0) ∧ (((0 : Int32)).toNatClampNeg + ((12 : Int32)).toNatClampNeg ≤ 12) ∧ (((0 : Int32)).toNatClampNeg + ((12 : Int32)).toNatClampNeg ≤ 12) ∧ ∀ σ20 : eS, σ20 = e_ula σ14 16 (va_cpy (σ14.2.1 84) (σ14.2.1 16) ((0 : Int32)).toNatClampNeg ((0 : Int32)).toNatClampNeg ((12 : Int32)).toNatClampNeg) → ∀ σ21 : eS, σ21 = e_ui σ20 5 4 (σ20.1 73 4) → ∀ σ22 : eS, σ22 = e_ui σ21 5 5 (σ21.1 73 5) → ∀ σ23 : eS, σ23 = e_ui σ22 5 6 (σ22.1 73 6) → ∀ σ24 : eS, σ24 = e_ul σ23 5 7 (σ23.2.1 73 7) → post σ24) ∧ (¬ ((7 : Int32) ≤ x2) → (vp_in x2 7) ∧ (vp_in x2 7) ∧ (¬ (0 : Int32) < 0) ∧ (¬ (0 : Int32) < 0) ∧ (¬ (12 : Int32) < 0) ∧ (((0 : Int32)).toNatClampNeg + ((12 : Int32)).toNatClampNeg ≤ 12) ∧ (((0 : Int32)).toNatClampNeg + ((12 : Int32)).toNatClampNeg ≤ 12) ∧ ∀ σ32 : eS, σ32 = e_ua σ (7 + x2.toNatClampNeg) (va_cpy (σ.1 (75 + x2.toNatClampNeg)) (σ.1 (7 + x2.toNatClampNeg)) ((0 : Int32)).toNatClampNeg ((0 : Int32)).toNatClampNeg ((12 : Int32)).toNatClampNeg) → ∀ v33 : Int32, v33 = (x2 + (1 : Int32)) → b_X1_copyFrom_v2_2 post n σ32 v33))
set_option maxHeartbeats 4000000 in
set_option maxRecDepth 100000 in
theorem l_X1_copyFrom_v2_2 {p : Program} {l : Launch} {e : Env} {s : State} {m : MethodId} {args : Array Value} {below : List Frame} {meth : Method} {c : Code} {D : va_G} {ρ : Nat → Nat} {κ : Nat → ClassId} {base : Nat} {post : eS → Prop} (C : eCx p s m args meth c cX1_copyFrom RX1 3 none wsX1_copyFrom) (K : gK D ρ κ base s) : ∀ (n : Nat) (σ : eS) (x2 : Int32) (H : Heap) (locs : List Loc) (ls : Array Slot), b_X1_copyFrom_v2_2 post n σ x2 → gG D ρ κ base s σ H locs → lv_has ls 3 [(0, .ref (ρ (5))), (1, .ref (ρ (73))), (2, .int (x2))] → W p l e rm_X1_copyFrom_v2 s m args below meth c H locs 0 0 (gQv below args s D ρ κ base post) (F0 m 2 ls []) := by
  obtain ⟨hx, hb, hml, hown, hts, hr, hlocks⟩ := id C
  intro n
  induction n with
  | zero => intro σ x2 H locs ls h G hl; exact False.elim h
  | succ n ih =>
    intro σ x2 H locs ls h G hl
    rw [b_X1_copyFrom_v2_2] at h
    refine lv_iload_n hx hb dX1_copyFrom_2 rfl (lv_at hl 2 rfl) ?_
    refine lv_bipush (v := (7 : Int32)) hx hb dX1_copyFrom_3 (by decide) ?_
    refine lv_icmp_ge (tgt := 33) hx hb dX1_copyFrom_5 (by decide) (fun c2 => ?_) (fun c2 => ?_)
    · have h := h.1 c2
      refine lv_aload_n hx hb dX1_copyFrom_33 rfl (lv_at hl 1 rfl) ?_
      refine e_getq hx hb hts in_X1_copyFrom_v2_X1 hown K G 73 (by decide) gl_73 rfl 1 (by decide) 82 rfl (hts (.fieldLink RX1 16 "StreetsStepOn$Book" "lengths" "[I") (e_mem (n := 6) rfl)) dX1_copyFrom_34 ?_
      refine lv_iconst (v := (0 : Int32)) hx hb dX1_copyFrom_37 (by decide) ?_
      refine lv_aload_n hx hb dX1_copyFrom_38 rfl (lv_at hl 0 rfl) ?_
      refine e_getq hx hb hts in_X1_copyFrom_v2_X1 hown K G 5 (by decide) gl_5 rfl 1 (by decide) 14 rfl (hts (.fieldLink RX1 16 "StreetsStepOn$Book" "lengths" "[I") (e_mem (n := 6) rfl)) dX1_copyFrom_39 ?_
      refine lv_iconst (v := (0 : Int32)) hx hb dX1_copyFrom_42 (by decide) ?_
      refine lv_bipush (v := (12 : Int32)) hx hb dX1_copyFrom_43 (by decide) ?_
      have ha3 := h.1
      have h := h.2
      have ha4 := h.1
      have h := h.2
      have ha5 := h.1
      have h := h.2
      have ha6 := h.1
      have h := h.2
      have ha7 := h.1
      have h := h.2
      refine e_copyi hx hb (hml.trans hl.1.symm) hown (hts (.methodLink RX1 27 arraycopyName) (e_mem (n := 2) rfl)) (hts (.native arraycopyName) (e_mem (n := 3) rfl)) (hts (.static arraycopyName) (e_mem (n := 4) rfl)) (hts (.initialized "java/lang/System") (e_mem (n := 5) rfl)) K G 82 14 0 0 12 12 (by decide) (by decide) gl_82 gl_14 rfl rfl ha3 ha4 ha5 ha6 ha7 (Nat.le_of_ble_eq_true rfl) (Nat.le_of_ble_eq_true rfl) dX1_copyFrom_45 (fun H locs G => ?_)
      obtain ⟨σ8, eσ8⟩ : ∃ z : eS, z = e_ua σ 14 (va_cpy (σ.1 82) (σ.1 14) ((0 : Int32)).toNatClampNeg ((0 : Int32)).toNatClampNeg ((12 : Int32)).toNatClampNeg) := ⟨_, rfl⟩
      rw [← eσ8] at G
      have h := h σ8 eσ8
      refine lv_aload_n hx hb dX1_copyFrom_48 rfl (lv_at hl 1 rfl) ?_
      refine e_getq hx hb hts in_X1_copyFrom_v2_X1 hown K G 73 (by decide) gl_73 rfl 2 (by decide) 83 rfl (hts (.fieldLink RX1 20 "StreetsStepOn$Book" "letterNames" "[I") (e_mem (n := 7) rfl)) dX1_copyFrom_49 ?_
      refine lv_iconst (v := (0 : Int32)) hx hb dX1_copyFrom_52 (by decide) ?_
      refine lv_aload_n hx hb dX1_copyFrom_53 rfl (lv_at hl 0 rfl) ?_
      refine e_getq hx hb hts in_X1_copyFrom_v2_X1 hown K G 5 (by decide) gl_5 rfl 2 (by decide) 15 rfl (hts (.fieldLink RX1 20 "StreetsStepOn$Book" "letterNames" "[I") (e_mem (n := 7) rfl)) dX1_copyFrom_54 ?_
      refine lv_iconst (v := (0 : Int32)) hx hb dX1_copyFrom_57 (by decide) ?_
      refine lv_bipush (v := (12 : Int32)) hx hb dX1_copyFrom_58 (by decide) ?_
      have ha9 := h.1
      have h := h.2
      have ha10 := h.1
      have h := h.2
      have ha11 := h.1
      have h := h.2
      have ha12 := h.1
      have h := h.2
      have ha13 := h.1
      have h := h.2
      refine e_copyi hx hb (hml.trans hl.1.symm) hown (hts (.methodLink RX1 27 arraycopyName) (e_mem (n := 2) rfl)) (hts (.native arraycopyName) (e_mem (n := 3) rfl)) (hts (.static arraycopyName) (e_mem (n := 4) rfl)) (hts (.initialized "java/lang/System") (e_mem (n := 5) rfl)) K G 83 15 0 0 12 12 (by decide) (by decide) gl_83 gl_15 rfl rfl ha9 ha10 ha11 ha12 ha13 (Nat.le_of_ble_eq_true rfl) (Nat.le_of_ble_eq_true rfl) dX1_copyFrom_60 (fun H locs G => ?_)
      obtain ⟨σ14, eσ14⟩ : ∃ z : eS, z = e_ua σ8 15 (va_cpy (σ8.1 83) (σ8.1 15) ((0 : Int32)).toNatClampNeg ((0 : Int32)).toNatClampNeg ((12 : Int32)).toNatClampNeg) := ⟨_, rfl⟩
      rw [← eσ14] at G
      have h := h σ14 eσ14
      refine lv_aload_n hx hb dX1_copyFrom_63 rfl (lv_at hl 1 rfl) ?_
      refine e_getq hx hb hts in_X1_copyFrom_v2_X1 hown K G 73 (by decide) gl_73 rfl 3 (by decide) 84 rfl (hts (.fieldLink RX1 23 "StreetsStepOn$Book" "letterDays" "[J") (e_mem (n := 8) rfl)) dX1_copyFrom_64 ?_
      refine lv_iconst (v := (0 : Int32)) hx hb dX1_copyFrom_67 (by decide) ?_
      refine lv_aload_n hx hb dX1_copyFrom_68 rfl (lv_at hl 0 rfl) ?_
      refine e_getq hx hb hts in_X1_copyFrom_v2_X1 hown K G 5 (by decide) gl_5 rfl 3 (by decide) 16 rfl (hts (.fieldLink RX1 23 "StreetsStepOn$Book" "letterDays" "[J") (e_mem (n := 8) rfl)) dX1_copyFrom_69 ?_
      refine lv_iconst (v := (0 : Int32)) hx hb dX1_copyFrom_72 (by decide) ?_
      refine lv_bipush (v := (12 : Int32)) hx hb dX1_copyFrom_73 (by decide) ?_
      have ha15 := h.1
      have h := h.2
      have ha16 := h.1
      have h := h.2
      have ha17 := h.1
      have h := h.2
      have ha18 := h.1
      have h := h.2
      have ha19 := h.1
      have h := h.2
      refine e_copyl hx hb (hml.trans hl.1.symm) hown (hts (.methodLink RX1 27 arraycopyName) (e_mem (n := 2) rfl)) (hts (.native arraycopyName) (e_mem (n := 3) rfl)) (hts (.static arraycopyName) (e_mem (n := 4) rfl)) (hts (.initialized "java/lang/System") (e_mem (n := 5) rfl)) K G 84 16 1 1 12 12 (by decide) (by decide) gl_84 gl_16 rfl rfl ha15 ha16 ha17 ha18 ha19 (Nat.le_of_ble_eq_true rfl) (Nat.le_of_ble_eq_true rfl) dX1_copyFrom_75 (fun H locs G => ?_)
      obtain ⟨σ20, eσ20⟩ : ∃ z : eS, z = e_ula σ14 16 (va_cpy (σ14.2.1 84) (σ14.2.1 16) ((0 : Int32)).toNatClampNeg ((0 : Int32)).toNatClampNeg ((12 : Int32)).toNatClampNeg) := ⟨_, rfl⟩
      rw [← eσ20] at G
      have h := h σ20 eσ20
      refine lv_aload_n hx hb dX1_copyFrom_78 rfl (lv_at hl 0 rfl) ?_
      refine lv_aload_n hx hb dX1_copyFrom_79 rfl (lv_at hl 1 rfl) ?_
      refine e_geti hx hb hts in_X1_copyFrom_v2_X1 hown K G 73 (by decide) gl_73 rfl 4 (by decide) rfl (hts (.fieldLink RX1 33 "StreetsStepOn$Book" "streets" "I") (e_mem (n := 9) rfl)) dX1_copyFrom_80 ?_
      refine e_puti hx hb hts in_X1_copyFrom_v2_X1 tyX1 tyX1_ok nmX1 hown K G 5 (by decide) gl_5 rfl 4 (by decide) rfl (hts (.fieldLink RX1 33 "StreetsStepOn$Book" "streets" "I") (e_mem (n := 9) rfl)) rfl (tyX1_ok 4 (by decide)) rfl rfl dX1_copyFrom_83 (fun H locs G => ?_)
      obtain ⟨σ21, eσ21⟩ : ∃ z : eS, z = e_ui σ20 5 4 (σ20.1 73 4) := ⟨_, rfl⟩
      rw [← eσ21] at G
      have h := h σ21 eσ21
      refine lv_aload_n hx hb dX1_copyFrom_86 rfl (lv_at hl 0 rfl) ?_
      refine lv_aload_n hx hb dX1_copyFrom_87 rfl (lv_at hl 1 rfl) ?_
      refine e_geti hx hb hts in_X1_copyFrom_v2_X1 hown K G 73 (by decide) gl_73 rfl 5 (by decide) rfl (hts (.fieldLink RX1 37 "StreetsStepOn$Book" "orders" "I") (e_mem (n := 10) rfl)) dX1_copyFrom_88 ?_
      refine e_puti hx hb hts in_X1_copyFrom_v2_X1 tyX1 tyX1_ok nmX1 hown K G 5 (by decide) gl_5 rfl 5 (by decide) rfl (hts (.fieldLink RX1 37 "StreetsStepOn$Book" "orders" "I") (e_mem (n := 10) rfl)) rfl (tyX1_ok 5 (by decide)) rfl rfl dX1_copyFrom_91 (fun H locs G => ?_)
      obtain ⟨σ22, eσ22⟩ : ∃ z : eS, z = e_ui σ21 5 5 (σ21.1 73 5) := ⟨_, rfl⟩
      rw [← eσ22] at G
      have h := h σ22 eσ22
      refine lv_aload_n hx hb dX1_copyFrom_94 rfl (lv_at hl 0 rfl) ?_
      refine lv_aload_n hx hb dX1_copyFrom_95 rfl (lv_at hl 1 rfl) ?_
      refine e_geti hx hb hts in_X1_copyFrom_v2_X1 hown K G 73 (by decide) gl_73 rfl 6 (by decide) rfl (hts (.fieldLink RX1 40 "StreetsStepOn$Book" "letters" "I") (e_mem (n := 11) rfl)) dX1_copyFrom_96 ?_
      refine e_puti hx hb hts in_X1_copyFrom_v2_X1 tyX1 tyX1_ok nmX1 hown K G 5 (by decide) gl_5 rfl 6 (by decide) rfl (hts (.fieldLink RX1 40 "StreetsStepOn$Book" "letters" "I") (e_mem (n := 11) rfl)) rfl (tyX1_ok 6 (by decide)) rfl rfl dX1_copyFrom_99 (fun H locs G => ?_)
      obtain ⟨σ23, eσ23⟩ : ∃ z : eS, z = e_ui σ22 5 6 (σ22.1 73 6) := ⟨_, rfl⟩
      rw [← eσ23] at G
      have h := h σ23 eσ23
      refine lv_aload_n hx hb dX1_copyFrom_102 rfl (lv_at hl 0 rfl) ?_
      refine lv_aload_n hx hb dX1_copyFrom_103 rfl (lv_at hl 1 rfl) ?_
      refine e_getl hx hb hts in_X1_copyFrom_v2_X1 hown K G 73 (by decide) gl_73 rfl 7 (by decide) rfl (hts (.fieldLink RX1 43 "StreetsStepOn$Book" "today" "J") (e_mem (n := 12) rfl)) dX1_copyFrom_104 ?_
      refine e_putl hx hb hts in_X1_copyFrom_v2_X1 tyX1 tyX1_ok nmX1 hown K G 5 (by decide) gl_5 rfl 7 (by decide) rfl (hts (.fieldLink RX1 43 "StreetsStepOn$Book" "today" "J") (e_mem (n := 12) rfl)) rfl rfl dX1_copyFrom_107 (fun H locs G => ?_)
      obtain ⟨σ24, eσ24⟩ : ∃ z : eS, z = e_ul σ23 5 7 (σ23.2.1 73 7) := ⟨_, rfl⟩
      rw [← eσ24] at G
      have h := h σ24 eσ24
      exact e_vret hx hb hr hlocks G h dX1_copyFrom_110
    · have h := h.2 c2
      refine lv_aload_n hx hb dX1_copyFrom_8 rfl (lv_at hl 1 rfl) ?_
      refine e_getq hx hb hts in_X1_copyFrom_v2_X1 hown K G 73 (by decide) gl_73 rfl 0 (by decide) 74 rfl (hts (.fieldLink RX1 11 "StreetsStepOn$Book" "nexts" "[[I") (e_mem (n := 1) rfl)) dX1_copyFrom_9 ?_
      refine lv_iload_n hx hb dX1_copyFrom_12 rfl (lv_at hl 2 rfl) ?_
      have hi25 := h.1
      have h := h.2
      refine e_aald hx hb K G 74 5 5 7 (by decide) _ gl_74 rfl rfl hi25 (75 + x2.toNatClampNeg) (gr_74 _ (e_lt hi25)).1 dX1_copyFrom_13 ?_
      refine lv_iconst (v := (0 : Int32)) hx hb dX1_copyFrom_14 (by decide) ?_
      refine lv_aload_n hx hb dX1_copyFrom_15 rfl (lv_at hl 0 rfl) ?_
      refine e_getq hx hb hts in_X1_copyFrom_v2_X1 hown K G 5 (by decide) gl_5 rfl 0 (by decide) 6 rfl (hts (.fieldLink RX1 11 "StreetsStepOn$Book" "nexts" "[[I") (e_mem (n := 1) rfl)) dX1_copyFrom_16 ?_
      refine lv_iload_n hx hb dX1_copyFrom_19 rfl (lv_at hl 2 rfl) ?_
      have hi26 := h.1
      have h := h.2
      refine e_aald hx hb K G 6 5 5 7 (by decide) _ gl_6 rfl rfl hi26 (7 + x2.toNatClampNeg) (gr_6 _ (e_lt hi26)).1 dX1_copyFrom_20 ?_
      refine lv_iconst (v := (0 : Int32)) hx hb dX1_copyFrom_21 (by decide) ?_
      refine lv_bipush (v := (12 : Int32)) hx hb dX1_copyFrom_22 (by decide) ?_
      have ha27 := h.1
      have h := h.2
      have ha28 := h.1
      have h := h.2
      have ha29 := h.1
      have h := h.2
      have ha30 := h.1
      have h := h.2
      have ha31 := h.1
      have h := h.2
      refine e_copyi hx hb (hml.trans hl.1.symm) hown (hts (.methodLink RX1 27 arraycopyName) (e_mem (n := 2) rfl)) (hts (.native arraycopyName) (e_mem (n := 3) rfl)) (hts (.static arraycopyName) (e_mem (n := 4) rfl)) (hts (.initialized "java/lang/System") (e_mem (n := 5) rfl)) K G (75 + x2.toNatClampNeg) (7 + x2.toNatClampNeg) 0 0 12 12 (gr_74 _ (e_lt hi25)).2.2 (gr_6 _ (e_lt hi26)).2.2 (gr_74 _ (e_lt hi25)).2.1 (gr_6 _ (e_lt hi26)).2.1 rfl rfl ha27 ha28 ha29 ha30 ha31 (Nat.le_of_ble_eq_true rfl) (Nat.le_of_ble_eq_true rfl) dX1_copyFrom_24 (fun H locs G => ?_)
      obtain ⟨σ32, eσ32⟩ : ∃ z : eS, z = e_ua σ (7 + x2.toNatClampNeg) (va_cpy (σ.1 (75 + x2.toNatClampNeg)) (σ.1 (7 + x2.toNatClampNeg)) ((0 : Int32)).toNatClampNeg ((0 : Int32)).toNatClampNeg ((12 : Int32)).toNatClampNeg) := ⟨_, rfl⟩
      rw [← eσ32] at G
      have h := h σ32 eσ32
      obtain ⟨v33, ev33⟩ : ∃ y : Int32, y = x2 + (1 : Int32) := ⟨_, rfl⟩
      have h := h v33 ev33
      refine lv_iinc (v := v33) (lv' := [(2, .int (v33)), (0, .ref (ρ (5))), (1, .ref (ρ (73)))]) hx hb dX1_copyFrom_27 hl (k := 2) rfl (by rw [ev33]; rfl) (by decide) rfl (fun ls hl => ?_)
      refine lv_goto (tgt := 2) hx hb dX1_copyFrom_30 (by decide) ?_
      exact ih σ32 v33 _ _ _  h G (lv_sub hl [1, 2, 0] rfl)
def w_X1_copyFrom_v2 (σ : eS) (post : eS → Prop) : Prop := ∀ v1 : Int32, v1 = (0 : Int32) → (∃ n34 : Nat, b_X1_copyFrom_v2_2 post n34 σ v1)
set_option maxHeartbeats 4000000 in
set_option maxRecDepth 100000 in
theorem c_X1_copyFrom_v2 {l : Launch} {D : va_G} {ρ : Nat → Nat} {κ : Nat → ClassId} {base : Nat} {σ : eS} {post : eS → Prop} (h : w_X1_copyFrom_v2 σ post) : gMv l yX1_copyFrom wsX1_copyFrom rm_X1_copyFrom_v2 D ρ κ base [.ref (ρ (5)), .ref (ρ (73))] σ post := by
  refine e_ofWv (cc := cX1_copyFrom) (maxL := 3) (ret := none) (by decide) rfl (Nat.le_of_ble_eq_true rfl) ?_
  intro p e s m below meth c ls C K G hl
  obtain ⟨hx, hb, hml, hown, hts, hr, hlocks⟩ := id C
  have hl : lv_has ls 3 [(0, .ref (ρ (5))), (1, .ref (ρ (73)))] := hl
  unfold w_X1_copyFrom_v2 at h
  refine lv_iconst (v := (0 : Int32)) hx hb dX1_copyFrom_0 (by decide) ?_
  refine lv_topi (fun v1 ev1 => ?_)
  have h := h v1 ev1
  refine lv_istore_n (lv' := [(2, .int (v1)), (0, .ref (ρ (5))), (1, .ref (ρ (73)))]) hx hb dX1_copyFrom_1 rfl hl (by decide) rfl (fun ls hl => ?_)
  obtain ⟨n34, h⟩ := h
  exact l_X1_copyFrom_v2_2 C K n34 σ v1 _ _ _  h G (lv_sub hl [1, 2, 0] rfl)
abbrev rm_X1_copyFrom_v3 : Room := { frames := 1, cells := 0, slots := 0, locals := 40 }
theorem in_X1_copyFrom_v3_X1 : ∀ w ∈ wsX10, w ∈ wsX1_copyFrom := fun w h => List.mem_cons_of_mem _ (List.mem_append_right _ h)
def b_X1_copyFrom_v3_2 (post : eS → Prop) : Nat → eS → Int32 → Prop
  | 0, _, _ => False
  | n + 1, σ, x2 => (((7 : Int32) ≤ x2 → (¬ (0 : Int32) < 0) ∧ (¬ (0 : Int32) < 0) ∧ (¬ (12 : Int32) < 0) ∧ (((0 : Int32)).toNatClampNeg + ((12 : Int32)).toNatClampNeg ≤ 12) ∧ (((0 : Int32)).toNatClampNeg + ((12 : Int32)).toNatClampNeg ≤ 12) ∧ ∀ σ8 : eS, σ8 = e_ua σ 14 (va_cpy (σ.1 94) (σ.1 14) ((0 : Int32)).toNatClampNeg ((0 : Int32)).toNatClampNeg ((12 : Int32)).toNatClampNeg) → (¬ (0 : Int32) < 0) ∧ (¬ (0 : Int32) < 0) ∧ (¬ (12 : Int32) < 0) ∧ (((0 : Int32)).toNatClampNeg + ((12 : Int32)).toNatClampNeg ≤ 12) ∧ (((0 : Int32)).toNatClampNeg + ((12 : Int32)).toNatClampNeg ≤ 12) ∧ ∀ σ14 : eS, σ14 = e_ua σ8 15 (va_cpy (σ8.1 95) (σ8.1 15) ((0 : Int32)).toNatClampNeg ((0 : Int32)).toNatClampNeg ((12 : Int32)).toNatClampNeg) → (¬ (0 : Int32) < 0) ∧ (¬ (0 : Int32) < 0) ∧ (¬ (12 : Int32) < 0) ∧ (((0 : Int32)).toNatClampNeg + ((12 : Int32)).toNatClampNeg ≤ 12) ∧ (((0 : Int32)).toNatClampNeg + ((12 : Int32)).toNatClampNeg ≤ 12) ∧ ∀ σ20 : eS, σ20 = e_ula σ14 16 (va_cpy (σ14.2.1 96) (σ14.2.1 16) ((0 : Int32)).toNatClampNeg ((0 : Int32)).toNatClampNeg ((12 : Int32)).toNatClampNeg) → ∀ σ21 : eS, σ21 = e_ui σ20 5 4 (σ20.1 85 4) → ∀ σ22 : eS, σ22 = e_ui σ21 5 5 (σ21.1 85 5) → ∀ σ23 : eS, σ23 = e_ui σ22 5 6 (σ22.1 85 6) → ∀ σ24 : eS, σ24 = e_ul σ23 5 7 (σ23.2.1 85 7) → post σ24) ∧ (¬ ((7 : Int32) ≤ x2) → (vp_in x2 7) ∧ (vp_in x2 7) ∧ (¬ (0 : Int32) < 0) ∧ (¬ (0 : Int32) < 0) ∧ (¬ (12 : Int32) < 0) ∧ (((0 : Int32)).toNatClampNeg + ((12 : Int32)).toNatClampNeg ≤ 12) ∧ (((0 : Int32)).toNatClampNeg + ((12 : Int32)).toNatClampNeg ≤ 12) ∧ ∀ σ32 : eS, σ32 = e_ua σ (7 + x2.toNatClampNeg) (va_cpy (σ.1 (87 + x2.toNatClampNeg)) (σ.1 (7 + x2.toNatClampNeg)) ((0 : Int32)).toNatClampNeg ((0 : Int32)).toNatClampNeg ((12 : Int32)).toNatClampNeg) → ∀ v33 : Int32, v33 = (x2 + (1 : Int32)) → b_X1_copyFrom_v3_2 post n σ32 v33))
set_option maxHeartbeats 4000000 in
set_option maxRecDepth 100000 in
theorem l_X1_copyFrom_v3_2 {p : Program} {l : Launch} {e : Env} {s : State} {m : MethodId} {args : Array Value} {below : List Frame} {meth : Method} {c : Code} {D : va_G} {ρ : Nat → Nat} {κ : Nat → ClassId} {base : Nat} {post : eS → Prop} (C : eCx p s m args meth c cX1_copyFrom RX1 3 none wsX1_copyFrom) (K : gK D ρ κ base s) : ∀ (n : Nat) (σ : eS) (x2 : Int32) (H : Heap) (locs : List Loc) (ls : Array Slot), b_X1_copyFrom_v3_2 post n σ x2 → gG D ρ κ base s σ H locs → lv_has ls 3 [(0, .ref (ρ (5))), (1, .ref (ρ (85))), (2, .int (x2))] → W p l e rm_X1_copyFrom_v3 s m args below meth c H locs 0 0 (gQv below args s D ρ κ base post) (F0 m 2 ls []) := by
  obtain ⟨hx, hb, hml, hown, hts, hr, hlocks⟩ := id C
  intro n
  induction n with
  | zero => intro σ x2 H locs ls h G hl; exact False.elim h
  | succ n ih =>
    intro σ x2 H locs ls h G hl
    rw [b_X1_copyFrom_v3_2] at h
    refine lv_iload_n hx hb dX1_copyFrom_2 rfl (lv_at hl 2 rfl) ?_
    refine lv_bipush (v := (7 : Int32)) hx hb dX1_copyFrom_3 (by decide) ?_
    refine lv_icmp_ge (tgt := 33) hx hb dX1_copyFrom_5 (by decide) (fun c2 => ?_) (fun c2 => ?_)
    · have h := h.1 c2
      refine lv_aload_n hx hb dX1_copyFrom_33 rfl (lv_at hl 1 rfl) ?_
      refine e_getq hx hb hts in_X1_copyFrom_v3_X1 hown K G 85 (by decide) gl_85 rfl 1 (by decide) 94 rfl (hts (.fieldLink RX1 16 "StreetsStepOn$Book" "lengths" "[I") (e_mem (n := 6) rfl)) dX1_copyFrom_34 ?_
      refine lv_iconst (v := (0 : Int32)) hx hb dX1_copyFrom_37 (by decide) ?_
      refine lv_aload_n hx hb dX1_copyFrom_38 rfl (lv_at hl 0 rfl) ?_
      refine e_getq hx hb hts in_X1_copyFrom_v3_X1 hown K G 5 (by decide) gl_5 rfl 1 (by decide) 14 rfl (hts (.fieldLink RX1 16 "StreetsStepOn$Book" "lengths" "[I") (e_mem (n := 6) rfl)) dX1_copyFrom_39 ?_
      refine lv_iconst (v := (0 : Int32)) hx hb dX1_copyFrom_42 (by decide) ?_
      refine lv_bipush (v := (12 : Int32)) hx hb dX1_copyFrom_43 (by decide) ?_
      have ha3 := h.1
      have h := h.2
      have ha4 := h.1
      have h := h.2
      have ha5 := h.1
      have h := h.2
      have ha6 := h.1
      have h := h.2
      have ha7 := h.1
      have h := h.2
      refine e_copyi hx hb (hml.trans hl.1.symm) hown (hts (.methodLink RX1 27 arraycopyName) (e_mem (n := 2) rfl)) (hts (.native arraycopyName) (e_mem (n := 3) rfl)) (hts (.static arraycopyName) (e_mem (n := 4) rfl)) (hts (.initialized "java/lang/System") (e_mem (n := 5) rfl)) K G 94 14 0 0 12 12 (by decide) (by decide) gl_94 gl_14 rfl rfl ha3 ha4 ha5 ha6 ha7 (Nat.le_of_ble_eq_true rfl) (Nat.le_of_ble_eq_true rfl) dX1_copyFrom_45 (fun H locs G => ?_)
      obtain ⟨σ8, eσ8⟩ : ∃ z : eS, z = e_ua σ 14 (va_cpy (σ.1 94) (σ.1 14) ((0 : Int32)).toNatClampNeg ((0 : Int32)).toNatClampNeg ((12 : Int32)).toNatClampNeg) := ⟨_, rfl⟩
      rw [← eσ8] at G
      have h := h σ8 eσ8
      refine lv_aload_n hx hb dX1_copyFrom_48 rfl (lv_at hl 1 rfl) ?_
      refine e_getq hx hb hts in_X1_copyFrom_v3_X1 hown K G 85 (by decide) gl_85 rfl 2 (by decide) 95 rfl (hts (.fieldLink RX1 20 "StreetsStepOn$Book" "letterNames" "[I") (e_mem (n := 7) rfl)) dX1_copyFrom_49 ?_
      refine lv_iconst (v := (0 : Int32)) hx hb dX1_copyFrom_52 (by decide) ?_
      refine lv_aload_n hx hb dX1_copyFrom_53 rfl (lv_at hl 0 rfl) ?_
      refine e_getq hx hb hts in_X1_copyFrom_v3_X1 hown K G 5 (by decide) gl_5 rfl 2 (by decide) 15 rfl (hts (.fieldLink RX1 20 "StreetsStepOn$Book" "letterNames" "[I") (e_mem (n := 7) rfl)) dX1_copyFrom_54 ?_
      refine lv_iconst (v := (0 : Int32)) hx hb dX1_copyFrom_57 (by decide) ?_
      refine lv_bipush (v := (12 : Int32)) hx hb dX1_copyFrom_58 (by decide) ?_
      have ha9 := h.1
      have h := h.2
      have ha10 := h.1
      have h := h.2
      have ha11 := h.1
      have h := h.2
      have ha12 := h.1
      have h := h.2
      have ha13 := h.1
      have h := h.2
      refine e_copyi hx hb (hml.trans hl.1.symm) hown (hts (.methodLink RX1 27 arraycopyName) (e_mem (n := 2) rfl)) (hts (.native arraycopyName) (e_mem (n := 3) rfl)) (hts (.static arraycopyName) (e_mem (n := 4) rfl)) (hts (.initialized "java/lang/System") (e_mem (n := 5) rfl)) K G 95 15 0 0 12 12 (by decide) (by decide) gl_95 gl_15 rfl rfl ha9 ha10 ha11 ha12 ha13 (Nat.le_of_ble_eq_true rfl) (Nat.le_of_ble_eq_true rfl) dX1_copyFrom_60 (fun H locs G => ?_)
      obtain ⟨σ14, eσ14⟩ : ∃ z : eS, z = e_ua σ8 15 (va_cpy (σ8.1 95) (σ8.1 15) ((0 : Int32)).toNatClampNeg ((0 : Int32)).toNatClampNeg ((12 : Int32)).toNatClampNeg) := ⟨_, rfl⟩
      rw [← eσ14] at G
      have h := h σ14 eσ14
      refine lv_aload_n hx hb dX1_copyFrom_63 rfl (lv_at hl 1 rfl) ?_
      refine e_getq hx hb hts in_X1_copyFrom_v3_X1 hown K G 85 (by decide) gl_85 rfl 3 (by decide) 96 rfl (hts (.fieldLink RX1 23 "StreetsStepOn$Book" "letterDays" "[J") (e_mem (n := 8) rfl)) dX1_copyFrom_64 ?_
      refine lv_iconst (v := (0 : Int32)) hx hb dX1_copyFrom_67 (by decide) ?_
      refine lv_aload_n hx hb dX1_copyFrom_68 rfl (lv_at hl 0 rfl) ?_
      refine e_getq hx hb hts in_X1_copyFrom_v3_X1 hown K G 5 (by decide) gl_5 rfl 3 (by decide) 16 rfl (hts (.fieldLink RX1 23 "StreetsStepOn$Book" "letterDays" "[J") (e_mem (n := 8) rfl)) dX1_copyFrom_69 ?_
      refine lv_iconst (v := (0 : Int32)) hx hb dX1_copyFrom_72 (by decide) ?_
      refine lv_bipush (v := (12 : Int32)) hx hb dX1_copyFrom_73 (by decide) ?_
      have ha15 := h.1
      have h := h.2
      have ha16 := h.1
      have h := h.2
      have ha17 := h.1
      have h := h.2
      have ha18 := h.1
      have h := h.2
      have ha19 := h.1
      have h := h.2
      refine e_copyl hx hb (hml.trans hl.1.symm) hown (hts (.methodLink RX1 27 arraycopyName) (e_mem (n := 2) rfl)) (hts (.native arraycopyName) (e_mem (n := 3) rfl)) (hts (.static arraycopyName) (e_mem (n := 4) rfl)) (hts (.initialized "java/lang/System") (e_mem (n := 5) rfl)) K G 96 16 1 1 12 12 (by decide) (by decide) gl_96 gl_16 rfl rfl ha15 ha16 ha17 ha18 ha19 (Nat.le_of_ble_eq_true rfl) (Nat.le_of_ble_eq_true rfl) dX1_copyFrom_75 (fun H locs G => ?_)
      obtain ⟨σ20, eσ20⟩ : ∃ z : eS, z = e_ula σ14 16 (va_cpy (σ14.2.1 96) (σ14.2.1 16) ((0 : Int32)).toNatClampNeg ((0 : Int32)).toNatClampNeg ((12 : Int32)).toNatClampNeg) := ⟨_, rfl⟩
      rw [← eσ20] at G
      have h := h σ20 eσ20
      refine lv_aload_n hx hb dX1_copyFrom_78 rfl (lv_at hl 0 rfl) ?_
      refine lv_aload_n hx hb dX1_copyFrom_79 rfl (lv_at hl 1 rfl) ?_
      refine e_geti hx hb hts in_X1_copyFrom_v3_X1 hown K G 85 (by decide) gl_85 rfl 4 (by decide) rfl (hts (.fieldLink RX1 33 "StreetsStepOn$Book" "streets" "I") (e_mem (n := 9) rfl)) dX1_copyFrom_80 ?_
      refine e_puti hx hb hts in_X1_copyFrom_v3_X1 tyX1 tyX1_ok nmX1 hown K G 5 (by decide) gl_5 rfl 4 (by decide) rfl (hts (.fieldLink RX1 33 "StreetsStepOn$Book" "streets" "I") (e_mem (n := 9) rfl)) rfl (tyX1_ok 4 (by decide)) rfl rfl dX1_copyFrom_83 (fun H locs G => ?_)
      obtain ⟨σ21, eσ21⟩ : ∃ z : eS, z = e_ui σ20 5 4 (σ20.1 85 4) := ⟨_, rfl⟩
      rw [← eσ21] at G
      have h := h σ21 eσ21
      refine lv_aload_n hx hb dX1_copyFrom_86 rfl (lv_at hl 0 rfl) ?_
      refine lv_aload_n hx hb dX1_copyFrom_87 rfl (lv_at hl 1 rfl) ?_
      refine e_geti hx hb hts in_X1_copyFrom_v3_X1 hown K G 85 (by decide) gl_85 rfl 5 (by decide) rfl (hts (.fieldLink RX1 37 "StreetsStepOn$Book" "orders" "I") (e_mem (n := 10) rfl)) dX1_copyFrom_88 ?_
      refine e_puti hx hb hts in_X1_copyFrom_v3_X1 tyX1 tyX1_ok nmX1 hown K G 5 (by decide) gl_5 rfl 5 (by decide) rfl (hts (.fieldLink RX1 37 "StreetsStepOn$Book" "orders" "I") (e_mem (n := 10) rfl)) rfl (tyX1_ok 5 (by decide)) rfl rfl dX1_copyFrom_91 (fun H locs G => ?_)
      obtain ⟨σ22, eσ22⟩ : ∃ z : eS, z = e_ui σ21 5 5 (σ21.1 85 5) := ⟨_, rfl⟩
      rw [← eσ22] at G
      have h := h σ22 eσ22
      refine lv_aload_n hx hb dX1_copyFrom_94 rfl (lv_at hl 0 rfl) ?_
      refine lv_aload_n hx hb dX1_copyFrom_95 rfl (lv_at hl 1 rfl) ?_
      refine e_geti hx hb hts in_X1_copyFrom_v3_X1 hown K G 85 (by decide) gl_85 rfl 6 (by decide) rfl (hts (.fieldLink RX1 40 "StreetsStepOn$Book" "letters" "I") (e_mem (n := 11) rfl)) dX1_copyFrom_96 ?_
      refine e_puti hx hb hts in_X1_copyFrom_v3_X1 tyX1 tyX1_ok nmX1 hown K G 5 (by decide) gl_5 rfl 6 (by decide) rfl (hts (.fieldLink RX1 40 "StreetsStepOn$Book" "letters" "I") (e_mem (n := 11) rfl)) rfl (tyX1_ok 6 (by decide)) rfl rfl dX1_copyFrom_99 (fun H locs G => ?_)
      obtain ⟨σ23, eσ23⟩ : ∃ z : eS, z = e_ui σ22 5 6 (σ22.1 85 6) := ⟨_, rfl⟩
      rw [← eσ23] at G
      have h := h σ23 eσ23
      refine lv_aload_n hx hb dX1_copyFrom_102 rfl (lv_at hl 0 rfl) ?_
      refine lv_aload_n hx hb dX1_copyFrom_103 rfl (lv_at hl 1 rfl) ?_
      refine e_getl hx hb hts in_X1_copyFrom_v3_X1 hown K G 85 (by decide) gl_85 rfl 7 (by decide) rfl (hts (.fieldLink RX1 43 "StreetsStepOn$Book" "today" "J") (e_mem (n := 12) rfl)) dX1_copyFrom_104 ?_
      refine e_putl hx hb hts in_X1_copyFrom_v3_X1 tyX1 tyX1_ok nmX1 hown K G 5 (by decide) gl_5 rfl 7 (by decide) rfl (hts (.fieldLink RX1 43 "StreetsStepOn$Book" "today" "J") (e_mem (n := 12) rfl)) rfl rfl dX1_copyFrom_107 (fun H locs G => ?_)
      obtain ⟨σ24, eσ24⟩ : ∃ z : eS, z = e_ul σ23 5 7 (σ23.2.1 85 7) := ⟨_, rfl⟩
      rw [← eσ24] at G
      have h := h σ24 eσ24
      exact e_vret hx hb hr hlocks G h dX1_copyFrom_110
    · have h := h.2 c2
      refine lv_aload_n hx hb dX1_copyFrom_8 rfl (lv_at hl 1 rfl) ?_
      refine e_getq hx hb hts in_X1_copyFrom_v3_X1 hown K G 85 (by decide) gl_85 rfl 0 (by decide) 86 rfl (hts (.fieldLink RX1 11 "StreetsStepOn$Book" "nexts" "[[I") (e_mem (n := 1) rfl)) dX1_copyFrom_9 ?_
      refine lv_iload_n hx hb dX1_copyFrom_12 rfl (lv_at hl 2 rfl) ?_
      have hi25 := h.1
      have h := h.2
      refine e_aald hx hb K G 86 5 5 7 (by decide) _ gl_86 rfl rfl hi25 (87 + x2.toNatClampNeg) (gr_86 _ (e_lt hi25)).1 dX1_copyFrom_13 ?_
      refine lv_iconst (v := (0 : Int32)) hx hb dX1_copyFrom_14 (by decide) ?_
      refine lv_aload_n hx hb dX1_copyFrom_15 rfl (lv_at hl 0 rfl) ?_
      refine e_getq hx hb hts in_X1_copyFrom_v3_X1 hown K G 5 (by decide) gl_5 rfl 0 (by decide) 6 rfl (hts (.fieldLink RX1 11 "StreetsStepOn$Book" "nexts" "[[I") (e_mem (n := 1) rfl)) dX1_copyFrom_16 ?_
      refine lv_iload_n hx hb dX1_copyFrom_19 rfl (lv_at hl 2 rfl) ?_
      have hi26 := h.1
      have h := h.2
      refine e_aald hx hb K G 6 5 5 7 (by decide) _ gl_6 rfl rfl hi26 (7 + x2.toNatClampNeg) (gr_6 _ (e_lt hi26)).1 dX1_copyFrom_20 ?_
      refine lv_iconst (v := (0 : Int32)) hx hb dX1_copyFrom_21 (by decide) ?_
      refine lv_bipush (v := (12 : Int32)) hx hb dX1_copyFrom_22 (by decide) ?_
      have ha27 := h.1
      have h := h.2
      have ha28 := h.1
      have h := h.2
      have ha29 := h.1
      have h := h.2
      have ha30 := h.1
      have h := h.2
      have ha31 := h.1
      have h := h.2
      refine e_copyi hx hb (hml.trans hl.1.symm) hown (hts (.methodLink RX1 27 arraycopyName) (e_mem (n := 2) rfl)) (hts (.native arraycopyName) (e_mem (n := 3) rfl)) (hts (.static arraycopyName) (e_mem (n := 4) rfl)) (hts (.initialized "java/lang/System") (e_mem (n := 5) rfl)) K G (87 + x2.toNatClampNeg) (7 + x2.toNatClampNeg) 0 0 12 12 (gr_86 _ (e_lt hi25)).2.2 (gr_6 _ (e_lt hi26)).2.2 (gr_86 _ (e_lt hi25)).2.1 (gr_6 _ (e_lt hi26)).2.1 rfl rfl ha27 ha28 ha29 ha30 ha31 (Nat.le_of_ble_eq_true rfl) (Nat.le_of_ble_eq_true rfl) dX1_copyFrom_24 (fun H locs G => ?_)
      obtain ⟨σ32, eσ32⟩ : ∃ z : eS, z = e_ua σ (7 + x2.toNatClampNeg) (va_cpy (σ.1 (87 + x2.toNatClampNeg)) (σ.1 (7 + x2.toNatClampNeg)) ((0 : Int32)).toNatClampNeg ((0 : Int32)).toNatClampNeg ((12 : Int32)).toNatClampNeg) := ⟨_, rfl⟩
      rw [← eσ32] at G
      have h := h σ32 eσ32
      obtain ⟨v33, ev33⟩ : ∃ y : Int32, y = x2 + (1 : Int32) := ⟨_, rfl⟩
      have h := h v33 ev33
      refine lv_iinc (v := v33) (lv' := [(2, .int (v33)), (0, .ref (ρ (5))), (1, .ref (ρ (85)))]) hx hb dX1_copyFrom_27 hl (k := 2) rfl (by rw [ev33]; rfl) (by decide) rfl (fun ls hl => ?_)
      refine lv_goto (tgt := 2) hx hb dX1_copyFrom_30 (by decide) ?_
      exact ih σ32 v33 _ _ _  h G (lv_sub hl [1, 2, 0] rfl)
def w_X1_copyFrom_v3 (σ : eS) (post : eS → Prop) : Prop := ∀ v1 : Int32, v1 = (0 : Int32) → (∃ n34 : Nat, b_X1_copyFrom_v3_2 post n34 σ v1)
set_option maxHeartbeats 4000000 in
set_option maxRecDepth 100000 in
theorem c_X1_copyFrom_v3 {l : Launch} {D : va_G} {ρ : Nat → Nat} {κ : Nat → ClassId} {base : Nat} {σ : eS} {post : eS → Prop} (h : w_X1_copyFrom_v3 σ post) : gMv l yX1_copyFrom wsX1_copyFrom rm_X1_copyFrom_v3 D ρ κ base [.ref (ρ (5)), .ref (ρ (85))] σ post := by
  refine e_ofWv (cc := cX1_copyFrom) (maxL := 3) (ret := none) (by decide) rfl (Nat.le_of_ble_eq_true rfl) ?_
  intro p e s m below meth c ls C K G hl
  obtain ⟨hx, hb, hml, hown, hts, hr, hlocks⟩ := id C
  have hl : lv_has ls 3 [(0, .ref (ρ (5))), (1, .ref (ρ (85)))] := hl
  unfold w_X1_copyFrom_v3 at h
  refine lv_iconst (v := (0 : Int32)) hx hb dX1_copyFrom_0 (by decide) ?_
  refine lv_topi (fun v1 ev1 => ?_)
  have h := h v1 ev1
  refine lv_istore_n (lv' := [(2, .int (v1)), (0, .ref (ρ (5))), (1, .ref (ρ (85)))]) hx hb dX1_copyFrom_1 rfl hl (by decide) rfl (fun ls hl => ?_)
  obtain ⟨n34, h⟩ := h
  exact l_X1_copyFrom_v3_2 C K n34 σ v1 _ _ _  h G (lv_sub hl [1, 2, 0] rfl)
abbrev rm_X10_again : Room := { frames := 4, cells := 0, slots := 0, locals := 98 }
theorem in_X10_again_X1 : ∀ w ∈ wsX10, w ∈ wsX10_again := fun w h => List.mem_cons_of_mem _ (List.mem_append_left _ (List.mem_append_left _ (List.mem_append_right _ h)))
theorem in_X10_again_X10 : ∀ w ∈ wsX100, w ∈ wsX10_again := fun w h => List.mem_cons_of_mem _ (List.mem_append_left _ (List.mem_append_left _ (List.mem_append_left _ (List.mem_append_right _ h))))
def w_X10_again (σ : eS) (x1 : Int32) (post : Int32 → eS → Prop) : Prop := ((x1 < 0 → ((narrow .boolean (.int (0 : Int32)) = .int (0 : Int32)) ∧ post (0 : Int32) σ)) ∧ (¬ (x1 < 0) → ((x1 < 2 → (vp_in x1 2) ∧ ((x1.toNatClampNeg = 0 → (((σ.1 73 8) = 0 → ((narrow .boolean (.int (0 : Int32)) = .int (0 : Int32)) ∧ post (0 : Int32) σ)) ∧ (¬ ((σ.1 73 8) = 0) → (((σ.1 73 4) = (σ.1 5 4) → w_X1_copyFrom_v2 σ (fun σ6 => w_X10_reckonAnew σ6 (fun σ7 => ((narrow .boolean (.int (1 : Int32)) = .int (1 : Int32)) ∧ post (1 : Int32) σ7)))) ∧ (¬ ((σ.1 73 4) = (σ.1 5 4)) → ((narrow .boolean (.int (0 : Int32)) = .int (0 : Int32)) ∧ post (0 : Int32) σ)))))) ∧ (x1.toNatClampNeg = 1 → (((σ.1 85 8) = 0 → ((narrow .boolean (.int (0 : Int32)) = .int (0 : Int32)) ∧ post (0 : Int32) σ)) ∧ (¬ ((σ.1 85 8) = 0) → (((σ.1 85 4) = (σ.1 5 4) → w_X1_copyFrom_v3 σ (fun σ10 => w_X10_reckonAnew σ10 (fun σ11 => ((narrow .boolean (.int (1 : Int32)) = .int (1 : Int32)) ∧ post (1 : Int32) σ11)))) ∧ (¬ ((σ.1 85 4) = (σ.1 5 4)) → ((narrow .boolean (.int (0 : Int32)) = .int (0 : Int32)) ∧ post (0 : Int32) σ)))))))) ∧ (¬ (x1 < 2) → ((narrow .boolean (.int (0 : Int32)) = .int (0 : Int32)) ∧ post (0 : Int32) σ)))))
set_option maxHeartbeats 4000000 in
set_option maxRecDepth 100000 in
theorem c_X10_again {l : Launch} {D : va_G} {ρ : Nat → Nat} {κ : Nat → ClassId} {base : Nat} {σ : eS} {x1 : Int32} {post : Int32 → eS → Prop} (h : w_X10_again σ x1 post) : gMi l yX10_again wsX10_again rm_X10_again D ρ κ base [.ref (ρ (0)), .int (x1)] σ post := by
  refine e_ofWi (cc := cX10_again) (maxL := 3) (ret := (some .boolean)) (by decide) rfl (Nat.le_of_ble_eq_true rfl) ?_
  intro p e s m below meth c ls C K G hl
  obtain ⟨hx, hb, hml, hown, hts, hr, hlocks⟩ := id C
  have hl : lv_has ls 3 [(0, .ref (ρ (0))), (1, .int (x1))] := hl
  unfold w_X10_again at h
  refine lv_iload_n hx hb dX10_again_0 rfl (lv_at hl 1 rfl) ?_
  refine lv_if_lt (tgt := 13) hx hb dX10_again_1 (by decide) (fun c1 => ?_) (fun c1 => ?_)
  · have h := h.1 c1
    refine lv_iconst (v := (0 : Int32)) hx hb dX10_again_13 (by decide) ?_
    exact e_zret hx hb hr hlocks G h.1 h.2 dX10_again_14
  · have h := h.2 c1
    refine lv_iload_n hx hb dX10_again_4 rfl (lv_at hl 1 rfl) ?_
    refine lv_aload_n hx hb dX10_again_5 rfl (lv_at hl 0 rfl) ?_
    refine e_getq hx hb hts in_X10_again_X10 hown K G 0 (by decide) gl_0 rfl 3 (by decide) 17 rfl (hts (.fieldLink RX10 30 "StreetsStepOn" "keptBooks" "[LStreetsStepOn$Book;") (e_mem (n := 1) rfl)) dX10_again_6 ?_
    refine e_alen (v := 2) hx hb K G 17 7 7 2 (by decide) gl_17 rfl rfl dX10_again_9 ?_
    refine lv_icmp_lt (tgt := 15) hx hb dX10_again_10 (by decide) (fun c2 => ?_) (fun c2 => ?_)
    · have h := h.1 c2
      refine lv_aload_n hx hb dX10_again_15 rfl (lv_at hl 0 rfl) ?_
      refine e_getq hx hb hts in_X10_again_X10 hown K G 0 (by decide) gl_0 rfl 3 (by decide) 17 rfl (hts (.fieldLink RX10 30 "StreetsStepOn" "keptBooks" "[LStreetsStepOn$Book;") (e_mem (n := 1) rfl)) dX10_again_16 ?_
      refine lv_iload_n hx hb dX10_again_19 rfl (lv_at hl 1 rfl) ?_
      have hi3 := h.1
      have h := h.2
      have ec12 := e_lt hi3
      rcases (show x1.toNatClampNeg = 0 ∨ x1.toNatClampNeg = 1 by omega) with c12 | c12
      · have h := h.1 c12
        refine e_aald hx hb K G 17 7 7 2 (by decide) _ gl_17 rfl rfl hi3 73 (by rw [c12]; rfl) dX10_again_20 ?_
        refine lv_astore_n (lv' := [(2, .ref (ρ (73))), (0, .ref (ρ (0))), (1, .int (x1))]) hx hb dX10_again_21 rfl hl (by decide) rfl (fun ls hl => ?_)
        refine lv_aload_n hx hb dX10_again_22 rfl (lv_at hl 0 rfl) ?_
        refine e_getiN hx hb hts in_X10_again_X1 hown K G 73 (by decide) gl_73 rfl 8 (by decide) rfl (e_memq (n := 25) rfl) dX10_again_23 ?_
        refine lv_if_eq (tgt := 43) hx hb dX10_again_26 (by decide) (fun c4 => ?_) (fun c4 => ?_)
        · have h := h.1 c4
          refine lv_iconst (v := (0 : Int32)) hx hb dX10_again_43 (by decide) ?_
          exact e_zret hx hb hr hlocks G h.1 h.2 dX10_again_44
        · have h := h.2 c4
          refine lv_aload_n hx hb dX10_again_29 rfl (lv_at hl 0 rfl) ?_
          refine e_getiN hx hb hts in_X10_again_X1 hown K G 73 (by decide) gl_73 rfl 4 (by decide) rfl (e_memq (n := 18) rfl) dX10_again_30 ?_
          refine lv_aload_n hx hb dX10_again_33 rfl (lv_at hl 1 rfl) ?_
          refine e_getq hx hb hts in_X10_again_X10 hown K G 0 (by decide) gl_0 rfl 2 (by decide) 5 rfl (hts (.fieldLink RX10 26 "StreetsStepOn" "book" "LStreetsStepOn$Book;") (e_mem (n := 2) rfl)) dX10_again_34 ?_
          refine e_getiN hx hb hts in_X10_again_X1 hown K G 5 (by decide) gl_5 rfl 4 (by decide) rfl (e_memq (n := 18) rfl) dX10_again_37 ?_
          refine lv_icmp_eq (tgt := 45) hx hb dX10_again_40 (by decide) (fun c5 => ?_) (fun c5 => ?_)
          · have h := h.1 c5
            refine lv_aload_n hx hb dX10_again_45 rfl (lv_at hl 1 rfl) ?_
            refine e_getq hx hb hts in_X10_again_X10 hown K G 0 (by decide) gl_0 rfl 2 (by decide) 5 rfl (hts (.fieldLink RX10 26 "StreetsStepOn" "book" "LStreetsStepOn$Book;") (e_mem (n := 2) rfl)) dX10_again_46 ?_
            refine lv_aload_n hx hb dX10_again_49 rfl (lv_at hl 0 rfl) ?_
            refine e_callVv (As := [.ref (ρ (73))]) (rest := []) ⟨hx, hb, hml, hown, hts⟩ K G 5 (by decide) gl_5 rfl (c_X1_copyFrom_v2 h) (cwV 1 hts gX10_again_X1_copyFrom rfl rfl rfl (by decide +kernel) ⟨Nat.le_of_ble_eq_true rfl, Nat.le_of_ble_eq_true rfl⟩) rfl hl.1 rfl (Nat.le_of_ble_eq_true rfl) dX10_again_50 ⟨Nat.zero_le _, Nat.zero_le _⟩ (fun σ6 H locs h G => ?_)
            refine lv_aload_n hx hb dX10_again_53 rfl (lv_at hl 1 rfl) ?_
            refine e_callVv (As := []) (rest := []) ⟨hx, hb, hml, hown, hts⟩ K G 0 (by decide) gl_0 rfl (c_X10_reckonAnew h) (cwV 0 hts gX10_again_X10_reckonAnew rfl rfl rfl (by decide +kernel) ⟨Nat.le_of_ble_eq_true rfl, Nat.le_of_ble_eq_true rfl⟩) rfl hl.1 rfl (Nat.le_of_ble_eq_true rfl) dX10_again_54 ⟨Nat.zero_le _, Nat.zero_le _⟩ (fun σ7 H locs h G => ?_)
            refine lv_iconst (v := (1 : Int32)) hx hb dX10_again_57 (by decide) ?_
            exact e_zret hx hb hr hlocks G h.1 h.2 dX10_again_58
          · have h := h.2 c5
            refine lv_iconst (v := (0 : Int32)) hx hb dX10_again_43 (by decide) ?_
            exact e_zret hx hb hr hlocks G h.1 h.2 dX10_again_44
      · have h := h.2 c12
        refine e_aald hx hb K G 17 7 7 2 (by decide) _ gl_17 rfl rfl hi3 85 (by rw [c12]; rfl) dX10_again_20 ?_
        refine lv_astore_n (lv' := [(2, .ref (ρ (85))), (0, .ref (ρ (0))), (1, .int (x1))]) hx hb dX10_again_21 rfl hl (by decide) rfl (fun ls hl => ?_)
        refine lv_aload_n hx hb dX10_again_22 rfl (lv_at hl 0 rfl) ?_
        refine e_getiN hx hb hts in_X10_again_X1 hown K G 85 (by decide) gl_85 rfl 8 (by decide) rfl (e_memq (n := 25) rfl) dX10_again_23 ?_
        refine lv_if_eq (tgt := 43) hx hb dX10_again_26 (by decide) (fun c8 => ?_) (fun c8 => ?_)
        · have h := h.1 c8
          refine lv_iconst (v := (0 : Int32)) hx hb dX10_again_43 (by decide) ?_
          exact e_zret hx hb hr hlocks G h.1 h.2 dX10_again_44
        · have h := h.2 c8
          refine lv_aload_n hx hb dX10_again_29 rfl (lv_at hl 0 rfl) ?_
          refine e_getiN hx hb hts in_X10_again_X1 hown K G 85 (by decide) gl_85 rfl 4 (by decide) rfl (e_memq (n := 18) rfl) dX10_again_30 ?_
          refine lv_aload_n hx hb dX10_again_33 rfl (lv_at hl 1 rfl) ?_
          refine e_getq hx hb hts in_X10_again_X10 hown K G 0 (by decide) gl_0 rfl 2 (by decide) 5 rfl (hts (.fieldLink RX10 26 "StreetsStepOn" "book" "LStreetsStepOn$Book;") (e_mem (n := 2) rfl)) dX10_again_34 ?_
          refine e_getiN hx hb hts in_X10_again_X1 hown K G 5 (by decide) gl_5 rfl 4 (by decide) rfl (e_memq (n := 18) rfl) dX10_again_37 ?_
          refine lv_icmp_eq (tgt := 45) hx hb dX10_again_40 (by decide) (fun c9 => ?_) (fun c9 => ?_)
          · have h := h.1 c9
            refine lv_aload_n hx hb dX10_again_45 rfl (lv_at hl 1 rfl) ?_
            refine e_getq hx hb hts in_X10_again_X10 hown K G 0 (by decide) gl_0 rfl 2 (by decide) 5 rfl (hts (.fieldLink RX10 26 "StreetsStepOn" "book" "LStreetsStepOn$Book;") (e_mem (n := 2) rfl)) dX10_again_46 ?_
            refine lv_aload_n hx hb dX10_again_49 rfl (lv_at hl 0 rfl) ?_
            refine e_callVv (As := [.ref (ρ (85))]) (rest := []) ⟨hx, hb, hml, hown, hts⟩ K G 5 (by decide) gl_5 rfl (c_X1_copyFrom_v3 h) (cwV 1 hts gX10_again_X1_copyFrom rfl rfl rfl (by decide +kernel) ⟨Nat.le_of_ble_eq_true rfl, Nat.le_of_ble_eq_true rfl⟩) rfl hl.1 rfl (Nat.le_of_ble_eq_true rfl) dX10_again_50 ⟨Nat.zero_le _, Nat.zero_le _⟩ (fun σ10 H locs h G => ?_)
            refine lv_aload_n hx hb dX10_again_53 rfl (lv_at hl 1 rfl) ?_
            refine e_callVv (As := []) (rest := []) ⟨hx, hb, hml, hown, hts⟩ K G 0 (by decide) gl_0 rfl (c_X10_reckonAnew h) (cwV 0 hts gX10_again_X10_reckonAnew rfl rfl rfl (by decide +kernel) ⟨Nat.le_of_ble_eq_true rfl, Nat.le_of_ble_eq_true rfl⟩) rfl hl.1 rfl (Nat.le_of_ble_eq_true rfl) dX10_again_54 ⟨Nat.zero_le _, Nat.zero_le _⟩ (fun σ11 H locs h G => ?_)
            refine lv_iconst (v := (1 : Int32)) hx hb dX10_again_57 (by decide) ?_
            exact e_zret hx hb hr hlocks G h.1 h.2 dX10_again_58
          · have h := h.2 c9
            refine lv_iconst (v := (0 : Int32)) hx hb dX10_again_43 (by decide) ?_
            exact e_zret hx hb hr hlocks G h.1 h.2 dX10_again_44
    · have h := h.2 c2
      refine lv_iconst (v := (0 : Int32)) hx hb dX10_again_13 (by decide) ?_
      exact e_zret hx hb hr hlocks G h.1 h.2 dX10_again_14
abbrev rm_X11_again : Room := { frames := 1, cells := 0, slots := 0, locals := 25 }
theorem in_X11_again_X11 : ∀ w ∈ wsX110, w ∈ wsX11_again := fun w h => List.mem_cons_of_mem _ (List.mem_append_right _ h)
def b_X11_again_145 (post : Int32 → eS → Prop) : Nat → eS → Int32 → Int32 → Int32 → Prop
  | 0, _, _, _, _ => False
  | n + 1, σ, x1, x2, x3 => (((12 : Int32) ≤ x3 → ((narrow .boolean (.int (1 : Int32)) = .int (1 : Int32)) ∧ post (1 : Int32) σ)) ∧ (¬ ((12 : Int32) ≤ x3) → (vp_in (x2 + x3) 220) ∧ (vp_in x3 12) ∧ ∀ σ26 : eS, σ26 = e_ui σ 102 x3.toNatClampNeg (σ.1 121 (x2 + x3).toNatClampNeg) → (vp_in ((((13 : Int32) * x1) + (1 : Int32)) + x3) 26) ∧ (vp_in x3 12) ∧ ∀ σ29 : eS, σ29 = e_ul σ26 103 x3.toNatClampNeg (σ26.2.1 122 ((((13 : Int32) * x1) + (1 : Int32)) + x3).toNatClampNeg) → ∀ v30 : Int32, v30 = (x3 + (1 : Int32)) → b_X11_again_145 post n σ29 x1 x2 v30))
set_option maxHeartbeats 4000000 in
set_option maxRecDepth 100000 in
theorem l_X11_again_145 {p : Program} {l : Launch} {e : Env} {s : State} {m : MethodId} {args : Array Value} {below : List Frame} {meth : Method} {c : Code} {D : va_G} {ρ : Nat → Nat} {κ : Nat → ClassId} {base : Nat} {post : Int32 → eS → Prop} (C : eCx p s m args meth c cX11_again RX11 4 (some .boolean) wsX11_again) (K : gK D ρ κ base s) : ∀ (n : Nat) (σ : eS) (x1 : Int32) (x2 : Int32) (x3 : Int32) (H : Heap) (locs : List Loc) (ls : Array Slot), b_X11_again_145 post n σ x1 x2 x3 → gG D ρ κ base s σ H locs → lv_has ls 4 [(0, .ref (ρ (97))), (1, .int (x1)), (2, .int (x2)), (3, .int (x3))] → W p l e rm_X11_again s m args below meth c H locs 0 0 (gQi below args s D ρ κ base post) (F0 m 145 ls []) := by
  obtain ⟨hx, hb, hml, hown, hts, hr, hlocks⟩ := id C
  intro n
  induction n with
  | zero => intro σ x1 x2 x3 H locs ls h G hl; exact False.elim h
  | succ n ih =>
    intro σ x1 x2 x3 H locs ls h G hl
    rw [b_X11_again_145] at h
    refine lv_iload_n hx hb dX11_again_145 rfl (lv_at hl 3 rfl) ?_
    refine lv_bipush (v := (12 : Int32)) hx hb dX11_again_146 (by decide) ?_
    refine lv_icmp_ge (tgt := 190) hx hb dX11_again_148 (by decide) (fun c23 => ?_) (fun c23 => ?_)
    · have h := h.1 c23
      refine lv_iconst (v := (1 : Int32)) hx hb dX11_again_190 (by decide) ?_
      exact e_zret hx hb hr hlocks G h.1 h.2 dX11_again_191
    · have h := h.2 c23
      refine lv_aload_n hx hb dX11_again_151 rfl (lv_at hl 0 rfl) ?_
      refine e_getq hx hb hts in_X11_again_X11 hown K G 97 (by decide) gl_97 rfl 8 (by decide) 102 rfl (hts (.fieldLink RX11 22 "StreetsStepOnModel" "letterName" "[I") (e_mem (n := 12) rfl)) dX11_again_152 ?_
      refine lv_iload_n hx hb dX11_again_155 rfl (lv_at hl 3 rfl) ?_
      refine lv_aload_n hx hb dX11_again_156 rfl (lv_at hl 0 rfl) ?_
      refine e_getq hx hb hts in_X11_again_X11 hown K G 97 (by decide) gl_97 rfl 51 (by decide) 121 rfl (hts (.fieldLink RX11 85 "StreetsStepOnModel" "put" "[I") (e_mem (n := 5) rfl)) dX11_again_157 ?_
      refine lv_iload_n hx hb dX11_again_160 rfl (lv_at hl 2 rfl) ?_
      refine lv_iload_n hx hb dX11_again_161 rfl (lv_at hl 3 rfl) ?_
      refine lv_iadd hx hb dX11_again_162 ?_
      have hi24 := h.1
      have h := h.2
      refine e_iald hx hb K G 121 0 0 220 (by decide) gl_121 rfl hi24 dX11_again_163 ?_
      have hi25 := h.1
      have h := h.2
      refine e_iast hx hb K G 102 0 0 12 (by decide) gl_102 rfl hi25 dX11_again_164 (fun H locs G => ?_)
      obtain ⟨σ26, eσ26⟩ : ∃ z : eS, z = e_ui σ 102 x3.toNatClampNeg (σ.1 121 (x2 + x3).toNatClampNeg) := ⟨_, rfl⟩
      rw [← eσ26] at G
      have h := h σ26 eσ26
      refine lv_aload_n hx hb dX11_again_165 rfl (lv_at hl 0 rfl) ?_
      refine e_getq hx hb hts in_X11_again_X11 hown K G 97 (by decide) gl_97 rfl 9 (by decide) 103 rfl (hts (.fieldLink RX11 25 "StreetsStepOnModel" "letterDay" "[J") (e_mem (n := 13) rfl)) dX11_again_166 ?_
      refine lv_iload_n hx hb dX11_again_169 rfl (lv_at hl 3 rfl) ?_
      refine lv_aload_n hx hb dX11_again_170 rfl (lv_at hl 0 rfl) ?_
      refine e_getq hx hb hts in_X11_again_X11 hown K G 97 (by decide) gl_97 rfl 52 (by decide) 122 rfl (hts (.fieldLink RX11 88 "StreetsStepOnModel" "putDays" "[J") (e_mem (n := 10) rfl)) dX11_again_171 ?_
      refine lv_bipush (v := (13 : Int32)) hx hb dX11_again_174 (by decide) ?_
      refine lv_iload_n hx hb dX11_again_176 rfl (lv_at hl 1 rfl) ?_
      refine lv_imul hx hb dX11_again_177 ?_
      refine lv_iconst (v := (1 : Int32)) hx hb dX11_again_178 (by decide) ?_
      refine lv_iadd hx hb dX11_again_179 ?_
      refine lv_iload_n hx hb dX11_again_180 rfl (lv_at hl 3 rfl) ?_
      refine lv_iadd hx hb dX11_again_181 ?_
      have hi27 := h.1
      have h := h.2
      refine e_lald hx hb K G 122 1 1 26 (by decide) gl_122 rfl hi27 dX11_again_182 ?_
      have hi28 := h.1
      have h := h.2
      refine e_last hx hb K G 103 1 1 12 (by decide) gl_103 rfl hi28 dX11_again_183 (fun H locs G => ?_)
      obtain ⟨σ29, eσ29⟩ : ∃ z : eS, z = e_ul σ26 103 x3.toNatClampNeg (σ26.2.1 122 ((((13 : Int32) * x1) + (1 : Int32)) + x3).toNatClampNeg) := ⟨_, rfl⟩
      rw [← eσ29] at G
      have h := h σ29 eσ29
      obtain ⟨v30, ev30⟩ : ∃ y : Int32, y = x3 + (1 : Int32) := ⟨_, rfl⟩
      have h := h v30 ev30
      refine lv_iinc (v := v30) (lv' := [(3, .int (v30)), (0, .ref (ρ (97))), (1, .int (x1)), (2, .int (x2))]) hx hb dX11_again_184 hl (k := 3) rfl (by rw [ev30]; rfl) (by decide) rfl (fun ls hl => ?_)
      refine lv_goto (tgt := 145) hx hb dX11_again_187 (by decide) ?_
      exact ih σ29 x1 x2 v30 _ _ _  h G (lv_sub hl [1, 2, 3, 0] rfl)
def b_X11_again_101 (post : Int32 → eS → Prop) : Nat → eS → Int32 → Int32 → Int32 → Prop
  | 0, _, _, _, _ => False
  | n + 1, σ, x1, x2, x3 => (((12 : Int32) ≤ x3 → ∀ v19 : Int32, v19 = (x2 + (12 : Int32)) → (vp_in ((13 : Int32) * x1) 26) ∧ ∀ σ21 : eS, σ21 = e_ul σ 97 6 (σ.2.1 122 ((13 : Int32) * x1).toNatClampNeg) → ∀ v22 : Int32, v22 = (0 : Int32) → (∃ n31 : Nat, b_X11_again_145 post n31 σ21 x1 v19 v22)) ∧ (¬ ((12 : Int32) ≤ x3) → (vp_in (x2 + x3) 220) ∧ (vp_in x3 12) ∧ ∀ σ34 : eS, σ34 = e_ui σ 100 x3.toNatClampNeg (σ.1 121 (x2 + x3).toNatClampNeg) → ∀ v35 : Int32, v35 = (x3 + (1 : Int32)) → b_X11_again_101 post n σ34 x1 x2 v35))
set_option maxHeartbeats 4000000 in
set_option maxRecDepth 100000 in
theorem l_X11_again_101 {p : Program} {l : Launch} {e : Env} {s : State} {m : MethodId} {args : Array Value} {below : List Frame} {meth : Method} {c : Code} {D : va_G} {ρ : Nat → Nat} {κ : Nat → ClassId} {base : Nat} {post : Int32 → eS → Prop} (C : eCx p s m args meth c cX11_again RX11 4 (some .boolean) wsX11_again) (K : gK D ρ κ base s) : ∀ (n : Nat) (σ : eS) (x1 : Int32) (x2 : Int32) (x3 : Int32) (H : Heap) (locs : List Loc) (ls : Array Slot), b_X11_again_101 post n σ x1 x2 x3 → gG D ρ κ base s σ H locs → lv_has ls 4 [(0, .ref (ρ (97))), (1, .int (x1)), (2, .int (x2)), (3, .int (x3))] → W p l e rm_X11_again s m args below meth c H locs 0 0 (gQi below args s D ρ κ base post) (F0 m 101 ls []) := by
  obtain ⟨hx, hb, hml, hown, hts, hr, hlocks⟩ := id C
  intro n
  induction n with
  | zero => intro σ x1 x2 x3 H locs ls h G hl; exact False.elim h
  | succ n ih =>
    intro σ x1 x2 x3 H locs ls h G hl
    rw [b_X11_again_101] at h
    refine lv_iload_n hx hb dX11_again_101 rfl (lv_at hl 3 rfl) ?_
    refine lv_bipush (v := (12 : Int32)) hx hb dX11_again_102 (by decide) ?_
    refine lv_icmp_ge (tgt := 127) hx hb dX11_again_104 (by decide) (fun c18 => ?_) (fun c18 => ?_)
    · have h := h.1 c18
      obtain ⟨v19, ev19⟩ : ∃ y : Int32, y = x2 + (12 : Int32) := ⟨_, rfl⟩
      have h := h v19 ev19
      refine lv_iinc (v := v19) (lv' := [(2, .int (v19)), (0, .ref (ρ (97))), (1, .int (x1)), (3, .int (x3))]) hx hb dX11_again_127 hl (k := 2) rfl (by rw [ev19]; rfl) (by decide) rfl (fun ls hl => ?_)
      refine lv_aload_n hx hb dX11_again_130 rfl (lv_at hl 1 rfl) ?_
      refine lv_aload_n hx hb dX11_again_131 rfl (lv_at hl 1 rfl) ?_
      refine e_getq hx hb hts in_X11_again_X11 hown K G 97 (by decide) gl_97 rfl 52 (by decide) 122 rfl (hts (.fieldLink RX11 88 "StreetsStepOnModel" "putDays" "[J") (e_mem (n := 10) rfl)) dX11_again_132 ?_
      refine lv_bipush (v := (13 : Int32)) hx hb dX11_again_135 (by decide) ?_
      refine lv_iload_n hx hb dX11_again_137 rfl (lv_at hl 2 rfl) ?_
      refine lv_imul hx hb dX11_again_138 ?_
      have hi20 := h.1
      have h := h.2
      refine e_lald hx hb K G 122 1 1 26 (by decide) gl_122 rfl hi20 dX11_again_139 ?_
      refine e_putl hx hb hts in_X11_again_X11 tyX11 tyX11_ok nmX11 hown K G 97 (by decide) gl_97 rfl 6 (by decide) rfl (hts (.fieldLink RX11 197 "StreetsStepOnModel" "today" "J") (e_mem (n := 11) rfl)) rfl rfl dX11_again_140 (fun H locs G => ?_)
      obtain ⟨σ21, eσ21⟩ : ∃ z : eS, z = e_ul σ 97 6 (σ.2.1 122 ((13 : Int32) * x1).toNatClampNeg) := ⟨_, rfl⟩
      rw [← eσ21] at G
      have h := h σ21 eσ21
      refine lv_iconst (v := (0 : Int32)) hx hb dX11_again_143 (by decide) ?_
      refine lv_topi (fun v22 ev22 => ?_)
      have h := h v22 ev22
      refine lv_istore_n (lv' := [(3, .int (v22)), (2, .int (v19)), (0, .ref (ρ (97))), (1, .int (x1))]) hx hb dX11_again_144 rfl hl (by decide) rfl (fun ls hl => ?_)
      obtain ⟨n31, h⟩ := h
      exact l_X11_again_145 C K n31 σ21 x1 v19 v22 _ _ _  h G (lv_sub hl [2, 3, 1, 0] rfl)
    · have h := h.2 c18
      refine lv_aload_n hx hb dX11_again_107 rfl (lv_at hl 0 rfl) ?_
      refine e_getq hx hb hts in_X11_again_X11 hown K G 97 (by decide) gl_97 rfl 3 (by decide) 100 rfl (hts (.fieldLink RX11 16 "StreetsStepOnModel" "length" "[I") (e_mem (n := 9) rfl)) dX11_again_108 ?_
      refine lv_iload_n hx hb dX11_again_111 rfl (lv_at hl 3 rfl) ?_
      refine lv_aload_n hx hb dX11_again_112 rfl (lv_at hl 0 rfl) ?_
      refine e_getq hx hb hts in_X11_again_X11 hown K G 97 (by decide) gl_97 rfl 51 (by decide) 121 rfl (hts (.fieldLink RX11 85 "StreetsStepOnModel" "put" "[I") (e_mem (n := 5) rfl)) dX11_again_113 ?_
      refine lv_iload_n hx hb dX11_again_116 rfl (lv_at hl 2 rfl) ?_
      refine lv_iload_n hx hb dX11_again_117 rfl (lv_at hl 3 rfl) ?_
      refine lv_iadd hx hb dX11_again_118 ?_
      have hi32 := h.1
      have h := h.2
      refine e_iald hx hb K G 121 0 0 220 (by decide) gl_121 rfl hi32 dX11_again_119 ?_
      have hi33 := h.1
      have h := h.2
      refine e_iast hx hb K G 100 0 0 12 (by decide) gl_100 rfl hi33 dX11_again_120 (fun H locs G => ?_)
      obtain ⟨σ34, eσ34⟩ : ∃ z : eS, z = e_ui σ 100 x3.toNatClampNeg (σ.1 121 (x2 + x3).toNatClampNeg) := ⟨_, rfl⟩
      rw [← eσ34] at G
      have h := h σ34 eσ34
      obtain ⟨v35, ev35⟩ : ∃ y : Int32, y = x3 + (1 : Int32) := ⟨_, rfl⟩
      have h := h v35 ev35
      refine lv_iinc (v := v35) (lv' := [(3, .int (v35)), (0, .ref (ρ (97))), (1, .int (x1)), (2, .int (x2))]) hx hb dX11_again_121 hl (k := 3) rfl (by rw [ev35]; rfl) (by decide) rfl (fun ls hl => ?_)
      refine lv_goto (tgt := 101) hx hb dX11_again_124 (by decide) ?_
      exact ih σ34 x1 x2 v35 _ _ _  h G (lv_sub hl [1, 2, 3, 0] rfl)
def b_X11_again_68 (post : Int32 → eS → Prop) : Nat → eS → Int32 → Int32 → Int32 → Prop
  | 0, _, _, _, _ => False
  | n + 1, σ, x1, x2, x3 => (((84 : Int32) ≤ x3 → ∀ v16 : Int32, v16 = (x2 + (86 : Int32)) → ∀ v17 : Int32, v17 = (0 : Int32) → (∃ n36 : Nat, b_X11_again_101 post n36 σ x1 v16 v17)) ∧ (¬ ((84 : Int32) ≤ x3) → (vp_in ((x2 + (2 : Int32)) + x3) 220) ∧ (vp_in x3 84) ∧ ∀ σ39 : eS, σ39 = e_ui σ 101 x3.toNatClampNeg (σ.1 121 ((x2 + (2 : Int32)) + x3).toNatClampNeg) → ∀ v40 : Int32, v40 = (x3 + (1 : Int32)) → b_X11_again_68 post n σ39 x1 x2 v40))
set_option maxHeartbeats 4000000 in
set_option maxRecDepth 100000 in
theorem l_X11_again_68 {p : Program} {l : Launch} {e : Env} {s : State} {m : MethodId} {args : Array Value} {below : List Frame} {meth : Method} {c : Code} {D : va_G} {ρ : Nat → Nat} {κ : Nat → ClassId} {base : Nat} {post : Int32 → eS → Prop} (C : eCx p s m args meth c cX11_again RX11 4 (some .boolean) wsX11_again) (K : gK D ρ κ base s) : ∀ (n : Nat) (σ : eS) (x1 : Int32) (x2 : Int32) (x3 : Int32) (H : Heap) (locs : List Loc) (ls : Array Slot), b_X11_again_68 post n σ x1 x2 x3 → gG D ρ κ base s σ H locs → lv_has ls 4 [(0, .ref (ρ (97))), (1, .int (x1)), (2, .int (x2)), (3, .int (x3))] → W p l e rm_X11_again s m args below meth c H locs 0 0 (gQi below args s D ρ κ base post) (F0 m 68 ls []) := by
  obtain ⟨hx, hb, hml, hown, hts, hr, hlocks⟩ := id C
  intro n
  induction n with
  | zero => intro σ x1 x2 x3 H locs ls h G hl; exact False.elim h
  | succ n ih =>
    intro σ x1 x2 x3 H locs ls h G hl
    rw [b_X11_again_68] at h
    refine lv_iload_n hx hb dX11_again_68 rfl (lv_at hl 3 rfl) ?_
    refine lv_bipush (v := (84 : Int32)) hx hb dX11_again_69 (by decide) ?_
    refine lv_icmp_ge (tgt := 96) hx hb dX11_again_71 (by decide) (fun c15 => ?_) (fun c15 => ?_)
    · have h := h.1 c15
      obtain ⟨v16, ev16⟩ : ∃ y : Int32, y = x2 + (86 : Int32) := ⟨_, rfl⟩
      have h := h v16 ev16
      refine lv_iinc (v := v16) (lv' := [(2, .int (v16)), (0, .ref (ρ (97))), (1, .int (x1)), (3, .int (x3))]) hx hb dX11_again_96 hl (k := 2) rfl (by rw [ev16]; rfl) (by decide) rfl (fun ls hl => ?_)
      refine lv_iconst (v := (0 : Int32)) hx hb dX11_again_99 (by decide) ?_
      refine lv_topi (fun v17 ev17 => ?_)
      have h := h v17 ev17
      refine lv_istore_n (lv' := [(3, .int (v17)), (2, .int (v16)), (0, .ref (ρ (97))), (1, .int (x1))]) hx hb dX11_again_100 rfl hl (by decide) rfl (fun ls hl => ?_)
      obtain ⟨n36, h⟩ := h
      exact l_X11_again_101 C K n36 σ x1 v16 v17 _ _ _  h G (lv_sub hl [2, 3, 1, 0] rfl)
    · have h := h.2 c15
      refine lv_aload_n hx hb dX11_again_74 rfl (lv_at hl 0 rfl) ?_
      refine e_getq hx hb hts in_X11_again_X11 hown K G 97 (by decide) gl_97 rfl 5 (by decide) 101 rfl (hts (.fieldLink RX11 19 "StreetsStepOnModel" "nexts" "[I") (e_mem (n := 8) rfl)) dX11_again_75 ?_
      refine lv_iload_n hx hb dX11_again_78 rfl (lv_at hl 3 rfl) ?_
      refine lv_aload_n hx hb dX11_again_79 rfl (lv_at hl 0 rfl) ?_
      refine e_getq hx hb hts in_X11_again_X11 hown K G 97 (by decide) gl_97 rfl 51 (by decide) 121 rfl (hts (.fieldLink RX11 85 "StreetsStepOnModel" "put" "[I") (e_mem (n := 5) rfl)) dX11_again_80 ?_
      refine lv_iload_n hx hb dX11_again_83 rfl (lv_at hl 2 rfl) ?_
      refine lv_iconst (v := (2 : Int32)) hx hb dX11_again_84 (by decide) ?_
      refine lv_iadd hx hb dX11_again_85 ?_
      refine lv_iload_n hx hb dX11_again_86 rfl (lv_at hl 3 rfl) ?_
      refine lv_iadd hx hb dX11_again_87 ?_
      have hi37 := h.1
      have h := h.2
      refine e_iald hx hb K G 121 0 0 220 (by decide) gl_121 rfl hi37 dX11_again_88 ?_
      have hi38 := h.1
      have h := h.2
      refine e_iast hx hb K G 101 0 0 84 (by decide) gl_101 rfl hi38 dX11_again_89 (fun H locs G => ?_)
      obtain ⟨σ39, eσ39⟩ : ∃ z : eS, z = e_ui σ 101 x3.toNatClampNeg (σ.1 121 ((x2 + (2 : Int32)) + x3).toNatClampNeg) := ⟨_, rfl⟩
      rw [← eσ39] at G
      have h := h σ39 eσ39
      obtain ⟨v40, ev40⟩ : ∃ y : Int32, y = x3 + (1 : Int32) := ⟨_, rfl⟩
      have h := h v40 ev40
      refine lv_iinc (v := v40) (lv' := [(3, .int (v40)), (0, .ref (ρ (97))), (1, .int (x1)), (2, .int (x2))]) hx hb dX11_again_90 hl (k := 3) rfl (by rw [ev40]; rfl) (by decide) rfl (fun ls hl => ?_)
      refine lv_goto (tgt := 68) hx hb dX11_again_93 (by decide) ?_
      exact ih σ39 x1 x2 v40 _ _ _  h G (lv_sub hl [1, 2, 3, 0] rfl)
def w_X11_again (σ : eS) (x1 : Int32) (post : Int32 → eS → Prop) : Prop := ∀ σ1 : eS, σ1 = e_ui σ 97 18 (0 : Int32) → w_X11_in σ1 (x1.toInt64) (0 : Int64) (1 : Int64) (fun r3 σ2 => ((r3 = 0 → ((narrow .boolean (.int (0 : Int32)) = .int (0 : Int32)) ∧ post (0 : Int32) σ2)) ∧ (¬ (r3 = 0) → (vp_in x1 2) ∧ (((σ2.1 123 x1.toNatClampNeg) = 0 → ((narrow .boolean (.int (0 : Int32)) = .int (0 : Int32)) ∧ post (0 : Int32) σ2)) ∧ (¬ ((σ2.1 123 x1.toNatClampNeg) = 0) → (vp_in x1 2) ∧ (((σ2.1 124 x1.toNatClampNeg) = (σ2.1 97 50) → ∀ v9 : Int32, v9 = ((110 : Int32) * x1) → (vp_in v9 220) ∧ ∀ σ11 : eS, σ11 = e_ui σ2 97 4 (σ2.1 121 v9.toNatClampNeg) → (vp_in (v9 + (1 : Int32)) 220) ∧ ∀ σ13 : eS, σ13 = e_ui σ11 97 7 (σ11.1 121 (v9 + (1 : Int32)).toNatClampNeg) → ∀ v14 : Int32, v14 = (0 : Int32) → (∃ n41 : Nat, b_X11_again_68 post n41 σ13 x1 v9 v14)) ∧ (¬ ((σ2.1 124 x1.toNatClampNeg) = (σ2.1 97 50)) → ((narrow .boolean (.int (0 : Int32)) = .int (0 : Int32)) ∧ post (0 : Int32) σ2))))))))
set_option maxHeartbeats 4000000 in
set_option maxRecDepth 100000 in
theorem c_X11_again {l : Launch} {D : va_G} {ρ : Nat → Nat} {κ : Nat → ClassId} {base : Nat} {σ : eS} {x1 : Int32} {post : Int32 → eS → Prop} (h : w_X11_again σ x1 post) : gMi l yX11_again wsX11_again rm_X11_again D ρ κ base [.ref (ρ (97)), .int (x1)] σ post := by
  refine e_ofWi (cc := cX11_again) (maxL := 4) (ret := (some .boolean)) (by decide) rfl (Nat.le_of_ble_eq_true rfl) ?_
  intro p e s m below meth c ls C K G hl
  obtain ⟨hx, hb, hml, hown, hts, hr, hlocks⟩ := id C
  have hl : lv_has ls 4 [(0, .ref (ρ (97))), (1, .int (x1))] := hl
  unfold w_X11_again at h
  refine lv_aload_n hx hb dX11_again_0 rfl (lv_at hl 0 rfl) ?_
  refine lv_iconst (v := (0 : Int32)) hx hb dX11_again_1 (by decide) ?_
  refine e_puti hx hb hts in_X11_again_X11 tyX11 tyX11_ok nmX11 hown K G 97 (by decide) gl_97 rfl 18 (by decide) rfl (hts (.fieldLink RX11 98 "StreetsStepOnModel" "thrown" "I") (e_mem (n := 1) rfl)) rfl (tyX11_ok 18 (by decide)) rfl rfl dX11_again_2 (fun H locs G => ?_)
  obtain ⟨σ1, eσ1⟩ : ∃ z : eS, z = e_ui σ 97 18 (0 : Int32) := ⟨_, rfl⟩
  rw [← eσ1] at G
  have h := h σ1 eσ1
  refine lv_iload_n hx hb dX11_again_5 rfl (lv_at hl 1 rfl) ?_
  refine lv_i2l hx hb dX11_again_6 rfl ?_
  refine lv_lconst (v := (0 : Int64)) hx hb dX11_again_7 (by decide) ?_
  refine lv_lconst (v := (1 : Int64)) hx hb dX11_again_8 (by decide) ?_
  refine e_callSi (As := [.long (x1.toInt64), .long ((0 : Int64)), .long ((1 : Int64))]) (rest := []) ⟨hx, hb, hml, hown, hts⟩ K G (c_X11_in h) (va_cwS 3 hts gX11_again_X11_in rfl rfl rfl (by decide +kernel) ⟨Nat.le_of_ble_eq_true rfl, Nat.le_of_ble_eq_true rfl⟩) rfl hl.1 rfl (Nat.le_of_ble_eq_true rfl) dX11_again_9 ⟨Nat.zero_le _, Nat.zero_le _⟩ (fun r3 σ2 H locs h G => ?_)
  refine lv_if_eq (tgt := 37) hx hb dX11_again_12 (by decide) (fun c4 => ?_) (fun c4 => ?_)
  · have h := h.1 c4
    refine lv_iconst (v := (0 : Int32)) hx hb dX11_again_37 (by decide) ?_
    exact e_zret hx hb hr hlocks G h.1 h.2 dX11_again_38
  · have h := h.2 c4
    refine lv_aload_n hx hb dX11_again_15 rfl (lv_at hl 0 rfl) ?_
    refine e_getq hx hb hts in_X11_again_X11 hown K G 97 (by decide) gl_97 rfl 53 (by decide) 123 rfl (hts (.fieldLink RX11 91 "StreetsStepOnModel" "isPut" "[Z") (e_mem (n := 2) rfl)) dX11_again_16 ?_
    refine lv_iload_n hx hb dX11_again_19 rfl (lv_at hl 1 rfl) ?_
    have hi5 := h.1
    have h := h.2
    refine e_zald hx hb K G 123 4 4 2 (by decide) gl_123 rfl hi5 dX11_again_20 ?_
    refine lv_if_eq (tgt := 37) hx hb dX11_again_21 (by decide) (fun c6 => ?_) (fun c6 => ?_)
    · have h := h.1 c6
      refine lv_iconst (v := (0 : Int32)) hx hb dX11_again_37 (by decide) ?_
      exact e_zret hx hb hr hlocks G h.1 h.2 dX11_again_38
    · have h := h.2 c6
      refine lv_aload_n hx hb dX11_again_24 rfl (lv_at hl 0 rfl) ?_
      refine e_getq hx hb hts in_X11_again_X11 hown K G 97 (by decide) gl_97 rfl 54 (by decide) 124 rfl (hts (.fieldLink RX11 95 "StreetsStepOnModel" "putTold" "[I") (e_mem (n := 3) rfl)) dX11_again_25 ?_
      refine lv_iload_n hx hb dX11_again_28 rfl (lv_at hl 1 rfl) ?_
      have hi7 := h.1
      have h := h.2
      refine e_iald hx hb K G 124 0 0 2 (by decide) gl_124 rfl hi7 dX11_again_29 ?_
      refine lv_aload_n hx hb dX11_again_30 rfl (lv_at hl 0 rfl) ?_
      refine e_geti hx hb hts in_X11_again_X11 hown K G 97 (by decide) gl_97 rfl 50 (by decide) rfl (hts (.fieldLink RX11 169 "StreetsStepOnModel" "streetsTold" "I") (e_mem (n := 4) rfl)) dX11_again_31 ?_
      refine lv_icmp_eq (tgt := 39) hx hb dX11_again_34 (by decide) (fun c8 => ?_) (fun c8 => ?_)
      · have h := h.1 c8
        refine lv_bipush (v := (110 : Int32)) hx hb dX11_again_39 (by decide) ?_
        refine lv_iload_n hx hb dX11_again_41 rfl (lv_at hl 1 rfl) ?_
        refine lv_imul hx hb dX11_again_42 ?_
        refine lv_topi (fun v9 ev9 => ?_)
        have h := h v9 ev9
        refine lv_istore_n (lv' := [(2, .int (v9)), (0, .ref (ρ (97))), (1, .int (x1))]) hx hb dX11_again_43 rfl hl (by decide) rfl (fun ls hl => ?_)
        refine lv_aload_n hx hb dX11_again_44 rfl (lv_at hl 1 rfl) ?_
        refine lv_aload_n hx hb dX11_again_45 rfl (lv_at hl 1 rfl) ?_
        refine e_getq hx hb hts in_X11_again_X11 hown K G 97 (by decide) gl_97 rfl 51 (by decide) 121 rfl (hts (.fieldLink RX11 85 "StreetsStepOnModel" "put" "[I") (e_mem (n := 5) rfl)) dX11_again_46 ?_
        refine lv_iload_n hx hb dX11_again_49 rfl (lv_at hl 0 rfl) ?_
        have hi10 := h.1
        have h := h.2
        refine e_iald hx hb K G 121 0 0 220 (by decide) gl_121 rfl hi10 dX11_again_50 ?_
        refine e_puti hx hb hts in_X11_again_X11 tyX11 tyX11_ok nmX11 hown K G 97 (by decide) gl_97 rfl 4 (by decide) rfl (hts (.fieldLink RX11 111 "StreetsStepOnModel" "orders" "I") (e_mem (n := 6) rfl)) rfl (tyX11_ok 4 (by decide)) rfl rfl dX11_again_51 (fun H locs G => ?_)
        obtain ⟨σ11, eσ11⟩ : ∃ z : eS, z = e_ui σ2 97 4 (σ2.1 121 v9.toNatClampNeg) := ⟨_, rfl⟩
        rw [← eσ11] at G
        have h := h σ11 eσ11
        refine lv_aload_n hx hb dX11_again_54 rfl (lv_at hl 1 rfl) ?_
        refine lv_aload_n hx hb dX11_again_55 rfl (lv_at hl 1 rfl) ?_
        refine e_getq hx hb hts in_X11_again_X11 hown K G 97 (by decide) gl_97 rfl 51 (by decide) 121 rfl (hts (.fieldLink RX11 85 "StreetsStepOnModel" "put" "[I") (e_mem (n := 5) rfl)) dX11_again_56 ?_
        refine lv_iload_n hx hb dX11_again_59 rfl (lv_at hl 0 rfl) ?_
        refine lv_iconst (v := (1 : Int32)) hx hb dX11_again_60 (by decide) ?_
        refine lv_iadd hx hb dX11_again_61 ?_
        have hi12 := h.1
        have h := h.2
        refine e_iald hx hb K G 121 0 0 220 (by decide) gl_121 rfl hi12 dX11_again_62 ?_
        refine e_puti hx hb hts in_X11_again_X11 tyX11 tyX11_ok nmX11 hown K G 97 (by decide) gl_97 rfl 7 (by decide) rfl (hts (.fieldLink RX11 114 "StreetsStepOnModel" "letters" "I") (e_mem (n := 7) rfl)) rfl (tyX11_ok 7 (by decide)) rfl rfl dX11_again_63 (fun H locs G => ?_)
        obtain ⟨σ13, eσ13⟩ : ∃ z : eS, z = e_ui σ11 97 7 (σ11.1 121 (v9 + (1 : Int32)).toNatClampNeg) := ⟨_, rfl⟩
        rw [← eσ13] at G
        have h := h σ13 eσ13
        refine lv_iconst (v := (0 : Int32)) hx hb dX11_again_66 (by decide) ?_
        refine lv_topi (fun v14 ev14 => ?_)
        have h := h v14 ev14
        refine lv_istore_n (lv' := [(3, .int (v14)), (2, .int (v9)), (0, .ref (ρ (97))), (1, .int (x1))]) hx hb dX11_again_67 rfl hl (by decide) rfl (fun ls hl => ?_)
        obtain ⟨n41, h⟩ := h
        exact l_X11_again_68 C K n41 σ13 x1 v9 v14 _ _ _  h G (lv_sub hl [2, 3, 1, 0] rfl)
      · have h := h.2 c8
        refine lv_iconst (v := (0 : Int32)) hx hb dX11_again_37 (by decide) ?_
        exact e_zret hx hb hr hlocks G h.1 h.2 dX11_again_38
abbrev rm_X10_count : Room := { frames := 0, cells := 0, slots := 0, locals := 0 }
theorem in_X10_count_X1 : ∀ w ∈ wsX10, w ∈ wsX10_count := fun w h => List.mem_cons_of_mem _ (List.mem_append_left _ (List.mem_append_left _ (List.mem_append_left _ (List.mem_append_right _ h))))
theorem in_X10_count_X10 : ∀ w ∈ wsX100, w ∈ wsX10_count := fun w h => List.mem_cons_of_mem _ (List.mem_append_left _ (List.mem_append_left _ (List.mem_append_left _ (List.mem_append_left _ (List.mem_append_right _ h)))))
theorem in_X10_count_X2 : ∀ w ∈ wsX20, w ∈ wsX10_count := fun w h => List.mem_cons_of_mem _ (List.mem_append_left _ (List.mem_append_left _ (List.mem_append_right _ h)))
theorem in_X10_count_X5 : ∀ w ∈ wsX50, w ∈ wsX10_count := fun w h => List.mem_cons_of_mem _ (List.mem_append_left _ (List.mem_append_right _ h))
theorem in_X10_count_X7 : ∀ w ∈ wsX70, w ∈ wsX10_count := fun w h => List.mem_cons_of_mem _ (List.mem_append_right _ h)
def w_X10_count (σ : eS) (x1 : Int32) (post : Int32 → eS → Prop) : Prop := ((x1 = (0 : Int32) → post (σ.1 5 4) σ) ∧ (¬ (x1 = (0 : Int32)) → ((x1 = (1 : Int32) → post (σ.1 5 5) σ) ∧ (¬ (x1 = (1 : Int32)) → ((x1 = (2 : Int32) → post (σ.1 5 6) σ) ∧ (¬ (x1 = (2 : Int32)) → ((x1 = (3 : Int32) → post (σ.1 41 3) σ) ∧ (¬ (x1 = (3 : Int32)) → ((x1 = (4 : Int32) → post (σ.1 3 1) σ) ∧ (¬ (x1 = (4 : Int32)) → ((x1 = (5 : Int32) → post (σ.1 1 1) σ) ∧ (¬ (x1 = (5 : Int32)) → post (-1 : Int32) σ))))))))))))
set_option maxHeartbeats 4000000 in
set_option maxRecDepth 100000 in
theorem c_X10_count {l : Launch} {D : va_G} {ρ : Nat → Nat} {κ : Nat → ClassId} {base : Nat} {σ : eS} {x1 : Int32} {post : Int32 → eS → Prop} (h : w_X10_count σ x1 post) : gMi l yX10_count wsX10_count rm_X10_count D ρ κ base [.ref (ρ (0)), .int (x1)] σ post := by
  refine e_ofWi (cc := cX10_count) (maxL := 2) (ret := (some .int)) (by decide) rfl (Nat.le_of_ble_eq_true rfl) ?_
  intro p e s m below meth c ls C K G hl
  obtain ⟨hx, hb, hml, hown, hts, hr, hlocks⟩ := id C
  have hl : lv_has ls 2 [(0, .ref (ρ (0))), (1, .int (x1))] := hl
  unfold w_X10_count at h
  refine lv_iload_n hx hb dX10_count_0 rfl (lv_at hl 1 rfl) ?_
  by_cases c1 : x1 = (0 : Int32)
  · have h := h.1 c1
    refine lv_tableIn (tgt := 40) hx hb dX10_count_1 (by rw [c1]; decide) (by rw [c1]; decide) (by rw [c1]; rfl) (by decide) ?_
    refine lv_aload_n hx hb dX10_count_40 rfl (lv_at hl 0 rfl) ?_
    refine e_getq hx hb hts in_X10_count_X10 hown K G 0 (by decide) gl_0 rfl 2 (by decide) 5 rfl (hts (.fieldLink RX10 26 "StreetsStepOn" "book" "LStreetsStepOn$Book;") (e_mem (n := 1) rfl)) dX10_count_41 ?_
    refine e_getiN hx hb hts in_X10_count_X1 hown K G 5 (by decide) gl_5 rfl 4 (by decide) rfl (e_memq (n := 18) rfl) dX10_count_44 ?_
    exact e_iret hx hb hr hlocks G h dX10_count_47
  · have h := h.2 c1
    by_cases c2 : x1 = (1 : Int32)
    · have h := h.1 c2
      refine lv_tableIn (tgt := 48) hx hb dX10_count_1 (by rw [c2]; decide) (by rw [c2]; decide) (by rw [c2]; rfl) (by decide) ?_
      refine lv_aload_n hx hb dX10_count_48 rfl (lv_at hl 0 rfl) ?_
      refine e_getq hx hb hts in_X10_count_X10 hown K G 0 (by decide) gl_0 rfl 2 (by decide) 5 rfl (hts (.fieldLink RX10 26 "StreetsStepOn" "book" "LStreetsStepOn$Book;") (e_mem (n := 1) rfl)) dX10_count_49 ?_
      refine e_getiN hx hb hts in_X10_count_X1 hown K G 5 (by decide) gl_5 rfl 5 (by decide) rfl (e_memq (n := 22) rfl) dX10_count_52 ?_
      exact e_iret hx hb hr hlocks G h dX10_count_55
    · have h := h.2 c2
      by_cases c3 : x1 = (2 : Int32)
      · have h := h.1 c3
        refine lv_tableIn (tgt := 56) hx hb dX10_count_1 (by rw [c3]; decide) (by rw [c3]; decide) (by rw [c3]; rfl) (by decide) ?_
        refine lv_aload_n hx hb dX10_count_56 rfl (lv_at hl 0 rfl) ?_
        refine e_getq hx hb hts in_X10_count_X10 hown K G 0 (by decide) gl_0 rfl 2 (by decide) 5 rfl (hts (.fieldLink RX10 26 "StreetsStepOn" "book" "LStreetsStepOn$Book;") (e_mem (n := 1) rfl)) dX10_count_57 ?_
        refine e_getiN hx hb hts in_X10_count_X1 hown K G 5 (by decide) gl_5 rfl 6 (by decide) rfl (e_memq (n := 23) rfl) dX10_count_60 ?_
        exact e_iret hx hb hr hlocks G h dX10_count_63
      · have h := h.2 c3
        by_cases c4 : x1 = (3 : Int32)
        · have h := h.1 c4
          refine lv_tableIn (tgt := 64) hx hb dX10_count_1 (by rw [c4]; decide) (by rw [c4]; decide) (by rw [c4]; rfl) (by decide) ?_
          refine lv_aload_n hx hb dX10_count_64 rfl (lv_at hl 0 rfl) ?_
          refine e_getq hx hb hts in_X10_count_X10 hown K G 0 (by decide) gl_0 rfl 8 (by decide) 41 rfl (hts (.fieldLink RX10 65 "StreetsStepOn" "council" "LStreetsStepOn$Council;") (e_mem (n := 2) rfl)) dX10_count_65 ?_
          refine e_getiN hx hb hts in_X10_count_X2 hown K G 41 (by decide) gl_41 rfl 3 (by decide) rfl (e_memq (n := 31) rfl) dX10_count_68 ?_
          exact e_iret hx hb hr hlocks G h dX10_count_71
        · have h := h.2 c4
          by_cases c5 : x1 = (4 : Int32)
          · have h := h.1 c5
            refine lv_tableIn (tgt := 72) hx hb dX10_count_1 (by rw [c5]; decide) (by rw [c5]; decide) (by rw [c5]; rfl) (by decide) ?_
            refine lv_aload_n hx hb dX10_count_72 rfl (lv_at hl 0 rfl) ?_
            refine e_getq hx hb hts in_X10_count_X10 hown K G 0 (by decide) gl_0 rfl 1 (by decide) 3 rfl (hts (.fieldLink RX10 19 "StreetsStepOn" "told" "LStreetsStepOn$Row;") (e_mem (n := 3) rfl)) dX10_count_73 ?_
            refine e_getiN hx hb hts in_X10_count_X5 hown K G 3 (by decide) gl_3 rfl 1 (by decide) rfl (e_memq (n := 4) rfl) dX10_count_76 ?_
            exact e_iret hx hb hr hlocks G h dX10_count_79
          · have h := h.2 c5
            by_cases c6 : x1 = (5 : Int32)
            · have h := h.1 c6
              refine lv_tableIn (tgt := 80) hx hb dX10_count_1 (by rw [c6]; decide) (by rw [c6]; decide) (by rw [c6]; rfl) (by decide) ?_
              refine lv_aload_n hx hb dX10_count_80 rfl (lv_at hl 0 rfl) ?_
              refine e_getq hx hb hts in_X10_count_X10 hown K G 0 (by decide) gl_0 rfl 0 (by decide) 1 rfl (hts (.fieldLink RX10 10 "StreetsStepOn" "text" "LStreetsStepOn$Text;") (e_mem (n := 4) rfl)) dX10_count_81 ?_
              refine e_getiN hx hb hts in_X10_count_X7 hown K G 1 (by decide) gl_1 rfl 1 (by decide) rfl (e_memq (n := 2) rfl) dX10_count_84 ?_
              exact e_iret hx hb hr hlocks G h dX10_count_87
            · have h := h.2 c6
              refine lv_tableOut (tgt := 88) hx hb dX10_count_1 (by have := e_ne c1; have := e_ne c2; have := e_ne c3; have := e_ne c4; have := e_ne c5; have := e_ne c6; have : ∀ n : Int32, n.toInt = n.toInt := fun _ => rfl; simp only [Int32.reduceToInt] at *; omega) (by decide) ?_
              refine lv_iconst (v := (-1 : Int32)) hx hb dX10_count_88 (by decide) ?_
              exact e_iret hx hb hr hlocks G h dX10_count_89
abbrev rm_X11_count : Room := { frames := 0, cells := 0, slots := 0, locals := 0 }
theorem in_X11_count_X11 : ∀ w ∈ wsX110, w ∈ wsX11_count := fun w h => List.mem_cons_of_mem _ (List.mem_append_right _ h)
def w_X11_count (σ : eS) (x1 : Int32) (post : Int32 → eS → Prop) : Prop := ∀ σ1 : eS, σ1 = e_ui σ 97 18 (0 : Int32) → ((x1 = (0 : Int32) → post (σ1.1 97 0) σ1) ∧ (¬ (x1 = (0 : Int32)) → ((x1 = (1 : Int32) → post (σ1.1 97 4) σ1) ∧ (¬ (x1 = (1 : Int32)) → ((x1 = (2 : Int32) → post (σ1.1 97 7) σ1) ∧ (¬ (x1 = (2 : Int32)) → ((x1 = (3 : Int32) → post (σ1.1 97 10) σ1) ∧ (¬ (x1 = (3 : Int32)) → ((x1 = (4 : Int32) → post (σ1.1 97 17) σ1) ∧ (¬ (x1 = (4 : Int32)) → ((x1 = (5 : Int32) → post (σ1.1 97 15) σ1) ∧ (¬ (x1 = (5 : Int32)) → post (-1 : Int32) σ1))))))))))))
set_option maxHeartbeats 4000000 in
set_option maxRecDepth 100000 in
theorem c_X11_count {l : Launch} {D : va_G} {ρ : Nat → Nat} {κ : Nat → ClassId} {base : Nat} {σ : eS} {x1 : Int32} {post : Int32 → eS → Prop} (h : w_X11_count σ x1 post) : gMi l yX11_count wsX11_count rm_X11_count D ρ κ base [.ref (ρ (97)), .int (x1)] σ post := by
  refine e_ofWi (cc := cX11_count) (maxL := 2) (ret := (some .int)) (by decide) rfl (Nat.le_of_ble_eq_true rfl) ?_
  intro p e s m below meth c ls C K G hl
  obtain ⟨hx, hb, hml, hown, hts, hr, hlocks⟩ := id C
  have hl : lv_has ls 2 [(0, .ref (ρ (97))), (1, .int (x1))] := hl
  unfold w_X11_count at h
  refine lv_aload_n hx hb dX11_count_0 rfl (lv_at hl 0 rfl) ?_
  refine lv_iconst (v := (0 : Int32)) hx hb dX11_count_1 (by decide) ?_
  refine e_puti hx hb hts in_X11_count_X11 tyX11 tyX11_ok nmX11 hown K G 97 (by decide) gl_97 rfl 18 (by decide) rfl (hts (.fieldLink RX11 98 "StreetsStepOnModel" "thrown" "I") (e_mem (n := 1) rfl)) rfl (tyX11_ok 18 (by decide)) rfl rfl dX11_count_2 (fun H locs G => ?_)
  obtain ⟨σ1, eσ1⟩ : ∃ z : eS, z = e_ui σ 97 18 (0 : Int32) := ⟨_, rfl⟩
  rw [← eσ1] at G
  have h := h σ1 eσ1
  refine lv_iload_n hx hb dX11_count_5 rfl (lv_at hl 1 rfl) ?_
  by_cases c2 : x1 = (0 : Int32)
  · have h := h.1 c2
    refine lv_tableIn (tgt := 44) hx hb dX11_count_6 (by rw [c2]; decide) (by rw [c2]; decide) (by rw [c2]; rfl) (by decide) ?_
    refine lv_aload_n hx hb dX11_count_44 rfl (lv_at hl 0 rfl) ?_
    refine e_geti hx hb hts in_X11_count_X11 hown K G 97 (by decide) gl_97 rfl 0 (by decide) rfl (hts (.fieldLink RX11 104 "StreetsStepOnModel" "streets" "I") (e_mem (n := 2) rfl)) dX11_count_45 ?_
    exact e_iret hx hb hr hlocks G h dX11_count_48
  · have h := h.2 c2
    by_cases c3 : x1 = (1 : Int32)
    · have h := h.1 c3
      refine lv_tableIn (tgt := 49) hx hb dX11_count_6 (by rw [c3]; decide) (by rw [c3]; decide) (by rw [c3]; rfl) (by decide) ?_
      refine lv_aload_n hx hb dX11_count_49 rfl (lv_at hl 0 rfl) ?_
      refine e_geti hx hb hts in_X11_count_X11 hown K G 97 (by decide) gl_97 rfl 4 (by decide) rfl (hts (.fieldLink RX11 111 "StreetsStepOnModel" "orders" "I") (e_mem (n := 3) rfl)) dX11_count_50 ?_
      exact e_iret hx hb hr hlocks G h dX11_count_53
    · have h := h.2 c3
      by_cases c4 : x1 = (2 : Int32)
      · have h := h.1 c4
        refine lv_tableIn (tgt := 54) hx hb dX11_count_6 (by rw [c4]; decide) (by rw [c4]; decide) (by rw [c4]; rfl) (by decide) ?_
        refine lv_aload_n hx hb dX11_count_54 rfl (lv_at hl 0 rfl) ?_
        refine e_geti hx hb hts in_X11_count_X11 hown K G 97 (by decide) gl_97 rfl 7 (by decide) rfl (hts (.fieldLink RX11 114 "StreetsStepOnModel" "letters" "I") (e_mem (n := 4) rfl)) dX11_count_55 ?_
        exact e_iret hx hb hr hlocks G h dX11_count_58
      · have h := h.2 c4
        by_cases c5 : x1 = (3 : Int32)
        · have h := h.1 c5
          refine lv_tableIn (tgt := 59) hx hb dX11_count_6 (by rw [c5]; decide) (by rw [c5]; decide) (by rw [c5]; rfl) (by decide) ?_
          refine lv_aload_n hx hb dX11_count_59 rfl (lv_at hl 0 rfl) ?_
          refine e_geti hx hb hts in_X11_count_X11 hown K G 97 (by decide) gl_97 rfl 10 (by decide) rfl (hts (.fieldLink RX11 406 "StreetsStepOnModel" "wishes" "I") (e_mem (n := 5) rfl)) dX11_count_60 ?_
          exact e_iret hx hb hr hlocks G h dX11_count_63
        · have h := h.2 c5
          by_cases c6 : x1 = (4 : Int32)
          · have h := h.1 c6
            refine lv_tableIn (tgt := 64) hx hb dX11_count_6 (by rw [c6]; decide) (by rw [c6]; decide) (by rw [c6]; rfl) (by decide) ?_
            refine lv_aload_n hx hb dX11_count_64 rfl (lv_at hl 0 rfl) ?_
            refine e_geti hx hb hts in_X11_count_X11 hown K G 97 (by decide) gl_97 rfl 17 (by decide) rfl (hts (.fieldLink RX11 101 "StreetsStepOnModel" "rowMany" "I") (e_mem (n := 6) rfl)) dX11_count_65 ?_
            exact e_iret hx hb hr hlocks G h dX11_count_68
          · have h := h.2 c6
            by_cases c7 : x1 = (5 : Int32)
            · have h := h.1 c7
              refine lv_tableIn (tgt := 69) hx hb dX11_count_6 (by rw [c7]; decide) (by rw [c7]; decide) (by rw [c7]; rfl) (by decide) ?_
              refine lv_aload_n hx hb dX11_count_69 rfl (lv_at hl 0 rfl) ?_
              refine e_geti hx hb hts in_X11_count_X11 hown K G 97 (by decide) gl_97 rfl 15 (by decide) rfl (hts (.fieldLink RX11 121 "StreetsStepOnModel" "typed" "I") (e_mem (n := 7) rfl)) dX11_count_70 ?_
              exact e_iret hx hb hr hlocks G h dX11_count_73
            · have h := h.2 c7
              refine lv_tableOut (tgt := 74) hx hb dX11_count_6 (by have := e_ne c2; have := e_ne c3; have := e_ne c4; have := e_ne c5; have := e_ne c6; have := e_ne c7; have : ∀ n : Int32, n.toInt = n.toInt := fun _ => rfl; simp only [Int32.reduceToInt] at *; omega) (by decide) ?_
              refine lv_iconst (v := (-1 : Int32)) hx hb dX11_count_74 (by decide) ?_
              exact e_iret hx hb hr hlocks G h dX11_count_75
abbrev rm_X10_today : Room := { frames := 0, cells := 0, slots := 0, locals := 0 }
theorem in_X10_today_X1 : ∀ w ∈ wsX10, w ∈ wsX10_today := fun w h => List.mem_cons_of_mem _ (List.mem_append_right _ h)
theorem in_X10_today_X10 : ∀ w ∈ wsX100, w ∈ wsX10_today := fun w h => List.mem_cons_of_mem _ (List.mem_append_left _ (List.mem_append_right _ h))
def w_X10_today (σ : eS) (post : Int64 → eS → Prop) : Prop := post (σ.2.1 5 7) σ
set_option maxHeartbeats 4000000 in
set_option maxRecDepth 100000 in
theorem c_X10_today {l : Launch} {D : va_G} {ρ : Nat → Nat} {κ : Nat → ClassId} {base : Nat} {σ : eS} {post : Int64 → eS → Prop} (h : w_X10_today σ post) : gMl l yX10_today wsX10_today rm_X10_today D ρ κ base [.ref (ρ (0))] σ post := by
  refine e_ofWl (cc := cX10_today) (maxL := 1) (ret := (some .long)) (by decide) rfl (Nat.le_of_ble_eq_true rfl) ?_
  intro p e s m below meth c ls C K G hl
  obtain ⟨hx, hb, hml, hown, hts, hr, hlocks⟩ := id C
  have hl : lv_has ls 1 [(0, .ref (ρ (0)))] := hl
  unfold w_X10_today at h
  refine lv_aload_n hx hb dX10_today_0 rfl (lv_at hl 0 rfl) ?_
  refine e_getq hx hb hts in_X10_today_X10 hown K G 0 (by decide) gl_0 rfl 2 (by decide) 5 rfl (hts (.fieldLink RX10 26 "StreetsStepOn" "book" "LStreetsStepOn$Book;") (e_mem (n := 1) rfl)) dX10_today_1 ?_
  refine e_getlN hx hb hts in_X10_today_X1 hown K G 5 (by decide) gl_5 rfl 7 (by decide) rfl (e_memq (n := 24) rfl) dX10_today_4 ?_
  exact e_lret hx hb hr hlocks G h dX10_today_7
abbrev rm_X11_today : Room := { frames := 0, cells := 0, slots := 0, locals := 0 }
theorem in_X11_today_X11 : ∀ w ∈ wsX110, w ∈ wsX11_today := fun w h => List.mem_cons_of_mem _ (List.mem_append_right _ h)
def w_X11_today (σ : eS) (post : Int64 → eS → Prop) : Prop := ∀ σ1 : eS, σ1 = e_ui σ 97 18 (0 : Int32) → post (σ1.2.1 97 6) σ1
set_option maxHeartbeats 4000000 in
set_option maxRecDepth 100000 in
theorem c_X11_today {l : Launch} {D : va_G} {ρ : Nat → Nat} {κ : Nat → ClassId} {base : Nat} {σ : eS} {post : Int64 → eS → Prop} (h : w_X11_today σ post) : gMl l yX11_today wsX11_today rm_X11_today D ρ κ base [.ref (ρ (97))] σ post := by
  refine e_ofWl (cc := cX11_today) (maxL := 1) (ret := (some .long)) (by decide) rfl (Nat.le_of_ble_eq_true rfl) ?_
  intro p e s m below meth c ls C K G hl
  obtain ⟨hx, hb, hml, hown, hts, hr, hlocks⟩ := id C
  have hl : lv_has ls 1 [(0, .ref (ρ (97)))] := hl
  unfold w_X11_today at h
  refine lv_aload_n hx hb dX11_today_0 rfl (lv_at hl 0 rfl) ?_
  refine lv_iconst (v := (0 : Int32)) hx hb dX11_today_1 (by decide) ?_
  refine e_puti hx hb hts in_X11_today_X11 tyX11 tyX11_ok nmX11 hown K G 97 (by decide) gl_97 rfl 18 (by decide) rfl (hts (.fieldLink RX11 98 "StreetsStepOnModel" "thrown" "I") (e_mem (n := 1) rfl)) rfl (tyX11_ok 18 (by decide)) rfl rfl dX11_today_2 (fun H locs G => ?_)
  obtain ⟨σ1, eσ1⟩ : ∃ z : eS, z = e_ui σ 97 18 (0 : Int32) := ⟨_, rfl⟩
  rw [← eσ1] at G
  have h := h σ1 eσ1
  refine lv_aload_n hx hb dX11_today_5 rfl (lv_at hl 0 rfl) ?_
  refine e_getl hx hb hts in_X11_today_X11 hown K G 97 (by decide) gl_97 rfl 6 (by decide) rfl (hts (.fieldLink RX11 197 "StreetsStepOnModel" "today" "J") (e_mem (n := 2) rfl)) dX11_today_6 ?_
  exact e_lret hx hb hr hlocks G h dX11_today_9
abbrev rm_X11_row : Room := { frames := 1, cells := 0, slots := 0, locals := 25 }
theorem in_X11_row_X11 : ∀ w ∈ wsX110, w ∈ wsX11_row := fun w h => List.mem_cons_of_mem _ (List.mem_append_right _ h)
def w_X11_row (σ : eS) (x1 : Int32) (post : Int64 → eS → Prop) : Prop := ∀ σ1 : eS, σ1 = e_ui σ 97 18 (0 : Int32) → w_X11_in σ1 (x1.toInt64) (0 : Int64) (((σ1.1 97 17) - (1 : Int32)).toInt64) (fun r3 σ2 => ((r3 = 0 → w_X11_lost σ2 (fun r6 σ5 => post (r6.toInt64) σ5)) ∧ (¬ (r3 = 0) → (vp_in x1 16) ∧ post (σ2.2.1 108 x1.toNatClampNeg) σ2)))
set_option maxHeartbeats 4000000 in
set_option maxRecDepth 100000 in
theorem c_X11_row {l : Launch} {D : va_G} {ρ : Nat → Nat} {κ : Nat → ClassId} {base : Nat} {σ : eS} {x1 : Int32} {post : Int64 → eS → Prop} (h : w_X11_row σ x1 post) : gMl l yX11_row wsX11_row rm_X11_row D ρ κ base [.ref (ρ (97)), .int (x1)] σ post := by
  refine e_ofWl (cc := cX11_row) (maxL := 2) (ret := (some .long)) (by decide) rfl (Nat.le_of_ble_eq_true rfl) ?_
  intro p e s m below meth c ls C K G hl
  obtain ⟨hx, hb, hml, hown, hts, hr, hlocks⟩ := id C
  have hl : lv_has ls 2 [(0, .ref (ρ (97))), (1, .int (x1))] := hl
  unfold w_X11_row at h
  refine lv_aload_n hx hb dX11_row_0 rfl (lv_at hl 0 rfl) ?_
  refine lv_iconst (v := (0 : Int32)) hx hb dX11_row_1 (by decide) ?_
  refine e_puti hx hb hts in_X11_row_X11 tyX11 tyX11_ok nmX11 hown K G 97 (by decide) gl_97 rfl 18 (by decide) rfl (hts (.fieldLink RX11 98 "StreetsStepOnModel" "thrown" "I") (e_mem (n := 1) rfl)) rfl (tyX11_ok 18 (by decide)) rfl rfl dX11_row_2 (fun H locs G => ?_)
  obtain ⟨σ1, eσ1⟩ : ∃ z : eS, z = e_ui σ 97 18 (0 : Int32) := ⟨_, rfl⟩
  rw [← eσ1] at G
  have h := h σ1 eσ1
  refine lv_iload_n hx hb dX11_row_5 rfl (lv_at hl 1 rfl) ?_
  refine lv_i2l hx hb dX11_row_6 rfl ?_
  refine lv_lconst (v := (0 : Int64)) hx hb dX11_row_7 (by decide) ?_
  refine lv_aload_n hx hb dX11_row_8 rfl (lv_at hl 0 rfl) ?_
  refine e_geti hx hb hts in_X11_row_X11 hown K G 97 (by decide) gl_97 rfl 17 (by decide) rfl (hts (.fieldLink RX11 101 "StreetsStepOnModel" "rowMany" "I") (e_mem (n := 2) rfl)) dX11_row_9 ?_
  refine lv_iconst (v := (1 : Int32)) hx hb dX11_row_12 (by decide) ?_
  refine lv_isub hx hb dX11_row_13 ?_
  refine lv_i2l hx hb dX11_row_14 rfl ?_
  refine e_callSi (As := [.long (x1.toInt64), .long ((0 : Int64)), .long (((σ1.1 97 17) - (1 : Int32)).toInt64)]) (rest := []) ⟨hx, hb, hml, hown, hts⟩ K G (c_X11_in h) (va_cwS 3 hts gX11_row_X11_in rfl rfl rfl (by decide +kernel) ⟨Nat.le_of_ble_eq_true rfl, Nat.le_of_ble_eq_true rfl⟩) rfl hl.1 rfl (Nat.le_of_ble_eq_true rfl) dX11_row_15 ⟨Nat.zero_le _, Nat.zero_le _⟩ (fun r3 σ2 H locs h G => ?_)
  refine lv_if_eq (tgt := 30) hx hb dX11_row_18 (by decide) (fun c4 => ?_) (fun c4 => ?_)
  · have h := h.1 c4
    refine lv_aload_n hx hb dX11_row_30 rfl (lv_at hl 0 rfl) ?_
    refine e_callVi (As := []) (rest := []) ⟨hx, hb, hml, hown, hts⟩ K G 97 (by decide) gl_97 rfl (c_X11_lost h) (cwV 0 hts gX11_row_X11_lost rfl rfl rfl (by decide +kernel) ⟨Nat.le_of_ble_eq_true rfl, Nat.le_of_ble_eq_true rfl⟩) rfl hl.1 rfl (Nat.le_of_ble_eq_true rfl) dX11_row_31 ⟨Nat.zero_le _, Nat.zero_le _⟩ (fun r6 σ5 H locs h G => ?_)
    refine lv_i2l hx hb dX11_row_34 rfl ?_
    exact e_lret hx hb hr hlocks G h dX11_row_35
  · have h := h.2 c4
    refine lv_aload_n hx hb dX11_row_21 rfl (lv_at hl 0 rfl) ?_
    refine e_getq hx hb hts in_X11_row_X11 hown K G 97 (by decide) gl_97 rfl 16 (by decide) 108 rfl (hts (.fieldLink RX11 42 "StreetsStepOnModel" "row" "[J") (e_mem (n := 3) rfl)) dX11_row_22 ?_
    refine lv_iload_n hx hb dX11_row_25 rfl (lv_at hl 1 rfl) ?_
    have hi7 := h.1
    have h := h.2
    refine e_lald hx hb K G 108 1 1 16 (by decide) gl_108 rfl hi7 dX11_row_26 ?_
    refine lv_goto (tgt := 35) hx hb dX11_row_27 (by decide) ?_
    exact e_lret hx hb hr hlocks G h dX11_row_35
abbrev rm_X11_thrown : Room := { frames := 0, cells := 0, slots := 0, locals := 0 }
theorem in_X11_thrown_X11 : ∀ w ∈ wsX110, w ∈ wsX11_thrown := fun w h => List.mem_cons_of_mem _ (List.mem_append_right _ h)
def w_X11_thrown (σ : eS) (post : Int32 → eS → Prop) : Prop := post (σ.1 97 18) σ
set_option maxHeartbeats 4000000 in
set_option maxRecDepth 100000 in
theorem c_X11_thrown {l : Launch} {D : va_G} {ρ : Nat → Nat} {κ : Nat → ClassId} {base : Nat} {σ : eS} {post : Int32 → eS → Prop} (h : w_X11_thrown σ post) : gMi l yX11_thrown wsX11_thrown rm_X11_thrown D ρ κ base [.ref (ρ (97))] σ post := by
  refine e_ofWi (cc := cX11_thrown) (maxL := 1) (ret := (some .int)) (by decide) rfl (Nat.le_of_ble_eq_true rfl) ?_
  intro p e s m below meth c ls C K G hl
  obtain ⟨hx, hb, hml, hown, hts, hr, hlocks⟩ := id C
  have hl : lv_has ls 1 [(0, .ref (ρ (97)))] := hl
  unfold w_X11_thrown at h
  refine lv_aload_n hx hb dX11_thrown_0 rfl (lv_at hl 0 rfl) ?_
  refine e_geti hx hb hts in_X11_thrown_X11 hown K G 97 (by decide) gl_97 rfl 18 (by decide) rfl (hts (.fieldLink RX11 98 "StreetsStepOnModel" "thrown" "I") (e_mem (n := 1) rfl)) dX11_thrown_1 ?_
  exact e_iret hx hb hr hlocks G h dX11_thrown_4
