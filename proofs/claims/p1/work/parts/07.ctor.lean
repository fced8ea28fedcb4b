theorem dv_X0 : ∀ j, j < 4 → defaultValue (tyX0 j) = vp_V ([2, 2, 0, 0].map e_dv) j := by
  intro j hj
  match j, hj with
  | 0, _ => rfl
  | 1, _ => rfl
  | 2, _ => rfl
  | 3, _ => rfl
  | n + 4, h => exact absurd h (by omega)
theorem dv_X1 : ∀ j, j < 9 → defaultValue (tyX1 j) = vp_V ([2, 2, 2, 2, 0, 0, 0, 1, 0].map e_dv) j := by
  intro j hj
  match j, hj with
  | 0, _ => rfl
  | 1, _ => rfl
  | 2, _ => rfl
  | 3, _ => rfl
  | 4, _ => rfl
  | 5, _ => rfl
  | 6, _ => rfl
  | 7, _ => rfl
  | 8, _ => rfl
  | n + 9, h => exact absurd h (by omega)
theorem dv_X2 : ∀ j, j < 8 → defaultValue (tyX2 j) = vp_V ([2, 2, 2, 0, 2, 0, 2, 0].map e_dv) j := by
  intro j hj
  match j, hj with
  | 0, _ => rfl
  | 1, _ => rfl
  | 2, _ => rfl
  | 3, _ => rfl
  | 4, _ => rfl
  | 5, _ => rfl
  | 6, _ => rfl
  | 7, _ => rfl
  | n + 8, h => exact absurd h (by omega)
theorem dv_X3 : ∀ j, j < 5 → defaultValue (tyX3 j) = vp_V ([2, 0, 0, 1, 0].map e_dv) j := by
  intro j hj
  match j, hj with
  | 0, _ => rfl
  | 1, _ => rfl
  | 2, _ => rfl
  | 3, _ => rfl
  | 4, _ => rfl
  | n + 5, h => exact absurd h (by omega)
theorem dv_X4 : ∀ j, j < 3 → defaultValue (tyX4 j) = vp_V ([2, 2, 2].map e_dv) j := by
  intro j hj
  match j, hj with
  | 0, _ => rfl
  | 1, _ => rfl
  | 2, _ => rfl
  | n + 3, h => exact absurd h (by omega)
theorem dv_X5 : ∀ j, j < 2 → defaultValue (tyX5 j) = vp_V ([2, 0].map e_dv) j := by
  intro j hj
  match j, hj with
  | 0, _ => rfl
  | 1, _ => rfl
  | n + 2, h => exact absurd h (by omega)
theorem dv_X6 : ∀ j, j < 7 → defaultValue (tyX6 j) = vp_V ([2, 2, 2, 2, 0, 0, 0].map e_dv) j := by
  intro j hj
  match j, hj with
  | 0, _ => rfl
  | 1, _ => rfl
  | 2, _ => rfl
  | 3, _ => rfl
  | 4, _ => rfl
  | 5, _ => rfl
  | 6, _ => rfl
  | n + 7, h => exact absurd h (by omega)
theorem dv_X7 : ∀ j, j < 2 → defaultValue (tyX7 j) = vp_V ([2, 0].map e_dv) j := by
  intro j hj
  match j, hj with
  | 0, _ => rfl
  | 1, _ => rfl
  | n + 2, h => exact absurd h (by omega)
theorem dv_X8 : ∀ j, j < 7 → defaultValue (tyX8 j) = vp_V ([2, 2, 2, 0, 0, 0, 0].map e_dv) j := by
  intro j hj
  match j, hj with
  | 0, _ => rfl
  | 1, _ => rfl
  | 2, _ => rfl
  | 3, _ => rfl
  | 4, _ => rfl
  | 5, _ => rfl
  | 6, _ => rfl
  | n + 7, h => exact absurd h (by omega)
theorem dv_X9 : ∀ j, j < 3 → defaultValue (tyX9 j) = vp_V ([0, 0, 0].map e_dv) j := by
  intro j hj
  match j, hj with
  | 0, _ => rfl
  | 1, _ => rfl
  | 2, _ => rfl
  | n + 3, h => exact absurd h (by omega)
theorem dv_X10 : ∀ j, j < 13 → defaultValue (tyX10 j) = vp_V ([2, 2, 2, 2, 2, 2, 2, 2, 2, 2, 2, 2, 2].map e_dv) j := by
  intro j hj
  match j, hj with
  | 0, _ => rfl
  | 1, _ => rfl
  | 2, _ => rfl
  | 3, _ => rfl
  | 4, _ => rfl
  | 5, _ => rfl
  | 6, _ => rfl
  | 7, _ => rfl
  | 8, _ => rfl
  | 9, _ => rfl
  | 10, _ => rfl
  | 11, _ => rfl
  | 12, _ => rfl
  | n + 13, h => exact absurd h (by omega)
theorem dv_X11 : ∀ j, j < 55 → defaultValue (tyX11 j) = vp_V ([0, 2, 2, 2, 0, 2, 1, 0, 2, 2, 0, 2, 2, 2, 2, 0, 2, 0, 0, 2, 0, 0, 0, 0, 2, 2, 0, 2, 1, 0, 0, 2, 2, 0, 2, 2, 2, 0, 2, 2, 0, 0, 2, 0, 0, 0, 0, 1, 2, 0, 0, 2, 2, 2, 2].map e_dv) j := by
  intro j hj
  match j, hj with
  | 0, _ => rfl
  | 1, _ => rfl
  | 2, _ => rfl
  | 3, _ => rfl
  | 4, _ => rfl
  | 5, _ => rfl
  | 6, _ => rfl
  | 7, _ => rfl
  | 8, _ => rfl
  | 9, _ => rfl
  | 10, _ => rfl
  | 11, _ => rfl
  | 12, _ => rfl
  | 13, _ => rfl
  | 14, _ => rfl
  | 15, _ => rfl
  | 16, _ => rfl
  | 17, _ => rfl
  | 18, _ => rfl
  | 19, _ => rfl
  | 20, _ => rfl
  | 21, _ => rfl
  | 22, _ => rfl
  | 23, _ => rfl
  | 24, _ => rfl
  | 25, _ => rfl
  | 26, _ => rfl
  | 27, _ => rfl
  | 28, _ => rfl
  | 29, _ => rfl
  | 30, _ => rfl
  | 31, _ => rfl
  | 32, _ => rfl
  | 33, _ => rfl
  | 34, _ => rfl
  | 35, _ => rfl
  | 36, _ => rfl
  | 37, _ => rfl
  | 38, _ => rfl
  | 39, _ => rfl
  | 40, _ => rfl
  | 41, _ => rfl
  | 42, _ => rfl
  | 43, _ => rfl
  | 44, _ => rfl
  | 45, _ => rfl
  | 46, _ => rfl
  | 47, _ => rfl
  | 48, _ => rfl
  | 49, _ => rfl
  | 50, _ => rfl
  | 51, _ => rfl
  | 52, _ => rfl
  | 53, _ => rfl
  | 54, _ => rfl
  | n + 55, h => exact absurd h (by omega)
theorem ok_0 : ∀ k, k < 0 → e_ok 0 (mL k) = true := by decide +kernel
theorem ok_1 : ∀ k, k < 1 → e_ok 1 (mL k) = true := by decide +kernel
theorem ok_2 : ∀ k, k < 2 → e_ok 2 (mL k) = true := by decide +kernel
theorem ok_3 : ∀ k, k < 3 → e_ok 3 (mL k) = true := by decide +kernel
theorem ok_4 : ∀ k, k < 4 → e_ok 4 (mL k) = true := by decide +kernel
theorem ok_5 : ∀ k, k < 5 → e_ok 5 (mL k) = true := by decide +kernel
theorem ok_6 : ∀ k, k < 6 → e_ok 6 (mL k) = true := by decide +kernel
theorem ok_14 : ∀ k, k < 14 → e_ok 14 (mL k) = true := by decide +kernel
theorem ok_15 : ∀ k, k < 15 → e_ok 15 (mL k) = true := by decide +kernel
theorem ok_16 : ∀ k, k < 16 → e_ok 16 (mL k) = true := by decide +kernel
theorem ok_17 : ∀ k, k < 17 → e_ok 17 (mL k) = true := by decide +kernel
theorem ok_18 : ∀ k, k < 18 → e_ok 18 (mL k) = true := by decide +kernel
theorem ok_19 : ∀ k, k < 19 → e_ok 19 (mL k) = true := by decide +kernel
theorem ok_20 : ∀ k, k < 20 → e_ok 20 (mL k) = true := by decide +kernel
theorem ok_21 : ∀ k, k < 21 → e_ok 21 (mL k) = true := by decide +kernel
theorem ok_32 : ∀ k, k < 32 → e_ok 32 (mL k) = true := by decide +kernel
theorem ok_33 : ∀ k, k < 33 → e_ok 33 (mL k) = true := by decide +kernel
theorem ok_34 : ∀ k, k < 34 → e_ok 34 (mL k) = true := by decide +kernel
theorem ok_35 : ∀ k, k < 35 → e_ok 35 (mL k) = true := by decide +kernel
theorem ok_36 : ∀ k, k < 36 → e_ok 36 (mL k) = true := by decide +kernel
theorem ok_37 : ∀ k, k < 37 → e_ok 37 (mL k) = true := by decide +kernel
theorem ok_38 : ∀ k, k < 38 → e_ok 38 (mL k) = true := by decide +kernel
theorem ok_39 : ∀ k, k < 39 → e_ok 39 (mL k) = true := by decide +kernel
theorem ok_40 : ∀ k, k < 40 → e_ok 40 (mL k) = true := by decide +kernel
theorem ok_41 : ∀ k, k < 41 → e_ok 41 (mL k) = true := by decide +kernel
theorem ok_42 : ∀ k, k < 42 → e_ok 42 (mL k) = true := by decide +kernel
theorem ok_43 : ∀ k, k < 43 → e_ok 43 (mL k) = true := by decide +kernel
theorem ok_44 : ∀ k, k < 44 → e_ok 44 (mL k) = true := by decide +kernel
theorem ok_45 : ∀ k, k < 45 → e_ok 45 (mL k) = true := by decide +kernel
theorem ok_46 : ∀ k, k < 46 → e_ok 46 (mL k) = true := by decide +kernel
theorem ok_47 : ∀ k, k < 47 → e_ok 47 (mL k) = true := by decide +kernel
theorem ok_48 : ∀ k, k < 48 → e_ok 48 (mL k) = true := by decide +kernel
theorem ok_55 : ∀ k, k < 55 → e_ok 55 (mL k) = true := by decide +kernel
theorem ok_56 : ∀ k, k < 56 → e_ok 56 (mL k) = true := by decide +kernel
theorem ok_69 : ∀ k, k < 69 → e_ok 69 (mL k) = true := by decide +kernel
theorem ok_70 : ∀ k, k < 70 → e_ok 70 (mL k) = true := by decide +kernel
theorem ok_71 : ∀ k, k < 71 → e_ok 71 (mL k) = true := by decide +kernel
theorem ok_72 : ∀ k, k < 72 → e_ok 72 (mL k) = true := by decide +kernel
theorem ok_73 : ∀ k, k < 73 → e_ok 73 (mL k) = true := by decide +kernel
theorem ok_74 : ∀ k, k < 74 → e_ok 74 (mL k) = true := by decide +kernel
theorem ok_82 : ∀ k, k < 82 → e_ok 82 (mL k) = true := by decide +kernel
theorem ok_83 : ∀ k, k < 83 → e_ok 83 (mL k) = true := by decide +kernel
theorem ok_84 : ∀ k, k < 84 → e_ok 84 (mL k) = true := by decide +kernel
theorem ok_85 : ∀ k, k < 85 → e_ok 85 (mL k) = true := by decide +kernel
theorem ok_86 : ∀ k, k < 86 → e_ok 86 (mL k) = true := by decide +kernel
theorem ok_94 : ∀ k, k < 94 → e_ok 94 (mL k) = true := by decide +kernel
theorem ok_95 : ∀ k, k < 95 → e_ok 95 (mL k) = true := by decide +kernel
theorem ok_96 : ∀ k, k < 96 → e_ok 96 (mL k) = true := by decide +kernel
theorem ok_97 : ∀ k, k < 97 → e_ok 97 (mL k) = true := by decide +kernel
theorem ok_98 : ∀ k, k < 98 → e_ok 98 (mL k) = true := by decide +kernel
theorem ok_99 : ∀ k, k < 99 → e_ok 99 (mL k) = true := by decide +kernel
theorem ok_100 : ∀ k, k < 100 → e_ok 100 (mL k) = true := by decide +kernel
theorem ok_101 : ∀ k, k < 101 → e_ok 101 (mL k) = true := by decide +kernel
theorem ok_102 : ∀ k, k < 102 → e_ok 102 (mL k) = true := by decide +kernel
theorem ok_103 : ∀ k, k < 103 → e_ok 103 (mL k) = true := by decide +kernel
theorem ok_104 : ∀ k, k < 104 → e_ok 104 (mL k) = true := by decide +kernel
theorem ok_105 : ∀ k, k < 105 → e_ok 105 (mL k) = true := by decide +kernel
theorem ok_106 : ∀ k, k < 106 → e_ok 106 (mL k) = true := by decide +kernel
theorem ok_107 : ∀ k, k < 107 → e_ok 107 (mL k) = true := by decide +kernel
theorem ok_108 : ∀ k, k < 108 → e_ok 108 (mL k) = true := by decide +kernel
theorem ok_109 : ∀ k, k < 109 → e_ok 109 (mL k) = true := by decide +kernel
theorem ok_110 : ∀ k, k < 110 → e_ok 110 (mL k) = true := by decide +kernel
theorem ok_111 : ∀ k, k < 111 → e_ok 111 (mL k) = true := by decide +kernel
theorem ok_112 : ∀ k, k < 112 → e_ok 112 (mL k) = true := by decide +kernel
theorem ok_113 : ∀ k, k < 113 → e_ok 113 (mL k) = true := by decide +kernel
theorem ok_114 : ∀ k, k < 114 → e_ok 114 (mL k) = true := by decide +kernel
theorem ok_115 : ∀ k, k < 115 → e_ok 115 (mL k) = true := by decide +kernel
theorem ok_116 : ∀ k, k < 116 → e_ok 116 (mL k) = true := by decide +kernel
theorem ok_117 : ∀ k, k < 117 → e_ok 117 (mL k) = true := by decide +kernel
theorem ok_118 : ∀ k, k < 118 → e_ok 118 (mL k) = true := by decide +kernel
theorem ok_119 : ∀ k, k < 119 → e_ok 119 (mL k) = true := by decide +kernel
theorem ok_120 : ∀ k, k < 120 → e_ok 120 (mL k) = true := by decide +kernel
theorem ok_121 : ∀ k, k < 121 → e_ok 121 (mL k) = true := by decide +kernel
theorem ok_122 : ∀ k, k < 122 → e_ok 122 (mL k) = true := by decide +kernel
theorem ok_123 : ∀ k, k < 123 → e_ok 123 (mL k) = true := by decide +kernel
theorem ok_124 : ∀ k, k < 124 → e_ok 124 (mL k) = true := by decide +kernel
theorem ok_125 : ∀ k, k < 125 → e_ok 125 (mL k) = true := by decide +kernel
abbrev rm_X7_init : Room := { frames := 1, cells := 1, slots := 80, locals := 12 }
theorem in_X7_init_X7 : ∀ w ∈ wsX70, w ∈ wsX7_init := fun w h => List.mem_cons_of_mem _ (List.mem_append_right _ h)
def w_X7_init (σ : eS) (post : eS → Prop) : Prop := ∀ σ3 : eS, σ3 = e_ur σ 1 0 3 → post σ3
set_option maxHeartbeats 8000000 in
set_option maxRecDepth 100000 in
theorem c_X7_init {l : Launch} {D : va_G} {ρ : Nat → Nat} {κ : Nat → ClassId} {base : Nat} {σ : eS} {post : eS → Prop} (Z : eZ σ 2) (h : w_X7_init σ post) : eMc l yX7_init wsX7_init rm_X7_init mL 2 3 vwCl (gT κ) D ρ κ base gNw gMw [.ref (ρ (1))] σ post 1 80 := by
  refine ec_ofW (cc := cX7_init) (maxL := 1) (ret := none) (by decide) rfl rfl (Nat.le_of_ble_eq_true rfl) ?_
  intro p e s m below meth c ls C hin2 K X G hl
  obtain ⟨hx, hb, hml, hown, hts, hr, hlocks⟩ := id C
  have hl : lv_has ls 1 [(0, .ref (ρ (1)))] := hl
  unfold w_X7_init at h
  refine lv_aload_n hx hb dX7_init_0 rfl (lv_at hl 0 rfl) ?_
  refine W.objInit hx hb hown (hts (.methodLink RX7 3 objectInit) (e_mem (n := 1) rfl)) (hts (.instanceMethod objectInit) (e_mem (n := 2) rfl)) (hts (.code objectInit ⟨#[0xb1]⟩ 1 none) (e_mem (n := 3) rfl)) rfl (by rw [hml]; exact hl.1) rfl dX7_init_1 (Nat.le_of_ble_eq_true rfl) (Nat.le_of_ble_eq_true rfl) ?_
  refine W.eq (g2 := F0 m 4 ls []) rfl ?_
  refine lv_aload_n hx hb dX7_init_4 rfl (lv_at hl 0 rfl) ?_
  refine lv_bipush (v := (80 : Int32)) hx hb dX7_init_5 (by decide) ?_
  refine ec_newa (atype := .char) (ty := .char) hx hb (hts (.arrayClass .char) (e_mem (n := 4) rfl)) rfl K G Z ok_2 (kd := 0) ml_2 (by first | exact Or.inl ⟨rfl, rfl⟩ | exact Or.inr ⟨rfl, rfl⟩) rfl (fun _ _ => rfl) (by decide) rfl (by decide) (Nat.le_of_ble_eq_true rfl) (Nat.le_of_ble_eq_true rfl) dX7_init_7 (fun ρ1 H hg2 K G Z => ?_)
  rw [← hg2 1 (by decide)] at hl
  refine W.eq (g2 := F0 m 9 ls [.ref (ρ1 (2)), .ref (ρ1 (1))]) (by rw [hg2 1 (by decide)]) ?_
  refine e_putrF hx hb hts in_X7_init_X7 tyX7 tyX7_ok nmX7 hown K G 1 (by decide) ml_1 rfl 0 (by decide) rfl (hts (.fieldLink RX7 11 "StreetsStepOn$Text" "signs" "[C") (e_mem (n := 5) rfl)) rfl hin2 rfl 3 (tyX7_ok 0 (by decide)) rfl rfl dX7_init_9 (fun H locs G => ?_)
  have Z : eZ (e_ur σ 1 0 3) 3 := Z.ur (by decide) (by decide)
  obtain ⟨σ3, eσ3⟩ : ∃ z : eS, z = e_ur σ 1 0 3 := ⟨_, rfl⟩
  rw [← eσ3] at G Z
  have h := h σ3 eσ3
  exact ec_vret hx hb hr hlocks K G Z (fun k hk => by rw [hg2 k (Nat.lt_of_lt_of_le hk (by decide))]) h dX7_init_12
abbrev rm_X5_init : Room := { frames := 1, cells := 1, slots := 12, locals := 12 }
theorem in_X5_init_X5 : ∀ w ∈ wsX50, w ∈ wsX5_init := fun w h => List.mem_cons_of_mem _ (List.mem_append_right _ h)
def w_X5_init (σ : eS) (post : eS → Prop) : Prop := ∀ σ3 : eS, σ3 = e_ur σ 3 0 5 → post σ3
set_option maxHeartbeats 8000000 in
set_option maxRecDepth 100000 in
theorem c_X5_init {l : Launch} {D : va_G} {ρ : Nat → Nat} {κ : Nat → ClassId} {base : Nat} {σ : eS} {post : eS → Prop} (Z : eZ σ 4) (h : w_X5_init σ post) : eMc l yX5_init wsX5_init rm_X5_init mL 4 5 vwCl (gT κ) D ρ κ base gNw gMw [.ref (ρ (3))] σ post 1 12 := by
  refine ec_ofW (cc := cX5_init) (maxL := 1) (ret := none) (by decide) rfl rfl (Nat.le_of_ble_eq_true rfl) ?_
  intro p e s m below meth c ls C hin2 K X G hl
  obtain ⟨hx, hb, hml, hown, hts, hr, hlocks⟩ := id C
  have hl : lv_has ls 1 [(0, .ref (ρ (3)))] := hl
  unfold w_X5_init at h
  refine lv_aload_n hx hb dX5_init_0 rfl (lv_at hl 0 rfl) ?_
  refine W.objInit hx hb hown (hts (.methodLink RX5 3 objectInit) (e_mem (n := 1) rfl)) (hts (.instanceMethod objectInit) (e_mem (n := 2) rfl)) (hts (.code objectInit ⟨#[0xb1]⟩ 1 none) (e_mem (n := 3) rfl)) rfl (by rw [hml]; exact hl.1) rfl dX5_init_1 (Nat.le_of_ble_eq_true rfl) (Nat.le_of_ble_eq_true rfl) ?_
  refine W.eq (g2 := F0 m 4 ls []) rfl ?_
  refine lv_aload_n hx hb dX5_init_4 rfl (lv_at hl 0 rfl) ?_
  refine lv_bipush (v := (12 : Int32)) hx hb dX5_init_5 (by decide) ?_
  refine ec_newa (atype := .long) (ty := .long) hx hb (hts (.arrayClass .long) (e_mem (n := 4) rfl)) rfl K G Z ok_4 (kd := 1) ml_4 (by first | exact Or.inl ⟨rfl, rfl⟩ | exact Or.inr ⟨rfl, rfl⟩) rfl (fun _ _ => rfl) (by decide) rfl (by decide) (Nat.le_of_ble_eq_true rfl) (Nat.le_of_ble_eq_true rfl) dX5_init_7 (fun ρ1 H hg2 K G Z => ?_)
  rw [← hg2 3 (by decide)] at hl
  refine W.eq (g2 := F0 m 9 ls [.ref (ρ1 (4)), .ref (ρ1 (3))]) (by rw [hg2 3 (by decide)]) ?_
  refine e_putrF hx hb hts in_X5_init_X5 tyX5 tyX5_ok nmX5 hown K G 3 (by decide) ml_3 rfl 0 (by decide) rfl (hts (.fieldLink RX5 9 "StreetsStepOn$Row" "numbers" "[J") (e_mem (n := 5) rfl)) rfl hin2 rfl 5 (tyX5_ok 0 (by decide)) rfl rfl dX5_init_9 (fun H locs G => ?_)
  have Z : eZ (e_ur σ 3 0 5) 5 := Z.ur (by decide) (by decide)
  obtain ⟨σ3, eσ3⟩ : ∃ z : eS, z = e_ur σ 3 0 5 := ⟨_, rfl⟩
  rw [← eσ3] at G Z
  have h := h σ3 eσ3
  exact ec_vret hx hb hr hlocks K G Z (fun k hk => by rw [hg2 k (Nat.lt_of_lt_of_le hk (by decide))]) h dX5_init_12
abbrev rm_X1_init : Room := { frames := 1, cells := 11, slots := 127, locals := 12 }
theorem in_X1_init_X1 : ∀ w ∈ wsX10, w ∈ wsX1_init := fun w h => List.mem_cons_of_mem _ (List.mem_append_right _ h)
def w_X1_init (σ : eS) (post : eS → Prop) : Prop := ∀ σ3 : eS, σ3 = e_ur σ 5 0 7 → ∀ σ6 : eS, σ6 = e_ur σ3 5 1 15 → ∀ σ9 : eS, σ9 = e_ur σ6 5 2 16 → ∀ σ12 : eS, σ12 = e_ur σ9 5 3 17 → post σ12
set_option maxHeartbeats 8000000 in
set_option maxRecDepth 100000 in
theorem c_X1_init {l : Launch} {D : va_G} {ρ : Nat → Nat} {κ : Nat → ClassId} {base : Nat} {σ : eS} {post : eS → Prop} (Z : eZ σ 6) (h : w_X1_init σ post) : eMc l yX1_init wsX1_init rm_X1_init mL 6 17 vwCl (gT κ) D ρ κ base gNw gMw [.ref (ρ (5))] σ post 11 127 := by
  refine ec_ofW (cc := cX1_init) (maxL := 1) (ret := none) (by decide) rfl rfl (Nat.le_of_ble_eq_true rfl) ?_
  intro p e s m below meth c ls C hin2 K X G hl
  obtain ⟨hx, hb, hml, hown, hts, hr, hlocks⟩ := id C
  have hl : lv_has ls 1 [(0, .ref (ρ (5)))] := hl
  unfold w_X1_init at h
  refine lv_aload_n hx hb dX1_init_0 rfl (lv_at hl 0 rfl) ?_
  refine W.objInit hx hb hown (hts (.methodLink RX1 3 objectInit) (e_mem (n := 1) rfl)) (hts (.instanceMethod objectInit) (e_mem (n := 2) rfl)) (hts (.code objectInit ⟨#[0xb1]⟩ 1 none) (e_mem (n := 3) rfl)) rfl (by rw [hml]; exact hl.1) rfl dX1_init_1 (Nat.le_of_ble_eq_true rfl) (Nat.le_of_ble_eq_true rfl) ?_
  refine W.eq (g2 := F0 m 4 ls []) rfl ?_
  refine lv_aload_n hx hb dX1_init_4 rfl (lv_at hl 0 rfl) ?_
  refine lv_bipush (v := (7 : Int32)) hx hb dX1_init_5 (by decide) ?_
  refine lv_bipush (v := (12 : Int32)) hx hb dX1_init_7 (by decide) ?_
  refine ec_mna (ty := .int) hx hb hown (hts (.classLink RX1 9 "[[I") (e_mem (n := 4) rfl)) X.1 (hts (.arrayClass .int) (e_mem (n := 5) rfl)) K G Z ok_6 (kd := 0) (a := 0) (K' := 12) ml_6 rfl (fun i hi => (mr_6 i hi).2.1) (by first | exact Or.inl ⟨rfl, rfl⟩ | exact Or.inr ⟨rfl, rfl⟩) rfl rfl (fun _ _ => rfl) rfl (by decide) (by decide) rfl rfl (by decide) (by decide) (by decide) rfl rfl (Nat.le_of_ble_eq_true rfl) (Nat.le_of_ble_eq_true rfl) dX1_init_9 (fun ρ1 H hg2 K G Z => ?_)
  rw [← hg2 5 (by decide)] at hl
  refine W.eq (g2 := F0 m 13 ls [.ref (ρ1 (6)), .ref (ρ1 (5))]) (by rw [hg2 5 (by decide)]) ?_
  refine e_putrF hx hb hts in_X1_init_X1 tyX1 tyX1_ok nmX1 hown K G 5 (by decide) ml_5 rfl 0 (by decide) rfl (hts (.fieldLink RX1 11 "StreetsStepOn$Book" "nexts" "[[I") (e_mem (n := 6) rfl)) rfl hin2 rfl 7 (tyX1_ok 0 (by decide)) rfl rfl dX1_init_13 (fun H locs G => ?_)
  have Z : eZ (e_ur σ 5 0 7) 14 := Z.ur (by decide) (by decide)
  obtain ⟨σ3, eσ3⟩ : ∃ z : eS, z = e_ur σ 5 0 7 := ⟨_, rfl⟩
  rw [← eσ3] at G Z
  have h := h σ3 eσ3
  refine lv_aload_n hx hb dX1_init_16 rfl (lv_at hl 0 rfl) ?_
  refine lv_bipush (v := (12 : Int32)) hx hb dX1_init_17 (by decide) ?_
  refine ec_newa (atype := .int) (ty := .int) hx hb (hts (.arrayClass .int) (e_mem (n := 5) rfl)) rfl K G Z ok_14 (kd := 0) ml_14 (by first | exact Or.inl ⟨rfl, rfl⟩ | exact Or.inr ⟨rfl, rfl⟩) rfl (fun _ _ => rfl) (by decide) rfl (by decide) (Nat.le_of_ble_eq_true rfl) (Nat.le_of_ble_eq_true rfl) dX1_init_19 (fun ρ4 H hg5 K G Z => ?_)
  rw [← hg5 5 (by decide)] at hl
  refine W.eq (g2 := F0 m 21 ls [.ref (ρ4 (14)), .ref (ρ4 (5))]) (by rw [hg5 5 (by decide)]) ?_
  refine e_putrF hx hb hts in_X1_init_X1 tyX1 tyX1_ok nmX1 hown K G 5 (by decide) ml_5 rfl 1 (by decide) rfl (hts (.fieldLink RX1 16 "StreetsStepOn$Book" "lengths" "[I") (e_mem (n := 7) rfl)) rfl hin2 rfl 15 (tyX1_ok 1 (by decide)) rfl rfl dX1_init_21 (fun H locs G => ?_)
  have Z : eZ (e_ur σ3 5 1 15) 15 := Z.ur (by decide) (by decide)
  obtain ⟨σ6, eσ6⟩ : ∃ z : eS, z = e_ur σ3 5 1 15 := ⟨_, rfl⟩
  rw [← eσ6] at G Z
  have h := h σ6 eσ6
  refine lv_aload_n hx hb dX1_init_24 rfl (lv_at hl 0 rfl) ?_
  refine lv_bipush (v := (12 : Int32)) hx hb dX1_init_25 (by decide) ?_
  refine ec_newa (atype := .int) (ty := .int) hx hb (hts (.arrayClass .int) (e_mem (n := 5) rfl)) rfl K G Z ok_15 (kd := 0) ml_15 (by first | exact Or.inl ⟨rfl, rfl⟩ | exact Or.inr ⟨rfl, rfl⟩) rfl (fun _ _ => rfl) (by decide) rfl (by decide) (Nat.le_of_ble_eq_true rfl) (Nat.le_of_ble_eq_true rfl) dX1_init_27 (fun ρ7 H hg8 K G Z => ?_)
  rw [← hg8 5 (by decide)] at hl
  refine W.eq (g2 := F0 m 29 ls [.ref (ρ7 (15)), .ref (ρ7 (5))]) (by rw [hg8 5 (by decide)]) ?_
  refine e_putrF hx hb hts in_X1_init_X1 tyX1 tyX1_ok nmX1 hown K G 5 (by decide) ml_5 rfl 2 (by decide) rfl (hts (.fieldLink RX1 20 "StreetsStepOn$Book" "letterNames" "[I") (e_mem (n := 8) rfl)) rfl hin2 rfl 16 (tyX1_ok 2 (by decide)) rfl rfl dX1_init_29 (fun H locs G => ?_)
  have Z : eZ (e_ur σ6 5 2 16) 16 := Z.ur (by decide) (by decide)
  obtain ⟨σ9, eσ9⟩ : ∃ z : eS, z = e_ur σ6 5 2 16 := ⟨_, rfl⟩
  rw [← eσ9] at G Z
  have h := h σ9 eσ9
  refine lv_aload_n hx hb dX1_init_32 rfl (lv_at hl 0 rfl) ?_
  refine lv_bipush (v := (12 : Int32)) hx hb dX1_init_33 (by decide) ?_
  refine ec_newa (atype := .long) (ty := .long) hx hb (hts (.arrayClass .long) (e_mem (n := 9) rfl)) rfl K G Z ok_16 (kd := 1) ml_16 (by first | exact Or.inl ⟨rfl, rfl⟩ | exact Or.inr ⟨rfl, rfl⟩) rfl (fun _ _ => rfl) (by decide) rfl (by decide) (Nat.le_of_ble_eq_true rfl) (Nat.le_of_ble_eq_true rfl) dX1_init_35 (fun ρ10 H hg11 K G Z => ?_)
  rw [← hg11 5 (by decide)] at hl
  refine W.eq (g2 := F0 m 37 ls [.ref (ρ10 (16)), .ref (ρ10 (5))]) (by rw [hg11 5 (by decide)]) ?_
  refine e_putrF hx hb hts in_X1_init_X1 tyX1 tyX1_ok nmX1 hown K G 5 (by decide) ml_5 rfl 3 (by decide) rfl (hts (.fieldLink RX1 23 "StreetsStepOn$Book" "letterDays" "[J") (e_mem (n := 10) rfl)) rfl hin2 rfl 17 (tyX1_ok 3 (by decide)) rfl rfl dX1_init_37 (fun H locs G => ?_)
  have Z : eZ (e_ur σ9 5 3 17) 17 := Z.ur (by decide) (by decide)
  obtain ⟨σ12, eσ12⟩ : ∃ z : eS, z = e_ur σ9 5 3 17 := ⟨_, rfl⟩
  rw [← eσ12] at G Z
  have h := h σ12 eσ12
  exact ec_vret hx hb hr hlocks K G Z (fun k hk => by rw [hg11 k (Nat.lt_of_lt_of_le hk (by decide))]; rw [hg8 k (Nat.lt_of_lt_of_le hk (by decide))]; rw [hg5 k (Nat.lt_of_lt_of_le hk (by decide))]; rw [hg2 k (Nat.lt_of_lt_of_le hk (by decide))]) h dX1_init_40
abbrev rm_X4_stayAway_c32 : Room := { frames := 0, cells := 0, slots := 0, locals := 0 }
theorem in_X4_stayAway_c32_X4 : ∀ w ∈ wsX40, w ∈ wsX4_stayAway := fun w h => List.mem_cons_of_mem _ (List.mem_append_right _ h)
def b_X4_stayAway_c32_35 (post : eS → Prop) (K2 : eS → Int32 → Prop) (K10 : eS → Int32 → Int32 → Prop) (σ : eS) (x1 : Int32) (x2 : Int32) (y0 : Int32) (y1 : Int32) (ky2 : Nat) : Prop := (vp_in y1 10) ∧ ∀ σ10 : eS, σ10 = e_ui σ ky2 y1.toNatClampNeg y0 → ∀ v11 : Int32, v11 = (x2 + (1 : Int32)) → K10 σ10 x1 v11
set_option maxHeartbeats 4000000 in
set_option maxRecDepth 100000 in
theorem l_X4_stayAway_c32_35 {p : Program} {l : Launch} {e : Env} {s : State} {m : MethodId} {args : Array Value} {below : List Frame} {meth : Method} {c : Code} {D : va_G} {ρ : Nat → Nat} {κ : Nat → ClassId} {base : Nat} {post : eS → Prop} (C : eCx p s m args meth c cX4_stayAway RX4 3 none wsX4_stayAway) (K : eK 32 vwCl (gT κ) D ρ base gNw s) {K2 : eS → Int32 → Prop} (hK2 : ∀ (σ : eS) (x1 : Int32) (H : Heap) (locs : List Loc) (ls : Array Slot), K2 σ x1 → eG mL 32 vwCl D ρ κ base s σ H locs → lv_has ls 3 [(0, .ref (ρ (18))), (1, .int (x1))] → W p l e rm_X4_stayAway_c32 s m args below meth c H locs 0 0 (MQ below (va_Qv post (e_Bw mL 32 vwCl D ρ κ) (eA base)) args s 0 0 (eA base)) (F0 m 2 ls [])) {K10 : eS → Int32 → Int32 → Prop} (hK10 : ∀ (σ : eS) (x1 : Int32) (x2 : Int32) (H : Heap) (locs : List Loc) (ls : Array Slot), K10 σ x1 x2 → eG mL 32 vwCl D ρ κ base s σ H locs → lv_has ls 3 [(0, .ref (ρ (18))), (1, .int (x1)), (2, .int (x2))] → W p l e rm_X4_stayAway_c32 s m args below meth c H locs 0 0 (MQ below (va_Qv post (e_Bw mL 32 vwCl D ρ κ) (eA base)) args s 0 0 (eA base)) (F0 m 10 ls [])) : ∀ (σ : eS) (x1 : Int32) (x2 : Int32) (y0 : Int32) (y1 : Int32) (ky2 : Nat) (H : Heap) (locs : List Loc) (ls : Array Slot), ky2 < 32 → mL ky2 = (1, 10, [0]) → b_X4_stayAway_c32_35 post K2 K10 σ x1 x2 y0 y1 ky2 → eG mL 32 vwCl D ρ κ base s σ H locs → lv_has ls 3 [(0, .ref (ρ (18))), (1, .int (x1)), (2, .int (x2))] → W p l e rm_X4_stayAway_c32 s m args below meth c H locs 0 0 (MQ below (va_Qv post (e_Bw mL 32 vwCl D ρ κ) (eA base)) args s 0 0 (eA base)) (F0 m 35 ls [.int (y0), .int (y1), .ref (ρ (ky2))]) := by
  obtain ⟨hx, hb, hml, hown, hts, hr, hlocks⟩ := id C
  intro σ x1 x2 y0 y1 ky2 H locs ls hky2 hly2 h G hl
  unfold b_X4_stayAway_c32_35 at h
  have hi9 := h.1
  have h := h.2
  refine e_iast hx hb K G ky2 0 0 10 hky2 hly2 rfl hi9 dX4_stayAway_35 (fun H locs G => ?_)
  obtain ⟨σ10, eσ10⟩ : ∃ z : eS, z = e_ui σ ky2 y1.toNatClampNeg y0 := ⟨_, rfl⟩
  rw [← eσ10] at G
  have h := h σ10 eσ10
  obtain ⟨v11, ev11⟩ : ∃ y : Int32, y = x2 + (1 : Int32) := ⟨_, rfl⟩
  have h := h v11 ev11
  refine lv_iinc (v := v11) (lv' := [(2, .int (v11)), (0, .ref (ρ (18))), (1, .int (x1))]) hx hb dX4_stayAway_36 hl (k := 2) rfl (by rw [ev11]; rfl) (by decide) rfl (fun ls hl => ?_)
  refine lv_goto (tgt := 10) hx hb dX4_stayAway_39 (by decide) ?_
  exact hK10 σ10 x1 v11 _ _ _  h G (lv_sub hl [1, 2, 0] rfl)
def b_X4_stayAway_c32_10 (post : eS → Prop) (K2 : eS → Int32 → Prop) : Nat → eS → Int32 → Int32 → Prop
  | 0, _, _, _ => False
  | n + 1, σ, x1, x2 => (((10 : Int32) ≤ x2 → ∀ v5 : Int32, v5 = (x1 + (1 : Int32)) → K2 σ v5) ∧ (¬ ((10 : Int32) ≤ x2) → (σ.2.2 18 2 = 22) ∧ (vp_in x1 10) ∧ ((¬ x1 = x2 → b_X4_stayAway_c32_35 post K2 (fun s x1 x2 => b_X4_stayAway_c32_10 post K2 n s x1 x2) σ x1 x2 (999 : Int32) x2 (22 + x1.toNatClampNeg)) ∧ (x1 = x2 → b_X4_stayAway_c32_35 post K2 (fun s x1 x2 => b_X4_stayAway_c32_10 post K2 n s x1 x2) σ x1 x2 (0 : Int32) x2 (22 + x1.toNatClampNeg)))))
set_option maxHeartbeats 4000000 in
set_option maxRecDepth 100000 in
theorem l_X4_stayAway_c32_10 {p : Program} {l : Launch} {e : Env} {s : State} {m : MethodId} {args : Array Value} {below : List Frame} {meth : Method} {c : Code} {D : va_G} {ρ : Nat → Nat} {κ : Nat → ClassId} {base : Nat} {post : eS → Prop} (C : eCx p s m args meth c cX4_stayAway RX4 3 none wsX4_stayAway) (K : eK 32 vwCl (gT κ) D ρ base gNw s) {K2 : eS → Int32 → Prop} (hK2 : ∀ (σ : eS) (x1 : Int32) (H : Heap) (locs : List Loc) (ls : Array Slot), K2 σ x1 → eG mL 32 vwCl D ρ κ base s σ H locs → lv_has ls 3 [(0, .ref (ρ (18))), (1, .int (x1))] → W p l e rm_X4_stayAway_c32 s m args below meth c H locs 0 0 (MQ below (va_Qv post (e_Bw mL 32 vwCl D ρ κ) (eA base)) args s 0 0 (eA base)) (F0 m 2 ls [])) : ∀ (n : Nat) (σ : eS) (x1 : Int32) (x2 : Int32) (H : Heap) (locs : List Loc) (ls : Array Slot), b_X4_stayAway_c32_10 post K2 n σ x1 x2 → eG mL 32 vwCl D ρ κ base s σ H locs → lv_has ls 3 [(0, .ref (ρ (18))), (1, .int (x1)), (2, .int (x2))] → W p l e rm_X4_stayAway_c32 s m args below meth c H locs 0 0 (MQ below (va_Qv post (e_Bw mL 32 vwCl D ρ κ) (eA base)) args s 0 0 (eA base)) (F0 m 10 ls []) := by
  obtain ⟨hx, hb, hml, hown, hts, hr, hlocks⟩ := id C
  intro n
  induction n with
  | zero => intro σ x1 x2 H locs ls h G hl; exact False.elim h
  | succ n ih =>
    intro σ x1 x2 H locs ls h G hl
    rw [b_X4_stayAway_c32_10] at h
    refine lv_iload_n hx hb dX4_stayAway_10 rfl (lv_at hl 2 rfl) ?_
    refine lv_bipush (v := (10 : Int32)) hx hb dX4_stayAway_11 (by decide) ?_
    refine lv_icmp_ge (tgt := 42) hx hb dX4_stayAway_13 (by decide) (fun c4 => ?_) (fun c4 => ?_)
    · have h := h.1 c4
      obtain ⟨v5, ev5⟩ : ∃ y : Int32, y = x1 + (1 : Int32) := ⟨_, rfl⟩
      have h := h v5 ev5
      refine lv_iinc (v := v5) (lv' := [(1, .int (v5)), (0, .ref (ρ (18))), (2, .int (x2))]) hx hb dX4_stayAway_42 hl (k := 1) rfl (by rw [ev5]; rfl) (by decide) rfl (fun ls hl => ?_)
      refine lv_goto (tgt := 2) hx hb dX4_stayAway_45 (by decide) ?_
      exact hK2 σ v5 _ _ _  h G (lv_sub hl [1, 0] rfl)
    · have h := h.2 c4
      refine lv_aload_n hx hb dX4_stayAway_16 rfl (lv_at hl 0 rfl) ?_
      refine e_getr hx hb hts in_X4_stayAway_c32_X4 hown K G 18 (by decide) ml_18 rfl 2 (by decide) rfl (hts (.fieldLink RX4 20 "StreetsStepOn$Roads" "ways" "[[I") (e_mem (n := 1) rfl)) dX4_stayAway_17 ?_
      have c6 := h.1
      have h := h.2
      rw [c6]
      refine W.eq (g2 := F0 m 20 ls ([.ref (ρ (21))])) rfl ?_
      refine lv_iload_n hx hb dX4_stayAway_20 rfl (lv_at hl 1 rfl) ?_
      have hi7 := h.1
      have h := h.2
      refine e_aald hx hb K G 21 5 5 10 (by decide) _ ml_21 rfl rfl hi7 (22 + x1.toNatClampNeg) (mr_21 _ (e_lt hi7)).1 dX4_stayAway_21 ?_
      refine lv_iload_n hx hb dX4_stayAway_22 rfl (lv_at hl 2 rfl) ?_
      refine lv_iload_n hx hb dX4_stayAway_23 rfl (lv_at hl 1 rfl) ?_
      refine lv_iload_n hx hb dX4_stayAway_24 rfl (lv_at hl 2 rfl) ?_
      refine lv_icmp_ne (tgt := 32) hx hb dX4_stayAway_25 (by decide) (fun c8 => ?_) (fun c8 => ?_)
      · have h := h.1 c8
        refine lv_sipush (v := (999 : Int32)) hx hb dX4_stayAway_32 (by decide) ?_
        exact l_X4_stayAway_c32_35 C K (hK2 := hK2) (hK10 := ih) σ x1 x2 (999 : Int32) x2 (22 + x1.toNatClampNeg) _ _ _ (mr_21 _ (e_lt hi7)).2.2 (mr_21 _ (e_lt hi7)).2.1 h G (lv_sub hl [0, 1, 2] rfl)
      · have h := h.2 c8
        refine lv_iconst (v := (0 : Int32)) hx hb dX4_stayAway_28 (by decide) ?_
        refine lv_goto (tgt := 35) hx hb dX4_stayAway_29 (by decide) ?_
        exact l_X4_stayAway_c32_35 C K (hK2 := hK2) (hK10 := ih) σ x1 x2 (0 : Int32) x2 (22 + x1.toNatClampNeg) _ _ _ (mr_21 _ (e_lt hi7)).2.2 (mr_21 _ (e_lt hi7)).2.1 h G (lv_sub hl [0, 1, 2] rfl)
def b_X4_stayAway_c32_2 (post : eS → Prop) : Nat → eS → Int32 → Prop
  | 0, _, _ => False
  | n + 1, σ, x1 => (((10 : Int32) ≤ x1 → post σ) ∧ (¬ ((10 : Int32) ≤ x1) → ∀ v3 : Int32, v3 = (0 : Int32) → (∃ n12 : Nat, b_X4_stayAway_c32_10 post (fun s x1 => b_X4_stayAway_c32_2 post n s x1) n12 σ x1 v3)))
set_option maxHeartbeats 4000000 in
set_option maxRecDepth 100000 in
theorem l_X4_stayAway_c32_2 {p : Program} {l : Launch} {e : Env} {s : State} {m : MethodId} {args : Array Value} {below : List Frame} {meth : Method} {c : Code} {D : va_G} {ρ : Nat → Nat} {κ : Nat → ClassId} {base : Nat} {post : eS → Prop} (C : eCx p s m args meth c cX4_stayAway RX4 3 none wsX4_stayAway) (K : eK 32 vwCl (gT κ) D ρ base gNw s) : ∀ (n : Nat) (σ : eS) (x1 : Int32) (H : Heap) (locs : List Loc) (ls : Array Slot), b_X4_stayAway_c32_2 post n σ x1 → eG mL 32 vwCl D ρ κ base s σ H locs → lv_has ls 3 [(0, .ref (ρ (18))), (1, .int (x1))] → W p l e rm_X4_stayAway_c32 s m args below meth c H locs 0 0 (MQ below (va_Qv post (e_Bw mL 32 vwCl D ρ κ) (eA base)) args s 0 0 (eA base)) (F0 m 2 ls []) := by
  obtain ⟨hx, hb, hml, hown, hts, hr, hlocks⟩ := id C
  intro n
  induction n with
  | zero => intro σ x1 H locs ls h G hl; exact False.elim h
  | succ n ih =>
    intro σ x1 H locs ls h G hl
    rw [b_X4_stayAway_c32_2] at h
    refine lv_iload_n hx hb dX4_stayAway_2 rfl (lv_at hl 1 rfl) ?_
    refine lv_bipush (v := (10 : Int32)) hx hb dX4_stayAway_3 (by decide) ?_
    refine lv_icmp_ge (tgt := 48) hx hb dX4_stayAway_5 (by decide) (fun c2 => ?_) (fun c2 => ?_)
    · have h := h.1 c2
      exact e_vret hx hb hr hlocks G h dX4_stayAway_48
    · have h := h.2 c2
      refine lv_iconst (v := (0 : Int32)) hx hb dX4_stayAway_8 (by decide) ?_
      refine lv_topi (fun v3 ev3 => ?_)
      have h := h v3 ev3
      refine lv_istore_n (lv' := [(2, .int (v3)), (0, .ref (ρ (18))), (1, .int (x1))]) hx hb dX4_stayAway_9 rfl hl (by decide) rfl (fun ls hl => ?_)
      obtain ⟨n12, h⟩ := h
      exact l_X4_stayAway_c32_10 C K (hK2 := ih) n12 σ x1 v3 _ _ _  h G (lv_sub hl [1, 2, 0] rfl)
def w_X4_stayAway_c32 (σ : eS) (post : eS → Prop) : Prop := ∀ v1 : Int32, v1 = (0 : Int32) → (∃ n13 : Nat, b_X4_stayAway_c32_2 post n13 σ v1)
set_option maxHeartbeats 4000000 in
set_option maxRecDepth 100000 in
theorem c_X4_stayAway_c32 {l : Launch} {D : va_G} {ρ : Nat → Nat} {κ : Nat → ClassId} {base : Nat} {σ : eS} {post : eS → Prop} (h : w_X4_stayAway_c32 σ post) : eMv l yX4_stayAway wsX4_stayAway rm_X4_stayAway_c32 mL 32 vwCl (gT κ) D ρ κ base gNw [.ref (ρ (18))] σ post := by
  refine e_ofWv (cc := cX4_stayAway) (maxL := 3) (ret := none) (by decide) rfl (Nat.le_of_ble_eq_true rfl) ?_
  intro p e s m below meth c ls C K G hl
  obtain ⟨hx, hb, hml, hown, hts, hr, hlocks⟩ := id C
  have hl : lv_has ls 3 [(0, .ref (ρ (18)))] := hl
  unfold w_X4_stayAway_c32 at h
  refine lv_iconst (v := (0 : Int32)) hx hb dX4_stayAway_0 (by decide) ?_
  refine lv_topi (fun v1 ev1 => ?_)
  have h := h v1 ev1
  refine lv_istore_n (lv' := [(1, .int (v1)), (0, .ref (ρ (18)))]) hx hb dX4_stayAway_1 rfl hl (by decide) rfl (fun ls hl => ?_)
  obtain ⟨n13, h⟩ := h
  exact l_X4_stayAway_c32_2 C K n13 σ v1 _ _ _  h G (lv_sub hl [1, 0] rfl)
abbrev rm_X4_init : Room := { frames := 1, cells := 13, slots := 134, locals := 22 }
theorem in_X4_init_X4 : ∀ w ∈ wsX40, w ∈ wsX4_init := fun w h => List.mem_cons_of_mem _ (List.mem_append_right _ h)
def w_X4_init (σ : eS) (post : eS → Prop) : Prop := ∀ σ3 : eS, σ3 = e_ur σ 18 0 20 → ∀ σ6 : eS, σ6 = e_ur σ3 18 1 21 → ∀ σ9 : eS, σ9 = e_ur σ6 18 2 22 → w_X4_stayAway_c32 σ9 (fun σ10 => (eZ σ10 32) ∧ post σ10)
set_option maxHeartbeats 8000000 in
set_option maxRecDepth 100000 in
theorem c_X4_init {l : Launch} {D : va_G} {ρ : Nat → Nat} {κ : Nat → ClassId} {base : Nat} {σ : eS} {post : eS → Prop} (Z : eZ σ 19) (h : w_X4_init σ post) : eMc l yX4_init wsX4_init rm_X4_init mL 19 32 vwCl (gT κ) D ρ κ base gNw gMw [.ref (ρ (18))] σ post 13 134 := by
  refine ec_ofW (cc := cX4_init) (maxL := 1) (ret := none) (by decide) rfl rfl (Nat.le_of_ble_eq_true rfl) ?_
  intro p e s m below meth c ls C hin2 K X G hl
  obtain ⟨hx, hb, hml, hown, hts, hr, hlocks⟩ := id C
  have hl : lv_has ls 1 [(0, .ref (ρ (18)))] := hl
  unfold w_X4_init at h
  refine lv_aload_n hx hb dX4_init_0 rfl (lv_at hl 0 rfl) ?_
  refine W.objInit hx hb hown (hts (.methodLink RX4 3 objectInit) (e_mem (n := 1) rfl)) (hts (.instanceMethod objectInit) (e_mem (n := 2) rfl)) (hts (.code objectInit ⟨#[0xb1]⟩ 1 none) (e_mem (n := 3) rfl)) rfl (by rw [hml]; exact hl.1) rfl dX4_init_1 (Nat.le_of_ble_eq_true rfl) (Nat.le_of_ble_eq_true rfl) ?_
  refine W.eq (g2 := F0 m 4 ls []) rfl ?_
  refine lv_aload_n hx hb dX4_init_4 rfl (lv_at hl 0 rfl) ?_
  refine lv_bipush (v := (12 : Int32)) hx hb dX4_init_5 (by decide) ?_
  refine ec_newa (atype := .int) (ty := .int) hx hb (hts (.arrayClass .int) (e_mem (n := 4) rfl)) rfl K G Z ok_19 (kd := 0) ml_19 (by first | exact Or.inl ⟨rfl, rfl⟩ | exact Or.inr ⟨rfl, rfl⟩) rfl (fun _ _ => rfl) (by decide) rfl (by decide) (Nat.le_of_ble_eq_true rfl) (Nat.le_of_ble_eq_true rfl) dX4_init_7 (fun ρ1 H hg2 K G Z => ?_)
  rw [← hg2 18 (by decide)] at hl
  refine W.eq (g2 := F0 m 9 ls [.ref (ρ1 (19)), .ref (ρ1 (18))]) (by rw [hg2 18 (by decide)]) ?_
  refine e_putrF hx hb hts in_X4_init_X4 tyX4 tyX4_ok nmX4 hown K G 18 (by decide) ml_18 rfl 0 (by decide) rfl (hts (.fieldLink RX4 9 "StreetsStepOn$Roads" "firsts" "[I") (e_mem (n := 5) rfl)) rfl hin2 rfl 20 (tyX4_ok 0 (by decide)) rfl rfl dX4_init_9 (fun H locs G => ?_)
  have Z : eZ (e_ur σ 18 0 20) 20 := Z.ur (by decide) (by decide)
  obtain ⟨σ3, eσ3⟩ : ∃ z : eS, z = e_ur σ 18 0 20 := ⟨_, rfl⟩
  rw [← eσ3] at G Z
  have h := h σ3 eσ3
  refine lv_aload_n hx hb dX4_init_12 rfl (lv_at hl 0 rfl) ?_
  refine lv_bipush (v := (12 : Int32)) hx hb dX4_init_13 (by decide) ?_
  refine ec_newa (atype := .int) (ty := .int) hx hb (hts (.arrayClass .int) (e_mem (n := 4) rfl)) rfl K G Z ok_20 (kd := 0) ml_20 (by first | exact Or.inl ⟨rfl, rfl⟩ | exact Or.inr ⟨rfl, rfl⟩) rfl (fun _ _ => rfl) (by decide) rfl (by decide) (Nat.le_of_ble_eq_true rfl) (Nat.le_of_ble_eq_true rfl) dX4_init_15 (fun ρ4 H hg5 K G Z => ?_)
  rw [← hg5 18 (by decide)] at hl
  refine W.eq (g2 := F0 m 17 ls [.ref (ρ4 (20)), .ref (ρ4 (18))]) (by rw [hg5 18 (by decide)]) ?_
  refine e_putrF hx hb hts in_X4_init_X4 tyX4 tyX4_ok nmX4 hown K G 18 (by decide) ml_18 rfl 1 (by decide) rfl (hts (.fieldLink RX4 15 "StreetsStepOn$Roads" "others" "[I") (e_mem (n := 6) rfl)) rfl hin2 rfl 21 (tyX4_ok 1 (by decide)) rfl rfl dX4_init_17 (fun H locs G => ?_)
  have Z : eZ (e_ur σ3 18 1 21) 21 := Z.ur (by decide) (by decide)
  obtain ⟨σ6, eσ6⟩ : ∃ z : eS, z = e_ur σ3 18 1 21 := ⟨_, rfl⟩
  rw [← eσ6] at G Z
  have h := h σ6 eσ6
  refine lv_aload_n hx hb dX4_init_20 rfl (lv_at hl 0 rfl) ?_
  refine lv_bipush (v := (10 : Int32)) hx hb dX4_init_21 (by decide) ?_
  refine lv_bipush (v := (10 : Int32)) hx hb dX4_init_23 (by decide) ?_
  refine ec_mna (ty := .int) hx hb hown (hts (.classLink RX4 18 "[[I") (e_mem (n := 7) rfl)) X.1 (hts (.arrayClass .int) (e_mem (n := 4) rfl)) K G Z ok_21 (kd := 0) (a := 0) (K' := 10) ml_21 rfl (fun i hi => (mr_21 i hi).2.1) (by first | exact Or.inl ⟨rfl, rfl⟩ | exact Or.inr ⟨rfl, rfl⟩) rfl rfl (fun _ _ => rfl) rfl (by decide) (by decide) rfl rfl (by decide) (by decide) (by decide) rfl rfl (Nat.le_of_ble_eq_true rfl) (Nat.le_of_ble_eq_true rfl) dX4_init_25 (fun ρ7 H hg8 K G Z => ?_)
  rw [← hg8 18 (by decide)] at hl
  refine W.eq (g2 := F0 m 29 ls [.ref (ρ7 (21)), .ref (ρ7 (18))]) (by rw [hg8 18 (by decide)]) ?_
  refine e_putrF hx hb hts in_X4_init_X4 tyX4 tyX4_ok nmX4 hown K G 18 (by decide) ml_18 rfl 2 (by decide) rfl (hts (.fieldLink RX4 20 "StreetsStepOn$Roads" "ways" "[[I") (e_mem (n := 8) rfl)) rfl hin2 rfl 22 (tyX4_ok 2 (by decide)) rfl rfl dX4_init_29 (fun H locs G => ?_)
  have Z : eZ (e_ur σ6 18 2 22) 32 := Z.ur (by decide) (by decide)
  obtain ⟨σ9, eσ9⟩ : ∃ z : eS, z = e_ur σ6 18 2 22 := ⟨_, rfl⟩
  rw [← eσ9] at G Z
  have h := h σ9 eσ9
  refine lv_aload_n hx hb dX4_init_32 rfl (lv_at hl 0 rfl) ?_
  refine e_callVv (As := []) (rest := []) ⟨hx, hb, hml, hown, hts⟩ K G 18 (by decide) ml_18 rfl (c_X4_stayAway_c32 h) (cwV 0 hts gX4_init_X4_stayAway rfl rfl rfl (by decide +kernel) ⟨Nat.le_of_ble_eq_true rfl, Nat.le_of_ble_eq_true rfl⟩) rfl hl.1 rfl (Nat.le_of_ble_eq_true rfl) dX4_init_33 ⟨Nat.le_of_ble_eq_true rfl, Nat.le_of_ble_eq_true rfl⟩ (fun σ10 H locs h G => ?_)
  have Z := h.1
  have h := h.2
  exact ec_vret hx hb hr hlocks K G Z (fun k hk => by rw [hg8 k (Nat.lt_of_lt_of_le hk (by decide))]; rw [hg5 k (Nat.lt_of_lt_of_le hk (by decide))]; rw [hg2 k (Nat.lt_of_lt_of_le hk (by decide))]) h dX4_init_36
abbrev rm_X0_init : Room := { frames := 1, cells := 2, slots := 840, locals := 12 }
theorem in_X0_init_X0 : ∀ w ∈ wsX00, w ∈ wsX0_init := fun w h => List.mem_cons_of_mem _ (List.mem_append_right _ h)
def w_X0_init (σ : eS) (post : eS → Prop) : Prop := ∀ σ3 : eS, σ3 = e_ur σ 32 0 34 → ∀ σ6 : eS, σ6 = e_ur σ3 32 1 35 → ∀ σ7 : eS, σ7 = e_ui σ6 32 2 (1 : Int32) → ∀ σ8 : eS, σ8 = e_ui σ7 32 3 (1 : Int32) → post σ8
set_option maxHeartbeats 8000000 in
set_option maxRecDepth 100000 in
theorem c_X0_init {l : Launch} {D : va_G} {ρ : Nat → Nat} {κ : Nat → ClassId} {base : Nat} {σ : eS} {post : eS → Prop} (Z : eZ σ 33) (h : w_X0_init σ post) : eMc l yX0_init wsX0_init rm_X0_init mL 33 35 vwCl (gT κ) D ρ κ base gNw gMw [.ref (ρ (32))] σ post 2 840 := by
  refine ec_ofW (cc := cX0_init) (maxL := 1) (ret := none) (by decide) rfl rfl (Nat.le_of_ble_eq_true rfl) ?_
  intro p e s m below meth c ls C hin2 K X G hl
  obtain ⟨hx, hb, hml, hown, hts, hr, hlocks⟩ := id C
  have hl : lv_has ls 1 [(0, .ref (ρ (32)))] := hl
  unfold w_X0_init at h
  refine lv_aload_n hx hb dX0_init_0 rfl (lv_at hl 0 rfl) ?_
  refine W.objInit hx hb hown (hts (.methodLink RX0 3 objectInit) (e_mem (n := 1) rfl)) (hts (.instanceMethod objectInit) (e_mem (n := 2) rfl)) (hts (.code objectInit ⟨#[0xb1]⟩ 1 none) (e_mem (n := 3) rfl)) rfl (by rw [hml]; exact hl.1) rfl dX0_init_1 (Nat.le_of_ble_eq_true rfl) (Nat.le_of_ble_eq_true rfl) ?_
  refine W.eq (g2 := F0 m 4 ls []) rfl ?_
  refine lv_aload_n hx hb dX0_init_4 rfl (lv_at hl 0 rfl) ?_
  refine lv_sipush (v := (420 : Int32)) hx hb dX0_init_5 (by decide) ?_
  refine ec_newa (atype := .long) (ty := .long) hx hb (hts (.arrayClass .long) (e_mem (n := 4) rfl)) rfl K G Z ok_33 (kd := 1) ml_33 (by first | exact Or.inl ⟨rfl, rfl⟩ | exact Or.inr ⟨rfl, rfl⟩) rfl (fun _ _ => rfl) (by decide) rfl (by decide) (Nat.le_of_ble_eq_true rfl) (Nat.le_of_ble_eq_true rfl) dX0_init_8 (fun ρ1 H hg2 K G Z => ?_)
  rw [← hg2 32 (by decide)] at hl
  refine W.eq (g2 := F0 m 10 ls [.ref (ρ1 (33)), .ref (ρ1 (32))]) (by rw [hg2 32 (by decide)]) ?_
  refine e_putrF hx hb hts in_X0_init_X0 tyX0 tyX0_ok nmX0 hown K G 32 (by decide) ml_32 rfl 0 (by decide) rfl (hts (.fieldLink RX0 11 "StreetsStepOn$Almanac" "names" "[J") (e_mem (n := 5) rfl)) rfl hin2 rfl 34 (tyX0_ok 0 (by decide)) rfl rfl dX0_init_10 (fun H locs G => ?_)
  have Z : eZ (e_ur σ 32 0 34) 34 := Z.ur (by decide) (by decide)
  obtain ⟨σ3, eσ3⟩ : ∃ z : eS, z = e_ur σ 32 0 34 := ⟨_, rfl⟩
  rw [← eσ3] at G Z
  have h := h σ3 eσ3
  refine lv_aload_n hx hb dX0_init_13 rfl (lv_at hl 0 rfl) ?_
  refine lv_sipush (v := (420 : Int32)) hx hb dX0_init_14 (by decide) ?_
  refine ec_newa (atype := .long) (ty := .long) hx hb (hts (.arrayClass .long) (e_mem (n := 4) rfl)) rfl K G Z ok_34 (kd := 1) ml_34 (by first | exact Or.inl ⟨rfl, rfl⟩ | exact Or.inr ⟨rfl, rfl⟩) rfl (fun _ _ => rfl) (by decide) rfl (by decide) (Nat.le_of_ble_eq_true rfl) (Nat.le_of_ble_eq_true rfl) dX0_init_17 (fun ρ4 H hg5 K G Z => ?_)
  rw [← hg5 32 (by decide)] at hl
  refine W.eq (g2 := F0 m 19 ls [.ref (ρ4 (34)), .ref (ρ4 (32))]) (by rw [hg5 32 (by decide)]) ?_
  refine e_putrF hx hb hts in_X0_init_X0 tyX0 tyX0_ok nmX0 hown K G 32 (by decide) ml_32 rfl 1 (by decide) rfl (hts (.fieldLink RX0 15 "StreetsStepOn$Almanac" "bearers" "[J") (e_mem (n := 6) rfl)) rfl hin2 rfl 35 (tyX0_ok 1 (by decide)) rfl rfl dX0_init_19 (fun H locs G => ?_)
  have Z : eZ (e_ur σ3 32 1 35) 35 := Z.ur (by decide) (by decide)
  obtain ⟨σ6, eσ6⟩ : ∃ z : eS, z = e_ur σ3 32 1 35 := ⟨_, rfl⟩
  rw [← eσ6] at G Z
  have h := h σ6 eσ6
  refine lv_aload_n hx hb dX0_init_22 rfl (lv_at hl 0 rfl) ?_
  refine lv_iconst (v := (1 : Int32)) hx hb dX0_init_23 (by decide) ?_
  refine e_puti hx hb hts in_X0_init_X0 tyX0 tyX0_ok nmX0 hown K G 32 (by decide) ml_32 rfl 2 (by decide) rfl (hts (.fieldLink RX0 18 "StreetsStepOn$Almanac" "turn" "I") (e_mem (n := 7) rfl)) rfl (tyX0_ok 2 (by decide)) rfl rfl dX0_init_24 (fun H locs G => ?_)
  have Z : eZ (e_ui σ6 32 2 (1 : Int32)) 35 := Z.ui (by decide)
  obtain ⟨σ7, eσ7⟩ : ∃ z : eS, z = e_ui σ6 32 2 (1 : Int32) := ⟨_, rfl⟩
  rw [← eσ7] at G Z
  have h := h σ7 eσ7
  refine lv_aload_n hx hb dX0_init_27 rfl (lv_at hl 0 rfl) ?_
  refine lv_iconst (v := (1 : Int32)) hx hb dX0_init_28 (by decide) ?_
  refine e_puti hx hb hts in_X0_init_X0 tyX0 tyX0_ok nmX0 hown K G 32 (by decide) ml_32 rfl 3 (by decide) rfl (hts (.fieldLink RX0 22 "StreetsStepOn$Almanac" "firstOwn" "I") (e_mem (n := 8) rfl)) rfl (tyX0_ok 3 (by decide)) rfl rfl dX0_init_29 (fun H locs G => ?_)
  have Z : eZ (e_ui σ7 32 3 (1 : Int32)) 35 := Z.ui (by decide)
  obtain ⟨σ8, eσ8⟩ : ∃ z : eS, z = e_ui σ7 32 3 (1 : Int32) := ⟨_, rfl⟩
  rw [← eσ8] at G Z
  have h := h σ8 eσ8
  exact ec_vret hx hb hr hlocks K G Z (fun k hk => by rw [hg5 k (Nat.lt_of_lt_of_le hk (by decide))]; rw [hg2 k (Nat.lt_of_lt_of_le hk (by decide))]) h dX0_init_32
abbrev rm_X9_init : Room := { frames := 1, cells := 0, slots := 0, locals := 12 }
def w_X9_init (σ : eS) (post : eS → Prop) : Prop := post σ
set_option maxHeartbeats 8000000 in
set_option maxRecDepth 100000 in
theorem c_X9_init {l : Launch} {D : va_G} {ρ : Nat → Nat} {κ : Nat → ClassId} {base : Nat} {σ : eS} {post : eS → Prop} (Z : eZ σ 36) (h : w_X9_init σ post) : eMc l yX9_init wsX9_init rm_X9_init mL 36 36 vwCl (gT κ) D ρ κ base gNw gMw [.ref (ρ (35))] σ post 0 0 := by
  refine ec_ofW (cc := cX9_init) (maxL := 1) (ret := none) (by decide) rfl rfl (Nat.le_of_ble_eq_true rfl) ?_
  intro p e s m below meth c ls C hin2 K X G hl
  obtain ⟨hx, hb, hml, hown, hts, hr, hlocks⟩ := id C
  have hl : lv_has ls 1 [(0, .ref (ρ (35)))] := hl
  unfold w_X9_init at h
  refine lv_aload_n hx hb dX9_init_0 rfl (lv_at hl 0 rfl) ?_
  refine W.objInit hx hb hown (hts (.methodLink RX9 3 objectInit) (e_mem (n := 1) rfl)) (hts (.instanceMethod objectInit) (e_mem (n := 2) rfl)) (hts (.code objectInit ⟨#[0xb1]⟩ 1 none) (e_mem (n := 3) rfl)) rfl (by rw [hml]; exact hl.1) rfl dX9_init_1 (Nat.le_of_ble_eq_true rfl) (Nat.le_of_ble_eq_true rfl) ?_
  refine W.eq (g2 := F0 m 4 ls []) rfl ?_
  exact ec_vret hx hb hr hlocks K G Z (fun k hk => by rfl) h dX9_init_4
abbrev rm_X6_init : Room := { frames := 1, cells := 4, slots := 126, locals := 12 }
theorem in_X6_init_X6 : ∀ w ∈ wsX60, w ∈ wsX6_init := fun w h => List.mem_cons_of_mem _ (List.mem_append_right _ h)
def w_X6_init (σ : eS) (post : eS → Prop) : Prop := ∀ σ3 : eS, σ3 = e_ur σ 36 0 38 → ∀ σ6 : eS, σ6 = e_ur σ3 36 1 39 → ∀ σ9 : eS, σ9 = e_ur σ6 36 2 40 → ∀ σ12 : eS, σ12 = e_ur σ9 36 3 41 → post σ12
set_option maxHeartbeats 8000000 in
set_option maxRecDepth 100000 in
theorem c_X6_init {l : Launch} {D : va_G} {ρ : Nat → Nat} {κ : Nat → ClassId} {base : Nat} {σ : eS} {post : eS → Prop} (Z : eZ σ 37) (h : w_X6_init σ post) : eMc l yX6_init wsX6_init rm_X6_init mL 37 41 vwCl (gT κ) D ρ κ base gNw gMw [.ref (ρ (36))] σ post 4 126 := by
  refine ec_ofW (cc := cX6_init) (maxL := 1) (ret := none) (by decide) rfl rfl (Nat.le_of_ble_eq_true rfl) ?_
  intro p e s m below meth c ls C hin2 K X G hl
  obtain ⟨hx, hb, hml, hown, hts, hr, hlocks⟩ := id C
  have hl : lv_has ls 1 [(0, .ref (ρ (36)))] := hl
  unfold w_X6_init at h
  refine lv_aload_n hx hb dX6_init_0 rfl (lv_at hl 0 rfl) ?_
  refine W.objInit hx hb hown (hts (.methodLink RX6 1 objectInit) (e_mem (n := 1) rfl)) (hts (.instanceMethod objectInit) (e_mem (n := 2) rfl)) (hts (.code objectInit ⟨#[0xb1]⟩ 1 none) (e_mem (n := 3) rfl)) rfl (by rw [hml]; exact hl.1) rfl dX6_init_1 (Nat.le_of_ble_eq_true rfl) (Nat.le_of_ble_eq_true rfl) ?_
  refine W.eq (g2 := F0 m 4 ls []) rfl ?_
  refine lv_aload_n hx hb dX6_init_4 rfl (lv_at hl 0 rfl) ?_
  refine lv_bipush (v := (6 : Int32)) hx hb dX6_init_5 (by decide) ?_
  refine ec_newa (atype := .int) (ty := .int) hx hb (hts (.arrayClass .int) (e_mem (n := 4) rfl)) rfl K G Z ok_37 (kd := 0) ml_37 (by first | exact Or.inl ⟨rfl, rfl⟩ | exact Or.inr ⟨rfl, rfl⟩) rfl (fun _ _ => rfl) (by decide) rfl (by decide) (Nat.le_of_ble_eq_true rfl) (Nat.le_of_ble_eq_true rfl) dX6_init_7 (fun ρ1 H hg2 K G Z => ?_)
  rw [← hg2 36 (by decide)] at hl
  refine W.eq (g2 := F0 m 9 ls [.ref (ρ1 (37)), .ref (ρ1 (36))]) (by rw [hg2 36 (by decide)]) ?_
  refine e_putrF hx hb hts in_X6_init_X6 tyX6 tyX6_ok nmX6 hown K G 36 (by decide) ml_36 rfl 0 (by decide) rfl (hts (.fieldLink RX6 7 "StreetsStepOn$Rule" "values" "[I") (e_mem (n := 5) rfl)) rfl hin2 rfl 38 (tyX6_ok 0 (by decide)) rfl rfl dX6_init_9 (fun H locs G => ?_)
  have Z : eZ (e_ur σ 36 0 38) 38 := Z.ur (by decide) (by decide)
  obtain ⟨σ3, eσ3⟩ : ∃ z : eS, z = e_ur σ 36 0 38 := ⟨_, rfl⟩
  rw [← eσ3] at G Z
  have h := h σ3 eσ3
  refine lv_aload_n hx hb dX6_init_12 rfl (lv_at hl 0 rfl) ?_
  refine lv_bipush (v := (40 : Int32)) hx hb dX6_init_13 (by decide) ?_
  refine ec_newa (atype := .int) (ty := .int) hx hb (hts (.arrayClass .int) (e_mem (n := 4) rfl)) rfl K G Z ok_38 (kd := 0) ml_38 (by first | exact Or.inl ⟨rfl, rfl⟩ | exact Or.inr ⟨rfl, rfl⟩) rfl (fun _ _ => rfl) (by decide) rfl (by decide) (Nat.le_of_ble_eq_true rfl) (Nat.le_of_ble_eq_true rfl) dX6_init_15 (fun ρ4 H hg5 K G Z => ?_)
  rw [← hg5 36 (by decide)] at hl
  refine W.eq (g2 := F0 m 17 ls [.ref (ρ4 (38)), .ref (ρ4 (36))]) (by rw [hg5 36 (by decide)]) ?_
  refine e_putrF hx hb hts in_X6_init_X6 tyX6 tyX6_ok nmX6 hown K G 36 (by decide) ml_36 rfl 1 (by decide) rfl (hts (.fieldLink RX6 13 "StreetsStepOn$Rule" "draft" "[I") (e_mem (n := 6) rfl)) rfl hin2 rfl 39 (tyX6_ok 1 (by decide)) rfl rfl dX6_init_17 (fun H locs G => ?_)
  have Z : eZ (e_ur σ3 36 1 39) 39 := Z.ur (by decide) (by decide)
  obtain ⟨σ6, eσ6⟩ : ∃ z : eS, z = e_ur σ3 36 1 39 := ⟨_, rfl⟩
  rw [← eσ6] at G Z
  have h := h σ6 eσ6
  refine lv_aload_n hx hb dX6_init_20 rfl (lv_at hl 0 rfl) ?_
  refine lv_bipush (v := (40 : Int32)) hx hb dX6_init_21 (by decide) ?_
  refine ec_newa (atype := .int) (ty := .int) hx hb (hts (.arrayClass .int) (e_mem (n := 4) rfl)) rfl K G Z ok_39 (kd := 0) ml_39 (by first | exact Or.inl ⟨rfl, rfl⟩ | exact Or.inr ⟨rfl, rfl⟩) rfl (fun _ _ => rfl) (by decide) rfl (by decide) (Nat.le_of_ble_eq_true rfl) (Nat.le_of_ble_eq_true rfl) dX6_init_23 (fun ρ7 H hg8 K G Z => ?_)
  rw [← hg8 36 (by decide)] at hl
  refine W.eq (g2 := F0 m 25 ls [.ref (ρ7 (39)), .ref (ρ7 (36))]) (by rw [hg8 36 (by decide)]) ?_
  refine e_putrF hx hb hts in_X6_init_X6 tyX6 tyX6_ok nmX6 hown K G 36 (by decide) ml_36 rfl 2 (by decide) rfl (hts (.fieldLink RX6 16 "StreetsStepOn$Rule" "steps" "[I") (e_mem (n := 7) rfl)) rfl hin2 rfl 40 (tyX6_ok 2 (by decide)) rfl rfl dX6_init_25 (fun H locs G => ?_)
  have Z : eZ (e_ur σ6 36 2 40) 40 := Z.ur (by decide) (by decide)
  obtain ⟨σ9, eσ9⟩ : ∃ z : eS, z = e_ur σ6 36 2 40 := ⟨_, rfl⟩
  rw [← eσ9] at G Z
  have h := h σ9 eσ9
  refine lv_aload_n hx hb dX6_init_28 rfl (lv_at hl 0 rfl) ?_
  refine lv_bipush (v := (40 : Int32)) hx hb dX6_init_29 (by decide) ?_
  refine ec_newa (atype := .int) (ty := .int) hx hb (hts (.arrayClass .int) (e_mem (n := 4) rfl)) rfl K G Z ok_40 (kd := 0) ml_40 (by first | exact Or.inl ⟨rfl, rfl⟩ | exact Or.inr ⟨rfl, rfl⟩) rfl (fun _ _ => rfl) (by decide) rfl (by decide) (Nat.le_of_ble_eq_true rfl) (Nat.le_of_ble_eq_true rfl) dX6_init_31 (fun ρ10 H hg11 K G Z => ?_)
  rw [← hg11 36 (by decide)] at hl
  refine W.eq (g2 := F0 m 33 ls [.ref (ρ10 (40)), .ref (ρ10 (36))]) (by rw [hg11 36 (by decide)]) ?_
  refine e_putrF hx hb hts in_X6_init_X6 tyX6 tyX6_ok nmX6 hown K G 36 (by decide) ml_36 rfl 3 (by decide) rfl (hts (.fieldLink RX6 19 "StreetsStepOn$Rule" "stack" "[I") (e_mem (n := 8) rfl)) rfl hin2 rfl 41 (tyX6_ok 3 (by decide)) rfl rfl dX6_init_33 (fun H locs G => ?_)
  have Z : eZ (e_ur σ9 36 3 41) 41 := Z.ur (by decide) (by decide)
  obtain ⟨σ12, eσ12⟩ : ∃ z : eS, z = e_ur σ9 36 3 41 := ⟨_, rfl⟩
  rw [← eσ12] at G Z
  have h := h σ12 eσ12
  exact ec_vret hx hb hr hlocks K G Z (fun k hk => by rw [hg11 k (Nat.lt_of_lt_of_le hk (by decide))]; rw [hg8 k (Nat.lt_of_lt_of_le hk (by decide))]; rw [hg5 k (Nat.lt_of_lt_of_le hk (by decide))]; rw [hg2 k (Nat.lt_of_lt_of_le hk (by decide))]) h dX6_init_36
abbrev rm_X2_init : Room := { frames := 1, cells := 5, slots := 30, locals := 12 }
theorem in_X2_init_X2 : ∀ w ∈ wsX20, w ∈ wsX2_init := fun w h => List.mem_cons_of_mem _ (List.mem_append_right _ h)
def w_X2_init (σ : eS) (post : eS → Prop) : Prop := ∀ σ3 : eS, σ3 = e_ur σ 41 0 43 → ∀ σ6 : eS, σ6 = e_ur σ3 41 1 44 → ∀ σ9 : eS, σ9 = e_ur σ6 41 2 45 → ∀ σ12 : eS, σ12 = e_ur σ9 41 4 46 → ∀ σ15 : eS, σ15 = e_ur σ12 41 6 47 → post σ15
set_option maxHeartbeats 8000000 in
set_option maxRecDepth 100000 in
theorem c_X2_init {l : Launch} {D : va_G} {ρ : Nat → Nat} {κ : Nat → ClassId} {base : Nat} {σ : eS} {post : eS → Prop} (Z : eZ σ 42) (h : w_X2_init σ post) : eMc l yX2_init wsX2_init rm_X2_init mL 42 47 vwCl (gT κ) D ρ κ base gNw gMw [.ref (ρ (41))] σ post 5 30 := by
  refine ec_ofW (cc := cX2_init) (maxL := 1) (ret := none) (by decide) rfl rfl (Nat.le_of_ble_eq_true rfl) ?_
  intro p e s m below meth c ls C hin2 K X G hl
  obtain ⟨hx, hb, hml, hown, hts, hr, hlocks⟩ := id C
  have hl : lv_has ls 1 [(0, .ref (ρ (41)))] := hl
  unfold w_X2_init at h
  refine lv_aload_n hx hb dX2_init_0 rfl (lv_at hl 0 rfl) ?_
  refine W.objInit hx hb hown (hts (.methodLink RX2 3 objectInit) (e_mem (n := 1) rfl)) (hts (.instanceMethod objectInit) (e_mem (n := 2) rfl)) (hts (.code objectInit ⟨#[0xb1]⟩ 1 none) (e_mem (n := 3) rfl)) rfl (by rw [hml]; exact hl.1) rfl dX2_init_1 (Nat.le_of_ble_eq_true rfl) (Nat.le_of_ble_eq_true rfl) ?_
  refine W.eq (g2 := F0 m 4 ls []) rfl ?_
  refine lv_aload_n hx hb dX2_init_4 rfl (lv_at hl 0 rfl) ?_
  refine lv_bipush (v := (6 : Int32)) hx hb dX2_init_5 (by decide) ?_
  refine ec_newa (atype := .int) (ty := .int) hx hb (hts (.arrayClass .int) (e_mem (n := 4) rfl)) rfl K G Z ok_42 (kd := 0) ml_42 (by first | exact Or.inl ⟨rfl, rfl⟩ | exact Or.inr ⟨rfl, rfl⟩) rfl (fun _ _ => rfl) (by decide) rfl (by decide) (Nat.le_of_ble_eq_true rfl) (Nat.le_of_ble_eq_true rfl) dX2_init_7 (fun ρ1 H hg2 K G Z => ?_)
  rw [← hg2 41 (by decide)] at hl
  refine W.eq (g2 := F0 m 9 ls [.ref (ρ1 (42)), .ref (ρ1 (41))]) (by rw [hg2 41 (by decide)]) ?_
  refine e_putrF hx hb hts in_X2_init_X2 tyX2 tyX2_ok nmX2 hown K G 41 (by decide) ml_41 rfl 0 (by decide) rfl (hts (.fieldLink RX2 9 "StreetsStepOn$Council" "sorts" "[I") (e_mem (n := 5) rfl)) rfl hin2 rfl 43 (tyX2_ok 0 (by decide)) rfl rfl dX2_init_9 (fun H locs G => ?_)
  have Z : eZ (e_ur σ 41 0 43) 43 := Z.ur (by decide) (by decide)
  obtain ⟨σ3, eσ3⟩ : ∃ z : eS, z = e_ur σ 41 0 43 := ⟨_, rfl⟩
  rw [← eσ3] at G Z
  have h := h σ3 eσ3
  refine lv_aload_n hx hb dX2_init_12 rfl (lv_at hl 0 rfl) ?_
  refine lv_bipush (v := (6 : Int32)) hx hb dX2_init_13 (by decide) ?_
  refine ec_newa (atype := .int) (ty := .int) hx hb (hts (.arrayClass .int) (e_mem (n := 4) rfl)) rfl K G Z ok_43 (kd := 0) ml_43 (by first | exact Or.inl ⟨rfl, rfl⟩ | exact Or.inr ⟨rfl, rfl⟩) rfl (fun _ _ => rfl) (by decide) rfl (by decide) (Nat.le_of_ble_eq_true rfl) (Nat.le_of_ble_eq_true rfl) dX2_init_15 (fun ρ4 H hg5 K G Z => ?_)
  rw [← hg5 41 (by decide)] at hl
  refine W.eq (g2 := F0 m 17 ls [.ref (ρ4 (43)), .ref (ρ4 (41))]) (by rw [hg5 41 (by decide)]) ?_
  refine e_putrF hx hb hts in_X2_init_X2 tyX2 tyX2_ok nmX2 hown K G 41 (by decide) ml_41 rfl 1 (by decide) rfl (hts (.fieldLink RX2 15 "StreetsStepOn$Council" "streets" "[I") (e_mem (n := 6) rfl)) rfl hin2 rfl 44 (tyX2_ok 1 (by decide)) rfl rfl dX2_init_17 (fun H locs G => ?_)
  have Z : eZ (e_ur σ3 41 1 44) 44 := Z.ur (by decide) (by decide)
  obtain ⟨σ6, eσ6⟩ : ∃ z : eS, z = e_ur σ3 41 1 44 := ⟨_, rfl⟩
  rw [← eσ6] at G Z
  have h := h σ6 eσ6
  refine lv_aload_n hx hb dX2_init_20 rfl (lv_at hl 0 rfl) ?_
  refine lv_bipush (v := (6 : Int32)) hx hb dX2_init_21 (by decide) ?_
  refine ec_newa (atype := .int) (ty := .int) hx hb (hts (.arrayClass .int) (e_mem (n := 4) rfl)) rfl K G Z ok_44 (kd := 0) ml_44 (by first | exact Or.inl ⟨rfl, rfl⟩ | exact Or.inr ⟨rfl, rfl⟩) rfl (fun _ _ => rfl) (by decide) rfl (by decide) (Nat.le_of_ble_eq_true rfl) (Nat.le_of_ble_eq_true rfl) dX2_init_23 (fun ρ7 H hg8 K G Z => ?_)
  rw [← hg8 41 (by decide)] at hl
  refine W.eq (g2 := F0 m 25 ls [.ref (ρ7 (44)), .ref (ρ7 (41))]) (by rw [hg8 41 (by decide)]) ?_
  refine e_putrF hx hb hts in_X2_init_X2 tyX2 tyX2_ok nmX2 hown K G 41 (by decide) ml_41 rfl 2 (by decide) rfl (hts (.fieldLink RX2 18 "StreetsStepOn$Council" "numbers" "[I") (e_mem (n := 7) rfl)) rfl hin2 rfl 45 (tyX2_ok 2 (by decide)) rfl rfl dX2_init_25 (fun H locs G => ?_)
  have Z : eZ (e_ur σ6 41 2 45) 45 := Z.ur (by decide) (by decide)
  obtain ⟨σ9, eσ9⟩ : ∃ z : eS, z = e_ur σ6 41 2 45 := ⟨_, rfl⟩
  rw [← eσ9] at G Z
  have h := h σ9 eσ9
  refine lv_aload_n hx hb dX2_init_28 rfl (lv_at hl 0 rfl) ?_
  refine lv_bipush (v := (6 : Int32)) hx hb dX2_init_29 (by decide) ?_
  refine ec_newa (atype := .int) (ty := .int) hx hb (hts (.arrayClass .int) (e_mem (n := 4) rfl)) rfl K G Z ok_45 (kd := 0) ml_45 (by first | exact Or.inl ⟨rfl, rfl⟩ | exact Or.inr ⟨rfl, rfl⟩) rfl (fun _ _ => rfl) (by decide) rfl (by decide) (Nat.le_of_ble_eq_true rfl) (Nat.le_of_ble_eq_true rfl) dX2_init_31 (fun ρ10 H hg11 K G Z => ?_)
  rw [← hg11 41 (by decide)] at hl
  refine W.eq (g2 := F0 m 33 ls [.ref (ρ10 (45)), .ref (ρ10 (41))]) (by rw [hg11 41 (by decide)]) ?_
  refine e_putrF hx hb hts in_X2_init_X2 tyX2 tyX2_ok nmX2 hown K G 41 (by decide) ml_41 rfl 4 (by decide) rfl (hts (.fieldLink RX2 21 "StreetsStepOn$Council" "way" "[I") (e_mem (n := 8) rfl)) rfl hin2 rfl 46 (tyX2_ok 4 (by decide)) rfl rfl dX2_init_33 (fun H locs G => ?_)
  have Z : eZ (e_ur σ9 41 4 46) 46 := Z.ur (by decide) (by decide)
  obtain ⟨σ12, eσ12⟩ : ∃ z : eS, z = e_ur σ9 41 4 46 := ⟨_, rfl⟩
  rw [← eσ12] at G Z
  have h := h σ12 eσ12
  refine lv_aload_n hx hb dX2_init_36 rfl (lv_at hl 0 rfl) ?_
  refine lv_bipush (v := (6 : Int32)) hx hb dX2_init_37 (by decide) ?_
  refine ec_newa (atype := .int) (ty := .int) hx hb (hts (.arrayClass .int) (e_mem (n := 4) rfl)) rfl K G Z ok_46 (kd := 0) ml_46 (by first | exact Or.inl ⟨rfl, rfl⟩ | exact Or.inr ⟨rfl, rfl⟩) rfl (fun _ _ => rfl) (by decide) rfl (by decide) (Nat.le_of_ble_eq_true rfl) (Nat.le_of_ble_eq_true rfl) dX2_init_39 (fun ρ13 H hg14 K G Z => ?_)
  rw [← hg14 41 (by decide)] at hl
  refine W.eq (g2 := F0 m 41 ls [.ref (ρ13 (46)), .ref (ρ13 (41))]) (by rw [hg14 41 (by decide)]) ?_
  refine e_putrF hx hb hts in_X2_init_X2 tyX2 tyX2_ok nmX2 hown K G 41 (by decide) ml_41 rfl 6 (by decide) rfl (hts (.fieldLink RX2 24 "StreetsStepOn$Council" "found" "[I") (e_mem (n := 9) rfl)) rfl hin2 rfl 47 (tyX2_ok 6 (by decide)) rfl rfl dX2_init_41 (fun H locs G => ?_)
  have Z : eZ (e_ur σ12 41 6 47) 47 := Z.ur (by decide) (by decide)
  obtain ⟨σ15, eσ15⟩ : ∃ z : eS, z = e_ur σ12 41 6 47 := ⟨_, rfl⟩
  rw [← eσ15] at G Z
  have h := h σ15 eσ15
  exact ec_vret hx hb hr hlocks K G Z (fun k hk => by rw [hg14 k (Nat.lt_of_lt_of_le hk (by decide))]; rw [hg11 k (Nat.lt_of_lt_of_le hk (by decide))]; rw [hg8 k (Nat.lt_of_lt_of_le hk (by decide))]; rw [hg5 k (Nat.lt_of_lt_of_le hk (by decide))]; rw [hg2 k (Nat.lt_of_lt_of_le hk (by decide))]) h dX2_init_44
abbrev rm_X3_init : Room := { frames := 1, cells := 7, slots := 42, locals := 12 }
theorem in_X3_init_X3 : ∀ w ∈ wsX30, w ∈ wsX3_init := fun w h => List.mem_cons_of_mem _ (List.mem_append_right _ h)
def w_X3_init (σ : eS) (post : eS → Prop) : Prop := ∀ σ3 : eS, σ3 = e_ur σ 47 0 49 → post σ3
set_option maxHeartbeats 8000000 in
set_option maxRecDepth 100000 in
theorem c_X3_init {l : Launch} {D : va_G} {ρ : Nat → Nat} {κ : Nat → ClassId} {base : Nat} {σ : eS} {post : eS → Prop} (Z : eZ σ 48) (h : w_X3_init σ post) : eMc l yX3_init wsX3_init rm_X3_init mL 48 55 vwCl (gT κ) D ρ κ base gNw gMw [.ref (ρ (47))] σ post 7 42 := by
  refine ec_ofW (cc := cX3_init) (maxL := 1) (ret := none) (by decide) rfl rfl (Nat.le_of_ble_eq_true rfl) ?_
  intro p e s m below meth c ls C hin2 K X G hl
  obtain ⟨hx, hb, hml, hown, hts, hr, hlocks⟩ := id C
  have hl : lv_has ls 1 [(0, .ref (ρ (47)))] := hl
  unfold w_X3_init at h
  refine lv_aload_n hx hb dX3_init_0 rfl (lv_at hl 0 rfl) ?_
  refine W.objInit hx hb hown (hts (.methodLink RX3 3 objectInit) (e_mem (n := 1) rfl)) (hts (.instanceMethod objectInit) (e_mem (n := 2) rfl)) (hts (.code objectInit ⟨#[0xb1]⟩ 1 none) (e_mem (n := 3) rfl)) rfl (by rw [hml]; exact hl.1) rfl dX3_init_1 (Nat.le_of_ble_eq_true rfl) (Nat.le_of_ble_eq_true rfl) ?_
  refine W.eq (g2 := F0 m 4 ls []) rfl ?_
  refine lv_aload_n hx hb dX3_init_4 rfl (lv_at hl 0 rfl) ?_
  refine lv_bipush (v := (6 : Int32)) hx hb dX3_init_5 (by decide) ?_
  refine lv_bipush (v := (6 : Int32)) hx hb dX3_init_7 (by decide) ?_
  refine ec_mna (ty := .long) hx hb hown (hts (.classLink RX3 9 "[[J") (e_mem (n := 4) rfl)) X.2.1 (hts (.arrayClass .long) (e_mem (n := 5) rfl)) K G Z ok_48 (kd := 1) (a := 1) (K' := 6) ml_48 rfl (fun i hi => (mr_48 i hi).2.1) (by first | exact Or.inl ⟨rfl, rfl⟩ | exact Or.inr ⟨rfl, rfl⟩) rfl rfl (fun _ _ => rfl) rfl (by decide) (by decide) rfl rfl (by decide) (by decide) (by decide) rfl rfl (Nat.le_of_ble_eq_true rfl) (Nat.le_of_ble_eq_true rfl) dX3_init_9 (fun ρ1 H hg2 K G Z => ?_)
  rw [← hg2 47 (by decide)] at hl
  refine W.eq (g2 := F0 m 13 ls [.ref (ρ1 (48)), .ref (ρ1 (47))]) (by rw [hg2 47 (by decide)]) ?_
  refine e_putrF hx hb hts in_X3_init_X3 tyX3 tyX3_ok nmX3 hown K G 47 (by decide) ml_47 rfl 0 (by decide) rfl (hts (.fieldLink RX3 11 "StreetsStepOn$Inquiry" "daysOf" "[[J") (e_mem (n := 6) rfl)) rfl hin2 rfl 49 (tyX3_ok 0 (by decide)) rfl rfl dX3_init_13 (fun H locs G => ?_)
  have Z : eZ (e_ur σ 47 0 49) 55 := Z.ur (by decide) (by decide)
  obtain ⟨σ3, eσ3⟩ : ∃ z : eS, z = e_ur σ 47 0 49 := ⟨_, rfl⟩
  rw [← eσ3] at G Z
  have h := h σ3 eσ3
  exact ec_vret hx hb hr hlocks K G Z (fun k hk => by rw [hg2 k (Nat.lt_of_lt_of_le hk (by decide))]) h dX3_init_16
abbrev rm_X8_init : Room := { frames := 1, cells := 15, slots := 1226, locals := 12 }
theorem in_X8_init_X8 : ∀ w ∈ wsX80, w ∈ wsX8_init := fun w h => List.mem_cons_of_mem _ (List.mem_append_right _ h)
def w_X8_init (σ : eS) (post : eS → Prop) : Prop := ∀ σ3 : eS, σ3 = e_ur σ 55 0 57 → ∀ σ6 : eS, σ6 = e_ur σ3 55 1 70 → ∀ σ9 : eS, σ9 = e_ur σ6 55 2 71 → post σ9
set_option maxHeartbeats 8000000 in
set_option maxRecDepth 100000 in
theorem c_X8_init {l : Launch} {D : va_G} {ρ : Nat → Nat} {κ : Nat → ClassId} {base : Nat} {σ : eS} {post : eS → Prop} (Z : eZ σ 56) (h : w_X8_init σ post) : eMc l yX8_init wsX8_init rm_X8_init mL 56 71 vwCl (gT κ) D ρ κ base gNw gMw [.ref (ρ (55))] σ post 15 1226 := by
  refine ec_ofW (cc := cX8_init) (maxL := 1) (ret := none) (by decide) rfl rfl (Nat.le_of_ble_eq_true rfl) ?_
  intro p e s m below meth c ls C hin2 K X G hl
  obtain ⟨hx, hb, hml, hown, hts, hr, hlocks⟩ := id C
  have hl : lv_has ls 1 [(0, .ref (ρ (55)))] := hl
  unfold w_X8_init at h
  refine lv_aload_n hx hb dX8_init_0 rfl (lv_at hl 0 rfl) ?_
  refine W.objInit hx hb hown (hts (.methodLink RX8 3 objectInit) (e_mem (n := 1) rfl)) (hts (.instanceMethod objectInit) (e_mem (n := 2) rfl)) (hts (.code objectInit ⟨#[0xb1]⟩ 1 none) (e_mem (n := 3) rfl)) rfl (by rw [hml]; exact hl.1) rfl dX8_init_1 (Nat.le_of_ble_eq_true rfl) (Nat.le_of_ble_eq_true rfl) ?_
  refine W.eq (g2 := F0 m 4 ls []) rfl ?_
  refine lv_aload_n hx hb dX8_init_4 rfl (lv_at hl 0 rfl) ?_
  refine lv_bipush (v := (12 : Int32)) hx hb dX8_init_5 (by decide) ?_
  refine lv_bipush (v := (100 : Int32)) hx hb dX8_init_7 (by decide) ?_
  refine ec_mna (ty := .int) hx hb hown (hts (.classLink RX8 9 "[[I") (e_mem (n := 4) rfl)) X.1 (hts (.arrayClass .int) (e_mem (n := 5) rfl)) K G Z ok_56 (kd := 0) (a := 0) (K' := 100) ml_56 rfl (fun i hi => (mr_56 i hi).2.1) (by first | exact Or.inl ⟨rfl, rfl⟩ | exact Or.inr ⟨rfl, rfl⟩) rfl rfl (fun _ _ => rfl) rfl (by decide) (by decide) rfl rfl (by decide) (by decide) (by decide) rfl rfl (Nat.le_of_ble_eq_true rfl) (Nat.le_of_ble_eq_true rfl) dX8_init_9 (fun ρ1 H hg2 K G Z => ?_)
  rw [← hg2 55 (by decide)] at hl
  refine W.eq (g2 := F0 m 13 ls [.ref (ρ1 (56)), .ref (ρ1 (55))]) (by rw [hg2 55 (by decide)]) ?_
  refine e_putrF hx hb hts in_X8_init_X8 tyX8 tyX8_ok nmX8 hown K G 55 (by decide) ml_55 rfl 0 (by decide) rfl (hts (.fieldLink RX8 11 "StreetsStepOn$Tour" "houses" "[[I") (e_mem (n := 6) rfl)) rfl hin2 rfl 57 (tyX8_ok 0 (by decide)) rfl rfl dX8_init_13 (fun H locs G => ?_)
  have Z : eZ (e_ur σ 55 0 57) 69 := Z.ur (by decide) (by decide)
  obtain ⟨σ3, eσ3⟩ : ∃ z : eS, z = e_ur σ 55 0 57 := ⟨_, rfl⟩
  rw [← eσ3] at G Z
  have h := h σ3 eσ3
  refine lv_aload_n hx hb dX8_init_16 rfl (lv_at hl 0 rfl) ?_
  refine lv_bipush (v := (7 : Int32)) hx hb dX8_init_17 (by decide) ?_
  refine ec_newa (atype := .int) (ty := .int) hx hb (hts (.arrayClass .int) (e_mem (n := 5) rfl)) rfl K G Z ok_69 (kd := 0) ml_69 (by first | exact Or.inl ⟨rfl, rfl⟩ | exact Or.inr ⟨rfl, rfl⟩) rfl (fun _ _ => rfl) (by decide) rfl (by decide) (Nat.le_of_ble_eq_true rfl) (Nat.le_of_ble_eq_true rfl) dX8_init_19 (fun ρ4 H hg5 K G Z => ?_)
  rw [← hg5 55 (by decide)] at hl
  refine W.eq (g2 := F0 m 21 ls [.ref (ρ4 (69)), .ref (ρ4 (55))]) (by rw [hg5 55 (by decide)]) ?_
  refine e_putrF hx hb hts in_X8_init_X8 tyX8 tyX8_ok nmX8 hown K G 55 (by decide) ml_55 rfl 1 (by decide) rfl (hts (.fieldLink RX8 16 "StreetsStepOn$Tour" "stops" "[I") (e_mem (n := 7) rfl)) rfl hin2 rfl 70 (tyX8_ok 1 (by decide)) rfl rfl dX8_init_21 (fun H locs G => ?_)
  have Z : eZ (e_ur σ3 55 1 70) 70 := Z.ur (by decide) (by decide)
  obtain ⟨σ6, eσ6⟩ : ∃ z : eS, z = e_ur σ3 55 1 70 := ⟨_, rfl⟩
  rw [← eσ6] at G Z
  have h := h σ6 eσ6
  refine lv_aload_n hx hb dX8_init_24 rfl (lv_at hl 0 rfl) ?_
  refine lv_bipush (v := (7 : Int32)) hx hb dX8_init_25 (by decide) ?_
  refine ec_newa (atype := .int) (ty := .int) hx hb (hts (.arrayClass .int) (e_mem (n := 5) rfl)) rfl K G Z ok_70 (kd := 0) ml_70 (by first | exact Or.inl ⟨rfl, rfl⟩ | exact Or.inr ⟨rfl, rfl⟩) rfl (fun _ _ => rfl) (by decide) rfl (by decide) (Nat.le_of_ble_eq_true rfl) (Nat.le_of_ble_eq_true rfl) dX8_init_27 (fun ρ7 H hg8 K G Z => ?_)
  rw [← hg8 55 (by decide)] at hl
  refine W.eq (g2 := F0 m 29 ls [.ref (ρ7 (70)), .ref (ρ7 (55))]) (by rw [hg8 55 (by decide)]) ?_
  refine e_putrF hx hb hts in_X8_init_X8 tyX8 tyX8_ok nmX8 hown K G 55 (by decide) ml_55 rfl 2 (by decide) rfl (hts (.fieldLink RX8 20 "StreetsStepOn$Tour" "bestStops" "[I") (e_mem (n := 8) rfl)) rfl hin2 rfl 71 (tyX8_ok 2 (by decide)) rfl rfl dX8_init_29 (fun H locs G => ?_)
  have Z : eZ (e_ur σ6 55 2 71) 71 := Z.ur (by decide) (by decide)
  obtain ⟨σ9, eσ9⟩ : ∃ z : eS, z = e_ur σ6 55 2 71 := ⟨_, rfl⟩
  rw [← eσ9] at G Z
  have h := h σ9 eσ9
  exact ec_vret hx hb hr hlocks K G Z (fun k hk => by rw [hg8 k (Nat.lt_of_lt_of_le hk (by decide))]; rw [hg5 k (Nat.lt_of_lt_of_le hk (by decide))]; rw [hg2 k (Nat.lt_of_lt_of_le hk (by decide))]) h dX8_init_32
abbrev rm_X1_init_v1 : Room := { frames := 1, cells := 11, slots := 127, locals := 12 }
theorem in_X1_init_v1_X1 : ∀ w ∈ wsX10, w ∈ wsX1_init := fun w h => List.mem_cons_of_mem _ (List.mem_append_right _ h)
def w_X1_init_v1 (σ : eS) (post : eS → Prop) : Prop := ∀ σ3 : eS, σ3 = e_ur σ 73 0 75 → ∀ σ6 : eS, σ6 = e_ur σ3 73 1 83 → ∀ σ9 : eS, σ9 = e_ur σ6 73 2 84 → ∀ σ12 : eS, σ12 = e_ur σ9 73 3 85 → post σ12
set_option maxHeartbeats 8000000 in
set_option maxRecDepth 100000 in
theorem c_X1_init_v1 {l : Launch} {D : va_G} {ρ : Nat → Nat} {κ : Nat → ClassId} {base : Nat} {σ : eS} {post : eS → Prop} (Z : eZ σ 74) (h : w_X1_init_v1 σ post) : eMc l yX1_init wsX1_init rm_X1_init_v1 mL 74 85 vwCl (gT κ) D ρ κ base gNw gMw [.ref (ρ (73))] σ post 11 127 := by
  refine ec_ofW (cc := cX1_init) (maxL := 1) (ret := none) (by decide) rfl rfl (Nat.le_of_ble_eq_true rfl) ?_
  intro p e s m below meth c ls C hin2 K X G hl
  obtain ⟨hx, hb, hml, hown, hts, hr, hlocks⟩ := id C
  have hl : lv_has ls 1 [(0, .ref (ρ (73)))] := hl
  unfold w_X1_init_v1 at h
  refine lv_aload_n hx hb dX1_init_0 rfl (lv_at hl 0 rfl) ?_
  refine W.objInit hx hb hown (hts (.methodLink RX1 3 objectInit) (e_mem (n := 1) rfl)) (hts (.instanceMethod objectInit) (e_mem (n := 2) rfl)) (hts (.code objectInit ⟨#[0xb1]⟩ 1 none) (e_mem (n := 3) rfl)) rfl (by rw [hml]; exact hl.1) rfl dX1_init_1 (Nat.le_of_ble_eq_true rfl) (Nat.le_of_ble_eq_true rfl) ?_
  refine W.eq (g2 := F0 m 4 ls []) rfl ?_
  refine lv_aload_n hx hb dX1_init_4 rfl (lv_at hl 0 rfl) ?_
  refine lv_bipush (v := (7 : Int32)) hx hb dX1_init_5 (by decide) ?_
  refine lv_bipush (v := (12 : Int32)) hx hb dX1_init_7 (by decide) ?_
  refine ec_mna (ty := .int) hx hb hown (hts (.classLink RX1 9 "[[I") (e_mem (n := 4) rfl)) X.1 (hts (.arrayClass .int) (e_mem (n := 5) rfl)) K G Z ok_74 (kd := 0) (a := 0) (K' := 12) ml_74 rfl (fun i hi => (mr_74 i hi).2.1) (by first | exact Or.inl ⟨rfl, rfl⟩ | exact Or.inr ⟨rfl, rfl⟩) rfl rfl (fun _ _ => rfl) rfl (by decide) (by decide) rfl rfl (by decide) (by decide) (by decide) rfl rfl (Nat.le_of_ble_eq_true rfl) (Nat.le_of_ble_eq_true rfl) dX1_init_9 (fun ρ1 H hg2 K G Z => ?_)
  rw [← hg2 73 (by decide)] at hl
  refine W.eq (g2 := F0 m 13 ls [.ref (ρ1 (74)), .ref (ρ1 (73))]) (by rw [hg2 73 (by decide)]) ?_
  refine e_putrF hx hb hts in_X1_init_v1_X1 tyX1 tyX1_ok nmX1 hown K G 73 (by decide) ml_73 rfl 0 (by decide) rfl (hts (.fieldLink RX1 11 "StreetsStepOn$Book" "nexts" "[[I") (e_mem (n := 6) rfl)) rfl hin2 rfl 75 (tyX1_ok 0 (by decide)) rfl rfl dX1_init_13 (fun H locs G => ?_)
  have Z : eZ (e_ur σ 73 0 75) 82 := Z.ur (by decide) (by decide)
  obtain ⟨σ3, eσ3⟩ : ∃ z : eS, z = e_ur σ 73 0 75 := ⟨_, rfl⟩
  rw [← eσ3] at G Z
  have h := h σ3 eσ3
  refine lv_aload_n hx hb dX1_init_16 rfl (lv_at hl 0 rfl) ?_
  refine lv_bipush (v := (12 : Int32)) hx hb dX1_init_17 (by decide) ?_
  refine ec_newa (atype := .int) (ty := .int) hx hb (hts (.arrayClass .int) (e_mem (n := 5) rfl)) rfl K G Z ok_82 (kd := 0) ml_82 (by first | exact Or.inl ⟨rfl, rfl⟩ | exact Or.inr ⟨rfl, rfl⟩) rfl (fun _ _ => rfl) (by decide) rfl (by decide) (Nat.le_of_ble_eq_true rfl) (Nat.le_of_ble_eq_true rfl) dX1_init_19 (fun ρ4 H hg5 K G Z => ?_)
  rw [← hg5 73 (by decide)] at hl
  refine W.eq (g2 := F0 m 21 ls [.ref (ρ4 (82)), .ref (ρ4 (73))]) (by rw [hg5 73 (by decide)]) ?_
  refine e_putrF hx hb hts in_X1_init_v1_X1 tyX1 tyX1_ok nmX1 hown K G 73 (by decide) ml_73 rfl 1 (by decide) rfl (hts (.fieldLink RX1 16 "StreetsStepOn$Book" "lengths" "[I") (e_mem (n := 7) rfl)) rfl hin2 rfl 83 (tyX1_ok 1 (by decide)) rfl rfl dX1_init_21 (fun H locs G => ?_)
  have Z : eZ (e_ur σ3 73 1 83) 83 := Z.ur (by decide) (by decide)
  obtain ⟨σ6, eσ6⟩ : ∃ z : eS, z = e_ur σ3 73 1 83 := ⟨_, rfl⟩
  rw [← eσ6] at G Z
  have h := h σ6 eσ6
  refine lv_aload_n hx hb dX1_init_24 rfl (lv_at hl 0 rfl) ?_
  refine lv_bipush (v := (12 : Int32)) hx hb dX1_init_25 (by decide) ?_
  refine ec_newa (atype := .int) (ty := .int) hx hb (hts (.arrayClass .int) (e_mem (n := 5) rfl)) rfl K G Z ok_83 (kd := 0) ml_83 (by first | exact Or.inl ⟨rfl, rfl⟩ | exact Or.inr ⟨rfl, rfl⟩) rfl (fun _ _ => rfl) (by decide) rfl (by decide) (Nat.le_of_ble_eq_true rfl) (Nat.le_of_ble_eq_true rfl) dX1_init_27 (fun ρ7 H hg8 K G Z => ?_)
  rw [← hg8 73 (by decide)] at hl
  refine W.eq (g2 := F0 m 29 ls [.ref (ρ7 (83)), .ref (ρ7 (73))]) (by rw [hg8 73 (by decide)]) ?_
  refine e_putrF hx hb hts in_X1_init_v1_X1 tyX1 tyX1_ok nmX1 hown K G 73 (by decide) ml_73 rfl 2 (by decide) rfl (hts (.fieldLink RX1 20 "StreetsStepOn$Book" "letterNames" "[I") (e_mem (n := 8) rfl)) rfl hin2 rfl 84 (tyX1_ok 2 (by decide)) rfl rfl dX1_init_29 (fun H locs G => ?_)
  have Z : eZ (e_ur σ6 73 2 84) 84 := Z.ur (by decide) (by decide)
  obtain ⟨σ9, eσ9⟩ : ∃ z : eS, z = e_ur σ6 73 2 84 := ⟨_, rfl⟩
  rw [← eσ9] at G Z
  have h := h σ9 eσ9
  refine lv_aload_n hx hb dX1_init_32 rfl (lv_at hl 0 rfl) ?_
  refine lv_bipush (v := (12 : Int32)) hx hb dX1_init_33 (by decide) ?_
  refine ec_newa (atype := .long) (ty := .long) hx hb (hts (.arrayClass .long) (e_mem (n := 9) rfl)) rfl K G Z ok_84 (kd := 1) ml_84 (by first | exact Or.inl ⟨rfl, rfl⟩ | exact Or.inr ⟨rfl, rfl⟩) rfl (fun _ _ => rfl) (by decide) rfl (by decide) (Nat.le_of_ble_eq_true rfl) (Nat.le_of_ble_eq_true rfl) dX1_init_35 (fun ρ10 H hg11 K G Z => ?_)
  rw [← hg11 73 (by decide)] at hl
  refine W.eq (g2 := F0 m 37 ls [.ref (ρ10 (84)), .ref (ρ10 (73))]) (by rw [hg11 73 (by decide)]) ?_
  refine e_putrF hx hb hts in_X1_init_v1_X1 tyX1 tyX1_ok nmX1 hown K G 73 (by decide) ml_73 rfl 3 (by decide) rfl (hts (.fieldLink RX1 23 "StreetsStepOn$Book" "letterDays" "[J") (e_mem (n := 10) rfl)) rfl hin2 rfl 85 (tyX1_ok 3 (by decide)) rfl rfl dX1_init_37 (fun H locs G => ?_)
  have Z : eZ (e_ur σ9 73 3 85) 85 := Z.ur (by decide) (by decide)
  obtain ⟨σ12, eσ12⟩ : ∃ z : eS, z = e_ur σ9 73 3 85 := ⟨_, rfl⟩
  rw [← eσ12] at G Z
  have h := h σ12 eσ12
  exact ec_vret hx hb hr hlocks K G Z (fun k hk => by rw [hg11 k (Nat.lt_of_lt_of_le hk (by decide))]; rw [hg8 k (Nat.lt_of_lt_of_le hk (by decide))]; rw [hg5 k (Nat.lt_of_lt_of_le hk (by decide))]; rw [hg2 k (Nat.lt_of_lt_of_le hk (by decide))]) h dX1_init_40
abbrev rm_X1_init_v2 : Room := { frames := 1, cells := 11, slots := 127, locals := 12 }
theorem in_X1_init_v2_X1 : ∀ w ∈ wsX10, w ∈ wsX1_init := fun w h => List.mem_cons_of_mem _ (List.mem_append_right _ h)
def w_X1_init_v2 (σ : eS) (post : eS → Prop) : Prop := ∀ σ3 : eS, σ3 = e_ur σ 85 0 87 → ∀ σ6 : eS, σ6 = e_ur σ3 85 1 95 → ∀ σ9 : eS, σ9 = e_ur σ6 85 2 96 → ∀ σ12 : eS, σ12 = e_ur σ9 85 3 97 → post σ12
set_option maxHeartbeats 8000000 in
set_option maxRecDepth 100000 in
theorem c_X1_init_v2 {l : Launch} {D : va_G} {ρ : Nat → Nat} {κ : Nat → ClassId} {base : Nat} {σ : eS} {post : eS → Prop} (Z : eZ σ 86) (h : w_X1_init_v2 σ post) : eMc l yX1_init wsX1_init rm_X1_init_v2 mL 86 97 vwCl (gT κ) D ρ κ base gNw gMw [.ref (ρ (85))] σ post 11 127 := by
  refine ec_ofW (cc := cX1_init) (maxL := 1) (ret := none) (by decide) rfl rfl (Nat.le_of_ble_eq_true rfl) ?_
  intro p e s m below meth c ls C hin2 K X G hl
  obtain ⟨hx, hb, hml, hown, hts, hr, hlocks⟩ := id C
  have hl : lv_has ls 1 [(0, .ref (ρ (85)))] := hl
  unfold w_X1_init_v2 at h
  refine lv_aload_n hx hb dX1_init_0 rfl (lv_at hl 0 rfl) ?_
  refine W.objInit hx hb hown (hts (.methodLink RX1 3 objectInit) (e_mem (n := 1) rfl)) (hts (.instanceMethod objectInit) (e_mem (n := 2) rfl)) (hts (.code objectInit ⟨#[0xb1]⟩ 1 none) (e_mem (n := 3) rfl)) rfl (by rw [hml]; exact hl.1) rfl dX1_init_1 (Nat.le_of_ble_eq_true rfl) (Nat.le_of_ble_eq_true rfl) ?_
  refine W.eq (g2 := F0 m 4 ls []) rfl ?_
  refine lv_aload_n hx hb dX1_init_4 rfl (lv_at hl 0 rfl) ?_
  refine lv_bipush (v := (7 : Int32)) hx hb dX1_init_5 (by decide) ?_
  refine lv_bipush (v := (12 : Int32)) hx hb dX1_init_7 (by decide) ?_
  refine ec_mna (ty := .int) hx hb hown (hts (.classLink RX1 9 "[[I") (e_mem (n := 4) rfl)) X.1 (hts (.arrayClass .int) (e_mem (n := 5) rfl)) K G Z ok_86 (kd := 0) (a := 0) (K' := 12) ml_86 rfl (fun i hi => (mr_86 i hi).2.1) (by first | exact Or.inl ⟨rfl, rfl⟩ | exact Or.inr ⟨rfl, rfl⟩) rfl rfl (fun _ _ => rfl) rfl (by decide) (by decide) rfl rfl (by decide) (by decide) (by decide) rfl rfl (Nat.le_of_ble_eq_true rfl) (Nat.le_of_ble_eq_true rfl) dX1_init_9 (fun ρ1 H hg2 K G Z => ?_)
  rw [← hg2 85 (by decide)] at hl
  refine W.eq (g2 := F0 m 13 ls [.ref (ρ1 (86)), .ref (ρ1 (85))]) (by rw [hg2 85 (by decide)]) ?_
  refine e_putrF hx hb hts in_X1_init_v2_X1 tyX1 tyX1_ok nmX1 hown K G 85 (by decide) ml_85 rfl 0 (by decide) rfl (hts (.fieldLink RX1 11 "StreetsStepOn$Book" "nexts" "[[I") (e_mem (n := 6) rfl)) rfl hin2 rfl 87 (tyX1_ok 0 (by decide)) rfl rfl dX1_init_13 (fun H locs G => ?_)
  have Z : eZ (e_ur σ 85 0 87) 94 := Z.ur (by decide) (by decide)
  obtain ⟨σ3, eσ3⟩ : ∃ z : eS, z = e_ur σ 85 0 87 := ⟨_, rfl⟩
  rw [← eσ3] at G Z
  have h := h σ3 eσ3
  refine lv_aload_n hx hb dX1_init_16 rfl (lv_at hl 0 rfl) ?_
  refine lv_bipush (v := (12 : Int32)) hx hb dX1_init_17 (by decide) ?_
  refine ec_newa (atype := .int) (ty := .int) hx hb (hts (.arrayClass .int) (e_mem (n := 5) rfl)) rfl K G Z ok_94 (kd := 0) ml_94 (by first | exact Or.inl ⟨rfl, rfl⟩ | exact Or.inr ⟨rfl, rfl⟩) rfl (fun _ _ => rfl) (by decide) rfl (by decide) (Nat.le_of_ble_eq_true rfl) (Nat.le_of_ble_eq_true rfl) dX1_init_19 (fun ρ4 H hg5 K G Z => ?_)
  rw [← hg5 85 (by decide)] at hl
  refine W.eq (g2 := F0 m 21 ls [.ref (ρ4 (94)), .ref (ρ4 (85))]) (by rw [hg5 85 (by decide)]) ?_
  refine e_putrF hx hb hts in_X1_init_v2_X1 tyX1 tyX1_ok nmX1 hown K G 85 (by decide) ml_85 rfl 1 (by decide) rfl (hts (.fieldLink RX1 16 "StreetsStepOn$Book" "lengths" "[I") (e_mem (n := 7) rfl)) rfl hin2 rfl 95 (tyX1_ok 1 (by decide)) rfl rfl dX1_init_21 (fun H locs G => ?_)
  have Z : eZ (e_ur σ3 85 1 95) 95 := Z.ur (by decide) (by decide)
  obtain ⟨σ6, eσ6⟩ : ∃ z : eS, z = e_ur σ3 85 1 95 := ⟨_, rfl⟩
  rw [← eσ6] at G Z
  have h := h σ6 eσ6
  refine lv_aload_n hx hb dX1_init_24 rfl (lv_at hl 0 rfl) ?_
  refine lv_bipush (v := (12 : Int32)) hx hb dX1_init_25 (by decide) ?_
  refine ec_newa (atype := .int) (ty := .int) hx hb (hts (.arrayClass .int) (e_mem (n := 5) rfl)) rfl K G Z ok_95 (kd := 0) ml_95 (by first | exact Or.inl ⟨rfl, rfl⟩ | exact Or.inr ⟨rfl, rfl⟩) rfl (fun _ _ => rfl) (by decide) rfl (by decide) (Nat.le_of_ble_eq_true rfl) (Nat.le_of_ble_eq_true rfl) dX1_init_27 (fun ρ7 H hg8 K G Z => ?_)
  rw [← hg8 85 (by decide)] at hl
  refine W.eq (g2 := F0 m 29 ls [.ref (ρ7 (95)), .ref (ρ7 (85))]) (by rw [hg8 85 (by decide)]) ?_
  refine e_putrF hx hb hts in_X1_init_v2_X1 tyX1 tyX1_ok nmX1 hown K G 85 (by decide) ml_85 rfl 2 (by decide) rfl (hts (.fieldLink RX1 20 "StreetsStepOn$Book" "letterNames" "[I") (e_mem (n := 8) rfl)) rfl hin2 rfl 96 (tyX1_ok 2 (by decide)) rfl rfl dX1_init_29 (fun H locs G => ?_)
  have Z : eZ (e_ur σ6 85 2 96) 96 := Z.ur (by decide) (by decide)
  obtain ⟨σ9, eσ9⟩ : ∃ z : eS, z = e_ur σ6 85 2 96 := ⟨_, rfl⟩
  rw [← eσ9] at G Z
  have h := h σ9 eσ9
  refine lv_aload_n hx hb dX1_init_32 rfl (lv_at hl 0 rfl) ?_
  refine lv_bipush (v := (12 : Int32)) hx hb dX1_init_33 (by decide) ?_
  refine ec_newa (atype := .long) (ty := .long) hx hb (hts (.arrayClass .long) (e_mem (n := 9) rfl)) rfl K G Z ok_96 (kd := 1) ml_96 (by first | exact Or.inl ⟨rfl, rfl⟩ | exact Or.inr ⟨rfl, rfl⟩) rfl (fun _ _ => rfl) (by decide) rfl (by decide) (Nat.le_of_ble_eq_true rfl) (Nat.le_of_ble_eq_true rfl) dX1_init_35 (fun ρ10 H hg11 K G Z => ?_)
  rw [← hg11 85 (by decide)] at hl
  refine W.eq (g2 := F0 m 37 ls [.ref (ρ10 (96)), .ref (ρ10 (85))]) (by rw [hg11 85 (by decide)]) ?_
  refine e_putrF hx hb hts in_X1_init_v2_X1 tyX1 tyX1_ok nmX1 hown K G 85 (by decide) ml_85 rfl 3 (by decide) rfl (hts (.fieldLink RX1 23 "StreetsStepOn$Book" "letterDays" "[J") (e_mem (n := 10) rfl)) rfl hin2 rfl 97 (tyX1_ok 3 (by decide)) rfl rfl dX1_init_37 (fun H locs G => ?_)
  have Z : eZ (e_ur σ9 85 3 97) 97 := Z.ur (by decide) (by decide)
  obtain ⟨σ12, eσ12⟩ : ∃ z : eS, z = e_ur σ9 85 3 97 := ⟨_, rfl⟩
  rw [← eσ12] at G Z
  have h := h σ12 eσ12
  exact ec_vret hx hb hr hlocks K G Z (fun k hk => by rw [hg11 k (Nat.lt_of_lt_of_le hk (by decide))]; rw [hg8 k (Nat.lt_of_lt_of_le hk (by decide))]; rw [hg5 k (Nat.lt_of_lt_of_le hk (by decide))]; rw [hg2 k (Nat.lt_of_lt_of_le hk (by decide))]) h dX1_init_40
abbrev rm_X10_init : Room := { frames := 2, cells := 96, slots := 3082, locals := 42 }
theorem in_X10_init_X0 : ∀ w ∈ wsX00, w ∈ wsX10_init := fun w h => List.mem_cons_of_mem _ (List.mem_append_left _ (List.mem_append_left _ (List.mem_append_left _ (List.mem_append_left _ (List.mem_append_left _ (List.mem_append_right _ h))))))
theorem in_X10_init_X1 : ∀ w ∈ wsX10, w ∈ wsX10_init := fun w h => List.mem_cons_of_mem _ (List.mem_append_left _ (List.mem_append_left _ (List.mem_append_left _ (List.mem_append_left _ (List.mem_append_left _ (List.mem_append_left _ (List.mem_append_left _ (List.mem_append_right _ h))))))))
theorem in_X10_init_X10 : ∀ w ∈ wsX100, w ∈ wsX10_init := fun w h => List.mem_cons_of_mem _ (List.mem_append_left _ (List.mem_append_left _ (List.mem_append_left _ (List.mem_append_left _ (List.mem_append_left _ (List.mem_append_left _ (List.mem_append_left _ (List.mem_append_left _ (List.mem_append_left _ (List.mem_append_right _ h))))))))))
theorem in_X10_init_X2 : ∀ w ∈ wsX20, w ∈ wsX10_init := fun w h => List.mem_cons_of_mem _ (List.mem_append_left _ (List.mem_append_left _ (List.mem_append_right _ h)))
theorem in_X10_init_X3 : ∀ w ∈ wsX30, w ∈ wsX10_init := fun w h => List.mem_cons_of_mem _ (List.mem_append_left _ (List.mem_append_right _ h))
theorem in_X10_init_X4 : ∀ w ∈ wsX40, w ∈ wsX10_init := fun w h => List.mem_cons_of_mem _ (List.mem_append_left _ (List.mem_append_left _ (List.mem_append_left _ (List.mem_append_left _ (List.mem_append_left _ (List.mem_append_left _ (List.mem_append_right _ h)))))))
theorem in_X10_init_X5 : ∀ w ∈ wsX50, w ∈ wsX10_init := fun w h => List.mem_cons_of_mem _ (List.mem_append_left _ (List.mem_append_left _ (List.mem_append_left _ (List.mem_append_left _ (List.mem_append_left _ (List.mem_append_left _ (List.mem_append_left _ (List.mem_append_left _ (List.mem_append_right _ h)))))))))
theorem in_X10_init_X6 : ∀ w ∈ wsX60, w ∈ wsX10_init := fun w h => List.mem_cons_of_mem _ (List.mem_append_left _ (List.mem_append_left _ (List.mem_append_left _ (List.mem_append_right _ h))))
theorem in_X10_init_X7 : ∀ w ∈ wsX70, w ∈ wsX10_init := fun w h => List.mem_cons_of_mem _ (List.mem_append_left _ (List.mem_append_left _ (List.mem_append_left _ (List.mem_append_left _ (List.mem_append_left _ (List.mem_append_left _ (List.mem_append_left _ (List.mem_append_left _ (List.mem_append_left _ (List.mem_append_left _ (List.mem_append_right _ h)))))))))))
theorem in_X10_init_X8 : ∀ w ∈ wsX80, w ∈ wsX10_init := fun w h => List.mem_cons_of_mem _ (List.mem_append_right _ h)
theorem in_X10_init_X9 : ∀ w ∈ wsX90, w ∈ wsX10_init := fun w h => List.mem_cons_of_mem _ (List.mem_append_left _ (List.mem_append_left _ (List.mem_append_left _ (List.mem_append_left _ (List.mem_append_right _ h)))))
def w_X10_init (σ : eS) (post : eS → Prop) : Prop := w_X7_init σ (fun σ4 => ∀ σ6 : eS, σ6 = e_ur σ4 0 0 2 → w_X5_init σ6 (fun σ10 => ∀ σ12 : eS, σ12 = e_ur σ10 0 1 4 → w_X1_init σ12 (fun σ16 => ∀ σ18 : eS, σ18 = e_ur σ16 0 2 6 → ∀ σ21 : eS, σ21 = e_ur σ18 0 3 18 → w_X4_init σ21 (fun σ25 => ∀ σ27 : eS, σ27 = e_ur σ25 0 4 19 → w_X0_init σ27 (fun σ31 => ∀ σ33 : eS, σ33 = e_ur σ31 0 5 33 → w_X9_init σ33 (fun σ37 => ∀ σ39 : eS, σ39 = e_ur σ37 0 6 36 → w_X6_init σ39 (fun σ43 => ∀ σ45 : eS, σ45 = e_ur σ43 0 7 37 → w_X2_init σ45 (fun σ49 => ∀ σ51 : eS, σ51 = e_ur σ49 0 8 42 → w_X3_init σ51 (fun σ55 => ∀ σ57 : eS, σ57 = e_ur σ55 0 9 48 → w_X8_init σ57 (fun σ61 => ∀ σ63 : eS, σ63 = e_ur σ61 0 10 56 → ∀ σ66 : eS, σ66 = e_ur σ63 0 11 72 → ∀ σ69 : eS, σ69 = e_ur σ66 0 12 73 → (σ69.2.2 0 3 = 18) ∧ w_X1_init_v1 σ69 (fun σ74 => ∀ σ76 : eS, σ76 = e_ur σ74 17 0 74 → (σ76.2.2 0 3 = 18) ∧ w_X1_init_v2 σ76 (fun σ81 => ∀ σ83 : eS, σ83 = e_ur σ81 17 1 86 → post σ83))))))))))))
set_option maxHeartbeats 8000000 in
set_option maxRecDepth 100000 in
theorem c_X10_init {l : Launch} {D : va_G} {ρ : Nat → Nat} {κ : Nat → ClassId} {base : Nat} {σ : eS} {post : eS → Prop} (Z : eZ σ 1) (h : w_X10_init σ post) : eMc l yX10_init wsX10_init rm_X10_init mL 1 97 vwCl (gT κ) D ρ κ base gNw gMw [.ref (ρ (0))] σ post 96 3082 := by
  refine ec_ofW (cc := cX10_init) (maxL := 1) (ret := none) (by decide) rfl rfl (Nat.le_of_ble_eq_true rfl) ?_
  intro p e s m below meth c ls C hin2 K X G hl
  obtain ⟨hx, hb, hml, hown, hts, hr, hlocks⟩ := id C
  have hl : lv_has ls 1 [(0, .ref (ρ (0)))] := hl
  unfold w_X10_init at h
  refine lv_aload_n hx hb dX10_init_0 rfl (lv_at hl 0 rfl) ?_
  refine W.objInit hx hb hown (hts (.methodLink RX10 1 objectInit) (e_mem (n := 1) rfl)) (hts (.instanceMethod objectInit) (e_mem (n := 2) rfl)) (hts (.code objectInit ⟨#[0xb1]⟩ 1 none) (e_mem (n := 3) rfl)) rfl (by rw [hml]; exact hl.1) rfl dX10_init_1 (Nat.le_of_ble_eq_true rfl) (Nat.le_of_ble_eq_true rfl) ?_
  refine W.eq (g2 := F0 m 4 ls []) rfl ?_
  refine lv_aload_n hx hb dX10_init_4 rfl (lv_at hl 0 rfl) ?_
  refine ec_new hx hb hts in_X10_init_X7 tyX7 tyX7_ok hown (hts (.classLink RX10 7 RX7) (e_mem (n := 4) rfl)) (hts (.instantiable RX7 2) (e_mem (n := 5) rfl)) (hts (.initialized RX7) (e_mem (n := 6) rfl)) K G Z ok_1 ml_1 rfl rfl dv_X7 (Nat.le_of_ble_eq_true rfl) (Nat.le_of_ble_eq_true rfl) dX10_init_5 (fun ρ1 H hg2 K G Z => ?_)
  rw [← hg2 0 (by decide)] at hl
  refine W.eq (g2 := F0 m 8 ls [.ref (ρ1 (1)), .ref (ρ1 (0))]) (by rw [hg2 0 (by decide)]) ?_
  refine lv_dup hx hb dX10_init_8 rfl ?_
  refine ec_callIN (As := []) (rest := [.ref (ρ1 (1)), .ref (ρ1 (0))]) ⟨hx, hb, hml, hown, hts⟩ K X G 1 (c_X7_init Z h) ⟨va_cnB 0 hts gX10_init_X7_init_n9 rfl rfl rfl (X.2.2.2 _ (e_memm (n := 0) rfl)) (hts (.initialized RX7) (e_mem (n := 6) rfl)) (by decide +kernel) ⟨Nat.le_of_ble_eq_true rfl, Nat.le_of_ble_eq_true rfl⟩, rfl, (hts (.instanceMethod yX7_init) (e_mem (n := 48) rfl))⟩ rfl hl.1 rfl (Nat.le_of_ble_eq_true rfl) dX10_init_9 ⟨Nat.le_of_ble_eq_true rfl, Nat.le_of_ble_eq_true rfl⟩ (fun ρ3 σ4 H locs h hg5 K G Z => ?_)
  rw [← hg5 0 (by decide)] at hl
  refine W.eq (g2 := F0 m 12 ls [.ref (ρ3 (1)), .ref (ρ3 (0))]) (by rw [hg5 0 (by decide), hg5 1 (by decide)]) ?_
  refine e_putrF hx hb hts in_X10_init_X10 tyX10 tyX10_ok nmX10 hown K G 0 (by decide) ml_0 rfl 0 (by decide) rfl (hts (.fieldLink RX10 10 "StreetsStepOn" "text" "LStreetsStepOn$Text;") (e_mem (n := 7) rfl)) rfl hin2 rfl 2 (tyX10_ok 0 (by decide)) rfl rfl dX10_init_12 (fun H locs G => ?_)
  have Z : eZ (e_ur σ4 0 0 2) 3 := Z.ur (by decide) (by decide)
  obtain ⟨σ6, eσ6⟩ : ∃ z : eS, z = e_ur σ4 0 0 2 := ⟨_, rfl⟩
  rw [← eσ6] at G Z
  have h := h σ6 eσ6
  refine lv_aload_n hx hb dX10_init_15 rfl (lv_at hl 0 rfl) ?_
  refine ec_new hx hb hts in_X10_init_X5 tyX5 tyX5_ok hown (hts (.classLink RX10 16 RX5) (e_mem (n := 8) rfl)) (hts (.instantiable RX5 2) (e_mem (n := 9) rfl)) (hts (.initialized RX5) (e_mem (n := 10) rfl)) K G Z ok_3 ml_3 rfl rfl dv_X5 (Nat.le_of_ble_eq_true rfl) (Nat.le_of_ble_eq_true rfl) dX10_init_16 (fun ρ7 H hg8 K G Z => ?_)
  rw [← hg8 0 (by decide)] at hl
  refine W.eq (g2 := F0 m 19 ls [.ref (ρ7 (3)), .ref (ρ7 (0))]) (by rw [hg8 0 (by decide)]) ?_
  refine lv_dup hx hb dX10_init_19 rfl ?_
  refine ec_callIN (As := []) (rest := [.ref (ρ7 (3)), .ref (ρ7 (0))]) ⟨hx, hb, hml, hown, hts⟩ K X G 3 (c_X5_init Z h) ⟨va_cnB 0 hts gX10_init_X5_init_n18 rfl rfl rfl (X.2.2.2 _ (e_memm (n := 1) rfl)) (hts (.initialized RX5) (e_mem (n := 10) rfl)) (by decide +kernel) ⟨Nat.le_of_ble_eq_true rfl, Nat.le_of_ble_eq_true rfl⟩, rfl, (hts (.instanceMethod yX5_init) (e_mem (n := 53) rfl))⟩ rfl hl.1 rfl (Nat.le_of_ble_eq_true rfl) dX10_init_20 ⟨Nat.le_of_ble_eq_true rfl, Nat.le_of_ble_eq_true rfl⟩ (fun ρ9 σ10 H locs h hg11 K G Z => ?_)
  rw [← hg11 0 (by decide)] at hl
  refine W.eq (g2 := F0 m 23 ls [.ref (ρ9 (3)), .ref (ρ9 (0))]) (by rw [hg11 0 (by decide), hg11 3 (by decide)]) ?_
  refine e_putrF hx hb hts in_X10_init_X10 tyX10 tyX10_ok nmX10 hown K G 0 (by decide) ml_0 rfl 1 (by decide) rfl (hts (.fieldLink RX10 19 "StreetsStepOn" "told" "LStreetsStepOn$Row;") (e_mem (n := 11) rfl)) rfl hin2 rfl 4 (tyX10_ok 1 (by decide)) rfl rfl dX10_init_23 (fun H locs G => ?_)
  have Z : eZ (e_ur σ10 0 1 4) 5 := Z.ur (by decide) (by decide)
  obtain ⟨σ12, eσ12⟩ : ∃ z : eS, z = e_ur σ10 0 1 4 := ⟨_, rfl⟩
  rw [← eσ12] at G Z
  have h := h σ12 eσ12
  refine lv_aload_n hx hb dX10_init_26 rfl (lv_at hl 0 rfl) ?_
  refine ec_new hx hb hts in_X10_init_X1 tyX1 tyX1_ok hown (hts (.classLink RX10 23 RX1) (e_mem (n := 12) rfl)) (hts (.instantiable RX1 9) (e_mem (n := 13) rfl)) (hts (.initialized RX1) (e_mem (n := 14) rfl)) K G Z ok_5 ml_5 rfl rfl dv_X1 (Nat.le_of_ble_eq_true rfl) (Nat.le_of_ble_eq_true rfl) dX10_init_27 (fun ρ13 H hg14 K G Z => ?_)
  rw [← hg14 0 (by decide)] at hl
  refine W.eq (g2 := F0 m 30 ls [.ref (ρ13 (5)), .ref (ρ13 (0))]) (by rw [hg14 0 (by decide)]) ?_
  refine lv_dup hx hb dX10_init_30 rfl ?_
  refine ec_callIN (As := []) (rest := [.ref (ρ13 (5)), .ref (ρ13 (0))]) ⟨hx, hb, hml, hown, hts⟩ K X G 5 (c_X1_init Z h) ⟨va_cnB 0 hts gX10_init_X1_init_n25 rfl rfl rfl (X.2.2.2 _ (e_memm (n := 2) rfl)) (hts (.initialized RX1) (e_mem (n := 14) rfl)) (by decide +kernel) ⟨Nat.le_of_ble_eq_true rfl, Nat.le_of_ble_eq_true rfl⟩, rfl, (hts (.instanceMethod yX1_init) (e_mem (n := 58) rfl))⟩ rfl hl.1 rfl (Nat.le_of_ble_eq_true rfl) dX10_init_31 ⟨Nat.le_of_ble_eq_true rfl, Nat.le_of_ble_eq_true rfl⟩ (fun ρ15 σ16 H locs h hg17 K G Z => ?_)
  rw [← hg17 0 (by decide)] at hl
  refine W.eq (g2 := F0 m 34 ls [.ref (ρ15 (5)), .ref (ρ15 (0))]) (by rw [hg17 0 (by decide), hg17 5 (by decide)]) ?_
  refine e_putrF hx hb hts in_X10_init_X10 tyX10 tyX10_ok nmX10 hown K G 0 (by decide) ml_0 rfl 2 (by decide) rfl (hts (.fieldLink RX10 26 "StreetsStepOn" "book" "LStreetsStepOn$Book;") (e_mem (n := 15) rfl)) rfl hin2 rfl 6 (tyX10_ok 2 (by decide)) rfl rfl dX10_init_34 (fun H locs G => ?_)
  have Z : eZ (e_ur σ16 0 2 6) 17 := Z.ur (by decide) (by decide)
  obtain ⟨σ18, eσ18⟩ : ∃ z : eS, z = e_ur σ16 0 2 6 := ⟨_, rfl⟩
  rw [← eσ18] at G Z
  have h := h σ18 eσ18
  refine lv_aload_n hx hb dX10_init_37 rfl (lv_at hl 0 rfl) ?_
  refine lv_iconst (v := (2 : Int32)) hx hb dX10_init_38 (by decide) ?_
  refine ec_newq hx hb hown (hts (.classLink RX10 23 RX1) (e_mem (n := 12) rfl)) X.2.2.1 K G Z ok_17 ml_17 rfl (by decide) rfl (by decide) (Nat.le_of_ble_eq_true rfl) (Nat.le_of_ble_eq_true rfl) dX10_init_39 (fun ρ19 H hg20 K G Z => ?_)
  rw [← hg20 0 (by decide)] at hl
  refine W.eq (g2 := F0 m 42 ls [.ref (ρ19 (17)), .ref (ρ19 (0))]) (by rw [hg20 0 (by decide)]) ?_
  refine e_putrF hx hb hts in_X10_init_X10 tyX10 tyX10_ok nmX10 hown K G 0 (by decide) ml_0 rfl 3 (by decide) rfl (hts (.fieldLink RX10 30 "StreetsStepOn" "keptBooks" "[LStreetsStepOn$Book;") (e_mem (n := 16) rfl)) rfl hin2 rfl 18 (tyX10_ok 3 (by decide)) rfl rfl dX10_init_42 (fun H locs G => ?_)
  have Z : eZ (e_ur σ18 0 3 18) 18 := Z.ur (by decide) (by decide)
  obtain ⟨σ21, eσ21⟩ : ∃ z : eS, z = e_ur σ18 0 3 18 := ⟨_, rfl⟩
  rw [← eσ21] at G Z
  have h := h σ21 eσ21
  refine lv_aload_n hx hb dX10_init_45 rfl (lv_at hl 0 rfl) ?_
  refine ec_new hx hb hts in_X10_init_X4 tyX4 tyX4_ok hown (hts (.classLink RX10 34 RX4) (e_mem (n := 17) rfl)) (hts (.instantiable RX4 3) (e_mem (n := 18) rfl)) (hts (.initialized RX4) (e_mem (n := 19) rfl)) K G Z ok_18 ml_18 rfl rfl dv_X4 (Nat.le_of_ble_eq_true rfl) (Nat.le_of_ble_eq_true rfl) dX10_init_46 (fun ρ22 H hg23 K G Z => ?_)
  rw [← hg23 0 (by decide)] at hl
  refine W.eq (g2 := F0 m 49 ls [.ref (ρ22 (18)), .ref (ρ22 (0))]) (by rw [hg23 0 (by decide)]) ?_
  refine lv_dup hx hb dX10_init_49 rfl ?_
  refine ec_callI (As := []) (rest := [.ref (ρ22 (18)), .ref (ρ22 (0))]) ⟨hx, hb, hml, hown, hts⟩ K X G 18 (c_X4_init Z h) (cwI 0 hts gX10_init_X4_init rfl rfl rfl (hts (.initialized RX4) (e_mem (n := 19) rfl)) (hts (.methodLink RX10 36 yX4_init) (e_mem (n := 66) rfl)) (hts (.instanceMethod yX4_init) (e_mem (n := 67) rfl)) rfl (by decide +kernel) ⟨Nat.le_of_ble_eq_true rfl, Nat.le_of_ble_eq_true rfl⟩) rfl hl.1 rfl (Nat.le_of_ble_eq_true rfl) dX10_init_50 ⟨Nat.le_of_ble_eq_true rfl, Nat.le_of_ble_eq_true rfl⟩ (fun ρ24 σ25 H locs h hg26 K G Z => ?_)
  rw [← hg26 0 (by decide)] at hl
  refine W.eq (g2 := F0 m 53 ls [.ref (ρ24 (18)), .ref (ρ24 (0))]) (by rw [hg26 0 (by decide), hg26 18 (by decide)]) ?_
  refine e_putrF hx hb hts in_X10_init_X10 tyX10 tyX10_ok nmX10 hown K G 0 (by decide) ml_0 rfl 4 (by decide) rfl (hts (.fieldLink RX10 37 "StreetsStepOn" "roads" "LStreetsStepOn$Roads;") (e_mem (n := 20) rfl)) rfl hin2 rfl 19 (tyX10_ok 4 (by decide)) rfl rfl dX10_init_53 (fun H locs G => ?_)
  have Z : eZ (e_ur σ25 0 4 19) 32 := Z.ur (by decide) (by decide)
  obtain ⟨σ27, eσ27⟩ : ∃ z : eS, z = e_ur σ25 0 4 19 := ⟨_, rfl⟩
  rw [← eσ27] at G Z
  have h := h σ27 eσ27
  refine lv_aload_n hx hb dX10_init_56 rfl (lv_at hl 0 rfl) ?_
  refine ec_new hx hb hts in_X10_init_X0 tyX0 tyX0_ok hown (hts (.classLink RX10 41 RX0) (e_mem (n := 21) rfl)) (hts (.instantiable RX0 4) (e_mem (n := 22) rfl)) (hts (.initialized RX0) (e_mem (n := 23) rfl)) K G Z ok_32 ml_32 rfl rfl dv_X0 (Nat.le_of_ble_eq_true rfl) (Nat.le_of_ble_eq_true rfl) dX10_init_57 (fun ρ28 H hg29 K G Z => ?_)
  rw [← hg29 0 (by decide)] at hl
  refine W.eq (g2 := F0 m 60 ls [.ref (ρ28 (32)), .ref (ρ28 (0))]) (by rw [hg29 0 (by decide)]) ?_
  refine lv_dup hx hb dX10_init_60 rfl ?_
  refine ec_callIN (As := []) (rest := [.ref (ρ28 (32)), .ref (ρ28 (0))]) ⟨hx, hb, hml, hown, hts⟩ K X G 32 (c_X0_init Z h) ⟨va_cnB 0 hts gX10_init_X0_init_n43 rfl rfl rfl (X.2.2.2 _ (e_memm (n := 3) rfl)) (hts (.initialized RX0) (e_mem (n := 23) rfl)) (by decide +kernel) ⟨Nat.le_of_ble_eq_true rfl, Nat.le_of_ble_eq_true rfl⟩, rfl, (hts (.instanceMethod yX0_init) (e_mem (n := 78) rfl))⟩ rfl hl.1 rfl (Nat.le_of_ble_eq_true rfl) dX10_init_61 ⟨Nat.le_of_ble_eq_true rfl, Nat.le_of_ble_eq_true rfl⟩ (fun ρ30 σ31 H locs h hg32 K G Z => ?_)
  rw [← hg32 0 (by decide)] at hl
  refine W.eq (g2 := F0 m 64 ls [.ref (ρ30 (32)), .ref (ρ30 (0))]) (by rw [hg32 0 (by decide), hg32 32 (by decide)]) ?_
  refine e_putrF hx hb hts in_X10_init_X10 tyX10 tyX10_ok nmX10 hown K G 0 (by decide) ml_0 rfl 5 (by decide) rfl (hts (.fieldLink RX10 44 "StreetsStepOn" "almanac" "LStreetsStepOn$Almanac;") (e_mem (n := 24) rfl)) rfl hin2 rfl 33 (tyX10_ok 5 (by decide)) rfl rfl dX10_init_64 (fun H locs G => ?_)
  have Z : eZ (e_ur σ31 0 5 33) 35 := Z.ur (by decide) (by decide)
  obtain ⟨σ33, eσ33⟩ : ∃ z : eS, z = e_ur σ31 0 5 33 := ⟨_, rfl⟩
  rw [← eσ33] at G Z
  have h := h σ33 eσ33
  refine lv_aload_n hx hb dX10_init_67 rfl (lv_at hl 0 rfl) ?_
  refine ec_new hx hb hts in_X10_init_X9 tyX9 tyX9_ok hown (hts (.classLink RX10 48 RX9) (e_mem (n := 25) rfl)) (hts (.instantiable RX9 3) (e_mem (n := 26) rfl)) (hts (.initialized RX9) (e_mem (n := 27) rfl)) K G Z ok_35 ml_35 rfl rfl dv_X9 (Nat.le_of_ble_eq_true rfl) (Nat.le_of_ble_eq_true rfl) dX10_init_68 (fun ρ34 H hg35 K G Z => ?_)
  rw [← hg35 0 (by decide)] at hl
  refine W.eq (g2 := F0 m 71 ls [.ref (ρ34 (35)), .ref (ρ34 (0))]) (by rw [hg35 0 (by decide)]) ?_
  refine lv_dup hx hb dX10_init_71 rfl ?_
  refine ec_callIN (As := []) (rest := [.ref (ρ34 (35)), .ref (ρ34 (0))]) ⟨hx, hb, hml, hown, hts⟩ K X G 35 (c_X9_init Z h) ⟨va_cnB 0 hts gX10_init_X9_init_n50 rfl rfl rfl (X.2.2.2 _ (e_memm (n := 4) rfl)) (hts (.initialized RX9) (e_mem (n := 27) rfl)) (by decide +kernel) ⟨Nat.le_of_ble_eq_true rfl, Nat.le_of_ble_eq_true rfl⟩, rfl, (hts (.instanceMethod yX9_init) (e_mem (n := 85) rfl))⟩ rfl hl.1 rfl (Nat.le_of_ble_eq_true rfl) dX10_init_72 ⟨Nat.le_of_ble_eq_true rfl, Nat.le_of_ble_eq_true rfl⟩ (fun ρ36 σ37 H locs h hg38 K G Z => ?_)
  rw [← hg38 0 (by decide)] at hl
  refine W.eq (g2 := F0 m 75 ls [.ref (ρ36 (35)), .ref (ρ36 (0))]) (by rw [hg38 0 (by decide), hg38 35 (by decide)]) ?_
  refine e_putrF hx hb hts in_X10_init_X10 tyX10 tyX10_ok nmX10 hown K G 0 (by decide) ml_0 rfl 6 (by decide) rfl (hts (.fieldLink RX10 51 "StreetsStepOn" "townReader" "LStreetsStepOn$TownReader;") (e_mem (n := 28) rfl)) rfl hin2 rfl 36 (tyX10_ok 6 (by decide)) rfl rfl dX10_init_75 (fun H locs G => ?_)
  have Z : eZ (e_ur σ37 0 6 36) 36 := Z.ur (by decide) (by decide)
  obtain ⟨σ39, eσ39⟩ : ∃ z : eS, z = e_ur σ37 0 6 36 := ⟨_, rfl⟩
  rw [← eσ39] at G Z
  have h := h σ39 eσ39
  refine lv_aload_n hx hb dX10_init_78 rfl (lv_at hl 0 rfl) ?_
  refine ec_new hx hb hts in_X10_init_X6 tyX6 tyX6_ok hown (hts (.classLink RX10 55 RX6) (e_mem (n := 29) rfl)) (hts (.instantiable RX6 7) (e_mem (n := 30) rfl)) (hts (.initialized RX6) (e_mem (n := 31) rfl)) K G Z ok_36 ml_36 rfl rfl dv_X6 (Nat.le_of_ble_eq_true rfl) (Nat.le_of_ble_eq_true rfl) dX10_init_79 (fun ρ40 H hg41 K G Z => ?_)
  rw [← hg41 0 (by decide)] at hl
  refine W.eq (g2 := F0 m 82 ls [.ref (ρ40 (36)), .ref (ρ40 (0))]) (by rw [hg41 0 (by decide)]) ?_
  refine lv_dup hx hb dX10_init_82 rfl ?_
  refine ec_callIN (As := []) (rest := [.ref (ρ40 (36)), .ref (ρ40 (0))]) ⟨hx, hb, hml, hown, hts⟩ K X G 36 (c_X6_init Z h) ⟨va_cnB 0 hts gX10_init_X6_init_n57 rfl rfl rfl (X.2.2.2 _ (e_memm (n := 5) rfl)) (hts (.initialized RX6) (e_mem (n := 31) rfl)) (by decide +kernel) ⟨Nat.le_of_ble_eq_true rfl, Nat.le_of_ble_eq_true rfl⟩, rfl, (hts (.instanceMethod yX6_init) (e_mem (n := 88) rfl))⟩ rfl hl.1 rfl (Nat.le_of_ble_eq_true rfl) dX10_init_83 ⟨Nat.le_of_ble_eq_true rfl, Nat.le_of_ble_eq_true rfl⟩ (fun ρ42 σ43 H locs h hg44 K G Z => ?_)
  rw [← hg44 0 (by decide)] at hl
  refine W.eq (g2 := F0 m 86 ls [.ref (ρ42 (36)), .ref (ρ42 (0))]) (by rw [hg44 0 (by decide), hg44 36 (by decide)]) ?_
  refine e_putrF hx hb hts in_X10_init_X10 tyX10 tyX10_ok nmX10 hown K G 0 (by decide) ml_0 rfl 7 (by decide) rfl (hts (.fieldLink RX10 58 "StreetsStepOn" "lateRule" "LStreetsStepOn$Rule;") (e_mem (n := 32) rfl)) rfl hin2 rfl 37 (tyX10_ok 7 (by decide)) rfl rfl dX10_init_86 (fun H locs G => ?_)
  have Z : eZ (e_ur σ43 0 7 37) 41 := Z.ur (by decide) (by decide)
  obtain ⟨σ45, eσ45⟩ : ∃ z : eS, z = e_ur σ43 0 7 37 := ⟨_, rfl⟩
  rw [← eσ45] at G Z
  have h := h σ45 eσ45
  refine lv_aload_n hx hb dX10_init_89 rfl (lv_at hl 0 rfl) ?_
  refine ec_new hx hb hts in_X10_init_X2 tyX2 tyX2_ok hown (hts (.classLink RX10 62 RX2) (e_mem (n := 33) rfl)) (hts (.instantiable RX2 8) (e_mem (n := 34) rfl)) (hts (.initialized RX2) (e_mem (n := 35) rfl)) K G Z ok_41 ml_41 rfl rfl dv_X2 (Nat.le_of_ble_eq_true rfl) (Nat.le_of_ble_eq_true rfl) dX10_init_90 (fun ρ46 H hg47 K G Z => ?_)
  rw [← hg47 0 (by decide)] at hl
  refine W.eq (g2 := F0 m 93 ls [.ref (ρ46 (41)), .ref (ρ46 (0))]) (by rw [hg47 0 (by decide)]) ?_
  refine lv_dup hx hb dX10_init_93 rfl ?_
  refine ec_callIN (As := []) (rest := [.ref (ρ46 (41)), .ref (ρ46 (0))]) ⟨hx, hb, hml, hown, hts⟩ K X G 41 (c_X2_init Z h) ⟨va_cnB 0 hts gX10_init_X2_init_n64 rfl rfl rfl (X.2.2.2 _ (e_memm (n := 6) rfl)) (hts (.initialized RX2) (e_mem (n := 35) rfl)) (by decide +kernel) ⟨Nat.le_of_ble_eq_true rfl, Nat.le_of_ble_eq_true rfl⟩, rfl, (hts (.instanceMethod yX2_init) (e_mem (n := 95) rfl))⟩ rfl hl.1 rfl (Nat.le_of_ble_eq_true rfl) dX10_init_94 ⟨Nat.le_of_ble_eq_true rfl, Nat.le_of_ble_eq_true rfl⟩ (fun ρ48 σ49 H locs h hg50 K G Z => ?_)
  rw [← hg50 0 (by decide)] at hl
  refine W.eq (g2 := F0 m 97 ls [.ref (ρ48 (41)), .ref (ρ48 (0))]) (by rw [hg50 0 (by decide), hg50 41 (by decide)]) ?_
  refine e_putrF hx hb hts in_X10_init_X10 tyX10 tyX10_ok nmX10 hown K G 0 (by decide) ml_0 rfl 8 (by decide) rfl (hts (.fieldLink RX10 65 "StreetsStepOn" "council" "LStreetsStepOn$Council;") (e_mem (n := 36) rfl)) rfl hin2 rfl 42 (tyX10_ok 8 (by decide)) rfl rfl dX10_init_97 (fun H locs G => ?_)
  have Z : eZ (e_ur σ49 0 8 42) 47 := Z.ur (by decide) (by decide)
  obtain ⟨σ51, eσ51⟩ : ∃ z : eS, z = e_ur σ49 0 8 42 := ⟨_, rfl⟩
  rw [← eσ51] at G Z
  have h := h σ51 eσ51
  refine lv_aload_n hx hb dX10_init_100 rfl (lv_at hl 0 rfl) ?_
  refine ec_new hx hb hts in_X10_init_X3 tyX3 tyX3_ok hown (hts (.classLink RX10 69 RX3) (e_mem (n := 37) rfl)) (hts (.instantiable RX3 5) (e_mem (n := 38) rfl)) (hts (.initialized RX3) (e_mem (n := 39) rfl)) K G Z ok_47 ml_47 rfl rfl dv_X3 (Nat.le_of_ble_eq_true rfl) (Nat.le_of_ble_eq_true rfl) dX10_init_101 (fun ρ52 H hg53 K G Z => ?_)
  rw [← hg53 0 (by decide)] at hl
  refine W.eq (g2 := F0 m 104 ls [.ref (ρ52 (47)), .ref (ρ52 (0))]) (by rw [hg53 0 (by decide)]) ?_
  refine lv_dup hx hb dX10_init_104 rfl ?_
  refine ec_callIN (As := []) (rest := [.ref (ρ52 (47)), .ref (ρ52 (0))]) ⟨hx, hb, hml, hown, hts⟩ K X G 47 (c_X3_init Z h) ⟨va_cnB 0 hts gX10_init_X3_init_n71 rfl rfl rfl (X.2.2.2 _ (e_memm (n := 7) rfl)) (hts (.initialized RX3) (e_mem (n := 39) rfl)) (by decide +kernel) ⟨Nat.le_of_ble_eq_true rfl, Nat.le_of_ble_eq_true rfl⟩, rfl, (hts (.instanceMethod yX3_init) (e_mem (n := 103) rfl))⟩ rfl hl.1 rfl (Nat.le_of_ble_eq_true rfl) dX10_init_105 ⟨Nat.le_of_ble_eq_true rfl, Nat.le_of_ble_eq_true rfl⟩ (fun ρ54 σ55 H locs h hg56 K G Z => ?_)
  rw [← hg56 0 (by decide)] at hl
  refine W.eq (g2 := F0 m 108 ls [.ref (ρ54 (47)), .ref (ρ54 (0))]) (by rw [hg56 0 (by decide), hg56 47 (by decide)]) ?_
  refine e_putrF hx hb hts in_X10_init_X10 tyX10 tyX10_ok nmX10 hown K G 0 (by decide) ml_0 rfl 9 (by decide) rfl (hts (.fieldLink RX10 72 "StreetsStepOn" "inquiry" "LStreetsStepOn$Inquiry;") (e_mem (n := 40) rfl)) rfl hin2 rfl 48 (tyX10_ok 9 (by decide)) rfl rfl dX10_init_108 (fun H locs G => ?_)
  have Z : eZ (e_ur σ55 0 9 48) 55 := Z.ur (by decide) (by decide)
  obtain ⟨σ57, eσ57⟩ : ∃ z : eS, z = e_ur σ55 0 9 48 := ⟨_, rfl⟩
  rw [← eσ57] at G Z
  have h := h σ57 eσ57
  refine lv_aload_n hx hb dX10_init_111 rfl (lv_at hl 0 rfl) ?_
  refine ec_new hx hb hts in_X10_init_X8 tyX8 tyX8_ok hown (hts (.classLink RX10 76 RX8) (e_mem (n := 41) rfl)) (hts (.instantiable RX8 7) (e_mem (n := 42) rfl)) (hts (.initialized RX8) (e_mem (n := 43) rfl)) K G Z ok_55 ml_55 rfl rfl dv_X8 (Nat.le_of_ble_eq_true rfl) (Nat.le_of_ble_eq_true rfl) dX10_init_112 (fun ρ58 H hg59 K G Z => ?_)
  rw [← hg59 0 (by decide)] at hl
  refine W.eq (g2 := F0 m 115 ls [.ref (ρ58 (55)), .ref (ρ58 (0))]) (by rw [hg59 0 (by decide)]) ?_
  refine lv_dup hx hb dX10_init_115 rfl ?_
  refine ec_callIN (As := []) (rest := [.ref (ρ58 (55)), .ref (ρ58 (0))]) ⟨hx, hb, hml, hown, hts⟩ K X G 55 (c_X8_init Z h) ⟨va_cnB 0 hts gX10_init_X8_init_n78 rfl rfl rfl (X.2.2.2 _ (e_memm (n := 8) rfl)) (hts (.initialized RX8) (e_mem (n := 43) rfl)) (by decide +kernel) ⟨Nat.le_of_ble_eq_true rfl, Nat.le_of_ble_eq_true rfl⟩, rfl, (hts (.instanceMethod yX8_init) (e_mem (n := 108) rfl))⟩ rfl hl.1 rfl (Nat.le_of_ble_eq_true rfl) dX10_init_116 ⟨Nat.le_of_ble_eq_true rfl, Nat.le_of_ble_eq_true rfl⟩ (fun ρ60 σ61 H locs h hg62 K G Z => ?_)
  rw [← hg62 0 (by decide)] at hl
  refine W.eq (g2 := F0 m 119 ls [.ref (ρ60 (55)), .ref (ρ60 (0))]) (by rw [hg62 0 (by decide), hg62 55 (by decide)]) ?_
  refine e_putrF hx hb hts in_X10_init_X10 tyX10 tyX10_ok nmX10 hown K G 0 (by decide) ml_0 rfl 10 (by decide) rfl (hts (.fieldLink RX10 79 "StreetsStepOn" "tour" "LStreetsStepOn$Tour;") (e_mem (n := 44) rfl)) rfl hin2 rfl 56 (tyX10_ok 10 (by decide)) rfl rfl dX10_init_119 (fun H locs G => ?_)
  have Z : eZ (e_ur σ61 0 10 56) 71 := Z.ur (by decide) (by decide)
  obtain ⟨σ63, eσ63⟩ : ∃ z : eS, z = e_ur σ61 0 10 56 := ⟨_, rfl⟩
  rw [← eσ63] at G Z
  have h := h σ63 eσ63
  refine lv_aload_n hx hb dX10_init_122 rfl (lv_at hl 0 rfl) ?_
  refine lv_bipush (v := (12 : Int32)) hx hb dX10_init_123 (by decide) ?_
  refine ec_newa (atype := .int) (ty := .int) hx hb (hts (.arrayClass .int) (e_mem (n := 45) rfl)) rfl K G Z ok_71 (kd := 0) ml_71 (by first | exact Or.inl ⟨rfl, rfl⟩ | exact Or.inr ⟨rfl, rfl⟩) rfl (fun _ _ => rfl) (by decide) rfl (by decide) (Nat.le_of_ble_eq_true rfl) (Nat.le_of_ble_eq_true rfl) dX10_init_125 (fun ρ64 H hg65 K G Z => ?_)
  rw [← hg65 0 (by decide)] at hl
  refine W.eq (g2 := F0 m 127 ls [.ref (ρ64 (71)), .ref (ρ64 (0))]) (by rw [hg65 0 (by decide)]) ?_
  refine e_putrF hx hb hts in_X10_init_X10 tyX10 tyX10_ok nmX10 hown K G 0 (by decide) ml_0 rfl 11 (by decide) rfl (hts (.fieldLink RX10 83 "StreetsStepOn" "tally" "[I") (e_mem (n := 46) rfl)) rfl hin2 rfl 72 (tyX10_ok 11 (by decide)) rfl rfl dX10_init_127 (fun H locs G => ?_)
  have Z : eZ (e_ur σ63 0 11 72) 72 := Z.ur (by decide) (by decide)
  obtain ⟨σ66, eσ66⟩ : ∃ z : eS, z = e_ur σ63 0 11 72 := ⟨_, rfl⟩
  rw [← eσ66] at G Z
  have h := h σ66 eσ66
  refine lv_aload_n hx hb dX10_init_130 rfl (lv_at hl 0 rfl) ?_
  refine lv_sipush (v := (129 : Int32)) hx hb dX10_init_131 (by decide) ?_
  refine ec_newa (atype := .int) (ty := .int) hx hb (hts (.arrayClass .int) (e_mem (n := 45) rfl)) rfl K G Z ok_72 (kd := 0) ml_72 (by first | exact Or.inl ⟨rfl, rfl⟩ | exact Or.inr ⟨rfl, rfl⟩) rfl (fun _ _ => rfl) (by decide) rfl (by decide) (Nat.le_of_ble_eq_true rfl) (Nat.le_of_ble_eq_true rfl) dX10_init_134 (fun ρ67 H hg68 K G Z => ?_)
  rw [← hg68 0 (by decide)] at hl
  refine W.eq (g2 := F0 m 136 ls [.ref (ρ67 (72)), .ref (ρ67 (0))]) (by rw [hg68 0 (by decide)]) ?_
  refine e_putrF hx hb hts in_X10_init_X10 tyX10 tyX10_ok nmX10 hown K G 0 (by decide) ml_0 rfl 12 (by decide) rfl (hts (.fieldLink RX10 87 "StreetsStepOn" "brought" "[I") (e_mem (n := 47) rfl)) rfl hin2 rfl 73 (tyX10_ok 12 (by decide)) rfl rfl dX10_init_136 (fun H locs G => ?_)
  have Z : eZ (e_ur σ66 0 12 73) 73 := Z.ur (by decide) (by decide)
  obtain ⟨σ69, eσ69⟩ : ∃ z : eS, z = e_ur σ66 0 12 73 := ⟨_, rfl⟩
  rw [← eσ69] at G Z
  have h := h σ69 eσ69
  refine lv_aload_n hx hb dX10_init_139 rfl (lv_at hl 0 rfl) ?_
  refine e_getr hx hb hts in_X10_init_X10 hown K G 0 (by decide) ml_0 rfl 3 (by decide) rfl (hts (.fieldLink RX10 30 "StreetsStepOn" "keptBooks" "[LStreetsStepOn$Book;") (e_mem (n := 16) rfl)) dX10_init_140 ?_
  have c70 := h.1
  have h := h.2
  rw [c70]
  refine W.eq (g2 := F0 m 143 ls [.ref (ρ67 (17))]) rfl ?_
  refine lv_iconst (v := (0 : Int32)) hx hb dX10_init_143 (by decide) ?_
  refine ec_new hx hb hts in_X10_init_X1 tyX1 tyX1_ok hown (hts (.classLink RX10 23 RX1) (e_mem (n := 12) rfl)) (hts (.instantiable RX1 9) (e_mem (n := 13) rfl)) (hts (.initialized RX1) (e_mem (n := 14) rfl)) K G Z ok_73 ml_73 rfl rfl dv_X1 (Nat.le_of_ble_eq_true rfl) (Nat.le_of_ble_eq_true rfl) dX10_init_144 (fun ρ71 H hg72 K G Z => ?_)
  rw [← hg72 0 (by decide)] at hl
  refine W.eq (g2 := F0 m 147 ls [.ref (ρ71 (73)), .int ((0 : Int32)), .ref (ρ71 (17))]) (by rw [hg72 17 (by decide)]) ?_
  refine lv_dup hx hb dX10_init_147 rfl ?_
  refine ec_callIN (As := []) (rest := [.ref (ρ71 (73)), .int ((0 : Int32)), .ref (ρ71 (17))]) ⟨hx, hb, hml, hown, hts⟩ K X G 73 (c_X1_init_v1 Z h) ⟨va_cnB 0 hts gX10_init_X1_init_n25 rfl rfl rfl (X.2.2.2 _ (e_memm (n := 2) rfl)) (hts (.initialized RX1) (e_mem (n := 14) rfl)) (by decide +kernel) ⟨Nat.le_of_ble_eq_true rfl, Nat.le_of_ble_eq_true rfl⟩, rfl, (hts (.instanceMethod yX1_init) (e_mem (n := 58) rfl))⟩ rfl hl.1 rfl (Nat.le_of_ble_eq_true rfl) dX10_init_148 ⟨Nat.le_of_ble_eq_true rfl, Nat.le_of_ble_eq_true rfl⟩ (fun ρ73 σ74 H locs h hg75 K G Z => ?_)
  rw [← hg75 0 (by decide)] at hl
  refine W.eq (g2 := F0 m 151 ls [.ref (ρ73 (73)), .int ((0 : Int32)), .ref (ρ73 (17))]) (by rw [hg75 17 (by decide), hg75 73 (by decide)]) ?_
  refine ec_aast (C := RX1) hx hb K G 17 7 2 73 (by decide) ml_17 rfl (by decide) ml_73 rfl (by unfold vp_in; decide) dX10_init_151 (fun H locs G => ?_)
  have G : eG mL 85 vwCl D ρ73 κ base s (e_ur σ74 17 0 74) H locs := G
  have Z : eZ (e_ur σ74 17 0 74) 85 := Z.ur (by decide) (by decide)
  obtain ⟨σ76, eσ76⟩ : ∃ z : eS, z = e_ur σ74 17 0 74 := ⟨_, rfl⟩
  rw [← eσ76] at G Z
  have h := h σ76 eσ76
  refine lv_aload_n hx hb dX10_init_152 rfl (lv_at hl 0 rfl) ?_
  refine e_getr hx hb hts in_X10_init_X10 hown K G 0 (by decide) ml_0 rfl 3 (by decide) rfl (hts (.fieldLink RX10 30 "StreetsStepOn" "keptBooks" "[LStreetsStepOn$Book;") (e_mem (n := 16) rfl)) dX10_init_153 ?_
  have c77 := h.1
  have h := h.2
  rw [c77]
  refine W.eq (g2 := F0 m 156 ls [.ref (ρ73 (17))]) rfl ?_
  refine lv_iconst (v := (1 : Int32)) hx hb dX10_init_156 (by decide) ?_
  refine ec_new hx hb hts in_X10_init_X1 tyX1 tyX1_ok hown (hts (.classLink RX10 23 RX1) (e_mem (n := 12) rfl)) (hts (.instantiable RX1 9) (e_mem (n := 13) rfl)) (hts (.initialized RX1) (e_mem (n := 14) rfl)) K G Z ok_85 ml_85 rfl rfl dv_X1 (Nat.le_of_ble_eq_true rfl) (Nat.le_of_ble_eq_true rfl) dX10_init_157 (fun ρ78 H hg79 K G Z => ?_)
  rw [← hg79 0 (by decide)] at hl
  refine W.eq (g2 := F0 m 160 ls [.ref (ρ78 (85)), .int ((1 : Int32)), .ref (ρ78 (17))]) (by rw [hg79 17 (by decide)]) ?_
  refine lv_dup hx hb dX10_init_160 rfl ?_
  refine ec_callIN (As := []) (rest := [.ref (ρ78 (85)), .int ((1 : Int32)), .ref (ρ78 (17))]) ⟨hx, hb, hml, hown, hts⟩ K X G 85 (c_X1_init_v2 Z h) ⟨va_cnB 0 hts gX10_init_X1_init_n25 rfl rfl rfl (X.2.2.2 _ (e_memm (n := 2) rfl)) (hts (.initialized RX1) (e_mem (n := 14) rfl)) (by decide +kernel) ⟨Nat.le_of_ble_eq_true rfl, Nat.le_of_ble_eq_true rfl⟩, rfl, (hts (.instanceMethod yX1_init) (e_mem (n := 58) rfl))⟩ rfl hl.1 rfl (Nat.le_of_ble_eq_true rfl) dX10_init_161 ⟨Nat.le_of_ble_eq_true rfl, Nat.le_of_ble_eq_true rfl⟩ (fun ρ80 σ81 H locs h hg82 K G Z => ?_)
  rw [← hg82 0 (by decide)] at hl
  refine W.eq (g2 := F0 m 164 ls [.ref (ρ80 (85)), .int ((1 : Int32)), .ref (ρ80 (17))]) (by rw [hg82 17 (by decide), hg82 85 (by decide)]) ?_
  refine ec_aast (C := RX1) hx hb K G 17 7 2 85 (by decide) ml_17 rfl (by decide) ml_85 rfl (by unfold vp_in; decide) dX10_init_164 (fun H locs G => ?_)
  have G : eG mL 97 vwCl D ρ80 κ base s (e_ur σ81 17 1 86) H locs := G
  have Z : eZ (e_ur σ81 17 1 86) 97 := Z.ur (by decide) (by decide)
  obtain ⟨σ83, eσ83⟩ : ∃ z : eS, z = e_ur σ81 17 1 86 := ⟨_, rfl⟩
  rw [← eσ83] at G Z
  have h := h σ83 eσ83
  exact ec_vret hx hb hr hlocks K G Z (fun k hk => by rw [hg82 k (Nat.lt_of_lt_of_le hk (by decide))]; rw [hg79 k (Nat.lt_of_lt_of_le hk (by decide))]; rw [hg75 k (Nat.lt_of_lt_of_le hk (by decide))]; rw [hg72 k (Nat.lt_of_lt_of_le hk (by decide))]; rw [hg68 k (Nat.lt_of_lt_of_le hk (by decide))]; rw [hg65 k (Nat.lt_of_lt_of_le hk (by decide))]; rw [hg62 k (Nat.lt_of_lt_of_le hk (by decide))]; rw [hg59 k (Nat.lt_of_lt_of_le hk (by decide))]; rw [hg56 k (Nat.lt_of_lt_of_le hk (by decide))]; rw [hg53 k (Nat.lt_of_lt_of_le hk (by decide))]; rw [hg50 k (Nat.lt_of_lt_of_le hk (by decide))]; rw [hg47 k (Nat.lt_of_lt_of_le hk (by decide))]; rw [hg44 k (Nat.lt_of_lt_of_le hk (by decide))]; rw [hg41 k (Nat.lt_of_lt_of_le hk (by decide))]; rw [hg38 k (Nat.lt_of_lt_of_le hk (by decide))]; rw [hg35 k (Nat.lt_of_lt_of_le hk (by decide))]; rw [hg32 k (Nat.lt_of_lt_of_le hk (by decide))]; rw [hg29 k (Nat.lt_of_lt_of_le hk (by decide))]; rw [hg26 k (Nat.lt_of_lt_of_le hk (by decide))]; rw [hg23 k (Nat.lt_of_lt_of_le hk (by decide))]; rw [hg20 k (Nat.lt_of_lt_of_le hk (by decide))]; rw [hg17 k (Nat.lt_of_lt_of_le hk (by decide))]; rw [hg14 k (Nat.lt_of_lt_of_le hk (by decide))]; rw [hg11 k (Nat.lt_of_lt_of_le hk (by decide))]; rw [hg8 k (Nat.lt_of_lt_of_le hk (by decide))]; rw [hg5 k (Nat.lt_of_lt_of_le hk (by decide))]; rw [hg2 k (Nat.lt_of_lt_of_le hk (by decide))]) h dX10_init_165
abbrev rm_X11_init : Room := { frames := 1, cells := 27, slots := 10818, locals := 12 }
theorem in_X11_init_X11 : ∀ w ∈ wsX110, w ∈ wsX11_init := fun w h => List.mem_cons_of_mem _ (List.mem_append_right _ h)
def b_X11_init_229 (post : eS → Prop) : Nat → eS → Int32 → Prop
  | 0, _, _ => False
  | n + 1, σ, x1 => (((84 : Int32) ≤ x1 → post σ) ∧ (¬ ((84 : Int32) ≤ x1) → (σ.2.2 97 5 = 102) ∧ (¬ (12 : Int32) = 0) ∧ (vp_in x1 84) ∧ ∀ σ3 : eS, σ3 = e_ui σ 101 x1.toNatClampNeg (x1 - x1 / (12 : Int32) * (12 : Int32)) → ∀ x4 : Int32, x4 = x1 + (1 : Int32) → b_X11_init_229 post n σ3 x4))
set_option maxHeartbeats 8000000 in
set_option maxRecDepth 100000 in
theorem l_X11_init_229 {p : Program} {l : Launch} {e : Env} {s : State} {m : MethodId} {args : Array Value} {below : List Frame} {meth : Method} {c : Code} {D : va_G} {ρ ρ9 : Nat → Nat} {κ : Nat → ClassId} {base : Nat} {post : eS → Prop} (C : eCx p s m args meth c cX11_init RX11 2 none wsX11_init) (K : eK 125 vwCl (gT κ) D ρ9 base gNw s) (hag : ∀ k, k < 98 → ρ9 k = ρ k) : ∀ (n : Nat) (σ : eS) (x1 : Int32) (H : Heap) (locs : List Loc) (ls : Array Slot), b_X11_init_229 post n σ x1 → eG mL 125 vwCl D ρ9 κ base s σ H locs → eZ σ 125 → lv_has ls 2 [(0, .ref (ρ9 (97))), (1, .int (x1))] → W p l e rm_X11_init s m args below meth c H locs 27 10818 (MQ below (va_Qv (e_postc 98 125 base ρ post) (e_Bc mL 125 vwCl D κ) (eA base)) args s 27 10818 (eA base)) (F0 m 229 ls []) := by
  obtain ⟨hx, hb, hml, hown, hts, hr, hlocks⟩ := id C
  intro n
  induction n with
  | zero => intro σ x1 H locs ls h G Z hl; exact False.elim h
  | succ n ih =>
    intro σ x1 H locs ls h G Z hl
    rw [b_X11_init_229] at h
    refine lv_iload_n hx hb dX11_init_229 rfl (lv_at hl 1 rfl) ?_
    refine lv_bipush (v := (84 : Int32)) hx hb dX11_init_230 (by decide) ?_
    refine lv_icmp_ge (tgt := 251) hx hb dX11_init_232 (by decide) (fun c1 => ?_) (fun c1 => ?_)
    · have h := h.1 c1
      exact ec_vret hx hb hr hlocks K G Z hag h dX11_init_251
    · have h := h.2 c1
      refine lv_aload_n hx hb dX11_init_235 rfl (lv_at hl 0 rfl) ?_
      refine e_getr hx hb hts in_X11_init_X11 hown K G 97 (by decide) ml_97 rfl 5 (by decide) rfl (hts (.fieldLink RX11 19 "StreetsStepOnModel" "nexts" "[I") (e_mem (n := 8) rfl)) dX11_init_236 ?_
      have c2 := h.1
      have h := h.2
      rw [c2]
      refine W.eq (g2 := F0 m 239 ls [.ref (ρ9 (101))]) rfl ?_
      refine lv_iload_n hx hb dX11_init_239 rfl (lv_at hl 1 rfl) ?_
      refine lv_iload_n hx hb dX11_init_240 rfl (lv_at hl 1 rfl) ?_
      refine lv_bipush (v := (12 : Int32)) hx hb dX11_init_241 (by decide) ?_
      refine lv_irem hx hb dX11_init_243 h.1 ?_
      have h := h.2
      have hi := h.1
      have h := h.2
      refine e_iast hx hb K G 101 0 0 84 (by decide) ml_101 rfl hi dX11_init_244 (fun H locs G => ?_)
      have Z : eZ (e_ui σ 101 x1.toNatClampNeg (x1 - x1 / (12 : Int32) * (12 : Int32))) 125 := Z.ui (by decide)
      obtain ⟨σ3, eσ3⟩ : ∃ z : eS, z = e_ui σ 101 x1.toNatClampNeg (x1 - x1 / (12 : Int32) * (12 : Int32)) := ⟨_, rfl⟩
      rw [← eσ3] at G Z
      have h := h σ3 eσ3
      obtain ⟨x4, ex4⟩ : ∃ y : Int32, y = x1 + (1 : Int32) := ⟨_, rfl⟩
      have h := h x4 ex4
      refine lv_iinc (v := x4) (lv' := [(1, .int (x4)), (0, .ref (ρ9 (97)))]) hx hb dX11_init_245 hl (k := 1) rfl (by rw [ex4]; rfl) (by decide) rfl (fun ls hl => ?_)
      refine lv_goto (tgt := 229) hx hb dX11_init_248 (by decide) ?_
      exact ih σ3 x4 _ _ _ h G Z (lv_sub hl [1, 0] rfl)
def w_X11_init (σ : eS) (post : eS → Prop) : Prop := ∀ σ3 : eS, σ3 = e_ur σ 97 1 99 → ∀ σ6 : eS, σ6 = e_ur σ3 97 2 100 → ∀ σ9 : eS, σ9 = e_ur σ6 97 3 101 → ∀ σ12 : eS, σ12 = e_ur σ9 97 5 102 → ∀ σ15 : eS, σ15 = e_ur σ12 97 8 103 → ∀ σ18 : eS, σ18 = e_ur σ15 97 9 104 → ∀ σ21 : eS, σ21 = e_ur σ18 97 11 105 → ∀ σ24 : eS, σ24 = e_ur σ21 97 12 106 → ∀ σ27 : eS, σ27 = e_ur σ24 97 13 107 → ∀ σ30 : eS, σ30 = e_ur σ27 97 14 108 → ∀ σ33 : eS, σ33 = e_ur σ30 97 16 109 → ∀ σ36 : eS, σ36 = e_ur σ33 97 24 110 → ∀ σ39 : eS, σ39 = e_ur σ36 97 25 111 → ∀ σ42 : eS, σ42 = e_ur σ39 97 27 112 → ∀ σ45 : eS, σ45 = e_ur σ42 97 31 113 → ∀ σ48 : eS, σ48 = e_ur σ45 97 32 114 → ∀ σ51 : eS, σ51 = e_ur σ48 97 34 115 → ∀ σ54 : eS, σ54 = e_ur σ51 97 35 116 → ∀ σ57 : eS, σ57 = e_ur σ54 97 36 117 → ∀ σ60 : eS, σ60 = e_ur σ57 97 38 118 → ∀ σ63 : eS, σ63 = e_ur σ60 97 39 119 → ∀ σ66 : eS, σ66 = e_ur σ63 97 42 120 → ∀ σ67 : eS, σ67 = e_ui σ66 97 44 (-1 : Int32) → ∀ σ70 : eS, σ70 = e_ur σ67 97 48 121 → ∀ σ73 : eS, σ73 = e_ur σ70 97 51 122 → ∀ σ76 : eS, σ76 = e_ur σ73 97 52 123 → ∀ σ79 : eS, σ79 = e_ur σ76 97 53 124 → ∀ σ82 : eS, σ82 = e_ur σ79 97 54 125 → ∃ n : Nat, b_X11_init_229 post n σ82 (0 : Int32)
set_option maxHeartbeats 8000000 in
set_option maxRecDepth 100000 in
theorem c_X11_init {l : Launch} {D : va_G} {ρ : Nat → Nat} {κ : Nat → ClassId} {base : Nat} {σ : eS} {post : eS → Prop} (Z : eZ σ 98) (h : w_X11_init σ post) : eMc l yX11_init wsX11_init rm_X11_init mL 98 125 vwCl (gT κ) D ρ κ base gNw gMw [.ref (ρ (97))] σ post 27 10818 := by
  refine ec_ofW (cc := cX11_init) (maxL := 2) (ret := none) (by decide) rfl rfl (Nat.le_of_ble_eq_true rfl) ?_
  intro p e s m below meth c ls C hin2 K X G hl
  obtain ⟨hx, hb, hml, hown, hts, hr, hlocks⟩ := id C
  have hl : lv_has ls 2 [(0, .ref (ρ (97)))] := hl
  unfold w_X11_init at h
  refine lv_aload_n hx hb dX11_init_0 rfl (lv_at hl 0 rfl) ?_
  refine W.objInit hx hb hown (hts (.methodLink RX11 3 objectInit) (e_mem (n := 1) rfl)) (hts (.instanceMethod objectInit) (e_mem (n := 2) rfl)) (hts (.code objectInit ⟨#[0xb1]⟩ 1 none) (e_mem (n := 3) rfl)) rfl (by rw [hml]; exact hl.1) rfl dX11_init_1 (Nat.le_of_ble_eq_true rfl) (Nat.le_of_ble_eq_true rfl) ?_
  refine W.eq (g2 := F0 m 4 ls []) rfl ?_
  refine lv_aload_n hx hb dX11_init_4 rfl (lv_at hl 0 rfl) ?_
  refine lv_bipush (v := (12 : Int32)) hx hb dX11_init_5 (by decide) ?_
  refine ec_newa (atype := .int) (ty := .int) hx hb (hts (.arrayClass .int) (e_mem (n := 4) rfl)) rfl K G Z ok_98 (kd := 0) ml_98 (by first | exact Or.inl ⟨rfl, rfl⟩ | exact Or.inr ⟨rfl, rfl⟩) rfl (fun _ _ => rfl) (by decide) rfl (by decide) (Nat.le_of_ble_eq_true rfl) (Nat.le_of_ble_eq_true rfl) dX11_init_7 (fun ρ1 H hg2 K G Z => ?_)
  rw [← hg2 97 (by decide)] at hl
  refine W.eq (g2 := F0 m 9 ls [.ref (ρ1 (98)), .ref (ρ1 (97))]) (by rw [hg2 97 (by decide)]) ?_
  refine e_putrF hx hb hts in_X11_init_X11 tyX11 tyX11_ok nmX11 hown K G 97 (by decide) ml_97 rfl 1 (by decide) rfl (hts (.fieldLink RX11 9 "StreetsStepOnModel" "streetA" "[I") (e_mem (n := 5) rfl)) rfl hin2 rfl 99 (tyX11_ok 1 (by decide)) rfl rfl dX11_init_9 (fun H locs G => ?_)
  have Z : eZ (e_ur σ 97 1 99) 99 := Z.ur (by decide) (by decide)
  obtain ⟨σ3, eσ3⟩ : ∃ z : eS, z = e_ur σ 97 1 99 := ⟨_, rfl⟩
  rw [← eσ3] at G Z
  have h := h σ3 eσ3
  refine lv_aload_n hx hb dX11_init_12 rfl (lv_at hl 0 rfl) ?_
  refine lv_bipush (v := (12 : Int32)) hx hb dX11_init_13 (by decide) ?_
  refine ec_newa (atype := .int) (ty := .int) hx hb (hts (.arrayClass .int) (e_mem (n := 4) rfl)) rfl K G Z ok_99 (kd := 0) ml_99 (by first | exact Or.inl ⟨rfl, rfl⟩ | exact Or.inr ⟨rfl, rfl⟩) rfl (fun _ _ => rfl) (by decide) rfl (by decide) (Nat.le_of_ble_eq_true rfl) (Nat.le_of_ble_eq_true rfl) dX11_init_15 (fun ρ4 H hg5 K G Z => ?_)
  rw [← hg5 97 (by decide)] at hl
  refine W.eq (g2 := F0 m 17 ls [.ref (ρ4 (99)), .ref (ρ4 (97))]) (by rw [hg5 97 (by decide)]) ?_
  refine e_putrF hx hb hts in_X11_init_X11 tyX11 tyX11_ok nmX11 hown K G 97 (by decide) ml_97 rfl 2 (by decide) rfl (hts (.fieldLink RX11 13 "StreetsStepOnModel" "streetB" "[I") (e_mem (n := 6) rfl)) rfl hin2 rfl 100 (tyX11_ok 2 (by decide)) rfl rfl dX11_init_17 (fun H locs G => ?_)
  have Z : eZ (e_ur σ3 97 2 100) 100 := Z.ur (by decide) (by decide)
  obtain ⟨σ6, eσ6⟩ : ∃ z : eS, z = e_ur σ3 97 2 100 := ⟨_, rfl⟩
  rw [← eσ6] at G Z
  have h := h σ6 eσ6
  refine lv_aload_n hx hb dX11_init_20 rfl (lv_at hl 0 rfl) ?_
  refine lv_bipush (v := (12 : Int32)) hx hb dX11_init_21 (by decide) ?_
  refine ec_newa (atype := .int) (ty := .int) hx hb (hts (.arrayClass .int) (e_mem (n := 4) rfl)) rfl K G Z ok_100 (kd := 0) ml_100 (by first | exact Or.inl ⟨rfl, rfl⟩ | exact Or.inr ⟨rfl, rfl⟩) rfl (fun _ _ => rfl) (by decide) rfl (by decide) (Nat.le_of_ble_eq_true rfl) (Nat.le_of_ble_eq_true rfl) dX11_init_23 (fun ρ7 H hg8 K G Z => ?_)
  rw [← hg8 97 (by decide)] at hl
  refine W.eq (g2 := F0 m 25 ls [.ref (ρ7 (100)), .ref (ρ7 (97))]) (by rw [hg8 97 (by decide)]) ?_
  refine e_putrF hx hb hts in_X11_init_X11 tyX11 tyX11_ok nmX11 hown K G 97 (by decide) ml_97 rfl 3 (by decide) rfl (hts (.fieldLink RX11 16 "StreetsStepOnModel" "length" "[I") (e_mem (n := 7) rfl)) rfl hin2 rfl 101 (tyX11_ok 3 (by decide)) rfl rfl dX11_init_25 (fun H locs G => ?_)
  have Z : eZ (e_ur σ6 97 3 101) 101 := Z.ur (by decide) (by decide)
  obtain ⟨σ9, eσ9⟩ : ∃ z : eS, z = e_ur σ6 97 3 101 := ⟨_, rfl⟩
  rw [← eσ9] at G Z
  have h := h σ9 eσ9
  refine lv_aload_n hx hb dX11_init_28 rfl (lv_at hl 0 rfl) ?_
  refine lv_bipush (v := (84 : Int32)) hx hb dX11_init_29 (by decide) ?_
  refine ec_newa (atype := .int) (ty := .int) hx hb (hts (.arrayClass .int) (e_mem (n := 4) rfl)) rfl K G Z ok_101 (kd := 0) ml_101 (by first | exact Or.inl ⟨rfl, rfl⟩ | exact Or.inr ⟨rfl, rfl⟩) rfl (fun _ _ => rfl) (by decide) rfl (by decide) (Nat.le_of_ble_eq_true rfl) (Nat.le_of_ble_eq_true rfl) dX11_init_31 (fun ρ10 H hg11 K G Z => ?_)
  rw [← hg11 97 (by decide)] at hl
  refine W.eq (g2 := F0 m 33 ls [.ref (ρ10 (101)), .ref (ρ10 (97))]) (by rw [hg11 97 (by decide)]) ?_
  refine e_putrF hx hb hts in_X11_init_X11 tyX11 tyX11_ok nmX11 hown K G 97 (by decide) ml_97 rfl 5 (by decide) rfl (hts (.fieldLink RX11 19 "StreetsStepOnModel" "nexts" "[I") (e_mem (n := 8) rfl)) rfl hin2 rfl 102 (tyX11_ok 5 (by decide)) rfl rfl dX11_init_33 (fun H locs G => ?_)
  have Z : eZ (e_ur σ9 97 5 102) 102 := Z.ur (by decide) (by decide)
  obtain ⟨σ12, eσ12⟩ : ∃ z : eS, z = e_ur σ9 97 5 102 := ⟨_, rfl⟩
  rw [← eσ12] at G Z
  have h := h σ12 eσ12
  refine lv_aload_n hx hb dX11_init_36 rfl (lv_at hl 0 rfl) ?_
  refine lv_bipush (v := (12 : Int32)) hx hb dX11_init_37 (by decide) ?_
  refine ec_newa (atype := .int) (ty := .int) hx hb (hts (.arrayClass .int) (e_mem (n := 4) rfl)) rfl K G Z ok_102 (kd := 0) ml_102 (by first | exact Or.inl ⟨rfl, rfl⟩ | exact Or.inr ⟨rfl, rfl⟩) rfl (fun _ _ => rfl) (by decide) rfl (by decide) (Nat.le_of_ble_eq_true rfl) (Nat.le_of_ble_eq_true rfl) dX11_init_39 (fun ρ13 H hg14 K G Z => ?_)
  rw [← hg14 97 (by decide)] at hl
  refine W.eq (g2 := F0 m 41 ls [.ref (ρ13 (102)), .ref (ρ13 (97))]) (by rw [hg14 97 (by decide)]) ?_
  refine e_putrF hx hb hts in_X11_init_X11 tyX11 tyX11_ok nmX11 hown K G 97 (by decide) ml_97 rfl 8 (by decide) rfl (hts (.fieldLink RX11 22 "StreetsStepOnModel" "letterName" "[I") (e_mem (n := 9) rfl)) rfl hin2 rfl 103 (tyX11_ok 8 (by decide)) rfl rfl dX11_init_41 (fun H locs G => ?_)
  have Z : eZ (e_ur σ12 97 8 103) 103 := Z.ur (by decide) (by decide)
  obtain ⟨σ15, eσ15⟩ : ∃ z : eS, z = e_ur σ12 97 8 103 := ⟨_, rfl⟩
  rw [← eσ15] at G Z
  have h := h σ15 eσ15
  refine lv_aload_n hx hb dX11_init_44 rfl (lv_at hl 0 rfl) ?_
  refine lv_bipush (v := (12 : Int32)) hx hb dX11_init_45 (by decide) ?_
  refine ec_newa (atype := .long) (ty := .long) hx hb (hts (.arrayClass .long) (e_mem (n := 10) rfl)) rfl K G Z ok_103 (kd := 1) ml_103 (by first | exact Or.inl ⟨rfl, rfl⟩ | exact Or.inr ⟨rfl, rfl⟩) rfl (fun _ _ => rfl) (by decide) rfl (by decide) (Nat.le_of_ble_eq_true rfl) (Nat.le_of_ble_eq_true rfl) dX11_init_47 (fun ρ16 H hg17 K G Z => ?_)
  rw [← hg17 97 (by decide)] at hl
  refine W.eq (g2 := F0 m 49 ls [.ref (ρ16 (103)), .ref (ρ16 (97))]) (by rw [hg17 97 (by decide)]) ?_
  refine e_putrF hx hb hts in_X11_init_X11 tyX11 tyX11_ok nmX11 hown K G 97 (by decide) ml_97 rfl 9 (by decide) rfl (hts (.fieldLink RX11 25 "StreetsStepOnModel" "letterDay" "[J") (e_mem (n := 11) rfl)) rfl hin2 rfl 104 (tyX11_ok 9 (by decide)) rfl rfl dX11_init_49 (fun H locs G => ?_)
  have Z : eZ (e_ur σ15 97 9 104) 104 := Z.ur (by decide) (by decide)
  obtain ⟨σ18, eσ18⟩ : ∃ z : eS, z = e_ur σ15 97 9 104 := ⟨_, rfl⟩
  rw [← eσ18] at G Z
  have h := h σ18 eσ18
  refine lv_aload_n hx hb dX11_init_52 rfl (lv_at hl 0 rfl) ?_
  refine lv_bipush (v := (6 : Int32)) hx hb dX11_init_53 (by decide) ?_
  refine ec_newa (atype := .int) (ty := .int) hx hb (hts (.arrayClass .int) (e_mem (n := 4) rfl)) rfl K G Z ok_104 (kd := 0) ml_104 (by first | exact Or.inl ⟨rfl, rfl⟩ | exact Or.inr ⟨rfl, rfl⟩) rfl (fun _ _ => rfl) (by decide) rfl (by decide) (Nat.le_of_ble_eq_true rfl) (Nat.le_of_ble_eq_true rfl) dX11_init_55 (fun ρ19 H hg20 K G Z => ?_)
  rw [← hg20 97 (by decide)] at hl
  refine W.eq (g2 := F0 m 57 ls [.ref (ρ19 (104)), .ref (ρ19 (97))]) (by rw [hg20 97 (by decide)]) ?_
  refine e_putrF hx hb hts in_X11_init_X11 tyX11 tyX11_ok nmX11 hown K G 97 (by decide) ml_97 rfl 11 (by decide) rfl (hts (.fieldLink RX11 29 "StreetsStepOnModel" "wishSort" "[I") (e_mem (n := 12) rfl)) rfl hin2 rfl 105 (tyX11_ok 11 (by decide)) rfl rfl dX11_init_57 (fun H locs G => ?_)
  have Z : eZ (e_ur σ18 97 11 105) 105 := Z.ur (by decide) (by decide)
  obtain ⟨σ21, eσ21⟩ : ∃ z : eS, z = e_ur σ18 97 11 105 := ⟨_, rfl⟩
  rw [← eσ21] at G Z
  have h := h σ21 eσ21
  refine lv_aload_n hx hb dX11_init_60 rfl (lv_at hl 0 rfl) ?_
  refine lv_bipush (v := (6 : Int32)) hx hb dX11_init_61 (by decide) ?_
  refine ec_newa (atype := .int) (ty := .int) hx hb (hts (.arrayClass .int) (e_mem (n := 4) rfl)) rfl K G Z ok_105 (kd := 0) ml_105 (by first | exact Or.inl ⟨rfl, rfl⟩ | exact Or.inr ⟨rfl, rfl⟩) rfl (fun _ _ => rfl) (by decide) rfl (by decide) (Nat.le_of_ble_eq_true rfl) (Nat.le_of_ble_eq_true rfl) dX11_init_63 (fun ρ22 H hg23 K G Z => ?_)
  rw [← hg23 97 (by decide)] at hl
  refine W.eq (g2 := F0 m 65 ls [.ref (ρ22 (105)), .ref (ρ22 (97))]) (by rw [hg23 97 (by decide)]) ?_
  refine e_putrF hx hb hts in_X11_init_X11 tyX11 tyX11_ok nmX11 hown K G 97 (by decide) ml_97 rfl 12 (by decide) rfl (hts (.fieldLink RX11 32 "StreetsStepOnModel" "wishStreet" "[I") (e_mem (n := 13) rfl)) rfl hin2 rfl 106 (tyX11_ok 12 (by decide)) rfl rfl dX11_init_65 (fun H locs G => ?_)
  have Z : eZ (e_ur σ21 97 12 106) 106 := Z.ur (by decide) (by decide)
  obtain ⟨σ24, eσ24⟩ : ∃ z : eS, z = e_ur σ21 97 12 106 := ⟨_, rfl⟩
  rw [← eσ24] at G Z
  have h := h σ24 eσ24
  refine lv_aload_n hx hb dX11_init_68 rfl (lv_at hl 0 rfl) ?_
  refine lv_bipush (v := (6 : Int32)) hx hb dX11_init_69 (by decide) ?_
  refine ec_newa (atype := .int) (ty := .int) hx hb (hts (.arrayClass .int) (e_mem (n := 4) rfl)) rfl K G Z ok_106 (kd := 0) ml_106 (by first | exact Or.inl ⟨rfl, rfl⟩ | exact Or.inr ⟨rfl, rfl⟩) rfl (fun _ _ => rfl) (by decide) rfl (by decide) (Nat.le_of_ble_eq_true rfl) (Nat.le_of_ble_eq_true rfl) dX11_init_71 (fun ρ25 H hg26 K G Z => ?_)
  rw [← hg26 97 (by decide)] at hl
  refine W.eq (g2 := F0 m 73 ls [.ref (ρ25 (106)), .ref (ρ25 (97))]) (by rw [hg26 97 (by decide)]) ?_
  refine e_putrF hx hb hts in_X11_init_X11 tyX11 tyX11_ok nmX11 hown K G 97 (by decide) ml_97 rfl 13 (by decide) rfl (hts (.fieldLink RX11 35 "StreetsStepOnModel" "wishNumber" "[I") (e_mem (n := 14) rfl)) rfl hin2 rfl 107 (tyX11_ok 13 (by decide)) rfl rfl dX11_init_73 (fun H locs G => ?_)
  have Z : eZ (e_ur σ24 97 13 107) 107 := Z.ur (by decide) (by decide)
  obtain ⟨σ27, eσ27⟩ : ∃ z : eS, z = e_ur σ24 97 13 107 := ⟨_, rfl⟩
  rw [← eσ27] at G Z
  have h := h σ27 eσ27
  refine lv_aload_n hx hb dX11_init_76 rfl (lv_at hl 0 rfl) ?_
  refine lv_bipush (v := (80 : Int32)) hx hb dX11_init_77 (by decide) ?_
  refine ec_newa (atype := .byte) (ty := .byte) hx hb (hts (.arrayClass .byte) (e_mem (n := 15) rfl)) rfl K G Z ok_107 (kd := 0) ml_107 (by first | exact Or.inl ⟨rfl, rfl⟩ | exact Or.inr ⟨rfl, rfl⟩) rfl (fun _ _ => rfl) (by decide) rfl (by decide) (Nat.le_of_ble_eq_true rfl) (Nat.le_of_ble_eq_true rfl) dX11_init_79 (fun ρ28 H hg29 K G Z => ?_)
  rw [← hg29 97 (by decide)] at hl
  refine W.eq (g2 := F0 m 81 ls [.ref (ρ28 (107)), .ref (ρ28 (97))]) (by rw [hg29 97 (by decide)]) ?_
  refine e_putrF hx hb hts in_X11_init_X11 tyX11 tyX11_ok nmX11 hown K G 97 (by decide) ml_97 rfl 14 (by decide) rfl (hts (.fieldLink RX11 38 "StreetsStepOnModel" "text" "[B") (e_mem (n := 16) rfl)) rfl hin2 rfl 108 (tyX11_ok 14 (by decide)) rfl rfl dX11_init_81 (fun H locs G => ?_)
  have Z : eZ (e_ur σ27 97 14 108) 108 := Z.ur (by decide) (by decide)
  obtain ⟨σ30, eσ30⟩ : ∃ z : eS, z = e_ur σ27 97 14 108 := ⟨_, rfl⟩
  rw [← eσ30] at G Z
  have h := h σ30 eσ30
  refine lv_aload_n hx hb dX11_init_84 rfl (lv_at hl 0 rfl) ?_
  refine lv_bipush (v := (16 : Int32)) hx hb dX11_init_85 (by decide) ?_
  refine ec_newa (atype := .long) (ty := .long) hx hb (hts (.arrayClass .long) (e_mem (n := 10) rfl)) rfl K G Z ok_108 (kd := 1) ml_108 (by first | exact Or.inl ⟨rfl, rfl⟩ | exact Or.inr ⟨rfl, rfl⟩) rfl (fun _ _ => rfl) (by decide) rfl (by decide) (Nat.le_of_ble_eq_true rfl) (Nat.le_of_ble_eq_true rfl) dX11_init_87 (fun ρ31 H hg32 K G Z => ?_)
  rw [← hg32 97 (by decide)] at hl
  refine W.eq (g2 := F0 m 89 ls [.ref (ρ31 (108)), .ref (ρ31 (97))]) (by rw [hg32 97 (by decide)]) ?_
  refine e_putrF hx hb hts in_X11_init_X11 tyX11 tyX11_ok nmX11 hown K G 97 (by decide) ml_97 rfl 16 (by decide) rfl (hts (.fieldLink RX11 42 "StreetsStepOnModel" "row" "[J") (e_mem (n := 17) rfl)) rfl hin2 rfl 109 (tyX11_ok 16 (by decide)) rfl rfl dX11_init_89 (fun H locs G => ?_)
  have Z : eZ (e_ur σ30 97 16 109) 109 := Z.ur (by decide) (by decide)
  obtain ⟨σ33, eσ33⟩ : ∃ z : eS, z = e_ur σ30 97 16 109 := ⟨_, rfl⟩
  rw [← eσ33] at G Z
  have h := h σ33 eσ33
  refine lv_aload_n hx hb dX11_init_92 rfl (lv_at hl 0 rfl) ?_
  refine lv_bipush (v := (100 : Int32)) hx hb dX11_init_93 (by decide) ?_
  refine ec_newa (atype := .int) (ty := .int) hx hb (hts (.arrayClass .int) (e_mem (n := 4) rfl)) rfl K G Z ok_109 (kd := 0) ml_109 (by first | exact Or.inl ⟨rfl, rfl⟩ | exact Or.inr ⟨rfl, rfl⟩) rfl (fun _ _ => rfl) (by decide) rfl (by decide) (Nat.le_of_ble_eq_true rfl) (Nat.le_of_ble_eq_true rfl) dX11_init_95 (fun ρ34 H hg35 K G Z => ?_)
  rw [← hg35 97 (by decide)] at hl
  refine W.eq (g2 := F0 m 97 ls [.ref (ρ34 (109)), .ref (ρ34 (97))]) (by rw [hg35 97 (by decide)]) ?_
  refine e_putrF hx hb hts in_X11_init_X11 tyX11 tyX11_ok nmX11 hown K G 97 (by decide) ml_97 rfl 24 (by decide) rfl (hts (.fieldLink RX11 45 "StreetsStepOnModel" "fars" "[I") (e_mem (n := 18) rfl)) rfl hin2 rfl 110 (tyX11_ok 24 (by decide)) rfl rfl dX11_init_97 (fun H locs G => ?_)
  have Z : eZ (e_ur σ33 97 24 110) 110 := Z.ur (by decide) (by decide)
  obtain ⟨σ36, eσ36⟩ : ∃ z : eS, z = e_ur σ33 97 24 110 := ⟨_, rfl⟩
  rw [← eσ36] at G Z
  have h := h σ36 eσ36
  refine lv_aload_n hx hb dX11_init_100 rfl (lv_at hl 0 rfl) ?_
  refine lv_sipush (v := (5052 : Int32)) hx hb dX11_init_101 (by decide) ?_
  refine ec_newa (atype := .int) (ty := .int) hx hb (hts (.arrayClass .int) (e_mem (n := 4) rfl)) rfl K G Z ok_110 (kd := 0) ml_110 (by first | exact Or.inl ⟨rfl, rfl⟩ | exact Or.inr ⟨rfl, rfl⟩) rfl (fun _ _ => rfl) (by decide) rfl (by decide) (Nat.le_of_ble_eq_true rfl) (Nat.le_of_ble_eq_true rfl) dX11_init_104 (fun ρ37 H hg38 K G Z => ?_)
  rw [← hg38 97 (by decide)] at hl
  refine W.eq (g2 := F0 m 106 ls [.ref (ρ37 (110)), .ref (ρ37 (97))]) (by rw [hg38 97 (by decide)]) ?_
  refine e_putrF hx hb hts in_X11_init_X11 tyX11 tyX11_ok nmX11 hown K G 97 (by decide) ml_97 rfl 25 (by decide) rfl (hts (.fieldLink RX11 48 "StreetsStepOnModel" "named" "[I") (e_mem (n := 19) rfl)) rfl hin2 rfl 111 (tyX11_ok 25 (by decide)) rfl rfl dX11_init_106 (fun H locs G => ?_)
  have Z : eZ (e_ur σ36 97 25 111) 111 := Z.ur (by decide) (by decide)
  obtain ⟨σ39, eσ39⟩ : ∃ z : eS, z = e_ur σ36 97 25 111 := ⟨_, rfl⟩
  rw [← eσ39] at G Z
  have h := h σ39 eσ39
  refine lv_aload_n hx hb dX11_init_109 rfl (lv_at hl 0 rfl) ?_
  refine lv_bipush (v := (12 : Int32)) hx hb dX11_init_110 (by decide) ?_
  refine ec_newa (atype := .int) (ty := .int) hx hb (hts (.arrayClass .int) (e_mem (n := 4) rfl)) rfl K G Z ok_111 (kd := 0) ml_111 (by first | exact Or.inl ⟨rfl, rfl⟩ | exact Or.inr ⟨rfl, rfl⟩) rfl (fun _ _ => rfl) (by decide) rfl (by decide) (Nat.le_of_ble_eq_true rfl) (Nat.le_of_ble_eq_true rfl) dX11_init_112 (fun ρ40 H hg41 K G Z => ?_)
  rw [← hg41 97 (by decide)] at hl
  refine W.eq (g2 := F0 m 114 ls [.ref (ρ40 (111)), .ref (ρ40 (97))]) (by rw [hg41 97 (by decide)]) ?_
  refine e_putrF hx hb hts in_X11_init_X11 tyX11 tyX11_ok nmX11 hown K G 97 (by decide) ml_97 rfl 27 (by decide) rfl (hts (.fieldLink RX11 51 "StreetsStepOnModel" "many" "[I") (e_mem (n := 20) rfl)) rfl hin2 rfl 112 (tyX11_ok 27 (by decide)) rfl rfl dX11_init_114 (fun H locs G => ?_)
  have Z : eZ (e_ur σ39 97 27 112) 112 := Z.ur (by decide) (by decide)
  obtain ⟨σ42, eσ42⟩ : ∃ z : eS, z = e_ur σ39 97 27 112 := ⟨_, rfl⟩
  rw [← eσ42] at G Z
  have h := h σ42 eσ42
  refine lv_aload_n hx hb dX11_init_117 rfl (lv_at hl 0 rfl) ?_
  refine lv_bipush (v := (12 : Int32)) hx hb dX11_init_118 (by decide) ?_
  refine ec_newa (atype := .int) (ty := .int) hx hb (hts (.arrayClass .int) (e_mem (n := 4) rfl)) rfl K G Z ok_112 (kd := 0) ml_112 (by first | exact Or.inl ⟨rfl, rfl⟩ | exact Or.inr ⟨rfl, rfl⟩) rfl (fun _ _ => rfl) (by decide) rfl (by decide) (Nat.le_of_ble_eq_true rfl) (Nat.le_of_ble_eq_true rfl) dX11_init_120 (fun ρ43 H hg44 K G Z => ?_)
  rw [← hg44 97 (by decide)] at hl
  refine W.eq (g2 := F0 m 122 ls [.ref (ρ43 (112)), .ref (ρ43 (97))]) (by rw [hg44 97 (by decide)]) ?_
  refine e_putrF hx hb hts in_X11_init_X11 tyX11 tyX11_ok nmX11 hown K G 97 (by decide) ml_97 rfl 31 (by decide) rfl (hts (.fieldLink RX11 54 "StreetsStepOnModel" "cycle" "[I") (e_mem (n := 21) rfl)) rfl hin2 rfl 113 (tyX11_ok 31 (by decide)) rfl rfl dX11_init_122 (fun H locs G => ?_)
  have Z : eZ (e_ur σ42 97 31 113) 113 := Z.ur (by decide) (by decide)
  obtain ⟨σ45, eσ45⟩ : ∃ z : eS, z = e_ur σ42 97 31 113 := ⟨_, rfl⟩
  rw [← eσ45] at G Z
  have h := h σ45 eσ45
  refine lv_aload_n hx hb dX11_init_125 rfl (lv_at hl 0 rfl) ?_
  refine lv_sipush (v := (4320 : Int32)) hx hb dX11_init_126 (by decide) ?_
  refine ec_newa (atype := .int) (ty := .int) hx hb (hts (.arrayClass .int) (e_mem (n := 4) rfl)) rfl K G Z ok_113 (kd := 0) ml_113 (by first | exact Or.inl ⟨rfl, rfl⟩ | exact Or.inr ⟨rfl, rfl⟩) rfl (fun _ _ => rfl) (by decide) rfl (by decide) (Nat.le_of_ble_eq_true rfl) (Nat.le_of_ble_eq_true rfl) dX11_init_129 (fun ρ46 H hg47 K G Z => ?_)
  rw [← hg47 97 (by decide)] at hl
  refine W.eq (g2 := F0 m 131 ls [.ref (ρ46 (113)), .ref (ρ46 (97))]) (by rw [hg47 97 (by decide)]) ?_
  refine e_putrF hx hb hts in_X11_init_X11 tyX11 tyX11_ok nmX11 hown K G 97 (by decide) ml_97 rfl 32 (by decide) rfl (hts (.fieldLink RX11 57 "StreetsStepOnModel" "ways" "[I") (e_mem (n := 22) rfl)) rfl hin2 rfl 114 (tyX11_ok 32 (by decide)) rfl rfl dX11_init_131 (fun H locs G => ?_)
  have Z : eZ (e_ur σ45 97 32 114) 114 := Z.ur (by decide) (by decide)
  obtain ⟨σ48, eσ48⟩ : ∃ z : eS, z = e_ur σ45 97 32 114 := ⟨_, rfl⟩
  rw [← eσ48] at G Z
  have h := h σ48 eσ48
  refine lv_aload_n hx hb dX11_init_134 rfl (lv_at hl 0 rfl) ?_
  refine lv_bipush (v := (6 : Int32)) hx hb dX11_init_135 (by decide) ?_
  refine ec_newa (atype := .int) (ty := .int) hx hb (hts (.arrayClass .int) (e_mem (n := 4) rfl)) rfl K G Z ok_114 (kd := 0) ml_114 (by first | exact Or.inl ⟨rfl, rfl⟩ | exact Or.inr ⟨rfl, rfl⟩) rfl (fun _ _ => rfl) (by decide) rfl (by decide) (Nat.le_of_ble_eq_true rfl) (Nat.le_of_ble_eq_true rfl) dX11_init_137 (fun ρ49 H hg50 K G Z => ?_)
  rw [← hg50 97 (by decide)] at hl
  refine W.eq (g2 := F0 m 139 ls [.ref (ρ49 (114)), .ref (ρ49 (97))]) (by rw [hg50 97 (by decide)]) ?_
  refine e_putrF hx hb hts in_X11_init_X11 tyX11 tyX11_ok nmX11 hown K G 97 (by decide) ml_97 rfl 34 (by decide) rfl (hts (.fieldLink RX11 60 "StreetsStepOnModel" "way" "[I") (e_mem (n := 23) rfl)) rfl hin2 rfl 115 (tyX11_ok 34 (by decide)) rfl rfl dX11_init_139 (fun H locs G => ?_)
  have Z : eZ (e_ur σ48 97 34 115) 115 := Z.ur (by decide) (by decide)
  obtain ⟨σ51, eσ51⟩ : ∃ z : eS, z = e_ur σ48 97 34 115 := ⟨_, rfl⟩
  rw [← eσ51] at G Z
  have h := h σ51 eσ51
  refine lv_aload_n hx hb dX11_init_142 rfl (lv_at hl 0 rfl) ?_
  refine lv_bipush (v := (12 : Int32)) hx hb dX11_init_143 (by decide) ?_
  refine ec_newa (atype := .int) (ty := .int) hx hb (hts (.arrayClass .int) (e_mem (n := 4) rfl)) rfl K G Z ok_115 (kd := 0) ml_115 (by first | exact Or.inl ⟨rfl, rfl⟩ | exact Or.inr ⟨rfl, rfl⟩) rfl (fun _ _ => rfl) (by decide) rfl (by decide) (Nat.le_of_ble_eq_true rfl) (Nat.le_of_ble_eq_true rfl) dX11_init_145 (fun ρ52 H hg53 K G Z => ?_)
  rw [← hg53 97 (by decide)] at hl
  refine W.eq (g2 := F0 m 147 ls [.ref (ρ52 (115)), .ref (ρ52 (97))]) (by rw [hg53 97 (by decide)]) ?_
  refine e_putrF hx hb hts in_X11_init_X11 tyX11 tyX11_ok nmX11 hown K G 97 (by decide) ml_97 rfl 35 (by decide) rfl (hts (.fieldLink RX11 63 "StreetsStepOnModel" "today0" "[I") (e_mem (n := 24) rfl)) rfl hin2 rfl 116 (tyX11_ok 35 (by decide)) rfl rfl dX11_init_147 (fun H locs G => ?_)
  have Z : eZ (e_ur σ51 97 35 116) 116 := Z.ur (by decide) (by decide)
  obtain ⟨σ54, eσ54⟩ : ∃ z : eS, z = e_ur σ51 97 35 116 := ⟨_, rfl⟩
  rw [← eσ54] at G Z
  have h := h σ54 eσ54
  refine lv_aload_n hx hb dX11_init_150 rfl (lv_at hl 0 rfl) ?_
  refine lv_bipush (v := (12 : Int32)) hx hb dX11_init_151 (by decide) ?_
  refine ec_newa (atype := .int) (ty := .int) hx hb (hts (.arrayClass .int) (e_mem (n := 4) rfl)) rfl K G Z ok_116 (kd := 0) ml_116 (by first | exact Or.inl ⟨rfl, rfl⟩ | exact Or.inr ⟨rfl, rfl⟩) rfl (fun _ _ => rfl) (by decide) rfl (by decide) (Nat.le_of_ble_eq_true rfl) (Nat.le_of_ble_eq_true rfl) dX11_init_153 (fun ρ55 H hg56 K G Z => ?_)
  rw [← hg56 97 (by decide)] at hl
  refine W.eq (g2 := F0 m 155 ls [.ref (ρ55 (116)), .ref (ρ55 (97))]) (by rw [hg56 97 (by decide)]) ?_
  refine e_putrF hx hb hts in_X11_init_X11 tyX11 tyX11_ok nmX11 hown K G 97 (by decide) ml_97 rfl 36 (by decide) rfl (hts (.fieldLink RX11 66 "StreetsStepOnModel" "asked" "[I") (e_mem (n := 25) rfl)) rfl hin2 rfl 117 (tyX11_ok 36 (by decide)) rfl rfl dX11_init_155 (fun H locs G => ?_)
  have Z : eZ (e_ur σ54 97 36 117) 117 := Z.ur (by decide) (by decide)
  obtain ⟨σ57, eσ57⟩ : ∃ z : eS, z = e_ur σ54 97 36 117 := ⟨_, rfl⟩
  rw [← eσ57] at G Z
  have h := h σ57 eσ57
  refine lv_aload_n hx hb dX11_init_158 rfl (lv_at hl 0 rfl) ?_
  refine lv_bipush (v := (12 : Int32)) hx hb dX11_init_159 (by decide) ?_
  refine ec_newa (atype := .int) (ty := .int) hx hb (hts (.arrayClass .int) (e_mem (n := 4) rfl)) rfl K G Z ok_117 (kd := 0) ml_117 (by first | exact Or.inl ⟨rfl, rfl⟩ | exact Or.inr ⟨rfl, rfl⟩) rfl (fun _ _ => rfl) (by decide) rfl (by decide) (Nat.le_of_ble_eq_true rfl) (Nat.le_of_ble_eq_true rfl) dX11_init_161 (fun ρ58 H hg59 K G Z => ?_)
  rw [← hg59 97 (by decide)] at hl
  refine W.eq (g2 := F0 m 163 ls [.ref (ρ58 (117)), .ref (ρ58 (97))]) (by rw [hg59 97 (by decide)]) ?_
  refine e_putrF hx hb hts in_X11_init_X11 tyX11 tyX11_ok nmX11 hown K G 97 (by decide) ml_97 rfl 38 (by decide) rfl (hts (.fieldLink RX11 69 "StreetsStepOnModel" "order" "[I") (e_mem (n := 26) rfl)) rfl hin2 rfl 118 (tyX11_ok 38 (by decide)) rfl rfl dX11_init_163 (fun H locs G => ?_)
  have Z : eZ (e_ur σ57 97 38 118) 118 := Z.ur (by decide) (by decide)
  obtain ⟨σ60, eσ60⟩ : ∃ z : eS, z = e_ur σ57 97 38 118 := ⟨_, rfl⟩
  rw [← eσ60] at G Z
  have h := h σ60 eσ60
  refine lv_aload_n hx hb dX11_init_166 rfl (lv_at hl 0 rfl) ?_
  refine lv_bipush (v := (12 : Int32)) hx hb dX11_init_167 (by decide) ?_
  refine ec_newa (atype := .int) (ty := .int) hx hb (hts (.arrayClass .int) (e_mem (n := 4) rfl)) rfl K G Z ok_118 (kd := 0) ml_118 (by first | exact Or.inl ⟨rfl, rfl⟩ | exact Or.inr ⟨rfl, rfl⟩) rfl (fun _ _ => rfl) (by decide) rfl (by decide) (Nat.le_of_ble_eq_true rfl) (Nat.le_of_ble_eq_true rfl) dX11_init_169 (fun ρ61 H hg62 K G Z => ?_)
  rw [← hg62 97 (by decide)] at hl
  refine W.eq (g2 := F0 m 171 ls [.ref (ρ61 (118)), .ref (ρ61 (97))]) (by rw [hg62 97 (by decide)]) ?_
  refine e_putrF hx hb hts in_X11_init_X11 tyX11 tyX11_ok nmX11 hown K G 97 (by decide) ml_97 rfl 39 (by decide) rfl (hts (.fieldLink RX11 72 "StreetsStepOnModel" "bestOrder" "[I") (e_mem (n := 27) rfl)) rfl hin2 rfl 119 (tyX11_ok 39 (by decide)) rfl rfl dX11_init_171 (fun H locs G => ?_)
  have Z : eZ (e_ur σ60 97 39 119) 119 := Z.ur (by decide) (by decide)
  obtain ⟨σ63, eσ63⟩ : ∃ z : eS, z = e_ur σ60 97 39 119 := ⟨_, rfl⟩
  rw [← eσ63] at G Z
  have h := h σ63 eσ63
  refine lv_aload_n hx hb dX11_init_174 rfl (lv_at hl 0 rfl) ?_
  refine lv_bipush (v := (40 : Int32)) hx hb dX11_init_175 (by decide) ?_
  refine ec_newa (atype := .byte) (ty := .byte) hx hb (hts (.arrayClass .byte) (e_mem (n := 15) rfl)) rfl K G Z ok_119 (kd := 0) ml_119 (by first | exact Or.inl ⟨rfl, rfl⟩ | exact Or.inr ⟨rfl, rfl⟩) rfl (fun _ _ => rfl) (by decide) rfl (by decide) (Nat.le_of_ble_eq_true rfl) (Nat.le_of_ble_eq_true rfl) dX11_init_177 (fun ρ64 H hg65 K G Z => ?_)
  rw [← hg65 97 (by decide)] at hl
  refine W.eq (g2 := F0 m 179 ls [.ref (ρ64 (119)), .ref (ρ64 (97))]) (by rw [hg65 97 (by decide)]) ?_
  refine e_putrF hx hb hts in_X11_init_X11 tyX11 tyX11_ok nmX11 hown K G 97 (by decide) ml_97 rfl 42 (by decide) rfl (hts (.fieldLink RX11 75 "StreetsStepOnModel" "rule" "[B") (e_mem (n := 28) rfl)) rfl hin2 rfl 120 (tyX11_ok 42 (by decide)) rfl rfl dX11_init_179 (fun H locs G => ?_)
  have Z : eZ (e_ur σ63 97 42 120) 120 := Z.ur (by decide) (by decide)
  obtain ⟨σ66, eσ66⟩ : ∃ z : eS, z = e_ur σ63 97 42 120 := ⟨_, rfl⟩
  rw [← eσ66] at G Z
  have h := h σ66 eσ66
  refine lv_aload_n hx hb dX11_init_182 rfl (lv_at hl 0 rfl) ?_
  refine lv_iconst (v := (-1 : Int32)) hx hb dX11_init_183 (by decide) ?_
  refine e_puti hx hb hts in_X11_init_X11 tyX11 tyX11_ok nmX11 hown K G 97 (by decide) ml_97 rfl 44 (by decide) rfl (hts (.fieldLink RX11 78 "StreetsStepOnModel" "ruleLetter" "I") (e_mem (n := 29) rfl)) rfl (tyX11_ok 44 (by decide)) rfl rfl dX11_init_184 (fun H locs G => ?_)
  have Z : eZ (e_ui σ66 97 44 (-1 : Int32)) 120 := Z.ui (by decide)
  obtain ⟨σ67, eσ67⟩ : ∃ z : eS, z = e_ui σ66 97 44 (-1 : Int32) := ⟨_, rfl⟩
  rw [← eσ67] at G Z
  have h := h σ67 eσ67
  refine lv_aload_n hx hb dX11_init_187 rfl (lv_at hl 0 rfl) ?_
  refine lv_sipush (v := (720 : Int32)) hx hb dX11_init_188 (by decide) ?_
  refine ec_newa (atype := .int) (ty := .int) hx hb (hts (.arrayClass .int) (e_mem (n := 4) rfl)) rfl K G Z ok_120 (kd := 0) ml_120 (by first | exact Or.inl ⟨rfl, rfl⟩ | exact Or.inr ⟨rfl, rfl⟩) rfl (fun _ _ => rfl) (by decide) rfl (by decide) (Nat.le_of_ble_eq_true rfl) (Nat.le_of_ble_eq_true rfl) dX11_init_191 (fun ρ68 H hg69 K G Z => ?_)
  rw [← hg69 97 (by decide)] at hl
  refine W.eq (g2 := F0 m 193 ls [.ref (ρ68 (120)), .ref (ρ68 (97))]) (by rw [hg69 97 (by decide)]) ?_
  refine e_putrF hx hb hts in_X11_init_X11 tyX11 tyX11_ok nmX11 hown K G 97 (by decide) ml_97 rfl 48 (by decide) rfl (hts (.fieldLink RX11 82 "StreetsStepOnModel" "keeps" "[I") (e_mem (n := 30) rfl)) rfl hin2 rfl 121 (tyX11_ok 48 (by decide)) rfl rfl dX11_init_193 (fun H locs G => ?_)
  have Z : eZ (e_ur σ67 97 48 121) 121 := Z.ur (by decide) (by decide)
  obtain ⟨σ70, eσ70⟩ : ∃ z : eS, z = e_ur σ67 97 48 121 := ⟨_, rfl⟩
  rw [← eσ70] at G Z
  have h := h σ70 eσ70
  refine lv_aload_n hx hb dX11_init_196 rfl (lv_at hl 0 rfl) ?_
  refine lv_sipush (v := (220 : Int32)) hx hb dX11_init_197 (by decide) ?_
  refine ec_newa (atype := .int) (ty := .int) hx hb (hts (.arrayClass .int) (e_mem (n := 4) rfl)) rfl K G Z ok_121 (kd := 0) ml_121 (by first | exact Or.inl ⟨rfl, rfl⟩ | exact Or.inr ⟨rfl, rfl⟩) rfl (fun _ _ => rfl) (by decide) rfl (by decide) (Nat.le_of_ble_eq_true rfl) (Nat.le_of_ble_eq_true rfl) dX11_init_200 (fun ρ71 H hg72 K G Z => ?_)
  rw [← hg72 97 (by decide)] at hl
  refine W.eq (g2 := F0 m 202 ls [.ref (ρ71 (121)), .ref (ρ71 (97))]) (by rw [hg72 97 (by decide)]) ?_
  refine e_putrF hx hb hts in_X11_init_X11 tyX11 tyX11_ok nmX11 hown K G 97 (by decide) ml_97 rfl 51 (by decide) rfl (hts (.fieldLink RX11 85 "StreetsStepOnModel" "put" "[I") (e_mem (n := 31) rfl)) rfl hin2 rfl 122 (tyX11_ok 51 (by decide)) rfl rfl dX11_init_202 (fun H locs G => ?_)
  have Z : eZ (e_ur σ70 97 51 122) 122 := Z.ur (by decide) (by decide)
  obtain ⟨σ73, eσ73⟩ : ∃ z : eS, z = e_ur σ70 97 51 122 := ⟨_, rfl⟩
  rw [← eσ73] at G Z
  have h := h σ73 eσ73
  refine lv_aload_n hx hb dX11_init_205 rfl (lv_at hl 0 rfl) ?_
  refine lv_bipush (v := (26 : Int32)) hx hb dX11_init_206 (by decide) ?_
  refine ec_newa (atype := .long) (ty := .long) hx hb (hts (.arrayClass .long) (e_mem (n := 10) rfl)) rfl K G Z ok_122 (kd := 1) ml_122 (by first | exact Or.inl ⟨rfl, rfl⟩ | exact Or.inr ⟨rfl, rfl⟩) rfl (fun _ _ => rfl) (by decide) rfl (by decide) (Nat.le_of_ble_eq_true rfl) (Nat.le_of_ble_eq_true rfl) dX11_init_208 (fun ρ74 H hg75 K G Z => ?_)
  rw [← hg75 97 (by decide)] at hl
  refine W.eq (g2 := F0 m 210 ls [.ref (ρ74 (122)), .ref (ρ74 (97))]) (by rw [hg75 97 (by decide)]) ?_
  refine e_putrF hx hb hts in_X11_init_X11 tyX11 tyX11_ok nmX11 hown K G 97 (by decide) ml_97 rfl 52 (by decide) rfl (hts (.fieldLink RX11 88 "StreetsStepOnModel" "putDays" "[J") (e_mem (n := 32) rfl)) rfl hin2 rfl 123 (tyX11_ok 52 (by decide)) rfl rfl dX11_init_210 (fun H locs G => ?_)
  have Z : eZ (e_ur σ73 97 52 123) 123 := Z.ur (by decide) (by decide)
  obtain ⟨σ76, eσ76⟩ : ∃ z : eS, z = e_ur σ73 97 52 123 := ⟨_, rfl⟩
  rw [← eσ76] at G Z
  have h := h σ76 eσ76
  refine lv_aload_n hx hb dX11_init_213 rfl (lv_at hl 0 rfl) ?_
  refine lv_iconst (v := (2 : Int32)) hx hb dX11_init_214 (by decide) ?_
  refine ec_newa (atype := .boolean) (ty := .boolean) hx hb (hts (.arrayClass .boolean) (e_mem (n := 33) rfl)) rfl K G Z ok_123 (kd := 0) ml_123 (by first | exact Or.inl ⟨rfl, rfl⟩ | exact Or.inr ⟨rfl, rfl⟩) rfl (fun _ _ => rfl) (by decide) rfl (by decide) (Nat.le_of_ble_eq_true rfl) (Nat.le_of_ble_eq_true rfl) dX11_init_215 (fun ρ77 H hg78 K G Z => ?_)
  rw [← hg78 97 (by decide)] at hl
  refine W.eq (g2 := F0 m 217 ls [.ref (ρ77 (123)), .ref (ρ77 (97))]) (by rw [hg78 97 (by decide)]) ?_
  refine e_putrF hx hb hts in_X11_init_X11 tyX11 tyX11_ok nmX11 hown K G 97 (by decide) ml_97 rfl 53 (by decide) rfl (hts (.fieldLink RX11 91 "StreetsStepOnModel" "isPut" "[Z") (e_mem (n := 34) rfl)) rfl hin2 rfl 124 (tyX11_ok 53 (by decide)) rfl rfl dX11_init_217 (fun H locs G => ?_)
  have Z : eZ (e_ur σ76 97 53 124) 124 := Z.ur (by decide) (by decide)
  obtain ⟨σ79, eσ79⟩ : ∃ z : eS, z = e_ur σ76 97 53 124 := ⟨_, rfl⟩
  rw [← eσ79] at G Z
  have h := h σ79 eσ79
  refine lv_aload_n hx hb dX11_init_220 rfl (lv_at hl 0 rfl) ?_
  refine lv_iconst (v := (2 : Int32)) hx hb dX11_init_221 (by decide) ?_
  refine ec_newa (atype := .int) (ty := .int) hx hb (hts (.arrayClass .int) (e_mem (n := 4) rfl)) rfl K G Z ok_124 (kd := 0) ml_124 (by first | exact Or.inl ⟨rfl, rfl⟩ | exact Or.inr ⟨rfl, rfl⟩) rfl (fun _ _ => rfl) (by decide) rfl (by decide) (Nat.le_of_ble_eq_true rfl) (Nat.le_of_ble_eq_true rfl) dX11_init_222 (fun ρ80 H hg81 K G Z => ?_)
  rw [← hg81 97 (by decide)] at hl
  refine W.eq (g2 := F0 m 224 ls [.ref (ρ80 (124)), .ref (ρ80 (97))]) (by rw [hg81 97 (by decide)]) ?_
  refine e_putrF hx hb hts in_X11_init_X11 tyX11 tyX11_ok nmX11 hown K G 97 (by decide) ml_97 rfl 54 (by decide) rfl (hts (.fieldLink RX11 95 "StreetsStepOnModel" "putTold" "[I") (e_mem (n := 35) rfl)) rfl hin2 rfl 125 (tyX11_ok 54 (by decide)) rfl rfl dX11_init_224 (fun H locs G => ?_)
  have Z : eZ (e_ur σ79 97 54 125) 125 := Z.ur (by decide) (by decide)
  obtain ⟨σ82, eσ82⟩ : ∃ z : eS, z = e_ur σ79 97 54 125 := ⟨_, rfl⟩
  rw [← eσ82] at G Z
  have h := h σ82 eσ82
  refine lv_iconst (v := (0 : Int32)) hx hb dX11_init_227 (by decide) ?_
  refine lv_istore_n (lv' := [(1, .int ((0 : Int32))), (0, .ref (ρ80 (97)))]) hx hb dX11_init_228 rfl hl (by decide) rfl (fun ls hl => ?_)
  obtain ⟨n, h⟩ := h
  exact l_X11_init_229 C K (fun k hk => by rw [hg81 k (Nat.lt_of_lt_of_le hk (by decide))]; rw [hg78 k (Nat.lt_of_lt_of_le hk (by decide))]; rw [hg75 k (Nat.lt_of_lt_of_le hk (by decide))]; rw [hg72 k (Nat.lt_of_lt_of_le hk (by decide))]; rw [hg69 k (Nat.lt_of_lt_of_le hk (by decide))]; rw [hg65 k (Nat.lt_of_lt_of_le hk (by decide))]; rw [hg62 k (Nat.lt_of_lt_of_le hk (by decide))]; rw [hg59 k (Nat.lt_of_lt_of_le hk (by decide))]; rw [hg56 k (Nat.lt_of_lt_of_le hk (by decide))]; rw [hg53 k (Nat.lt_of_lt_of_le hk (by decide))]; rw [hg50 k (Nat.lt_of_lt_of_le hk (by decide))]; rw [hg47 k (Nat.lt_of_lt_of_le hk (by decide))]; rw [hg44 k (Nat.lt_of_lt_of_le hk (by decide))]; rw [hg41 k (Nat.lt_of_lt_of_le hk (by decide))]; rw [hg38 k (Nat.lt_of_lt_of_le hk (by decide))]; rw [hg35 k (Nat.lt_of_lt_of_le hk (by decide))]; rw [hg32 k (Nat.lt_of_lt_of_le hk (by decide))]; rw [hg29 k (Nat.lt_of_lt_of_le hk (by decide))]; rw [hg26 k (Nat.lt_of_lt_of_le hk (by decide))]; rw [hg23 k (Nat.lt_of_lt_of_le hk (by decide))]; rw [hg20 k (Nat.lt_of_lt_of_le hk (by decide))]; rw [hg17 k (Nat.lt_of_lt_of_le hk (by decide))]; rw [hg14 k (Nat.lt_of_lt_of_le hk (by decide))]; rw [hg11 k (Nat.lt_of_lt_of_le hk (by decide))]; rw [hg8 k (Nat.lt_of_lt_of_le hk (by decide))]; rw [hg5 k (Nat.lt_of_lt_of_le hk (by decide))]; rw [hg2 k (Nat.lt_of_lt_of_le hk (by decide))]) n σ82 (0 : Int32) _ _ _ h G Z (lv_sub hl [1, 0] rfl)
