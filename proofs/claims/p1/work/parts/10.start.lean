theorem nw_in : ∀ q ∈ gNw, Cond.fieldLinkNest q.1 q.2.1 q.2.2.1 q.2.2.2.1 q.2.2.2.2.1 q.2.2.2.2.2 ∈ lw_tbl := (List.forall_mem_cons.mpr ⟨tw_1198, (List.forall_mem_cons.mpr ⟨tw_1199, (List.forall_mem_cons.mpr ⟨tw_1200, (List.forall_mem_cons.mpr ⟨tw_1201, (List.forall_mem_cons.mpr ⟨tw_1202, (List.forall_mem_cons.mpr ⟨tw_1203, (List.forall_mem_cons.mpr ⟨tw_1204, (List.forall_mem_cons.mpr ⟨tw_1205, (List.forall_mem_cons.mpr ⟨tw_1206, (List.forall_mem_cons.mpr ⟨tw_1207, (List.forall_mem_cons.mpr ⟨tw_1208, (List.forall_mem_cons.mpr ⟨tw_1209, (List.forall_mem_cons.mpr ⟨tw_1210, (List.forall_mem_cons.mpr ⟨tw_1211, (List.forall_mem_cons.mpr ⟨tw_1212, (List.forall_mem_cons.mpr ⟨tw_1213, (List.forall_mem_cons.mpr ⟨tw_1214, (List.forall_mem_cons.mpr ⟨tw_1215, (List.forall_mem_cons.mpr ⟨tw_1216, (List.forall_mem_cons.mpr ⟨tw_1217, (List.forall_mem_cons.mpr ⟨tw_1218, (List.forall_mem_cons.mpr ⟨tw_1219, (List.forall_mem_cons.mpr ⟨tw_1220, (List.forall_mem_cons.mpr ⟨tw_1221, (List.forall_mem_cons.mpr ⟨tw_1222, (List.forall_mem_cons.mpr ⟨tw_1223, (List.forall_mem_cons.mpr ⟨tw_1224, (List.forall_mem_cons.mpr ⟨tw_1225, (List.forall_mem_cons.mpr ⟨tw_1226, (List.forall_mem_cons.mpr ⟨tw_1227, (List.forall_mem_cons.mpr ⟨tw_1228, (List.forall_mem_cons.mpr ⟨tw_1229, (List.forall_mem_cons.mpr ⟨tw_1230, (List.forall_mem_cons.mpr ⟨tw_1231, (List.forall_mem_cons.mpr ⟨tw_1232, (List.forall_mem_cons.mpr ⟨tw_1233, (List.forall_mem_cons.mpr ⟨tw_1234, (List.forall_mem_cons.mpr ⟨tw_1235, (fun _ h => absurd h List.not_mem_nil)⟩)⟩)⟩)⟩)⟩)⟩)⟩)⟩)⟩)⟩)⟩)⟩)⟩)⟩)⟩)⟩)⟩)⟩)⟩)⟩)⟩)⟩)⟩)⟩)⟩)⟩)⟩)⟩)⟩)⟩)⟩)⟩)⟩)⟩)⟩)⟩)⟩)⟩)
theorem mw_in : ∀ q ∈ gMw, Cond.methodLinkNest q.1 q.2.1 q.2.2.1 q.2.2.2 ∈ lw_tbl := (List.forall_mem_cons.mpr ⟨tw_1236, (List.forall_mem_cons.mpr ⟨tw_1237, (List.forall_mem_cons.mpr ⟨tw_1238, (List.forall_mem_cons.mpr ⟨tw_1239, (List.forall_mem_cons.mpr ⟨tw_1240, (List.forall_mem_cons.mpr ⟨tw_1241, (List.forall_mem_cons.mpr ⟨tw_1242, (List.forall_mem_cons.mpr ⟨tw_1243, (List.forall_mem_cons.mpr ⟨tw_1244, (fun _ h => absurd h List.not_mem_nil)⟩)⟩)⟩)⟩)⟩)⟩)⟩)⟩)⟩)
set_option maxRecDepth 100000 in
theorem law_D {args : Array Value} {s : State} (hts : ∀ w ∈ lw_tbl, w.before args s = true) : ∃ D : va_G, ∀ (k : Nat) (q : vw_C), vwCl[k]? = some q → u_Kn s q.1 q.2.1 q.2.2 (D.1 k) (D.2 k) := by
  obtain ⟨c0, i0, h0⟩ := u_known (C := RX0) (T := TX0) (N := 4) (n := 4) hts pw_wsX00 (hts _ tw_1130)
  obtain ⟨c1, i1, h1⟩ := u_known (C := RX1) (T := TX1) (N := 9) (n := 9) hts pw_wsX10 (hts _ tw_1126)
  obtain ⟨c2, i2, h2⟩ := u_known (C := RX2) (T := TX2) (N := 8) (n := 8) hts pw_wsX20 (hts _ tw_1136)
  obtain ⟨c3, i3, h3⟩ := u_known (C := RX3) (T := TX3) (N := 5) (n := 5) hts pw_wsX30 (hts _ tw_1138)
  obtain ⟨c4, i4, h4⟩ := u_known (C := RX4) (T := TX4) (N := 3) (n := 3) hts pw_wsX40 (hts _ tw_1128)
  obtain ⟨c5, i5, h5⟩ := u_known (C := RX5) (T := TX5) (N := 2) (n := 2) hts pw_wsX50 (hts _ tw_1124)
  obtain ⟨c6, i6, h6⟩ := u_known (C := RX6) (T := TX6) (N := 7) (n := 7) hts pw_wsX60 (hts _ tw_1134)
  obtain ⟨c7, i7, h7⟩ := u_known (C := RX7) (T := TX7) (N := 2) (n := 2) hts pw_wsX70 (hts _ tw_1122)
  obtain ⟨c8, i8, h8⟩ := u_known (C := RX8) (T := TX8) (N := 7) (n := 7) hts pw_wsX80 (hts _ tw_1140)
  obtain ⟨c9, i9, h9⟩ := u_known (C := RX9) (T := TX9) (N := 3) (n := 3) hts pw_wsX90 (hts _ tw_1132)
  obtain ⟨c10, i10, h10⟩ := u_known (C := RX10) (T := TX10) (N := 13) (n := 13) hts pw_wsX100 (hts _ tw_1185)
  obtain ⟨c11, i11, h11⟩ := u_known (C := RX11) (T := TX11) (N := 55) (n := 55) hts pw_wsX110 (hts _ tw_1186)
  refine ⟨(fun k => [c0, c1, c2, c3, c4, c5, c6, c7, c8, c9, c10, c11].getD k c0, fun k => [i0, i1, i2, i3, i4, i5, i6, i7, i8, i9, i10, i11].getD k i0), ?_⟩
  intro k q hq
  match k, hq with
  | 0, hq => cases hq; exact h0
  | 1, hq => cases hq; exact h1
  | 2, hq => cases hq; exact h2
  | 3, hq => cases hq; exact h3
  | 4, hq => cases hq; exact h4
  | 5, hq => cases hq; exact h5
  | 6, hq => cases hq; exact h6
  | 7, hq => cases hq; exact h7
  | 8, hq => cases hq; exact h8
  | 9, hq => cases hq; exact h9
  | 10, hq => cases hq; exact h10
  | 11, hq => cases hq; exact h11
  | k + 12, hq => simp [vwCl] at hq
theorem law_ac {args : Array Value} {s : State} {ty : FieldType} (h : (Cond.arrayClass ty).before args s = true) : ∃ c : ClassId, ArrOfT s c ty ∧ s.vm.findClass ("[" ++ ty.toString) = some c := by
  obtain ⟨c, k, comp, h1, h2, h3⟩ := Cond.arrayClass_spec h
  exact ⟨c, fun n z => ⟨fun k h => (by cases h), k, h2, comp, h3⟩, h1⟩
theorem law_aa {args : Array Value} {s : State} {ty : FieldType} (h : (Cond.arrayOver (.array ty)).before args s = true) : ∃ c : ClassId, ArrOfT s c (.array ty) ∧ s.vm.findClass ("[" ++ (FieldType.array ty).toString) = some c := by
  obtain ⟨comp, c, k, h1, h2, h3, h4, h5⟩ := Jvm.Stand.arrayOver_specB h
  exact ⟨c, fun n z => ⟨fun k h => (by cases h), k, h3, comp, h4⟩, h5⟩
theorem law_ao {args : Array Value} {s : State} {C : String} (h : (Cond.arrayOver (.object C)).before args s = true) : ∃ c : ClassId, ArrOfT s c (.object C) ∧ va_RA s c (.object C) := by
  obtain ⟨comp, c, k, h1, h2, h3, h4, h5⟩ := Cond.arrayOver_spec h
  exact ⟨c, fun n z => ⟨fun k h => (by cases h), k, h3, comp, h4⟩, k, comp, h3, h4, h1, h5⟩
theorem law_K {args : Array Value} {s : State} (hts : ∀ w ∈ lw_tbl, w.before args s = true) : ∃ (D : va_G) (κ : Nat → ClassId), va_K D vwCl (gT κ) s := by
  obtain ⟨D, hD⟩ := law_D hts
  obtain ⟨k0, a0, b0⟩ := law_ac (hts _ tw_1141)
  obtain ⟨k1, a1, b1⟩ := law_ac (hts _ tw_1149)
  obtain ⟨k2, a2, b2⟩ := law_ac (hts _ tw_1145)
  obtain ⟨k3, a3, b3⟩ := law_ac (hts _ tw_1181)
  obtain ⟨k4, a4, b4⟩ := law_ac (hts _ tw_1182)
  obtain ⟨k5, a5, b5⟩ := law_aa (hts _ tw_1191)
  obtain ⟨k6, a6, b6⟩ := law_aa (hts _ tw_1192)
  obtain ⟨k7, a7, b7⟩ := law_ao (hts _ tw_1193)
  refine ⟨D, fun a => [k0, k1, k2, k3, k4, k5, k6, k7].getD a k0, hD, ?_⟩
  intro k q hq
  match k, hq with
  | 0, hq => cases hq; exact ⟨a0, b0⟩
  | 1, hq => cases hq; exact ⟨a1, b1⟩
  | 2, hq => cases hq; exact ⟨a2, b2⟩
  | 3, hq => cases hq; exact ⟨a3, b3⟩
  | 4, hq => cases hq; exact ⟨a4, b4⟩
  | 5, hq => cases hq; exact ⟨a5, b5⟩
  | 6, hq => cases hq; exact ⟨a6, b6⟩
  | 7, hq => cases hq; exact ⟨a7, b7⟩
  | k + 8, hq => simp [gT] at hq
theorem cv_rest : ∀ k, k < 126 → ([0, 1, 3, 5, 17, 18, 32, 36, 41, 47, 55, 73, 85, 97] : List Nat).contains k = false → mL k = gL k := by decide +kernel
def cF_0 (σ : eS) : Prop := σ.2.2 0 0 = 2 ∧ σ.2.2 0 1 = 4 ∧ σ.2.2 0 2 = 6 ∧ σ.2.2 0 3 = 18 ∧ σ.2.2 0 4 = 19 ∧ σ.2.2 0 5 = 33 ∧ σ.2.2 0 6 = 36 ∧ σ.2.2 0 7 = 37 ∧ σ.2.2 0 8 = 42 ∧ σ.2.2 0 9 = 48 ∧ σ.2.2 0 10 = 56 ∧ σ.2.2 0 11 = 72 ∧ σ.2.2 0 12 = 73
theorem cv_0 {ρ : Nat → Nat} {κ : Nat → ClassId} {σ : eS} (h : cF_0 σ) : e_cell ρ κ σ 0 (mL 0) = e_cell ρ κ σ 0 (gL 0) := by
  obtain ⟨h0, h1, h2, h3, h4, h5, h6, h7, h8, h9, h10, h11, h12⟩ := h
  show (Sum.inr (10, [e_mv ρ (σ.2.2 0 0), e_mv ρ (σ.2.2 0 1), e_mv ρ (σ.2.2 0 2), e_mv ρ (σ.2.2 0 3), e_mv ρ (σ.2.2 0 4), e_mv ρ (σ.2.2 0 5), e_mv ρ (σ.2.2 0 6), e_mv ρ (σ.2.2 0 7), e_mv ρ (σ.2.2 0 8), e_mv ρ (σ.2.2 0 9), e_mv ρ (σ.2.2 0 10), e_mv ρ (σ.2.2 0 11), e_mv ρ (σ.2.2 0 12)]) : va_E) = _
  rw [show σ.2.2 0 0 = 2 from h0, show σ.2.2 0 1 = 4 from h1, show σ.2.2 0 2 = 6 from h2, show σ.2.2 0 3 = 18 from h3, show σ.2.2 0 4 = 19 from h4, show σ.2.2 0 5 = 33 from h5, show σ.2.2 0 6 = 36 from h6, show σ.2.2 0 7 = 37 from h7, show σ.2.2 0 8 = 42 from h8, show σ.2.2 0 9 = 48 from h9, show σ.2.2 0 10 = 56 from h10, show σ.2.2 0 11 = 72 from h11, show σ.2.2 0 12 = 73 from h12]
  rfl
def cF_1 (σ : eS) : Prop := σ.2.2 1 0 = 3
theorem cv_1 {ρ : Nat → Nat} {κ : Nat → ClassId} {σ : eS} (h : cF_1 σ) : e_cell ρ κ σ 1 (mL 1) = e_cell ρ κ σ 1 (gL 1) := by
  have h0 := h
  show (Sum.inr (7, [e_mv ρ (σ.2.2 1 0), .int (σ.1 1 1)]) : va_E) = _
  rw [show σ.2.2 1 0 = 3 from h0]
  rfl
def cF_3 (σ : eS) : Prop := σ.2.2 3 0 = 5
theorem cv_3 {ρ : Nat → Nat} {κ : Nat → ClassId} {σ : eS} (h : cF_3 σ) : e_cell ρ κ σ 3 (mL 3) = e_cell ρ κ σ 3 (gL 3) := by
  have h0 := h
  show (Sum.inr (5, [e_mv ρ (σ.2.2 3 0), .int (σ.1 3 1)]) : va_E) = _
  rw [show σ.2.2 3 0 = 5 from h0]
  rfl
def cF_5 (σ : eS) : Prop := σ.2.2 5 0 = 7 ∧ σ.2.2 5 1 = 15 ∧ σ.2.2 5 2 = 16 ∧ σ.2.2 5 3 = 17
theorem cv_5 {ρ : Nat → Nat} {κ : Nat → ClassId} {σ : eS} (h : cF_5 σ) : e_cell ρ κ σ 5 (mL 5) = e_cell ρ κ σ 5 (gL 5) := by
  obtain ⟨h0, h1, h2, h3⟩ := h
  show (Sum.inr (1, [e_mv ρ (σ.2.2 5 0), e_mv ρ (σ.2.2 5 1), e_mv ρ (σ.2.2 5 2), e_mv ρ (σ.2.2 5 3), .int (σ.1 5 4), .int (σ.1 5 5), .int (σ.1 5 6), .long (σ.2.1 5 7), .int (σ.1 5 8)]) : va_E) = _
  rw [show σ.2.2 5 0 = 7 from h0, show σ.2.2 5 1 = 15 from h1, show σ.2.2 5 2 = 16 from h2, show σ.2.2 5 3 = 17 from h3]
  rfl
def cF_17 (σ : eS) : Prop := ∀ i, σ.2.2 17 i = [74, 86].getD i 0
theorem cv_17 {ρ : Nat → Nat} {κ : Nat → ClassId} {σ : eS} (h : cF_17 σ) : e_cell ρ κ σ 17 (mL 17) = e_cell ρ κ σ 17 (gL 17) := by
  have e1 : (fun i => e_mo ρ (σ.2.2 17 i)) = (fun i : Nat => (([73, 85] : List Nat)[i]?).map ρ) := by
    funext i
    rw [h i]
    match i with
    | 0 => rfl
    | 1 => rfl
    | i + 2 => rfl
  show (Sum.inl (κ 7, 2, .inr (.inr (.inr (.inr (fun i => e_mo ρ (σ.2.2 17 i)))))) : va_E) = (Sum.inl (κ 7, 2, .inr (.inr (.inr (.inr (fun i : Nat => (([73, 85] : List Nat)[i]?).map ρ))))) : va_E)
  rw [e1]
def cF_18 (σ : eS) : Prop := σ.2.2 18 0 = 20 ∧ σ.2.2 18 1 = 21 ∧ σ.2.2 18 2 = 22
theorem cv_18 {ρ : Nat → Nat} {κ : Nat → ClassId} {σ : eS} (h : cF_18 σ) : e_cell ρ κ σ 18 (mL 18) = e_cell ρ κ σ 18 (gL 18) := by
  obtain ⟨h0, h1, h2⟩ := h
  show (Sum.inr (4, [e_mv ρ (σ.2.2 18 0), e_mv ρ (σ.2.2 18 1), e_mv ρ (σ.2.2 18 2)]) : va_E) = _
  rw [show σ.2.2 18 0 = 20 from h0, show σ.2.2 18 1 = 21 from h1, show σ.2.2 18 2 = 22 from h2]
  rfl
def cF_32 (σ : eS) : Prop := σ.2.2 32 0 = 34 ∧ σ.2.2 32 1 = 35
theorem cv_32 {ρ : Nat → Nat} {κ : Nat → ClassId} {σ : eS} (h : cF_32 σ) : e_cell ρ κ σ 32 (mL 32) = e_cell ρ κ σ 32 (gL 32) := by
  obtain ⟨h0, h1⟩ := h
  show (Sum.inr (0, [e_mv ρ (σ.2.2 32 0), e_mv ρ (σ.2.2 32 1), .int (σ.1 32 2), .int (σ.1 32 3)]) : va_E) = _
  rw [show σ.2.2 32 0 = 34 from h0, show σ.2.2 32 1 = 35 from h1]
  rfl
def cF_36 (σ : eS) : Prop := σ.2.2 36 0 = 38 ∧ σ.2.2 36 1 = 39 ∧ σ.2.2 36 2 = 40 ∧ σ.2.2 36 3 = 41
theorem cv_36 {ρ : Nat → Nat} {κ : Nat → ClassId} {σ : eS} (h : cF_36 σ) : e_cell ρ κ σ 36 (mL 36) = e_cell ρ κ σ 36 (gL 36) := by
  obtain ⟨h0, h1, h2, h3⟩ := h
  show (Sum.inr (6, [e_mv ρ (σ.2.2 36 0), e_mv ρ (σ.2.2 36 1), e_mv ρ (σ.2.2 36 2), e_mv ρ (σ.2.2 36 3), .int (σ.1 36 4), .int (σ.1 36 5), .int (σ.1 36 6)]) : va_E) = _
  rw [show σ.2.2 36 0 = 38 from h0, show σ.2.2 36 1 = 39 from h1, show σ.2.2 36 2 = 40 from h2, show σ.2.2 36 3 = 41 from h3]
  rfl
def cF_41 (σ : eS) : Prop := σ.2.2 41 0 = 43 ∧ σ.2.2 41 1 = 44 ∧ σ.2.2 41 2 = 45 ∧ σ.2.2 41 4 = 46 ∧ σ.2.2 41 6 = 47
theorem cv_41 {ρ : Nat → Nat} {κ : Nat → ClassId} {σ : eS} (h : cF_41 σ) : e_cell ρ κ σ 41 (mL 41) = e_cell ρ κ σ 41 (gL 41) := by
  obtain ⟨h0, h1, h2, h4, h6⟩ := h
  show (Sum.inr (2, [e_mv ρ (σ.2.2 41 0), e_mv ρ (σ.2.2 41 1), e_mv ρ (σ.2.2 41 2), .int (σ.1 41 3), e_mv ρ (σ.2.2 41 4), .int (σ.1 41 5), e_mv ρ (σ.2.2 41 6), .int (σ.1 41 7)]) : va_E) = _
  rw [show σ.2.2 41 0 = 43 from h0, show σ.2.2 41 1 = 44 from h1, show σ.2.2 41 2 = 45 from h2, show σ.2.2 41 4 = 46 from h4, show σ.2.2 41 6 = 47 from h6]
  rfl
def cF_47 (σ : eS) : Prop := σ.2.2 47 0 = 49
theorem cv_47 {ρ : Nat → Nat} {κ : Nat → ClassId} {σ : eS} (h : cF_47 σ) : e_cell ρ κ σ 47 (mL 47) = e_cell ρ κ σ 47 (gL 47) := by
  have h0 := h
  show (Sum.inr (3, [e_mv ρ (σ.2.2 47 0), .int (σ.1 47 1), .int (σ.1 47 2), .long (σ.2.1 47 3), .int (σ.1 47 4)]) : va_E) = _
  rw [show σ.2.2 47 0 = 49 from h0]
  rfl
def cF_55 (σ : eS) : Prop := σ.2.2 55 0 = 57 ∧ σ.2.2 55 1 = 70 ∧ σ.2.2 55 2 = 71
theorem cv_55 {ρ : Nat → Nat} {κ : Nat → ClassId} {σ : eS} (h : cF_55 σ) : e_cell ρ κ σ 55 (mL 55) = e_cell ρ κ σ 55 (gL 55) := by
  obtain ⟨h0, h1, h2⟩ := h
  show (Sum.inr (8, [e_mv ρ (σ.2.2 55 0), e_mv ρ (σ.2.2 55 1), e_mv ρ (σ.2.2 55 2), .int (σ.1 55 3), .int (σ.1 55 4), .int (σ.1 55 5), .int (σ.1 55 6)]) : va_E) = _
  rw [show σ.2.2 55 0 = 57 from h0, show σ.2.2 55 1 = 70 from h1, show σ.2.2 55 2 = 71 from h2]
  rfl
def cF_73 (σ : eS) : Prop := σ.2.2 73 0 = 75 ∧ σ.2.2 73 1 = 83 ∧ σ.2.2 73 2 = 84 ∧ σ.2.2 73 3 = 85
theorem cv_73 {ρ : Nat → Nat} {κ : Nat → ClassId} {σ : eS} (h : cF_73 σ) : e_cell ρ κ σ 73 (mL 73) = e_cell ρ κ σ 73 (gL 73) := by
  obtain ⟨h0, h1, h2, h3⟩ := h
  show (Sum.inr (1, [e_mv ρ (σ.2.2 73 0), e_mv ρ (σ.2.2 73 1), e_mv ρ (σ.2.2 73 2), e_mv ρ (σ.2.2 73 3), .int (σ.1 73 4), .int (σ.1 73 5), .int (σ.1 73 6), .long (σ.2.1 73 7), .int (σ.1 73 8)]) : va_E) = _
  rw [show σ.2.2 73 0 = 75 from h0, show σ.2.2 73 1 = 83 from h1, show σ.2.2 73 2 = 84 from h2, show σ.2.2 73 3 = 85 from h3]
  rfl
def cF_85 (σ : eS) : Prop := σ.2.2 85 0 = 87 ∧ σ.2.2 85 1 = 95 ∧ σ.2.2 85 2 = 96 ∧ σ.2.2 85 3 = 97
theorem cv_85 {ρ : Nat → Nat} {κ : Nat → ClassId} {σ : eS} (h : cF_85 σ) : e_cell ρ κ σ 85 (mL 85) = e_cell ρ κ σ 85 (gL 85) := by
  obtain ⟨h0, h1, h2, h3⟩ := h
  show (Sum.inr (1, [e_mv ρ (σ.2.2 85 0), e_mv ρ (σ.2.2 85 1), e_mv ρ (σ.2.2 85 2), e_mv ρ (σ.2.2 85 3), .int (σ.1 85 4), .int (σ.1 85 5), .int (σ.1 85 6), .long (σ.2.1 85 7), .int (σ.1 85 8)]) : va_E) = _
  rw [show σ.2.2 85 0 = 87 from h0, show σ.2.2 85 1 = 95 from h1, show σ.2.2 85 2 = 96 from h2, show σ.2.2 85 3 = 97 from h3]
  rfl
def cF_97 (σ : eS) : Prop := σ.2.2 97 1 = 99 ∧ σ.2.2 97 2 = 100 ∧ σ.2.2 97 3 = 101 ∧ σ.2.2 97 5 = 102 ∧ σ.2.2 97 8 = 103 ∧ σ.2.2 97 9 = 104 ∧ σ.2.2 97 11 = 105 ∧ σ.2.2 97 12 = 106 ∧ σ.2.2 97 13 = 107 ∧ σ.2.2 97 14 = 108 ∧ σ.2.2 97 16 = 109 ∧ σ.2.2 97 24 = 110 ∧ σ.2.2 97 25 = 111 ∧ σ.2.2 97 27 = 112 ∧ σ.2.2 97 31 = 113 ∧ σ.2.2 97 32 = 114 ∧ σ.2.2 97 34 = 115 ∧ σ.2.2 97 35 = 116 ∧ σ.2.2 97 36 = 117 ∧ σ.2.2 97 38 = 118 ∧ σ.2.2 97 39 = 119 ∧ σ.2.2 97 42 = 120 ∧ σ.2.2 97 48 = 121 ∧ σ.2.2 97 51 = 122 ∧ σ.2.2 97 52 = 123 ∧ σ.2.2 97 53 = 124 ∧ σ.2.2 97 54 = 125
theorem cv_97 {ρ : Nat → Nat} {κ : Nat → ClassId} {σ : eS} (h : cF_97 σ) : e_cell ρ κ σ 97 (mL 97) = e_cell ρ κ σ 97 (gL 97) := by
  obtain ⟨h1, h2, h3, h5, h8, h9, h11, h12, h13, h14, h16, h24, h25, h27, h31, h32, h34, h35, h36, h38, h39, h42, h48, h51, h52, h53, h54⟩ := h
  show (Sum.inr (11, [.int (σ.1 97 0), e_mv ρ (σ.2.2 97 1), e_mv ρ (σ.2.2 97 2), e_mv ρ (σ.2.2 97 3), .int (σ.1 97 4), e_mv ρ (σ.2.2 97 5), .long (σ.2.1 97 6), .int (σ.1 97 7), e_mv ρ (σ.2.2 97 8), e_mv ρ (σ.2.2 97 9), .int (σ.1 97 10), e_mv ρ (σ.2.2 97 11), e_mv ρ (σ.2.2 97 12), e_mv ρ (σ.2.2 97 13), e_mv ρ (σ.2.2 97 14), .int (σ.1 97 15), e_mv ρ (σ.2.2 97 16), .int (σ.1 97 17), .int (σ.1 97 18), e_mv ρ (σ.2.2 97 19), .int (σ.1 97 20), .int (σ.1 97 21), .int (σ.1 97 22), .int (σ.1 97 23), e_mv ρ (σ.2.2 97 24), e_mv ρ (σ.2.2 97 25), .int (σ.1 97 26), e_mv ρ (σ.2.2 97 27), .long (σ.2.1 97 28), .int (σ.1 97 29), .int (σ.1 97 30), e_mv ρ (σ.2.2 97 31), e_mv ρ (σ.2.2 97 32), .int (σ.1 97 33), e_mv ρ (σ.2.2 97 34), e_mv ρ (σ.2.2 97 35), e_mv ρ (σ.2.2 97 36), .int (σ.1 97 37), e_mv ρ (σ.2.2 97 38), e_mv ρ (σ.2.2 97 39), .int (σ.1 97 40), .int (σ.1 97 41), e_mv ρ (σ.2.2 97 42), .int (σ.1 97 43), .int (σ.1 97 44), .int (σ.1 97 45), .int (σ.1 97 46), .long (σ.2.1 97 47), e_mv ρ (σ.2.2 97 48), .int (σ.1 97 49), .int (σ.1 97 50), e_mv ρ (σ.2.2 97 51), e_mv ρ (σ.2.2 97 52), e_mv ρ (σ.2.2 97 53), e_mv ρ (σ.2.2 97 54)]) : va_E) = _
  rw [show σ.2.2 97 1 = 99 from h1, show σ.2.2 97 2 = 100 from h2, show σ.2.2 97 3 = 101 from h3, show σ.2.2 97 5 = 102 from h5, show σ.2.2 97 8 = 103 from h8, show σ.2.2 97 9 = 104 from h9, show σ.2.2 97 11 = 105 from h11, show σ.2.2 97 12 = 106 from h12, show σ.2.2 97 13 = 107 from h13, show σ.2.2 97 14 = 108 from h14, show σ.2.2 97 16 = 109 from h16, show σ.2.2 97 24 = 110 from h24, show σ.2.2 97 25 = 111 from h25, show σ.2.2 97 27 = 112 from h27, show σ.2.2 97 31 = 113 from h31, show σ.2.2 97 32 = 114 from h32, show σ.2.2 97 34 = 115 from h34, show σ.2.2 97 35 = 116 from h35, show σ.2.2 97 36 = 117 from h36, show σ.2.2 97 38 = 118 from h38, show σ.2.2 97 39 = 119 from h39, show σ.2.2 97 42 = 120 from h42, show σ.2.2 97 48 = 121 from h48, show σ.2.2 97 51 = 122 from h51, show σ.2.2 97 52 = 123 from h52, show σ.2.2 97 53 = 124 from h53, show σ.2.2 97 54 = 125 from h54]
  rfl
def cF (σ : eS) : Prop := cF_0 σ ∧ cF_1 σ ∧ cF_3 σ ∧ cF_5 σ ∧ cF_17 σ ∧ cF_18 σ ∧ cF_32 σ ∧ cF_36 σ ∧ cF_41 σ ∧ cF_47 σ ∧ cF_55 σ ∧ cF_73 σ ∧ cF_85 σ ∧ cF_97 σ
theorem cv_all {ρ : Nat → Nat} {κ : Nat → ClassId} {σ : eS} (h : cF σ) : e_w mL 126 ρ κ σ = e_w gL NN ρ κ σ := by
  obtain ⟨h0, h1, h3, h5, h17, h18, h32, h36, h41, h47, h55, h73, h85, h97⟩ := h
  unfold e_w
  apply List.map_congr_left
  intro k hk
  have hk := List.mem_range.mp hk
  congr 1
  by_cases q0 : k = 0
  · subst q0; exact cv_0 h0
  by_cases q1 : k = 1
  · subst q1; exact cv_1 h1
  by_cases q3 : k = 3
  · subst q3; exact cv_3 h3
  by_cases q5 : k = 5
  · subst q5; exact cv_5 h5
  by_cases q17 : k = 17
  · subst q17; exact cv_17 h17
  by_cases q18 : k = 18
  · subst q18; exact cv_18 h18
  by_cases q32 : k = 32
  · subst q32; exact cv_32 h32
  by_cases q36 : k = 36
  · subst q36; exact cv_36 h36
  by_cases q41 : k = 41
  · subst q41; exact cv_41 h41
  by_cases q47 : k = 47
  · subst q47; exact cv_47 h47
  by_cases q55 : k = 55
  · subst q55; exact cv_55 h55
  by_cases q73 : k = 73
  · subst q73; exact cv_73 h73
  by_cases q85 : k = 85
  · subst q85; exact cv_85 h85
  by_cases q97 : k = 97
  · subst q97; exact cv_97 h97
  rw [cv_rest k hk (by simp only [List.contains_eq_mem, List.mem_cons, List.not_mem_nil, or_false, decide_eq_false_iff_not]; omega)]
def gz : eS := (fun _ _ => 0, fun _ _ => 0, fun _ _ => 0)
theorem gz_Z : eZ gz 0 := ⟨fun _ _ => ⟨rfl, rfl, rfl⟩, fun _ _ => Nat.le_refl 0⟩
set_option maxHeartbeats 8000000 in
set_option maxRecDepth 100000 in
/-- THE LAW, from its entry, out of the predicates -/
theorem law_start {p : Program} {e : Env} {s : State} {m : MethodId} {below : List Frame} {meth : Method} {c : Code} (l : Launch) (hfl : l.stackTraces = false) {b L : Nat} {xs : Nat → Int32} (fu : Nat) (hfu : fu ≤ 1000) (hpure : w_X10_init gz (fun σ1 => w_X11_init σ1 (fun σ2 => cF σ2 ∧ b_L_law_23 L xs (fun v _ => v = 1) fu σ2 (0 : Int32)))) (C0 : lw_At p s m meth c b L xs) : W p l e room_1 s m #[Value.ref b] below meth c s.heap [] 0 0 (lw_Z below #[Value.ref b] s) (entryFrame m ([Value.ref b] : List Value).toArray 8) := by
  obtain ⟨hx, hb, hr, hml, hown, hts, hX, hbl, hlocks, hgv⟩ := id C0
  have C : eCx p s m #[Value.ref b] meth c code RL 8 (some .boolean) lw_tbl := ⟨hx, hb, hml, hown, hts, hr, hlocks⟩
  have hs := flat_of_before _ hgv
  obtain ⟨D, κ, hK⟩ := law_K hts
  have K : eK 0 vwCl (gT κ) D (fun _ => 0) s.heap.size gNw s := ⟨hK, fun i j h => absurd h (Nat.not_lt_zero i), fun k h => absurd h (Nat.not_lt_zero k), Nat.le_refl _, fun q hq => va_Nw.of rfl (hts _ (nw_in q hq))⟩
  have X : eX gMw s := ⟨va_AOA.of (hts _ tw_1191), va_AOA.of (hts _ tw_1192), va_AO.of (hts _ tw_1193), fun q hq => va_Nw.of rfl (hts _ (mw_in q hq))⟩
  have hA : ∀ a : Nat, a < s.heap.size → ¬ eA s.heap.size a := fun a h => Nat.not_le.mpr h
  have V : eV s.heap.size s := ⟨vx_Zqof (hts _ tw_1195) (hts _ tw_1197) (hs _ (by decide +kernel)) hA, vx_Zqof (hts _ tw_1196) (hts _ tw_1197) (hs _ (by decide +kernel)) hA, va_Nw.of rfl (hts _ tw_1194), va_Nw.of rfl (hts _ tw_1246), va_Nw.of rfl (hts _ tw_1247), va_Nw.of rfl (hts _ tw_1248)⟩
  have G : eG mL 0 vwCl D (fun _ => 0) κ s.heap.size s gz s.heap [] := ⟨fun k q h => by simp [e_w] at h, va_S.rf⟩
  have Z := gz_Z
  have hbA : ¬ s.heap.size ≤ b := Nat.not_le.mpr hbl
  have hl := lv_entry ([.ref b]) (n := 8) (Nat.le_of_ble_eq_true rfl)
  rw [lg_entry_eq]
  generalize (lg_sl ([.ref b]) ++ List.replicate (8 - (lg_sl ([.ref b])).length) Slot.unset).toArray = ls at hl ⊢
  have hl : lv_has ls 8 [(0, .ref b)] := hl
  have h := hpure
  refine ec_new hx hb hts pw_wsX100 tyX10 tyX10_ok hown (hts _ tw_1183) (hts _ tw_1185) (hts _ tw_139) K G Z ok_0 ml_0 rfl rfl dv_X10 (Nat.le_of_ble_eq_true rfl) (Nat.le_of_ble_eq_true rfl) dL_law_0 (fun ρ1 H hg1 K G Z => ?_)
  refine lv_dup hx hb dL_law_3 rfl ?_
  refine ec_callI (As := []) (rest := [.ref (ρ1 0)]) ⟨hx, hb, hml, hown, hts⟩ K X G 0 (c_X10_init Z h) (cwI 0 hts gw_X10_init rfl rfl rfl (hts _ tw_139) (hts _ tw_1187) (hts _ tw_1189) rfl (by decide +kernel) ⟨Nat.le_of_ble_eq_true rfl, Nat.le_of_ble_eq_true rfl⟩) rfl hl.1 rfl (Nat.le_of_ble_eq_true rfl) dL_law_4 ⟨Nat.le_of_ble_eq_true rfl, Nat.le_of_ble_eq_true rfl⟩ (fun ρ2 σ1 H locs h hg2 K G Z => ?_)
  refine W.eq (g2 := F0 m 7 ls [.ref (ρ2 0)]) (by rw [hg2 0 (by decide)]) ?_
  refine lv_astore_n (lv' := [(1, .ref (ρ2 0)), (0, .ref b)]) hx hb dL_law_7 rfl hl (by decide) rfl (fun ls hl => ?_)
  refine ec_new hx hb hts pw_wsX110 tyX11 tyX11_ok hown (hts _ tw_1184) (hts _ tw_1186) (hts _ tw_91) K G Z ok_97 ml_97 rfl rfl dv_X11 (Nat.le_of_ble_eq_true rfl) (Nat.le_of_ble_eq_true rfl) dL_law_8 (fun ρ3 H hg3 K G Z => ?_)
  rw [← hg3 0 (by decide)] at hl
  refine lv_dup hx hb dL_law_11 rfl ?_
  refine ec_callI (As := []) (rest := [.ref (ρ3 97)]) ⟨hx, hb, hml, hown, hts⟩ K X G 97 (c_X11_init Z h) (cwI 0 hts gw_X11_init rfl rfl rfl (hts _ tw_91) (hts _ tw_1188) (hts _ tw_1190) rfl (by decide +kernel) ⟨Nat.le_of_ble_eq_true rfl, Nat.le_of_ble_eq_true rfl⟩) rfl hl.1 rfl (Nat.le_of_ble_eq_true rfl) dL_law_12 ⟨Nat.le_of_ble_eq_true rfl, Nat.le_of_ble_eq_true rfl⟩ (fun ρ4 σ2 H locs h hg4 K G Z => ?_)
  rw [← hg4 0 (by decide)] at hl
  refine W.eq (g2 := F0 m 15 ls [.ref (ρ4 97)]) (by rw [hg4 97 (by decide)]) ?_
  refine lv_astore_n (lv' := [(2, .ref (ρ4 97)), (1, .ref (ρ4 0)), (0, .ref b)]) hx hb dL_law_15 rfl hl (by decide) rfl (fun ls hl => ?_)
  refine lv_iconst (v := (1 : Int32)) hx hb dL_law_16 (by decide) ?_
  refine ec_newa (atype := .long) (ty := .long) hx hb (hts _ tw_1149) rfl K G Z ok_125 (kd := 1) ml_125 (by first | exact Or.inl ⟨rfl, rfl⟩ | exact Or.inr ⟨rfl, rfl⟩) rfl (fun _ _ => rfl) (by decide) rfl (by decide) (Nat.le_of_ble_eq_true rfl) (Nat.le_of_ble_eq_true rfl) dL_law_17 (fun ρ5 H hg5 K G Z => ?_)
  rw [← hg5 0 (by decide), ← hg5 97 (by decide)] at hl
  refine lv_astore_n (lv' := [(3, .ref (ρ5 125)), (2, .ref (ρ5 97)), (1, .ref (ρ5 0)), (0, .ref b)]) hx hb dL_law_19 rfl hl (by decide) rfl (fun ls hl => ?_)
  refine lv_iconst (v := (0 : Int32)) hx hb dL_law_20 (by decide) ?_
  refine lv_istore (lv' := [(4, .int (0 : Int32)), (3, .ref (ρ5 125)), (2, .ref (ρ5 97)), (1, .ref (ρ5 0)), (0, .ref b)]) hx hb dL_law_21 hl (by decide) rfl (fun ls hl => ?_)
  have G : gG D ρ5 κ s.heap.size s σ2 H locs := ⟨by rw [← cv_all h.1]; exact G.1, G.2⟩
  exact l_L_law_23 (fu := 0) C K hX hbl hbA (Nat.le_refl _) hfl V (fun v σ q => q) fu σ2 (0 : Int32) _ _ _ _ _ ⟨by omega, by omega⟩ h.2 G (lv_sub hl [4, 3, 2, 1, 0] rfl)
