/-! loops and the other calls, class side -/
theorem nI_n10 {i : Nat} (h : i < 10) : ¬ (10 : Int32) ≤ nI i := nI_ge (a := i) (b := 10) h (by decide)
theorem nI_n12 {i : Nat} (h : i < 12) : ¬ (12 : Int32) ≤ nI i := nI_ge (a := i) (b := 12) h (by decide)
theorem nI_up (i : Nat) : nI i + (1 : Int32) = nI (i + 1) := nI_1 i
theorem nI_in10 {i : Nat} (h : i < 10) : vp_in (nI i) 10 := vp_in_nI h (by decide)
theorem nI_in12 {i : Nat} (h : i < 12) : vp_in (nI i) 12 := vp_in_nI h (by decide)
theorem nI_c {i : Nat} (h : i < 12) : (nI i).toNatClampNeg = i := nI_clamp (Nat.lt_trans h (by decide))
theorem kx_sign_step {post : Int32 → eS → Prop} {n : Nat} {σ : eS} {x1 x2 s : Int32} (hs : σ.1 1 1 = s) (hx : ¬ x2 < 0) (hin : vp_in s 80) (k : ∀ σ', RS σ σ' → σ'.1 1 1 = s + 1 → b_X7_add_14 post n σ' x1 (x2 + (-8 : Int32))) : b_X7_add_14 post (n + 1) σ x1 x2 := by
  rw [b_X7_add_14]
  refine ⟨fun c => absurd c hx, fun _ => ⟨by rw [hs]; exact hin, fun σ5 e5 σ6 e6 v7 e7 => ?_⟩⟩
  subst e7
  refine k σ6 ?_ ?_
  · subst e6; subst e5
    exact (RS.rf.ui (by decide)).ui (by decide)
  · subst e6; subst e5
    show σ.1 1 1 + 1 = s + 1
    rw [hs]
theorem kx_sign {σ : eS} {x1 : Int32} {post : Int32 → eS → Prop} (F : Fx σ) (hp : ∀ σ', RS σ σ' → post (4 : Int32) σ') : w_X10_sign σ x1 post := by
  unfold w_X10_sign w_X7_add
  refine ⟨fun _ v2 e2 => ⟨5, ?_⟩, fun c => absurd (by rw [F.1]; decide) c⟩
  subst e2
  refine kx_sign_step F.1 (by decide) (by unfold vp_in; decide) (fun σ1 r1 h1 => ?_)
  refine kx_sign_step h1 (by decide) (by unfold vp_in; decide) (fun σ2 r2 h2 => ?_)
  refine kx_sign_step h2 (by decide) (by unfold vp_in; decide) (fun σ3 r3 h3 => ?_)
  refine kx_sign_step h3 (by decide) (by unfold vp_in; decide) (fun σ4 r4 h4 => ?_)
  rw [b_X7_add_14]
  refine ⟨fun _ => ?_, fun c => absurd (by decide) c⟩
  rw [h4]
  exact hp σ4 (((r1.tr r2).tr r3).tr r4)
theorem kx_cut {σ : eS} {x1 : Int32} {post : Int32 → eS → Prop} (hs : σ.1 1 1 = 0) (hp : ∀ σ', RS σ σ' → (∀ k, k ≠ 1 → σ'.1 k = σ.1 k) → σ'.2.1 = σ.2.1 → post (if x1 = 0 then 1 else 0) σ') : w_X7_cut σ x1 post := by
  unfold w_X7_cut
  rw [hs]
  by_cases c0 : x1 = 0
  · subst c0
    refine ⟨fun c => absurd c (by decide), fun _ => ⟨fun _ σ3 e3 => ⟨rfl, ?_⟩, fun c => absurd (by decide) c⟩⟩
    subst e3
    exact hp _ (RS.rf.ui (by decide)) (fun k hk => by simp [e_ui, hk]) rfl
  · have h0 : post 0 σ := by simpa [c0] using hp σ RS.rf (fun _ _ => rfl) rfl
    refine ⟨fun _ => ⟨rfl, h0⟩, fun c => ⟨fun d => ?_, fun _ => ⟨rfl, h0⟩⟩⟩
    exfalso
    apply c0
    have := i_nn c
    simp only [Int32.le_iff_toInt_le, ← Int32.toInt_inj] at *
    omega
theorem kx_end {σ : eS} {x1 : Int32} {post : Int32 → eS → Prop} (F : Fx σ) (hp : ∀ σ', RS σ σ' → post (if x1 = 0 then 1 else 0) σ') : w_X10_end σ x1 post := by
  unfold w_X10_end
  refine kx_cut F.1 (fun σ' r _ _ => ⟨?_, hp σ' r⟩)
  split <;> rfl
theorem kx_town {σ : eS} {post : Int32 → eS → Prop} (F : Fx σ) (hp : ∀ σ', RS σ σ' → post (0 : Int32) σ') : w_X10_town σ post := by
  unfold w_X10_town w_X9_read
  intro σ1 e1 σ2 e2 σ3 e3 v4 e4 v5 e5
  have h11 : σ3.1 1 1 = 0 := by subst e3; subst e2; subst e1; exact F.1
  have hr : RS σ σ3 := by subst e3; subst e2; subst e1; exact ((RS.rf.ui (by decide)).ui (by decide)).ui (by decide)
  subst e4; subst e5
  have key : b_X9_read_47 (fun r2 σ1 => w_X7_cut σ1 (0 : Int32) (fun r4 σ3 => ((r2 ≤ 0 → post r2 σ3) ∧ (¬ (r2 ≤ 0) → w_X10_reckonAnew σ3 (fun σ6 => post r2 σ6))))) σ3 0 0 0 := by
    unfold b_X9_read_47
    refine ⟨1, ?_⟩
    rw [b_X9_read_49]
    refine ⟨fun _ => ?_, fun c => absurd rfl c⟩
    unfold b_X9_read_116
    rw [h11]
    refine ⟨fun _ σ9 e9 σ10 e10 => ?_, fun c => absurd (by decide) c⟩
    refine kx_cut (by subst e10; subst e9; exact h11) (fun σ' r _ _ => ⟨fun _ => hp σ' ?_, fun c => absurd (by decide) c⟩)
    subst e10; subst e9
    exact (((hr.ui (by decide)).ui (by decide))).tr r
  rw [h11]
  exact ⟨fun _ => key, fun c => absurd (by decide) c⟩
theorem kx_rule {σ : eS} {post : Int32 → eS → Prop} (F : Fx σ) (hp : ∀ σ', RS σ σ' → post (0 : Int32) σ') : w_X10_rule σ post := by
  unfold w_X10_rule w_X6_read
  intro σ1 e1 σ2 e2
  have h11 : σ2.1 1 1 = 0 := by subst e2; subst e1; exact F.1
  have h4 : σ2.1 36 4 = 0 := by subst e2; rfl
  have r2 : RS σ σ2 := by subst e2; subst e1; exact (RS.rf.ui (by decide)).ui (by decide)
  rw [h11]
  refine ⟨fun _ => ?_, fun c => absurd (by decide) c⟩
  unfold b_X6_read_51
  refine ⟨by decide, by decide, by rw [h4]; decide, by rw [h4]; decide, by rw [h4]; decide, fun σ9 e9 σ10 e10 => ?_⟩
  refine kx_cut (by subst e10; subst e9; exact h11) (fun σ' r _ _ => hp σ' (RS.tr ?_ r))
  subst e10; subst e9
  exact (r2.ua (by decide)).ui (by decide)
theorem k_tell {σ : eS} {x : Int64} {post : eS → Prop} (hp : ∀ σ', RS σ σ' → (∀ k, k ≠ 3 → σ'.1 k = σ.1 k) → post σ') : w_X5_tell σ x post := by
  unfold w_X5_tell w_X5_clear
  intro σ1 e1
  unfold w_X5_add
  have h1 : σ1.1 3 1 = 0 := by subst e1; rfl
  rw [h1]
  refine ⟨fun c => absurd c (by decide), fun _ => ⟨by unfold vp_in; decide, fun σ3 e3 σ4 e4 => hp σ4 ?_ ?_⟩⟩
  · subst e4; subst e3; subst e1
    exact ((RS.rf.ui (by decide)).ul (by decide)).ui (by decide)
  · intro k hk
    subst e4; subst e3; subst e1
    simp [e_ui, e_ul, hk]
theorem kx_period {σ : eS} {post : Int32 → eS → Prop} (F : Fx σ) (hp : ∀ σ', RS σ σ' → post (1 : Int32) σ') : w_X10_period σ post := by
  unfold w_X10_period
  refine k_tell (fun σ' r h => ?_)
  rw [h 32 (by decide), F.2.2.2.2.2.2.2.1]
  exact hp σ' r
theorem kx_pass {σ : eS} {x1 : Int64} {post : Int32 → eS → Prop} (F : Fx σ) (hp : ∀ σ', RS σ σ' → post (if dayB x1 = 0 then -1 else 0) σ') : w_X10_pass σ x1 post := by
  unfold w_X10_pass
  simp only [lc_lt, lc_le]
  unfold dayB at hp
  rw [F.2.2.2.2.2.1]
  have e0 : (1000000000000 : Int64) - 0 = 1000000000000 := by decide
  rw [e0]
  refine ⟨fun c => ?_, fun c => ⟨fun d σ3 e3 => ?_, fun d => ?_⟩⟩
  · simpa [c] using hp σ RS.rf
  · have d2 : ¬ (1000000000000 : Int64) < x1 := by
      simp only [Int64.lt_iff_toInt_lt, Int64.le_iff_toInt_le] at *; omega
    unfold w_X10_orderBehind
    have h5 : σ3.1 5 5 = 0 := by subst e3; exact F.2.2.2.1
    rw [h5]
    refine ⟨fun _ => ?_, fun q => absurd (by decide) q⟩
    have := hp σ3 (by subst e3; exact RS.rf.ul (by decide))
    simpa [c, d2] using this
  · have d2 : (1000000000000 : Int64) < x1 := by
      simp only [Int64.lt_iff_toInt_lt, Int64.le_iff_toInt_le] at *; omega
    simpa [c, d2] using hp σ RS.rf
theorem k_bit0 {σ : eS} {post : Int32 → eS → Prop} (hp : post (0 : Int32) σ) : w_J6_bitCount_0f7a4 σ (0 : Int32) post := by
  unfold w_J6_bitCount_0f7a4
  intros
  subst_vars
  exact hp
theorem kx_same {σ : eS} {x1 x3 : Int64} {post : Int32 → eS → Prop} (F : Fx σ) (hp : ∀ σ', RS σ σ' → post (if dayB x1 = 0 then -1 else if dayB x3 = 0 then -1 else 0) σ') : w_X10_same σ x1 x3 post := by
  unfold w_X10_same
  refine k_isDay ⟨fun c => by simpa [c] using hp σ RS.rf, fun c => k_isDay ⟨fun d v7 e7 v8 e8 => ⟨1, ?_⟩, fun d => by simpa [c, d] using hp σ RS.rf⟩⟩
  subst e7; subst e8
  rw [b_X10_same_22]
  rw [F.2.2.1]
  refine ⟨fun _ => ?_, fun q => absurd (by decide) q⟩
  refine k_tell (fun σ' r h => k_bit0 ?_)
  simpa [c, d] using hp σ' r
theorem kx_quiet {σ : eS} {post : Int32 → eS → Prop} (F : Fx σ) (hp : ∀ σ', RS σ σ' → post (-2 : Int32) σ') : w_X10_quiet σ post := by
  unfold w_X10_quiet
  intro v1 e1 v2 e2 v3 e3
  subst e1; subst e2; subst e3
  refine ⟨1, ?_⟩
  rw [b_X10_quiet_7, F.2.2.2.2.2.2.1]
  exact ⟨fun _ => ⟨fun _ => hp σ RS.rf, fun c => absurd (by decide) c⟩, fun c => absurd (by decide) c⟩
theorem kx_kept {σ : eS} {post : Int32 → eS → Prop} (F : Fx σ) (hp : ∀ σ', RS σ σ' → post (0 : Int32) σ') : w_X10_kept σ post := by
  unfold w_X10_kept
  intro v1 e1 v2 e2
  subst e1; subst e2
  refine ⟨1, ?_⟩
  rw [b_X10_kept_4, F.2.2.2.2.2.2.2.2.1]
  exact ⟨fun _ => hp σ RS.rf, fun c => absurd (by decide) c⟩
theorem kx_postman {σ : eS} {x1 : Int32} {post : Int32 → eS → Prop} (F : Fx σ) (hp : ∀ σ', RS σ σ' → post (-1 : Int32) σ') : w_X10_postman σ x1 post := by
  unfold w_X10_postman
  rw [F.2.2.2.2.1]
  exact ⟨fun _ => hp σ RS.rf, fun _ => ⟨fun _ => hp σ RS.rf, fun _ => ⟨fun c => absurd c (by decide), fun _ => hp σ RS.rf⟩⟩⟩
theorem kx_soonest {σ : eS} {post : Int32 → eS → Prop} (F : Fx σ) (hp : ∀ σ', RS σ σ' → post (-1 : Int32) σ') : w_X10_soonest σ post := by
  unfold w_X10_soonest
  rw [F.2.2.2.1]
  exact ⟨fun c => absurd c (by decide), fun _ => hp σ RS.rf⟩
theorem ush0 (x : Int32) : (x.toUInt32 >>> ((0 : Int32).toUInt32 &&& Int32.toUInt32 31)).toInt32 = x := by
  have e : ((0 : Int32).toUInt32 &&& Int32.toUInt32 31) = 0 := by decide
  rw [e]
  simp
theorem k_isChoice {σ : eS} {x m : Int32} {post : Int32 → eS → Prop} (hp : post (0 : Int32) σ) : w_X10_isChoice σ x (0 : Int32) m post := by
  unfold w_X10_isChoice
  rw [ush0]
  refine ⟨fun _ => ⟨rfl, hp⟩, fun c => ⟨fun _ => ⟨rfl, hp⟩, fun d => absurd ?_ c⟩⟩
  rw [d]
  decide
theorem kx_round {σ : eS} {x1 x2 x3 : Int32} {post : Int32 → eS → Prop} (F : Fx σ) (hp : ∀ σ', RS σ σ' → post (-1 : Int32) σ') : w_X10_round σ x1 x2 x3 post := by
  unfold w_X10_round w_X10_isPlace
  have k2 : w_X10_isChoice σ x2 (σ.1 5 6) (6 : Int32) (fun r5 σ4 => ((r5 = 0 → post (-1 : Int32) σ4) ∧ (¬ (r5 = 0) → ((x3 < (1 : Int32) → post (-1 : Int32) σ4) ∧ (¬ (x3 < (1 : Int32)) → ((x3 ≤ (999 : Int32) → False) ∧ (¬ (x3 ≤ (999 : Int32)) → post (-1 : Int32) σ4))))))) := by
    rw [F.2.2.2.2.1]
    exact k_isChoice ⟨fun _ => hp σ RS.rf, fun c => absurd rfl c⟩
  exact ⟨fun _ => ⟨rfl, fun _ => hp σ RS.rf, fun c => absurd rfl c⟩, fun _ => ⟨fun _ => ⟨rfl, fun _ => hp σ RS.rf, fun c => absurd rfl c⟩, fun _ => ⟨rfl, fun c => absurd c (by decide), fun _ => k2⟩⟩⟩
theorem kx_meet {σ : eS} {x1 : Int32} {post : Int32 → eS → Prop} (F : Fx σ) (hp : ∀ σ', RS σ σ' → post (-1 : Int32) σ') : w_X10_meet σ x1 post := by
  unfold w_X10_meet
  rw [F.2.2.2.2.1]
  exact k_isChoice ⟨fun c => absurd rfl c, fun _ => hp σ RS.rf⟩
theorem kx_count {σ : eS} {x1 : Int32} {post : Int32 → eS → Prop} (F : Fx σ) (hp : ∀ σ', RS σ σ' → post (if x1 = 0 ∨ x1 = 1 ∨ x1 = 2 ∨ x1 = 3 ∨ x1 = 4 ∨ x1 = 5 then 0 else -1) σ') : w_X10_count σ x1 post := by
  unfold w_X10_count
  have h := hp σ RS.rf
  rw [F.1, F.2.1, F.2.2.1, F.2.2.2.1, F.2.2.2.2.1, F.2.2.2.2.2.2.2.2.1]
  refine ⟨fun c => ?_, fun c0 => ⟨fun c => ?_, fun c1 => ⟨fun c => ?_, fun c2 => ⟨fun c => ?_, fun c3 => ⟨fun c => ?_, fun c4 => ⟨fun c => ?_, fun c5 => ?_⟩⟩⟩⟩⟩⟩
  all_goals first | simpa [c] using h | simpa [c0, c1, c2, c3, c4, c5] using h
theorem kx_today {σ : eS} {post : Int64 → eS → Prop} (F : Fx σ) (hp : ∀ σ', RS σ σ' → post (0 : Int64) σ') : w_X10_today σ post := by
  unfold w_X10_today
  rw [F.2.2.2.2.2.1]
  exact hp σ RS.rf
