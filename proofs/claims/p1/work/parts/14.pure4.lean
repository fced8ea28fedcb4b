/-! the reference's other calls -/
theorem mx_sign_step {post : Int32 → eS → Prop} {n : Nat} {σ : eS} {x1 x2 s : Int32} (hs : σ.1 97 15 = s) (hx : ¬ x2 < 0) (hin : vp_in s 80) (k : ∀ σ', σ'.1 97 15 = s + 1 → b_X11_sign_20 post n σ' x1 (x2 + (-1 : Int32))) : b_X11_sign_20 post (n + 1) σ x1 x2 := by
  rw [b_X11_sign_20]
  refine ⟨fun c => absurd c hx, fun _ σ5 e5 => ⟨by rw [hs]; exact hin, fun σ7 e7 v8 e8 => ?_⟩⟩
  subst e8
  refine k σ7 ?_
  subst e7; subst e5
  show σ.1 97 15 + 1 = s + 1
  rw [hs]
theorem mx_sign {σ : eS} {x1 : Int32} {post : Int32 → eS → Prop} (F : Fm σ) (hp : ∀ σ', post (4 : Int32) σ') : w_X11_sign σ x1 post := by
  unfold w_X11_sign
  intro σ1 e1
  have h15 : σ1.1 97 15 = 0 := by subst e1; exact F.2.2.2.2.2.1
  refine ⟨fun _ v2 e2 => ⟨5, ?_⟩, fun c => absurd (by rw [h15]; decide) c⟩
  subst e2
  refine mx_sign_step h15 (by decide) (by unfold vp_in; decide) (fun σ1 h1 => ?_)
  refine mx_sign_step h1 (by decide) (by unfold vp_in; decide) (fun σ2 h2 => ?_)
  refine mx_sign_step h2 (by decide) (by unfold vp_in; decide) (fun σ3 h3 => ?_)
  refine mx_sign_step h3 (by decide) (by unfold vp_in; decide) (fun σ4 h4 => ?_)
  rw [b_X11_sign_20]
  refine ⟨fun _ => ?_, fun c => absurd (by decide) c⟩
  rw [h4]
  exact hp σ4
theorem i64_lt {x y : Int32} : x.toInt64 < y.toInt64 ↔ x < y := by
  rw [Int64.lt_iff_toInt_lt, Int32.lt_iff_toInt_lt, Int32.toInt_toInt64, Int32.toInt_toInt64]
theorem mx_end {σ : eS} {x1 : Int32} {post : Int32 → eS → Prop} (F : Fm σ) (hp : ∀ σ', post (if x1 = 0 then 1 else 0) σ') : w_X11_end σ x1 post := by
  unfold w_X11_end
  intro σ1 e1
  have h15 : σ1.1 97 15 = 0 := by subst e1; exact F.2.2.2.2.2.1
  rw [h15]
  refine m_in ?_
  have e0 : (0 : Int64) = (0 : Int32).toInt64 := by decide
  rw [e0]
  simp only [i64_lt]
  by_cases c0 : x1 = 0
  · subst c0
    rw [if_neg (by decide), if_neg (by decide)]
    refine ⟨fun _ σ5 e5 => ⟨rfl, by simpa using hp σ5⟩, fun c => absurd c (by decide)⟩
  · have e : (if x1 < 0 then (0 : Int32) else if 0 < x1 then 0 else 1) = 0 := by
      by_cases c : x1 < 0
      · rw [if_pos c]
      · have d : 0 < x1 := by
          simp only [Int32.lt_iff_toInt_lt, ← Int32.toInt_inj] at *
          omega
        rw [if_neg c, if_pos d]
    rw [e]
    exact ⟨fun c => absurd rfl c, fun _ => ⟨rfl, by simpa [c0] using hp _⟩⟩
theorem m_begin {σ : eS} {x2 x3 : Int32} {post : eS → Prop} (hp : ∀ σ', σ'.1 97 20 = x2 → σ'.1 97 22 = 0 → σ'.1 97 23 = -1 → (∀ j, j ≠ 20 → j ≠ 21 → j ≠ 22 → j ≠ 23 → σ'.1 97 j = σ.1 97 j) → post σ') : w_X11_begin σ x2 x3 post := by
  unfold w_X11_begin
  intro σ1 e1 σ2 e2 σ3 e3 σ4 e4 σ5 e5
  refine hp σ5 ?_ ?_ ?_ ?_
  · subst e5; subst e4; subst e3; subst e2; rfl
  · subst e5; subst e4; rfl
  · subst e5; rfl
  · intro j h1 h2 h3 h4
    subst e5; subst e4; subst e3; subst e2; subst e1
    simp [e_ui, e_ur, upd, h1, h2, h3, h4]
theorem mx_town {σ : eS} {post : Int32 → eS → Prop} (F : Fm σ) (hp : ∀ σ', post (0 : Int32) σ') : w_X11_town σ post := by
  unfold w_X11_town
  intro σ1 e1
  have h15 : σ1.1 97 15 = 0 := by subst e1; exact F.2.2.2.2.2.1
  have h0 : σ1.1 97 0 = 0 := by subst e1; exact F.1
  rw [h15]
  refine m_begin (fun σ2 h20 h22 h23 hj σ3 e3 v4 e4 v5 e5 v6 e6 => ?_)
  have g20 : σ3.1 97 20 = 0 := by subst e3; exact h20
  have g22 : σ3.1 97 22 = 0 := by subst e3; exact h22
  have g23 : σ3.1 97 23 = -1 := by subst e3; exact h23
  have g0 : σ3.1 97 0 = 0 := by subst e3; exact (hj 0 (by decide) (by decide) (by decide) (by decide)).trans h0
  rw [g20]
  refine ⟨fun _ => ?_, fun c => absurd (by decide) c⟩
  unfold b_X11_town_48
  refine ⟨1, ?_⟩
  rw [b_X11_town_50]
  refine ⟨fun _ => ?_, fun c => absurd rfl c⟩
  unfold b_X11_town_136
  rw [g20, g22]
  refine ⟨fun _ => ?_, fun c => absurd (by decide) c⟩
  unfold b_X11_town_155 w_X11_fine
  rw [g23, e4, g0, e6]
  refine ⟨fun c => absurd rfl c, fun _ => ⟨rfl, fun c => absurd c (by decide), fun _ => ⟨fun _ => hp _, fun c => absurd (by first | decide | (rw [g0]; decide)) c⟩⟩⟩
theorem mx_rule {σ : eS} {post : Int32 → eS → Prop} (F : Fm σ) (hp : ∀ σ', post (0 : Int32) σ') : w_X11_rule σ post := by
  unfold w_X11_rule
  intro σ1 e1 v2 e2
  have h15 : σ1.1 97 15 = 0 := by subst e1; exact F.2.2.2.2.2.1
  rw [h15] at e2
  subst e2
  refine m_begin (fun σ3 _ _ _ _ σ4 e4 σ5 e5 => ⟨fun _ => ?_, fun c => absurd (by decide) c⟩)
  unfold b_X11_rule_71
  intro v7 e7
  subst e7
  refine ⟨1, ?_⟩
  rw [b_X11_rule_73]
  exact ⟨fun _ σ9 e9 => hp _, fun c => absurd (by decide) c⟩
theorem m_layOut {σ : eS} {x : Int32} {post : eS → Prop} (F : Fm σ) (hp : ∀ σ', Fm σ' → σ'.1 97 26 = 1 → post σ') : w_X11_layOut σ x post := by
  unfold w_X11_layOut
  intro v1 e1
  subst e1
  refine ⟨1, ?_⟩
  rw [b_X11_layOut_2, F.1]
  refine ⟨fun _ σ3 e3 => ?_, fun c => absurd (by decide) c⟩
  have F3 : Fm σ3 := by subst e3; exact F
  rw [F3.1]
  exact ⟨fun _ => hp σ3 F3 (by subst e3; rfl), fun c => absurd rfl c⟩
theorem m_tell0 {σ : eS} {x : Int64} {post : eS → Prop} (h : σ.1 97 17 = 0) (hp : ∀ σ', post σ') : w_X11_tell σ x post := by
  unfold w_X11_tell
  rw [h]
  exact ⟨by unfold vp_in; decide, fun _ _ _ _ => hp _⟩
theorem m_ownOn {σ : eS} {x : Int64} {post : Int32 → eS → Prop} (F : Fm σ) (hp : post (0 : Int32) σ) : w_X11_ownOn σ x post := by
  unfold w_X11_ownOn
  intro v1 e1 v2 e2
  subst e1; subst e2
  refine ⟨1, ?_⟩
  rw [b_X11_ownOn_5, F.1]
  exact ⟨fun _ => hp, fun c => absurd (by decide) c⟩
theorem mx_period {σ : eS} {post : Int32 → eS → Prop} (F : Fm σ) (hp : ∀ σ', post (1 : Int32) σ') : w_X11_period σ post := by
  unfold w_X11_period
  intro σ1 e1
  subst e1
  unfold w_X11_findPeriod
  refine m_layOut F.th (fun σ2 F2 _ v2 e2 => ⟨1, ?_⟩)
  subst e2
  rw [b_X11_findPeriod_7]
  refine m_ownOn F2 ?_
  rw [F2.1]
  refine ⟨fun _ σ4 e4 => m_tell0 (by subst e4; rfl) hp, fun c => absurd (by decide) c⟩
theorem mx_pass {σ : eS} {x1 : Int64} {post : Int32 → eS → Prop} (F : Fm σ) (hp : ∀ σ', post (if dayB x1 = 0 then -1 else 0) σ') : w_X11_pass σ x1 post := by
  unfold w_X11_pass
  intro σ1 e1
  have F1 : Fm σ1 := by subst e1; exact F
  refine m_in ?_
  show ((dayB x1 = 0 → _) ∧ (¬ (dayB x1 = 0) → _))
  refine ⟨fun c => by simpa [c] using hp σ1, fun c => ?_⟩
  simp only [lc_le]
  rw [F1.2.2.1]
  have e0 : (0 : Int64) + x1 = x1 := by simp
  rw [e0]
  refine ⟨fun _ σ6 e6 => ?_, fun d => ?_⟩
  · unfold w_X11_week
    have h4 : σ6.1 97 4 = 0 := by subst e6; exact F1.2.1
    rw [h4]
    exact ⟨fun q => absurd rfl q, fun _ => by simpa [c] using hp σ6⟩
  · exfalso
    unfold dayB at c
    by_cases q : x1 < 0
    · simp [q] at c
    · have d2 : (1000000000000 : Int64) < x1 := by
        simp only [Int64.lt_iff_toInt_lt, Int64.le_iff_toInt_le] at *; omega
      simp [q, d2] at c
theorem mx_same {σ : eS} {x1 x3 : Int64} {post : Int32 → eS → Prop} (F : Fm σ) (hp : ∀ σ', post (if dayB x1 = 0 then -1 else if dayB x3 = 0 then -1 else 0) σ') : w_X11_same σ x1 x3 post := by
  unfold w_X11_same
  intro σ1 e1
  have F1 : Fm σ1 := by subst e1; exact F
  refine m_isDay ⟨fun c => by simpa [c] using hp σ1, fun c => m_isDay ⟨fun d => m_layOut F1 (fun σ8 F8 _ v9 e9 v10 e10 => ⟨1, ?_⟩), fun d => by simpa [c, d] using hp σ1⟩⟩
  subst e9; subst e10
  rw [b_X11_same_32, F8.1]
  refine ⟨fun _ σ12 e12 => m_tell0 (by subst e12; rfl) (fun σ' => k_bit0 ?_), fun q => absurd (by decide) q⟩
  simpa [c, d] using hp σ'
theorem mx_quiet {σ : eS} {post : Int32 → eS → Prop} (F : Fm σ) (hp : ∀ σ', post (-2 : Int32) σ') : w_X11_quiet σ post := by
  unfold w_X11_quiet
  intro σ1 e1
  subst e1
  refine m_layOut F.th (fun σ2 F2 h26 v3 e3 v4 e4 => ⟨1, ?_⟩)
  subst e3; subst e4
  rw [b_X11_quiet_15, h26]
  exact ⟨fun _ => ⟨fun c => absurd c (by decide), fun _ => hp _⟩, fun c => absurd (by decide) c⟩
theorem mx_kept {σ : eS} {post : Int32 → eS → Prop} (F : Fm σ) (hp : ∀ σ', post (0 : Int32) σ') : w_X11_kept σ post := by
  unfold w_X11_kept
  intro σ1 e1
  subst e1
  refine m_layOut F.th (fun σ2 F2 _ v3 e3 v4 e4 => ⟨1, ?_⟩)
  subst e3; subst e4
  rw [b_X11_kept_14, F2.2.2.2.2.1]
  exact ⟨fun _ => hp _, fun c => absurd (by decide) c⟩
theorem mx_postman {σ : eS} {x1 : Int32} {post : Int32 → eS → Prop} (F : Fm σ) (hp : ∀ σ', post (-1 : Int32) σ') : w_X11_postman σ x1 post := by
  unfold w_X11_postman
  intro σ1 e1
  subst e1
  exact ⟨fun _ => hp _, fun c => absurd F.2.2.2.1 c⟩
theorem mx_soonest {σ : eS} {post : Int32 → eS → Prop} (F : Fm σ) (hp : ∀ σ', post (-1 : Int32) σ') : w_X11_soonest σ post := by
  unfold w_X11_soonest
  intro σ1 e1
  have h4 : σ1.1 97 4 = 0 := by subst e1; exact F.2.1
  rw [h4]
  exact ⟨fun c => absurd c (by decide), fun _ => hp _⟩
theorem in10 {x : Int32} : ((if x.toInt64 < (1 : Int64) then (0 : Int32) else if ((((1 : Int32) <<< ((0 : Int32) &&& 31)) - (1 : Int32)).toInt64) < x.toInt64 then 0 else 1)) = 0 := by
  by_cases c : x.toInt64 < (1 : Int64)
  · rw [if_pos c]
  · have d : ((((1 : Int32) <<< ((0 : Int32) &&& 31)) - (1 : Int32)).toInt64) < x.toInt64 := by
      have e1 : ((((1 : Int32) <<< ((0 : Int32) &&& 31)) - (1 : Int32)).toInt64) = 0 := by decide
      rw [e1]
      simp only [Int64.lt_iff_toInt_lt] at *
      have e2 : (1 : Int64).toInt = 1 := by decide
      have e3 : (0 : Int64).toInt = 0 := by decide
      rw [e2] at c
      rw [e3]
      omega
    rw [if_neg c, if_pos d]
theorem m_isPlace {σ : eS} {x : Int32} {post : Int32 → eS → Prop} (hp : post (plB x) σ) : w_X11_isPlace σ x post := by
  unfold w_X11_isPlace
  refine m_in ?_
  have e : (if x.toInt64 < (0 : Int64) then (0 : Int32) else if (9 : Int64) < x.toInt64 then 0 else 1) = plB x := by
    unfold plB
    have e0 : (0 : Int64) = (0 : Int32).toInt64 := by decide
    have e9 : (9 : Int64) = (9 : Int32).toInt64 := by decide
    rw [e0, e9]
    simp only [i64_lt]
    have e3 : (9 : Int32) < x ↔ (10 : Int32) ≤ x := by
      simp only [Int32.lt_iff_toInt_lt, Int32.le_iff_toInt_le]
      have a1 : (9 : Int32).toInt = 9 := by decide
      have a2 : (10 : Int32).toInt = 10 := by decide
      rw [a1, a2]
      omega
    simp only [e3]
  refine ⟨nB_if, ?_⟩
  rw [e]
  exact hp
theorem mx_round {σ : eS} {x1 x2 x3 : Int32} {post : Int32 → eS → Prop} (F : Fm σ) (hp : ∀ σ', post (-1 : Int32) σ') : w_X11_round σ x1 x2 x3 post := by
  unfold w_X11_round
  intro σ1 e1
  have h7 : σ1.1 97 7 = 0 := by subst e1; exact F.2.2.2.1
  refine m_isPlace ⟨fun _ => hp _, fun _ => ?_⟩
  rw [h7]
  refine m_in ?_
  rw [in10]
  exact ⟨fun _ => hp _, fun c => absurd rfl c⟩
theorem mx_walk {σ : eS} {x1 x2 : Int32} {post : Int32 → eS → Prop} (F : Fm σ) (hp : ∀ σ', post (-1 : Int32) σ') : w_X11_walk σ x1 x2 post := by
  unfold w_X11_walk
  intro σ1 e1
  have h0 : σ1.1 97 0 = 0 := by subst e1; exact F.1
  refine m_isPlace ⟨fun _ => hp _, fun _ => ?_⟩
  rw [h0]
  refine m_in ?_
  rw [in10]
  exact ⟨fun _ => hp _, fun c => absurd rfl c⟩
theorem mx_meet {σ : eS} {x1 : Int32} {post : Int32 → eS → Prop} (F : Fm σ) (hp : ∀ σ', post (-1 : Int32) σ') : w_X11_meet σ x1 post := by
  unfold w_X11_meet
  intro σ1 e1
  have h7 : σ1.1 97 7 = 0 := by subst e1; exact F.2.2.2.1
  rw [h7]
  refine m_in ?_
  rw [in10]
  exact ⟨fun c => absurd rfl c, fun _ => hp _⟩
theorem mx_count {σ : eS} {x1 : Int32} {post : Int32 → eS → Prop} (F : Fm σ) (hp : ∀ σ', post (if x1 = 0 ∨ x1 = 1 ∨ x1 = 2 ∨ x1 = 3 ∨ x1 = 4 ∨ x1 = 5 then 0 else -1) σ') : w_X11_count σ x1 post := by
  unfold w_X11_count
  intro σ1 e1
  have F1 : Fm σ1 := by subst e1; exact F
  have h := hp σ1
  rw [F1.1, F1.2.1, F1.2.2.2.1, F1.2.2.2.2.1, F1.2.2.2.2.2.1, F1.2.2.2.2.2.2.1]
  refine ⟨fun c => ?_, fun c0 => ⟨fun c => ?_, fun c1 => ⟨fun c => ?_, fun c2 => ⟨fun c => ?_, fun c3 => ⟨fun c => ?_, fun c4 => ⟨fun c => ?_, fun c5 => ?_⟩⟩⟩⟩⟩⟩
  all_goals first | simpa [c] using h | simpa [c0, c1, c2, c3, c4, c5] using h
theorem mx_today {σ : eS} {post : Int64 → eS → Prop} (F : Fm σ) (hp : ∀ σ', post (0 : Int64) σ') : w_X11_today σ post := by
  unfold w_X11_today
  intro σ1 e1
  have F1 : Fm σ1 := by subst e1; exact F
  rw [F1.2.2.1]
  exact hp _
theorem m_lost {σ : eS} {post : Int32 → eS → Prop} (hp : ∀ σ', σ'.1 97 18 = 1 → post (0 : Int32) σ') : w_X11_lost σ post := by
  unfold w_X11_lost
  intro σ1 e1
  exact hp σ1 (by subst e1; rfl)
theorem mx_street {σ : eS} {x1 x2 : Int32} {post : Int32 → eS → Prop} (F : Fm σ) (hp : ∀ σ', σ'.1 97 18 = 1 → post (0 : Int32) σ') : w_X11_street σ x1 x2 post := by
  unfold w_X11_street
  intro σ1 e1
  subst e1
  exact m_isStreet F.th ⟨fun _ => m_lost hp, fun c => absurd rfl c⟩
theorem mx_late {σ : eS} {x1 x2 x3 : Int32} {post : Int32 → eS → Prop} (F : Fm σ) (hp : ∀ σ', σ'.1 97 18 = 1 → post (0 : Int32) σ') : w_X11_late σ x1 x2 x3 post := by
  unfold w_X11_late
  intro σ1 e1
  subst e1
  exact m_isLetter F.th ⟨fun _ => m_lost hp, fun c => absurd rfl c⟩
theorem mx_row {σ : eS} {x1 : Int32} {post : Int64 → eS → Prop} (F : Fm σ) (hp : ∀ σ', σ'.1 97 18 = 1 → post ((0 : Int32).toInt64) σ') : w_X11_row σ x1 post := by
  unfold w_X11_row
  intro σ1 e1
  have h17 : σ1.1 97 17 = 0 := by subst e1; exact F.2.2.2.2.2.2.1
  rw [h17]
  refine m_in ?_
  rw [i64_0]
  exact ⟨fun _ => m_lost hp, fun c => absurd rfl c⟩
theorem kx_street {σ : eS} {x1 x2 : Int32} {post : eS → Prop} (F : Fx σ) (hp : post σ) : w_X10_street σ x1 x2 post := by
  unfold w_X10_street
  first
  | exact k_isStreet F ⟨fun c => absurd rfl c, fun _ => hp⟩
  | exact k_isStreet F ⟨fun _ => hp, fun c => absurd rfl c⟩
theorem kx_late {σ : eS} {x1 x2 x3 : Int32} {post : eS → Prop} (F : Fx σ) (hp : post σ) : w_X10_late σ x1 x2 x3 post := by
  unfold w_X10_late
  exact k_isLetter F ⟨fun _ => hp, fun c => absurd rfl c⟩
theorem kx_row {σ : eS} {x1 : Int32} {post : eS → Prop} (F : Fx σ) (hp : post σ) : w_X10_row σ x1 post := by
  unfold w_X10_row
  rw [F.2.1]
  refine ⟨fun _ => hp, fun c => ⟨fun d => absurd d c, fun _ => hp⟩⟩
