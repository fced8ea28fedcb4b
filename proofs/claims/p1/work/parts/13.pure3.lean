/-! loops of the class -/
/-- what measuring the roads leaves alone: all but the rows 22 .. 31 -/
def MS (σ σ' : eS) : Prop := (∀ k, k < 22 ∨ 32 ≤ k → σ'.1 k = σ.1 k) ∧ σ'.2 = σ.2
theorem MS.rf {σ : eS} : MS σ σ := ⟨fun _ _ => rfl, rfl⟩
theorem MS.ui {σ τ : eS} {k j : Nat} {v : Int32} (h : MS σ τ) (hk : 22 ≤ k ∧ k < 32) : MS σ (e_ui τ k j v) := ⟨fun a ha => by simp [e_ui, show a ≠ k by omega, h.1 a ha], h.2⟩
theorem MS.tr {σ τ υ : eS} (h : MS σ τ) (h2 : MS τ υ) : MS σ υ := ⟨fun a ha => (h2.1 a ha).trans (h.1 a ha), h2.2.trans h.2⟩
theorem MS.rs {σ σ' : eS} (h : MS σ σ') : RS σ σ' := fun k hk => ⟨h.1 k (by omega), by rw [h.2], by rw [h.2]⟩
theorem k_stayAway {σ : eS} {post : eS → Prop} (hp : ∀ σ', MS σ σ' → post σ') : w_X4_stayAway σ post := by
  unfold w_X4_stayAway
  intro v1 e1
  subst e1
  refine pk_loop (fun n i s => b_X4_stayAway_2 post n s (nI i)) (fun _ s => MS σ s) 10 0 σ (by decide) MS.rf (fun n s h => ?_) (fun n i s hi h ih => ?_)
  · rw [b_X4_stayAway_2]
    exact ⟨fun _ => hp s h, fun c => absurd (show (10 : Int32) ≤ nI 10 by decide) c⟩
  · rw [b_X4_stayAway_2]
    refine ⟨fun c => absurd c (nI_n10 hi), fun _ v3 e3 => ?_⟩
    subst e3
    refine pk_loop (fun m j t => b_X4_stayAway_10 post (fun s x1 => b_X4_stayAway_2 post n s x1) m t (nI i) (nI j)) (fun _ t => MS σ t) 10 0 s (by decide) h (fun m t g => ?_) (fun m j t hj g jh => ?_)
    · rw [b_X4_stayAway_10]
      refine ⟨fun _ v5 e5 => ?_, fun c => absurd (show (10 : Int32) ≤ nI 10 by decide) c⟩
      subst e5
      rw [nI_up]
      exact ih t g
    · rw [b_X4_stayAway_10]
      have key : ∀ y0 : Int32, b_X4_stayAway_35 post (fun s x1 => b_X4_stayAway_2 post n s x1) (fun s x1 x2 => b_X4_stayAway_10 post (fun s x1 => b_X4_stayAway_2 post n s x1) m s x1 x2) t (nI i) (nI j) y0 (nI j) (22 + (nI i).toNatClampNeg) := by
        intro y0
        unfold b_X4_stayAway_35
        refine ⟨nI_in10 hj, fun σ9 e9 v10 e10 => ?_⟩
        subst e10; subst e9
        show b_X4_stayAway_10 post (fun s x1 => b_X4_stayAway_2 post n s x1) m _ (nI i) (nI j + 1)
        rw [nI_up]
        refine jh _ (g.ui ?_)
        rw [nI_c (by omega)]
        omega
      exact ⟨fun c => absurd c (nI_n10 hj), fun _ => ⟨nI_in10 hi, fun _ => key 999, fun _ => key 0⟩⟩
theorem k_shortenBy {σ : eS} {b : Nat} (hb : b < 10) {post : eS → Prop} (hp : ∀ σ', MS σ σ' → post σ') : w_X4_shortenBy σ (nI b) post := by
  unfold w_X4_shortenBy
  intro v1 e1
  subst e1
  refine pk_loop (fun n i s => b_X4_shortenBy_2 post n s (nI b) (nI i)) (fun _ s => MS σ s) 10 0 σ (by decide) MS.rf (fun n s h => ?_) (fun n i s hi h ih => ?_)
  · rw [b_X4_shortenBy_2]
    exact ⟨fun _ => hp s h, fun c => absurd (show (10 : Int32) ≤ nI 10 by decide) c⟩
  · rw [b_X4_shortenBy_2]
    refine ⟨fun c => absurd c (nI_n10 hi), fun _ v3 e3 => ?_⟩
    subst e3
    refine pk_loop (fun m j t => b_X4_shortenBy_10 post (fun s x1 x2 => b_X4_shortenBy_2 post n s x1 x2) m t (nI b) (nI i) (nI j)) (fun _ t => MS σ t) 10 0 s (by decide) h (fun m t g => ?_) (fun m j t hj g jh => ?_)
    · rw [b_X4_shortenBy_10]
      refine ⟨fun _ v5 e5 => ?_, fun c => absurd (show (10 : Int32) ≤ nI 10 by decide) c⟩
      subst e5
      rw [nI_up]
      exact ih t g
    · rw [b_X4_shortenBy_10]
      refine ⟨fun c => absurd c (nI_n10 hj), fun _ => ⟨nI_in10 hi, nI_in10 hi, nI_in10 hj, nI_in10 hi, nI_in10 hb, nI_in10 hb, nI_in10 hj, nI_in10 hj, fun σ14 e14 v15 e15 => ?_⟩⟩
      subst e15; subst e14
      rw [nI_up]
      refine jh _ (g.ui ?_)
      rw [nI_c (by omega)]
      omega
theorem k_measure {σ : eS} {post : eS → Prop} (h0 : σ.1 5 4 = 0) (hp : ∀ σ', MS σ σ' → post σ') : w_X4_measure σ post := by
  unfold w_X4_measure
  refine k_stayAway (fun σ1 h1 v2 e2 => ⟨1, ?_⟩)
  subst e2
  rw [b_X4_measure_6, h1.1 5 (by decide), h0]
  refine ⟨fun _ v4 e4 => ?_, fun c => absurd (by decide) c⟩
  subst e4
  refine pk_loop (fun n i s => b_X4_measure_79 post n s (nI i)) (fun _ s => MS σ s) 10 0 σ1 (by decide) h1 (fun n s h => ?_) (fun n i s hi h ih => ?_)
  · rw [b_X4_measure_79]
    exact ⟨fun _ => hp s h, fun c => absurd (show (10 : Int32) ≤ nI 10 by decide) c⟩
  · rw [b_X4_measure_79]
    refine ⟨fun c => absurd c (nI_n10 hi), fun _ => k_shortenBy hi (fun σ6 h6 v7 e7 => ?_)⟩
    subst e7
    rw [nI_up]
    exact ih σ6 (h.tr h6)
def shR (x1 x2 : Int32) : Int32 := if x1 < 0 then -1 else if 3 < x1 then -1 else if x2 ≤ 12 then (if 3 ≤ x1 then -3 else if 0 ≤ x2 then 0 else -2) else -1
theorem kx_sheet {σ : eS} {x1 x2 x3 x4 : Int32} {post : Int32 → eS → Prop} (F : Fx σ) (hp : ∀ σ', RS σ σ' → post (shR x1 x2) σ') : w_X10_sheet σ x1 x2 x3 x4 post := by
  unfold w_X10_sheet
  unfold shR at hp
  have h0 := hp σ RS.rf
  have key : ∀ y0 : Int32, (∀ σ', RS σ σ' → (¬ x1 = 3 → post 0 σ') ∧ (x1 = 3 → post (-3) σ')) → b_X10_sheet_39 post σ x1 x3 x4 y0 := by
    intro y0 hq
    unfold b_X10_sheet_39
    intro v6 e6 v7 e7
    subst e6; subst e7
    refine ⟨1, ?_⟩
    rw [b_X10_sheet_47, F.2.2.1]
    refine ⟨fun _ => k_measure F.2.2.1 (fun σ9 h9 => hq σ9 h9.rs), fun c => absurd (by decide) c⟩
  refine ⟨fun c => by simpa [c] using h0, fun c => ⟨fun d => by simpa [c, d] using h0, fun d => ⟨fun g => ⟨fun k => ?_, fun k => ⟨fun q => ?_, fun q => by simpa [c, d, g, k, q] using h0⟩⟩, fun g => by simpa [c, d, g] using h0⟩⟩⟩
  · have e3 : x1 = 3 := by
      simp only [Int32.le_iff_toInt_le, Int32.lt_iff_toInt_lt, ← Int32.toInt_inj] at *
      omega
    unfold b_X10_sheet_29
    refine ⟨fun _ => key 0 (fun σ' r => ⟨fun q => absurd e3 q, fun _ => by simpa [c, d, g, k] using hp σ' r⟩), fun q => absurd k q⟩
  · have e3 : ¬ x1 = 3 := by
      intro q
      apply k
      rw [q]
      decide
    unfold b_X10_sheet_29
    exact ⟨fun z => absurd z k, fun _ => key x2 (fun σ' r => ⟨fun _ => by simpa [c, d, g, k, q] using hp σ' r, fun z => absurd z e3⟩)⟩
def plB (x : Int32) : Int32 := if x < 0 then 0 else if 10 ≤ x then 0 else 1
theorem k_isPlace {σ : eS} {x : Int32} {post : Int32 → eS → Prop} (hp : post (plB x) σ) : w_X10_isPlace σ x post := by
  unfold w_X10_isPlace
  unfold plB at hp
  refine ⟨fun c => ⟨rfl, by simpa [c] using hp⟩, fun c => ⟨fun d => ⟨rfl, by simpa [c, d] using hp⟩, fun d => ⟨rfl, by simpa [c, d] using hp⟩⟩⟩
theorem pl_of {x : Int32} (h : ¬ plB x = 0) : ∃ i : Nat, i < 10 ∧ x = nI i := by
  unfold plB at h
  by_cases c : x < 0
  · simp [c] at h
  · by_cases d : (10 : Int32) ≤ x
    · simp [c, d] at h
    · have hin : vp_in x 10 := by
        rw [vp_in_iff]
        simp only [Int32.le_iff_toInt_le, Int32.lt_iff_toInt_lt] at *
        have e0 : (0 : Int32).toInt = 0 := by decide
        have e1 : (10 : Int32).toInt = 10 := by decide
        rw [e0] at c
        rw [e1] at d
        omega
      exact vp_in_of hin (by decide)
def farR (x1 x2 : Int32) : Int32 := if plB x1 = 0 then -1 else if plB x2 = 0 then -1 else if x1 = x2 then 0 else 999
theorem kx_far {σ : eS} {x1 x2 : Int32} {post : Int32 → eS → Prop} (F : Fx σ) (hp : ∀ σ', RS σ σ' → post (farR x1 x2) σ') : w_X10_far σ x1 x2 post := by
  unfold w_X10_far
  unfold farR at hp
  have h0 := hp σ RS.rf
  refine k_isPlace ⟨fun c => by simpa [c] using h0, fun c => k_isPlace ⟨fun d => ?_, fun d => by simpa [c, d] using h0⟩⟩
  obtain ⟨i, hi, rfl⟩ := pl_of c
  obtain ⟨j, hj, rfl⟩ := pl_of d
  unfold w_X4_between
  refine ⟨nI_in10 hi, nI_in10 hj, ?_⟩
  rw [nI_c (by omega), nI_c (by omega), F.2.2.2.2.2.2.2.2.2.2.2 i j hi hj]
  by_cases q : i = j
  · subst q
    simpa [c, d] using h0
  · have q2 : ¬ nI i = nI j := fun z => q ((nI_eq (by omega) (by omega)).mp z)
    simpa [c, d, q, q2] using h0
theorem kx_mends {σ : eS} {x1 : Int64} {post : Int32 → eS → Prop} (F : Fx σ) (hp : ∀ σ', RS σ σ' → post (if dayB x1 = 0 then -1 else 0) σ') : w_X10_mends σ x1 post := by
  unfold w_X10_mends
  refine k_isDay ⟨fun c v4 e4 => ⟨1, ?_⟩, fun c => by simpa [c] using hp σ RS.rf⟩
  subst e4
  rw [b_X10_mends_11, F.2.2.1]
  refine ⟨fun _ v6 e6 v7 e7 v8 e8 => ⟨1, ?_⟩, fun q => absurd (by decide) q⟩
  subst e6; subst e7; subst e8
  rw [b_X10_mends_65]
  refine ⟨fun _ => ?_, fun q => absurd (by decide) q⟩
  unfold w_X5_clear
  intro σ1 e1
  refine ⟨fun _ => ?_, fun q => absurd (by decide) q⟩
  subst e1
  have := hp _ (RS.rf.ui (k := 3) (j := 1) (v := 0) (by decide))
  simpa [c] using this
theorem kx_walk {σ : eS} {x1 x2 : Int32} {post : Int32 → eS → Prop} (F : Fx σ) (hp : ∀ σ', RS σ σ' → post (-1 : Int32) σ') : w_X10_walk σ x1 x2 post := by
  unfold w_X10_walk
  refine k_isPlace ⟨fun _ => hp σ RS.rf, fun _ => ?_⟩
  rw [F.2.2.1]
  exact k_isChoice ⟨fun c => absurd rfl c, fun _ => hp σ RS.rf⟩
/-- the council of a town without streets -/
def CS (σ σ' : eS) : Prop := (∀ k, k ≠ 41 ∧ k ≠ 45 ∧ k ≠ 46 → σ'.1 k = σ.1 k) ∧ σ'.2 = σ.2 ∧ σ'.1 41 3 = σ.1 41 3
theorem CS.rs {σ σ' : eS} (h : CS σ σ') : RS σ σ' := fun k hk => ⟨h.1 k (by omega), by rw [h.2.1], by rw [h.2.1]⟩
theorem k_startWays {σ : eS} {post : eS → Prop} (hp : ∀ σ', CS σ σ' → σ'.1 41 5 = 0 → σ'.1 41 7 = 0 → post σ') : w_X2_startWays σ (0 : Int32) post := by
  unfold w_X2_startWays
  intro σ1 e1 σ2 e2 v3 e3
  subst e3
  have h5 : σ2.1 41 5 = 0 := by subst e2; subst e1; rfl
  refine ⟨1, ?_⟩
  rw [b_X2_startWays_20, h5]
  refine ⟨fun _ => hp σ2 ?_ h5 ?_, fun c => absurd (by decide) c⟩
  · subst e2; subst e1
    refine ⟨fun k hk => ?_, rfl, rfl⟩
    simp [e_ui, hk.1]
  · subst e2; rfl
theorem k_keptByWay {σ : eS} {post : Int32 → eS → Prop} (h3 : σ.1 41 3 = 0) (hp : post (0 : Int32) σ) : w_X2_keptByWay σ post := by
  unfold w_X2_keptByWay
  intro v1 e1 v2 e2
  subst e1; subst e2
  refine ⟨1, ?_⟩
  rw [b_X2_keptByWay_4, h3]
  exact ⟨fun _ => hp, fun c => absurd (by decide) c⟩
theorem k_advance {σ : eS} {post : Int32 → eS → Prop} (h5 : σ.1 41 5 = 0) (hp : post (0 : Int32) σ) : w_X2_advance σ post := by
  unfold w_X2_advance
  intro v1 e1
  rw [h5] at e1
  subst e1
  refine ⟨1, ?_⟩
  rw [b_X2_advance_7]
  refine ⟨fun _ => ?_, fun c => absurd (by decide) c⟩
  unfold b_X2_advance_34
  exact ⟨fun c => absurd c (by decide), fun _ => ⟨rfl, hp⟩⟩
theorem k_ordersKeeping0 {σ : eS} {post : Int32 → eS → Prop} (h3 : σ.1 41 3 = 0) (hp : ∀ σ', CS σ σ' → σ'.1 41 7 = 0 → post (1 : Int32) σ') : w_X2_ordersKeeping σ (0 : Int32) (0 : Int32) post := by
  unfold w_X2_ordersKeeping
  intro v1 e1
  subst e1
  refine k_startWays (fun σ2 c2 h5 h7 v3 e3 => ⟨1, ?_⟩)
  subst e3
  have h32 : σ2.1 41 3 = 0 := c2.2.2.trans h3
  rw [b_X2_ordersKeeping_10]
  refine ⟨fun c => absurd c (by decide), fun _ => k_keptByWay h32 ⟨fun c => absurd (by decide) c, fun _ v12 e12 => ?_⟩⟩
  subst e12
  unfold w_X2_noteFound
  refine ⟨fun c => absurd (by decide) c, fun _ => ⟨by decide, by decide, by rw [h5]; decide, by rw [h5]; decide, by rw [h5]; decide, fun σ7 e7 σ8 e8 => ?_⟩⟩
  have h58 : σ8.1 41 5 = 0 := by subst e8; subst e7; exact h5
  unfold b_X2_ordersKeeping_36
  refine k_advance h58 ⟨fun c => absurd rfl c, fun _ => hp σ8 ?_ ?_⟩
  · subst e8; subst e7
    refine ⟨fun k hk => ?_, c2.2.1, c2.2.2⟩
    rw [← c2.1 k hk]
    simp [e_ui, e_ua, hk.1, hk.2.2]
  · subst e8; subst e7; exact h5
def chR (x1 : Int32) : Int32 := if x1 = 0 then 1 else -1
theorem k_chooseOrder {σ : eS} {x1 : Int32} {post : Int32 → eS → Prop} (F : Fx σ) (h1 : x1 = 0 → ∀ σ', CS σ σ' → σ'.1 41 7 = 0 → post (1 : Int32) σ') (h0 : ¬ x1 = 0 → post (-1 : Int32) σ) : w_X10_chooseOrder σ x1 post := by
  unfold w_X10_chooseOrder
  rw [F.2.2.2.2.2.2.2.2.1, ush0, F.2.2.1]
  by_cases c0 : x1 = 0
  · subst c0
    refine ⟨fun c => absurd c (by decide), fun _ => ⟨fun _ => ⟨fun _ => ?_, fun c => absurd (by decide) c⟩, fun c => absurd rfl c⟩⟩
    exact k_ordersKeeping0 F.2.2.2.2.2.2.2.2.1 (fun σ' c h7 => h1 rfl σ' c h7)
  · exact ⟨fun _ => h0 c0, fun _ => ⟨fun c => absurd c c0, fun _ => h0 c0⟩⟩
theorem kx_choose {σ : eS} {x1 : Int32} {post : Int32 → eS → Prop} (F : Fx σ) (hp : ∀ σ', RS σ σ' → post (chR x1) σ') : w_X10_choose σ x1 post := by
  unfold w_X10_choose
  unfold chR at hp
  refine k_chooseOrder F (fun c σ' hc h7 => ⟨fun q => absurd q (by decide), fun _ => ?_⟩) (fun c => ⟨fun _ => by simpa [c] using hp σ RS.rf, fun q => absurd (by decide) q⟩)
  unfold w_X10_tellFound w_X5_clear
  intro σ1 e1 v2 e2
  subst e2
  refine ⟨1, ?_⟩
  have h71 : σ1.1 41 7 = 0 := by subst e1; exact h7
  rw [b_X10_tellFound_9, h71]
  refine ⟨fun _ => ?_, fun q => absurd (by decide) q⟩
  have := hp σ1 (by subst e1; exact hc.rs.ui (by decide))
  simpa [c] using this
theorem kx_proof {σ : eS} {post : Int32 → eS → Prop} (F : Fx σ) (hp : ∀ σ', RS σ σ' → post (0 : Int32) σ') : w_X10_proof σ post := by
  unfold w_X10_proof
  rw [F.2.2.1]
  refine ⟨fun _ => ?_, fun c => absurd (by decide) c⟩
  unfold w_X2_fewestTogether
  intro v1 e1
  subst e1
  refine k_startWays (fun σ2 c2 h5 h7 v3 e3 => ⟨1, ?_⟩)
  subst e3
  have h32 : σ2.1 41 3 = 0 := c2.2.2.trans F.2.2.2.2.2.2.2.2.1
  rw [b_X2_fewestTogether_10]
  refine ⟨fun c => absurd c (by decide), fun _ => k_keptByWay h32 (fun v19 e19 => k_advance h5 ⟨fun c => absurd rfl c, fun _ => ?_⟩)⟩
  unfold b_X2_fewestTogether_43
  intro v5 e5 v6 e6
  subst e5; subst e6
  refine ⟨1, ?_⟩
  rw [b_X2_fewestTogether_49, h32]
  refine ⟨fun _ => ⟨fun _ => ?_, fun c => absurd rfl c⟩, fun c => absurd (by decide) c⟩
  unfold b_X10_proof_43
  exact k_bit0 (hp σ2 c2.rs)
theorem k_ownNames {σ : eS} {post : Int64 → eS → Prop} (hp : post (0 : Int64) σ) : w_X0_ownNames σ (0 : Int32) post := by
  unfold w_X0_ownNames
  intro v1 e1 v2 e2
  subst e1; subst e2
  refine ⟨1, ?_⟩
  rw [b_X0_ownNames_4]
  exact ⟨fun _ => hp, fun c => absurd (by decide) c⟩
theorem k_reckon {σ : eS} {post : eS → Prop} (h0 : σ.1 5 4 = 0) (hp : ∀ σ', RS σ σ' → post σ') : w_X0_reckon σ post := by
  unfold w_X0_reckon
  rw [h0]
  refine k_ownNames ⟨by unfold vp_in; decide, fun σ4 e4 => ⟨by unfold vp_in; decide, fun σ6 e6 σ7 e7 => ?_⟩⟩
  have h7 : σ7.1 5 4 = 0 := by subst e7; subst e6; subst e4; exact h0
  have r7 : RS σ σ7 := by subst e7; subst e6; subst e4; exact ((RS.rf.ul (by decide)).ul (by decide)).ui (by decide)
  unfold w_X0_firstOwnDay
  rw [h7]
  refine ⟨fun _ σ10 e10 => ?_, fun c => absurd (by decide) c⟩
  have h10 : σ10.1 5 4 = 0 := by subst e10; exact h7
  rw [h10]
  exact ⟨fun _ => hp σ10 (by subst e10; exact r7.ui (by decide)), fun c => absurd (by decide) c⟩
theorem k_stayAll0 {σ : eS} {post : eS → Prop} (hp : ∀ σ', RS σ σ' → (∀ k, k ≠ 7 → σ'.1 k = σ.1 k) → post σ') : w_X1_stayAll σ (0 : Int32) post := by
  unfold w_X1_stayAll
  intro v1 e1
  subst e1
  refine pk_loop (fun n i s => b_X1_stayAll_2 post n s 0 (nI i)) (fun _ s => RS σ s ∧ ∀ k, k ≠ 7 → s.1 k = σ.1 k) 12 0 σ (by decide) ⟨RS.rf, fun _ _ => rfl⟩ (fun n s h => ?_) (fun n i s hi h ih => ?_)
  · rw [b_X1_stayAll_2]
    exact ⟨fun _ => hp s h.1 h.2, fun c => absurd (show (12 : Int32) ≤ nI 12 by decide) c⟩
  · rw [b_X1_stayAll_2]
    refine ⟨fun c => absurd c (nI_n12 hi), fun _ => ⟨by unfold vp_in; decide, nI_in12 hi, fun σ5 e5 v6 e6 => ?_⟩⟩
    subst e6; subst e5
    rw [nI_up]
    refine ih _ ⟨h.1.ui (by decide), fun k hk => ?_⟩
    rw [← h.2 k hk]
    have hk2 : k ≠ 7 + (0 : Int32).toNatClampNeg := hk
    simp [e_ui, hk, hk2]
theorem kx_decree {σ : eS} {x1 : Int32} {post : Int32 → eS → Prop} (F : Fx σ) (hp : ∀ σ', RS σ σ' → post (chR x1) σ') : w_X10_decree σ x1 post := by
  unfold w_X10_decree
  unfold chR at hp
  refine k_chooseOrder F (fun c σ' hc h7 => ⟨fun q => absurd q (by decide), fun _ σ4 e4 => ?_⟩) (fun c => ⟨fun _ => by simpa [c] using hp σ RS.rf, fun q => absurd (by decide) q⟩)
  refine k_stayAll0 (fun σ5 r5 h5 => ?_)
  have h75 : σ5.1 41 7 = 0 := by
    rw [h5 41 (by decide)]
    subst e4
    exact h7
  refine ⟨by unfold vp_in; decide, by decide, by decide, by rw [h75]; decide, by rw [h75]; decide, by rw [h75]; decide, fun σ12 e12 σ13 e13 => ?_⟩
  have h54 : σ13.1 5 4 = 0 := by
    subst e13; subst e12
    show σ5.1 5 4 = 0
    rw [h5 5 (by decide)]
    subst e4
    show σ'.1 5 4 = 0
    rw [hc.1 5 (by decide)]
    exact F.2.2.1
  have r13 : RS σ σ13 := by
    subst e13; subst e12
    refine RS.ul (RS.ua ?_ (by decide)) (by decide)
    refine RS.tr ?_ r5
    subst e4
    exact hc.rs.ui (by decide)
  unfold w_X10_reckonAnew
  refine k_measure h54 (fun σ1 h1 => k_reckon ?_ (fun σ2 h2 => ?_))
  · rw [h1.1 5 (by decide)]; exact h54
  · have := hp σ2 ((r13.tr h1.rs).tr h2)
    simpa [c] using this
