/-! what the constructors leave -/
theorem c_stay {σ : eS} {post : eS → Prop} (h22 : σ.2.2 18 2 = 22) (hp : ∀ a : Nat → Nat → Int32, (∀ k, k < 22 ∨ 32 ≤ k → a k = σ.1 k) → (∀ i j, i < 10 → j < 10 → a (22 + i) j = if i = j then 0 else 999) → post (a, σ.2)) : w_X4_stayAway_c32 σ post := by
  unfold w_X4_stayAway_c32
  intro v1 e1
  subst e1
  refine pk_loop (fun n i s => b_X4_stayAway_c32_2 post n s (nI i)) (fun i s => MS σ s ∧ ∀ a b, a < i → b < 10 → s.1 (22 + a) b = if a = b then 0 else 999) 10 0 σ (by decide) ⟨MS.rf, fun a b h => absurd h (Nat.not_lt_zero a)⟩ (fun n s h => ?_) (fun n i s hi h ih => ?_)
  · rw [b_X4_stayAway_c32_2]
    refine ⟨fun _ => ?_, fun c => absurd (show (10 : Int32) ≤ nI 10 by decide) c⟩
    obtain ⟨s1, s2⟩ := s
    have e2 : s2 = σ.2 := h.1.2
    subst e2
    exact hp s1 h.1.1 h.2
  · rw [b_X4_stayAway_c32_2]
    refine ⟨fun c => absurd c (nI_n10 hi), fun _ v3 e3 => ?_⟩
    subst e3
    refine pk_loop (fun m j t => b_X4_stayAway_c32_10 post (fun s x1 => b_X4_stayAway_c32_2 post n s x1) m t (nI i) (nI j)) (fun j t => MS σ t ∧ ∀ a b, (a < i ∧ b < 10) ∨ (a = i ∧ b < j) → t.1 (22 + a) b = if a = b then 0 else 999) 10 0 s (by decide) ⟨h.1, fun a b q => h.2 a b (by omega) (by omega)⟩ (fun m t g => ?_) (fun m j t hj g jh => ?_)
    · rw [b_X4_stayAway_c32_10]
      refine ⟨fun _ v5 e5 => ?_, fun c => absurd (show (10 : Int32) ≤ nI 10 by decide) c⟩
      subst e5
      rw [nI_up]
      exact ih t ⟨g.1, fun a b ha hb => g.2 a b (by omega)⟩
    · rw [b_X4_stayAway_c32_10]
      have key : ∀ y0 : Int32, y0 = (if i = j then 0 else 999) → b_X4_stayAway_c32_35 post (fun s x1 => b_X4_stayAway_c32_2 post n s x1) (fun s x1 x2 => b_X4_stayAway_c32_10 post (fun s x1 => b_X4_stayAway_c32_2 post n s x1) m s x1 x2) t (nI i) (nI j) y0 (nI j) (22 + (nI i).toNatClampNeg) := by
        intro y0 hy
        unfold b_X4_stayAway_c32_35
        refine ⟨nI_in10 hj, fun σ9 e9 v10 e10 => ?_⟩
        subst e10; subst e9
        show b_X4_stayAway_c32_10 post (fun s x1 => b_X4_stayAway_c32_2 post n s x1) m _ (nI i) (nI j + 1)
        rw [nI_up]
        rw [nI_c (show i < 12 by omega), nI_c (show j < 12 by omega)]
        refine jh _ ⟨g.1.ui (by omega), fun a b q => ?_⟩
        by_cases z : a = i ∧ b = j
        · obtain ⟨rfl, rfl⟩ := z
          simp [e_ui, upd, hy]
        · have e : (e_ui t (22 + i) j y0).1 (22 + a) b = t.1 (22 + a) b := by
            by_cases za : a = i
            · subst za
              have zb : ¬ b = j := fun w => z ⟨rfl, w⟩
              simp [e_ui, upd, zb]
            · simp [e_ui, za]
          rw [e]
          exact g.2 a b (by omega)
      have h2 : t.2.2 18 2 = 22 := by rw [g.1.2]; exact h22
      refine ⟨fun c => absurd c (nI_n10 hj), fun _ => ⟨h2, nI_in10 hi, fun c => key 999 ?_, fun c => key 0 ?_⟩⟩
      · have : ¬ i = j := fun z => c (by rw [z])
        simp [this]
      · have : i = j := (nI_eq (by omega) (by omega)).mp c
        simp [this]
theorem c_mloop {σ : eS} {post : eS → Prop} (h5 : σ.2.2 97 5 = 102) (hp : ∀ a : Nat → Nat → Int32, (∀ k, k ≠ 101 → a k = σ.1 k) → post (a, σ.2)) : ∃ n : Nat, b_X11_init_229 post n σ (0 : Int32) := by
  refine pk_loop (fun n i s => b_X11_init_229 post n s (nI i)) (fun _ s => (∀ k, k ≠ 101 → s.1 k = σ.1 k) ∧ s.2 = σ.2) 84 0 σ (by decide) ⟨fun _ _ => rfl, rfl⟩ (fun n s h => ?_) (fun n i s hi h ih => ?_)
  · rw [b_X11_init_229]
    refine ⟨fun _ => ?_, fun c => absurd (show (84 : Int32) ≤ nI 84 by decide) c⟩
    obtain ⟨s1, s2⟩ := s
    have e2 : s2 = σ.2 := h.2
    subst e2
    exact hp s1 h.1
  · rw [b_X11_init_229]
    refine ⟨fun c => absurd c (nI_ge (a := i) (b := 84) hi (by decide)), fun _ => ⟨by rw [h.2]; exact h5, by decide, vp_in_nI hi (by decide), fun σ3 e3 v4 e4 => ?_⟩⟩
    subst e4
    rw [nI_up]
    refine ih σ3 ⟨fun k hk => ?_, ?_⟩
    · subst e3
      rw [← h.1 k hk]
      simp [e_ui, hk]
    · subst e3
      exact h.2
theorem ur22 (σ : eS) (k j v a b : Nat) : (e_ur σ k j v).2.2 a b = if a = k ∧ b = j then v else σ.2.2 a b := by
  unfold e_ur
  by_cases h : a = k
  · by_cases h2 : b = j
    · simp [h, h2]
    · simp [h, h2]
  · simp [h]
theorem ur1 (σ : eS) (k j v : Nat) : (e_ur σ k j v).1 = σ.1 := rfl
theorem ur21 (σ : eS) (k j v : Nat) : (e_ur σ k j v).2.1 = σ.2.1 := rfl
theorem ui2 (σ : eS) (k j : Nat) (v : Int32) : (e_ui σ k j v).2 = σ.2 := rfl
theorem ui1 (σ : eS) (k j a b : Nat) (v : Int32) : (e_ui σ k j v).1 a b = if a = k ∧ b = j then v else σ.1 a b := by
  unfold e_ui
  by_cases h : a = k
  · by_cases h2 : b = j
    · simp [h, h2, upd]
    · simp [h, h2, upd]
  · simp [h]
set_option maxHeartbeats 4000000 in
set_option maxRecDepth 100000 in
theorem p_init {Φ : eS → Prop} (hp : ∀ σ2, Fx σ2 → Fm σ2 → cF σ2 → Φ σ2) : w_X10_init gz (fun σ1 => w_X11_init σ1 Φ) := by
  simp only [w_X10_init, w_X7_init, w_X5_init, w_X1_init, w_X4_init, w_X0_init, w_X9_init, w_X6_init, w_X2_init, w_X3_init, w_X8_init, w_X1_init_v1, w_X1_init_v2, w_X11_init, forall_eq]
  refine c_stay rfl (fun a h1 h2 => ?_)
  have key : ∀ τ : eS, eZ τ 32 → (∀ k, 32 ≤ k → a k = τ.1 k) → eZ (a, τ.2) 32 := fun τ Z ha => ⟨fun k hk => ⟨(ha k hk).trans (Z.1 k hk).1, (Z.1 k hk).2⟩, Z.2⟩
  refine ⟨key _ ?_ (fun k hk => h1 k (Or.inr hk)), rfl, rfl, ?_⟩
  · exact (((((((((((((gz_Z.mono 32).ur (by decide) (by decide)).ur (by decide) (by decide)).ur (by decide) (by decide)).ur (by decide) (by decide)).ur (by decide) (by decide)).ur (by decide) (by decide)).ur (by decide) (by decide)).ur (by decide) (by decide)).ur (by decide) (by decide)).ur (by decide) (by decide)).ur (by decide) (by decide)).ur (by decide) (by decide)).ur (by decide) (by decide)
  · refine c_mloop rfl (fun a2 g1 => ?_)
    have z : ∀ k, 32 ≤ k → a k = fun _ => 0 := fun k hk => h1 k (Or.inr hk)
    have z5 : a 5 = fun _ => 0 := h1 5 (by decide)
    have z1 : a 1 = fun _ => 0 := h1 1 (by decide)
    have z3 : a 3 = fun _ => 0 := h1 3 (by decide)
    refine hp _ ?_ ?_ ?_
    · refine ⟨(by show a2 1 1 = _; rw [g1 1 (by decide)]; simp [ur1, ui1, z1]), (by show a2 3 1 = _; rw [g1 3 (by decide)]; simp [ur1, ui1, z3]), (by show a2 5 4 = _; rw [g1 5 (by decide)]; simp [ur1, ui1, z5]), (by show a2 5 5 = _; rw [g1 5 (by decide)]; simp [ur1, ui1, z5]), (by show a2 5 6 = _; rw [g1 5 (by decide)]; simp [ur1, ui1, z5]), (by simp [ur21, ui2, gz]), (by show a2 32 2 = _; rw [g1 32 (by decide)]; simp [ur1, ui1, z5]), (by show a2 32 3 = _; rw [g1 32 (by decide)]; simp [ur1, ui1, z5]), (by show a2 41 3 = _; rw [g1 41 (by decide)]; simp [ur1, ui1, z 41 (by decide)]), (by show a2 73 8 = _; rw [g1 73 (by decide)]; simp [ur1, ui1, z 73 (by decide)]), (by show a2 85 8 = _; rw [g1 85 (by decide)]; simp [ur1, ui1, z 85 (by decide)]), fun i j hi hj => ?_⟩
      show a2 (22 + i) j = _
      rw [g1 (22 + i) (by omega), ← h2 i j hi hj]
      have n1 : ¬ 22 + i = 97 := by omega
      have n2 : ¬ 22 + i = 32 := by omega
      simp [ur1, ui1, n1, n2]
    · exact ⟨(by show a2 97 0 = _; rw [g1 97 (by decide)]; simp [ur1, ui1, z 97 (by decide)]), (by show a2 97 4 = _; rw [g1 97 (by decide)]; simp [ur1, ui1, z 97 (by decide)]), (by simp [ur21, ui2, gz]), (by show a2 97 7 = _; rw [g1 97 (by decide)]; simp [ur1, ui1, z 97 (by decide)]), (by show a2 97 10 = _; rw [g1 97 (by decide)]; simp [ur1, ui1, z 97 (by decide)]), (by show a2 97 15 = _; rw [g1 97 (by decide)]; simp [ur1, ui1, z 97 (by decide)]), (by show a2 97 17 = _; rw [g1 97 (by decide)]; simp [ur1, ui1, z 97 (by decide)]), (by show a2 123 0 = _; rw [g1 123 (by decide)]; simp [ur1, ui1, z 123 (by decide)]), (by show a2 123 1 = _; rw [g1 123 (by decide)]; simp [ur1, ui1, z 123 (by decide)])⟩
    · unfold cF cF_0 cF_1 cF_3 cF_5 cF_17 cF_18 cF_32 cF_36 cF_41 cF_47 cF_55 cF_73 cF_85 cF_97
      refine ⟨⟨?_, ?_, ?_, ?_, ?_, ?_, ?_, ?_, ?_, ?_, ?_, ?_, ?_⟩, ?_, ?_, ⟨?_, ?_, ?_, ?_⟩, fun i => ?_, ⟨?_, ?_, ?_⟩, ⟨?_, ?_⟩, ⟨?_, ?_, ?_, ?_⟩, ⟨?_, ?_, ?_, ?_, ?_⟩, ?_, ⟨?_, ?_, ?_⟩, ⟨?_, ?_, ?_, ?_⟩, ⟨?_, ?_, ?_, ?_⟩, ⟨?_, ?_, ?_, ?_, ?_, ?_, ?_, ?_, ?_, ?_, ?_, ?_, ?_, ?_, ?_, ?_, ?_, ?_, ?_, ?_, ?_, ?_, ?_, ?_, ?_, ?_, ?_⟩⟩
      · simp [ur22, ui2, gz]
      · simp [ur22, ui2, gz]
      · simp [ur22, ui2, gz]
      · simp [ur22, ui2, gz]
      · simp [ur22, ui2, gz]
      · simp [ur22, ui2, gz]
      · simp [ur22, ui2, gz]
      · simp [ur22, ui2, gz]
      · simp [ur22, ui2, gz]
      · simp [ur22, ui2, gz]
      · simp [ur22, ui2, gz]
      · simp [ur22, ui2, gz]
      · simp [ur22, ui2, gz]
      · simp [ur22, ui2, gz]
      · simp [ur22, ui2, gz]
      · simp [ur22, ui2, gz]
      · simp [ur22, ui2, gz]
      · simp [ur22, ui2, gz]
      · simp [ur22, ui2, gz]
      · match i with
        | 0 => simp [ur22, ui2, gz]
        | 1 => simp [ur22, ui2, gz]
        | i + 2 => simp [ur22, ui2, gz]
      · simp [ur22, ui2, gz]
      · simp [ur22, ui2, gz]
      · simp [ur22, ui2, gz]
      · simp [ur22, ui2, gz]
      · simp [ur22, ui2, gz]
      · simp [ur22, ui2, gz]
      · simp [ur22, ui2, gz]
      · simp [ur22, ui2, gz]
      · simp [ur22, ui2, gz]
      · simp [ur22, ui2, gz]
      · simp [ur22, ui2, gz]
      · simp [ur22, ui2, gz]
      · simp [ur22, ui2, gz]
      · simp [ur22, ui2, gz]
      · simp [ur22, ui2, gz]
      · simp [ur22, ui2, gz]
      · simp [ur22, ui2, gz]
      · simp [ur22, ui2, gz]
      · simp [ur22, ui2, gz]
      · simp [ur22, ui2, gz]
      · simp [ur22, ui2, gz]
      · simp [ur22, ui2, gz]
      · simp [ur22, ui2, gz]
      · simp [ur22, ui2, gz]
      · simp [ur22, ui2, gz]
      · simp [ur22, ui2, gz]
      · simp [ur22, ui2, gz]
      · simp [ur22, ui2, gz]
      · simp [ur22, ui2, gz]
      · simp [ur22, ui2, gz]
      · simp [ur22, ui2, gz]
      · simp [ur22, ui2, gz]
      · simp [ur22, ui2, gz]
      · simp [ur22, ui2, gz]
      · simp [ur22, ui2, gz]
      · simp [ur22, ui2, gz]
      · simp [ur22, ui2, gz]
      · simp [ur22, ui2, gz]
      · simp [ur22, ui2, gz]
      · simp [ur22, ui2, gz]
      · simp [ur22, ui2, gz]
      · simp [ur22, ui2, gz]
      · simp [ur22, ui2, gz]
      · simp [ur22, ui2, gz]
      · simp [ur22, ui2, gz]
      · simp [ur22, ui2, gz]
      · simp [ur22, ui2, gz]
      · simp [ur22, ui2, gz]
      · simp [ur22, ui2, gz]
      · simp [ur22, ui2, gz]
      · simp [ur22, ui2, gz]
      · simp [ur22, ui2, gz]
      · simp [ur22, ui2, gz]
