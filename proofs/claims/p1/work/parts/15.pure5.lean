/-! loops of the reference -/
theorem ix10 {i j : Nat} (hi : i < 10) (hj : j < 10) : (10 : Int32) * nI i + nI j = nI (10 * i + j) := by
  show nI 10 * nI i + nI j = _
  rw [pk_mul, nI_add]
theorem ix10c {i j : Nat} (hi : i < 10) (hj : j < 10) : ((10 : Int32) * nI i + nI j).toNatClampNeg = 10 * i + j := by
  rw [ix10 hi hj, nI_clamp (by omega)]
theorem ix10in {i j : Nat} (hi : i < 10) (hj : j < 10) : vp_in ((10 : Int32) * nI i + nI j) 100 := by
  rw [ix10 hi hj]
  exact vp_in_nI (by omega) (by decide)
def Mt (σ : eS) (P : Nat → Nat → Prop) : Prop := ∀ a b, a < 10 → b < 10 → P a b → σ.1 109 (10 * a + b) = if a = b then 0 else 999
theorem m_findFar {σ : eS} {post : eS → Prop} (F : Fm σ) (hp : ∀ σ', Mt σ' (fun _ _ => True) → post σ') : w_X11_findFar σ post := by
  unfold w_X11_findFar
  intro v1 e1
  subst e1
  refine pk_loop (fun n i s => b_X11_findFar_2 post n s (nI i)) (fun i s => Fm s ∧ Mt s (fun a _ => a < i)) 10 0 σ (by decide) ⟨F, fun a b _ _ h => absurd h (Nat.not_lt_zero a)⟩ (fun n s h => ?_) (fun n i s hi h ih => ?_)
  · rw [b_X11_findFar_2]
    refine ⟨fun _ v3 e3 => ⟨1, ?_⟩, fun c => absurd (show (10 : Int32) ≤ nI 10 by decide) c⟩
    subst e3
    rw [b_X11_findFar_53, h.1.1]
    refine ⟨fun _ v5 e5 => ?_, fun c => absurd (by decide) c⟩
    subst e5
    have M0 : Mt s (fun _ _ => True) := fun a b ha hb _ => h.2 a b ha hb ha
    refine pk_loop (fun n i s => b_X11_findFar_136 post n s (nI i)) (fun _ s => Mt s (fun _ _ => True)) 10 0 s (by decide) M0 (fun n s h => ?_) (fun n m s hm h ih => ?_)
    · rw [b_X11_findFar_136]
      exact ⟨fun _ => hp s h, fun c => absurd (show (10 : Int32) ≤ nI 10 by decide) c⟩
    · rw [b_X11_findFar_136]
      refine ⟨fun c => absurd c (nI_n10 hm), fun _ v7 e7 => ?_⟩
      subst e7
      refine pk_loop (fun q a t => b_X11_findFar_144 post (fun s x1 => b_X11_findFar_136 post n s x1) q t (nI m) (nI a)) (fun _ t => Mt t (fun _ _ => True)) 10 0 s (by decide) h (fun q t g => ?_) (fun q a t ha g ah => ?_)
      · rw [b_X11_findFar_144]
        refine ⟨fun _ v9 e9 => ?_, fun c => absurd (show (10 : Int32) ≤ nI 10 by decide) c⟩
        subst e9
        rw [nI_up]
        exact ih t g
      · rw [b_X11_findFar_144]
        refine ⟨fun c => absurd c (nI_n10 ha), fun _ v10 e10 => ?_⟩
        subst e10
        refine pk_loop (fun w b u => b_X11_findFar_152 post (fun s x1 => b_X11_findFar_136 post n s x1) (fun s x1 x2 => b_X11_findFar_144 post (fun s x1 => b_X11_findFar_136 post n s x1) q s x1 x2) w u (nI m) (nI a) (nI b)) (fun _ u => Mt u (fun _ _ => True)) 10 0 t (by decide) g (fun w u k => ?_) (fun w b u hb k bh => ?_)
        · rw [b_X11_findFar_152]
          refine ⟨fun _ v12 e12 => ?_, fun c => absurd (show (10 : Int32) ≤ nI 10 by decide) c⟩
          subst e12
          rw [nI_up]
          exact ah u k
        · rw [b_X11_findFar_152]
          refine ⟨fun c => absurd c (nI_n10 hb), fun _ => ⟨ix10in ha hm, ix10in hm hb, fun v15 e15 => ⟨ix10in ha hb, fun _ => ?_, fun c => absurd ?_ c⟩⟩⟩
          · unfold b_X11_findFar_212
            intro v18 e18
            subst e18
            show b_X11_findFar_152 post _ _ w u (nI m) (nI a) (nI b + 1)
            rw [nI_up]
            exact bh u k
          · rw [e15, ix10c ha hb, ix10c ha hm, ix10c hm hb, k a b ha hb trivial, k a m ha hm trivial, k m b hm hb trivial]
            by_cases q1 : a = b
            · subst q1
              by_cases q2 : a = m
              · subst q2; simp
              · have q3 : ¬ m = a := fun z => q2 z.symm
                simp only [q2, q3, if_true, if_false]
                decide
            · by_cases q2 : a = m
              · subst q2
                simp [q1]
              · by_cases q3 : m = b
                · subst q3; simp [q2]
                · simp only [q1, q2, q3, if_false]
                  decide
  · rw [b_X11_findFar_2]
    refine ⟨fun c => absurd c (nI_n10 hi), fun _ v39 e39 => ?_⟩
    subst e39
    refine pk_loop (fun m j t => b_X11_findFar_10 post (fun s x1 => b_X11_findFar_2 post n s x1) m t (nI i) (nI j)) (fun j t => Fm t ∧ Mt t (fun a b => a < i ∨ (a = i ∧ b < j))) 10 0 s (by decide) ⟨h.1, fun a b ha hb q => h.2 a b ha hb (by omega)⟩ (fun m t g => ?_) (fun m j t hj g jh => ?_)
    · rw [b_X11_findFar_10]
      refine ⟨fun _ v41 e41 => ?_, fun c => absurd (show (10 : Int32) ≤ nI 10 by decide) c⟩
      subst e41
      rw [nI_up]
      exact ih t ⟨g.1, fun a b ha hb q => g.2 a b ha hb (by omega)⟩
    · rw [b_X11_findFar_10]
      have key : ∀ y0 : Int32, y0 = (if i = j then 0 else 999) → b_X11_findFar_38 post (fun s x1 => b_X11_findFar_2 post n s x1) (fun s x1 x2 => b_X11_findFar_10 post (fun s x1 => b_X11_findFar_2 post n s x1) m s x1 x2) t (nI i) (nI j) y0 ((10 : Int32) * nI i + nI j) := by
        intro y0 hy
        unfold b_X11_findFar_38
        refine ⟨ix10in hi hj, fun σ44 e44 v45 e45 => ?_⟩
        subst e45
        show b_X11_findFar_10 post (fun s x1 => b_X11_findFar_2 post n s x1) m _ (nI i) (nI j + 1)
        rw [nI_up]
        refine jh _ ⟨?_, fun a b ha hb q => ?_⟩
        · subst e44
          exact g.1
        · subst e44
          rw [ix10c hi hj]
          by_cases z : 10 * a + b = 10 * i + j
          · have za : a = i := by omega
            have zb : b = j := by omega
            subst za; subst zb
            simp [e_ui, upd, hy]
          · have : (e_ui t 109 (10 * i + j) y0).1 109 (10 * a + b) = t.1 109 (10 * a + b) := by simp [e_ui, upd, z]
            rw [this]
            exact g.2 a b ha hb (by omega)
      refine ⟨fun c => absurd c (nI_n10 hj), fun _ => ⟨fun c => key 999 ?_, fun c => key 0 ?_⟩⟩
      · have : ¬ i = j := fun z => c (by rw [z])
        simp [this]
      · have : i = j := (nI_eq (by omega) (by omega)).mp c
        simp [this]
theorem mx_far {σ : eS} {x1 x2 : Int32} {post : Int32 → eS → Prop} (F : Fm σ) (hp : ∀ σ', post (farR x1 x2) σ') : w_X11_far σ x1 x2 post := by
  unfold w_X11_far
  unfold farR at hp
  intro σ1 e1
  have F1 : Fm σ1 := by subst e1; exact F
  refine m_isPlace ⟨fun c => by simpa [c] using hp σ1, fun c => m_isPlace ⟨fun d => ?_, fun d => by simpa [c, d] using hp σ1⟩⟩
  refine m_findFar F1 (fun σ8 M => ?_)
  obtain ⟨i, hi, rfl⟩ := pl_of c
  obtain ⟨j, hj, rfl⟩ := pl_of d
  refine ⟨ix10in hi hj, ?_⟩
  rw [ix10c hi hj, M i j hi hj trivial]
  by_cases q : i = j
  · subst q
    simpa [c, d] using hp σ8
  · have q2 : ¬ nI i = nI j := fun z => q ((nI_eq (by omega) (by omega)).mp z)
    simpa [c, d, q, q2] using hp σ8
theorem mx_sheet {σ : eS} {x1 x2 x3 x4 : Int32} {post : Int32 → eS → Prop} (F : Fm σ) (hp : ∀ σ', post (shR x1 x2) σ') : w_X11_sheet σ x1 x2 x3 x4 post := by
  unfold w_X11_sheet
  unfold shR at hp
  intro σ1 e1
  have F1 : Fm σ1 := by subst e1; exact F
  refine m_in ?_
  have e0 : (0 : Int64) = (0 : Int32).toInt64 := by decide
  have e3 : (3 : Int64) = (3 : Int32).toInt64 := by decide
  rw [e0, e3]
  simp only [i64_lt]
  have key : (∀ σ', (¬ x1 = 3 → post 0 σ') ∧ (x1 = 3 → post (-3) σ')) → b_X11_sheet_37 post σ1 x1 x2 x3 x4 := by
    intro hq
    unfold b_X11_sheet_37
    intro v7 e7 v8 e8
    subst e7; subst e8
    refine ⟨1, ?_⟩
    rw [b_X11_sheet_46, F1.1]
    exact ⟨fun _ => hq σ1, fun c => absurd (by decide) c⟩
  by_cases c : x1 < 0
  · rw [if_pos c]
    exact ⟨fun _ => by simpa [c] using hp σ1, fun q => absurd rfl q⟩
  · by_cases d : (3 : Int32) < x1
    · rw [if_neg c, if_pos d]
      exact ⟨fun _ => by simpa [c, d] using hp σ1, fun q => absurd rfl q⟩
    · rw [if_neg c, if_neg d]
      refine ⟨fun q => absurd q (by decide), fun _ => ⟨fun g => ⟨fun k => key (fun σ' => ?_), fun k => ⟨fun q => key (fun σ' => ?_), fun q => by simpa [c, d, g, k, q] using hp σ1⟩⟩, fun g => by simpa [c, d, g] using hp σ1⟩⟩
      · have e3 : x1 = 3 := by
          simp only [Int32.le_iff_toInt_le, Int32.lt_iff_toInt_lt, ← Int32.toInt_inj] at *
          omega
        exact ⟨fun q => absurd e3 q, fun _ => by simpa [c, d, g, k] using hp σ'⟩
      · have e3 : ¬ x1 = 3 := by
          intro z
          apply k
          rw [z]
          decide
        exact ⟨fun _ => by simpa [c, d, g, k, q] using hp σ', fun z => absurd z e3⟩
theorem mx_mends {σ : eS} {x1 : Int64} {post : Int32 → eS → Prop} (F : Fm σ) (hp : ∀ σ', post (if dayB x1 = 0 then -1 else 0) σ') : w_X11_mends σ x1 post := by
  unfold w_X11_mends
  intro σ1 e1
  have F1 : Fm σ1 := by subst e1; exact F
  refine m_isDay ⟨fun c => m_layOut F1 (fun σ5 F5 _ v6 e6 v7 e7 => ⟨1, ?_⟩), fun c => by simpa [c] using hp σ1⟩
  rw [F5.1] at e7
  subst e6; subst e7
  rw [b_X11_mends_29]
  refine ⟨fun _ σ9 e9 => ⟨fun _ => ?_, fun q => absurd rfl q⟩, fun q => absurd (by decide) q⟩
  have F9 : σ9.1 97 0 = 0 := by subst e9; exact F5.1
  unfold b_X11_mends_100 w_X11_findCycles_v1
  rw [F9]
  intro v1 e1
  subst e1
  refine pk_loop (fun n i s => b_X11_findCycles_v1_2 (fun r12 σ11 => post (0 - r12) σ11) n s 0 (nI i)) (fun _ s => s.1 97 0 = 0) 12 0 σ9 (by decide) F9 (fun n s h => ?_) (fun n i s hi h ih => ?_)
  · rw [b_X11_findCycles_v1_2]
    refine ⟨fun _ v3 e3 v4 e4 v5 e5 => ⟨1, ?_⟩, fun q => absurd (show (12 : Int32) ≤ nI 12 by decide) q⟩
    subst e3; subst e4; subst e5
    rw [b_X11_findCycles_v1_29, h]
    exact ⟨fun _ => by simpa [c] using hp s, fun q => absurd (by decide) q⟩
  · rw [b_X11_findCycles_v1_2]
    refine ⟨fun q => absurd q (nI_n12 hi), fun _ => ⟨nI_in12 hi, fun σ26 e26 v27 e27 => ?_⟩⟩
    subst e27
    rw [nI_up]
    exact ih σ26 (by subst e26; exact h)
theorem m_findKeeps {σ : eS} {post : eS → Prop} (F : Fm σ) (hp : ∀ σ', Fm σ' → σ'.1 97 33 = 1 → σ'.1 120 0 = 0 → post σ') : w_X11_findKeeps σ post := by
  unfold w_X11_findKeeps
  intro σ1 e1
  have F1 : Fm σ1 := by subst e1; exact F
  have h33 : σ1.1 97 33 = 0 := by subst e1; rfl
  unfold w_X11_findWays
  rw [F1.1]
  refine ⟨fun c => absurd rfl c, fun _ v11 e11 => ⟨1, ?_⟩⟩
  subst e11
  rw [b_X11_findWays_10, F1.1]
  refine ⟨fun _ σ13 e13 v3 e3 => ⟨2, ?_⟩, fun c => absurd (by decide) c⟩
  subst e3
  have F13 : Fm σ13 := by subst e13; exact F1
  have g33 : σ13.1 97 33 = 1 := by
    subst e13
    show σ1.1 97 33 + 1 = 1
    rw [h33]
    decide
  rw [b_X11_findKeeps_13, g33]
  refine ⟨fun c => absurd c (by decide), fun _ => ⟨by unfold vp_in; decide, fun σ6 e6 v7 e7 => ⟨1, ?_⟩⟩⟩
  subst e7
  have F6 : Fm σ6 := by subst e6; exact F13
  have k33 : σ6.1 97 33 = 1 := by subst e6; exact g33
  have k120 : σ6.1 120 0 = 0 := by subst e6; rfl
  rw [b_X11_findKeeps_30, F6.2.2.2.2.1]
  refine ⟨fun _ v9 e9 => ?_, fun c => absurd (by decide) c⟩
  subst e9
  show b_X11_findKeeps_13 post 1 σ6 (0 + 1)
  rw [b_X11_findKeeps_13, k33]
  exact ⟨fun _ => hp σ6 F6 k33 k120, fun c => absurd (by decide) c⟩
theorem in00 {x : Int32} : ((if x.toInt64 < (0 : Int64) then (0 : Int32) else if ((((1 : Int32) <<< ((0 : Int32) &&& 31)) - (1 : Int32)).toInt64) < x.toInt64 then 0 else 1)) = if x = 0 then 1 else 0 := by
  have e1 : ((((1 : Int32) <<< ((0 : Int32) &&& 31)) - (1 : Int32)).toInt64) = (0 : Int32).toInt64 := by decide
  have e0 : (0 : Int64) = (0 : Int32).toInt64 := by decide
  rw [e1, e0]
  simp only [i64_lt]
  by_cases c0 : x = 0
  · subst c0
    decide
  · by_cases c : x < 0
    · rw [if_pos c, if_neg c0]
    · have d : 0 < x := by
        simp only [Int32.lt_iff_toInt_lt, ← Int32.toInt_inj] at *
        omega
      rw [if_neg c, if_pos d, if_neg c0]
theorem m_choosing0 {σ : eS} {post : Int32 → eS → Prop} (F : Fm σ) (hp : ∀ σ', Fm σ' → σ'.1 97 49 = 0 → post (1 : Int32) σ') : w_X11_choosing σ (0 : Int32) post := by
  unfold w_X11_choosing
  refine m_findKeeps F (fun σ1 F1 h33 h120 σ2 e2 v3 e3 v4 e4 => ⟨2, ?_⟩)
  have F2 : Fm σ2 := by subst e2; exact F1
  have g33 : σ2.1 97 33 = 1 := by subst e2; exact h33
  rw [g33] at e4
  subst e3; subst e4
  rw [b_X11_choosing_18]
  refine ⟨fun c => absurd c (by decide), fun _ => ⟨by unfold vp_in; decide, fun _ σ8 e8 v9 e9 => ?_, fun c => absurd ?_ c⟩⟩
  · subst e9
    unfold b_X11_choosing_45
    intro v10 e10
    subst e10
    show b_X11_choosing_18 post 1 σ8 0 (0 + 1) (1 - 1 + -1)
    rw [b_X11_choosing_18]
    exact ⟨fun _ => hp σ8 (by subst e8; exact F2) (by subst e8; rfl), fun c => absurd (by decide) c⟩
  · simp
theorem mx_choose {σ : eS} {x1 : Int32} {post : Int32 → eS → Prop} (F : Fm σ) (hp : ∀ σ', post (chR x1) σ') : w_X11_choose σ x1 post := by
  unfold w_X11_choose
  unfold chR at hp
  intro σ1 e1
  have F1 : Fm σ1 := by subst e1; exact F
  rw [F1.2.2.2.2.1]
  refine m_in ?_
  rw [in00, F1.1]
  by_cases c0 : x1 = 0
  · subst c0
    refine ⟨fun _ => ⟨fun _ => ?_, fun c => absurd (by decide) c⟩, fun c => absurd c (by decide)⟩
    refine m_choosing0 F1 (fun σ6 F6 h49 σ8 e8 => ⟨fun c => absurd c (by decide), fun _ => ?_⟩)
    unfold w_X11_tellWay
    intro v1 e1
    subst e1
    refine ⟨1, ?_⟩
    have h0 : σ8.1 97 0 = 0 := by subst e8; exact F6.1
    rw [b_X11_tellWay_2, h0]
    exact ⟨fun _ => by simpa using hp σ8, fun c => absurd (by decide) c⟩
  · rw [if_neg c0]
    exact ⟨fun c => absurd rfl c, fun _ => by simpa [c0] using hp σ1⟩
theorem mx_proof {σ : eS} {post : Int32 → eS → Prop} (F : Fm σ) (hp : ∀ σ', post (0 : Int32) σ') : w_X11_proof σ post := by
  unfold w_X11_proof
  intro σ1 e1
  have F1 : Fm σ1 := by subst e1; exact F
  rw [F1.1]
  refine ⟨fun _ => m_findKeeps F1 (fun σ3 F3 h33 h120 v4 e4 v5 e5 v6 e6 => ⟨2, ?_⟩), fun c => absurd (by decide) c⟩
  rw [F3.2.2.2.2.1] at e4
  have e4' : v4 = 0 := by rw [e4]; decide
  subst e4'; subst e5; subst e6
  rw [b_X11_proof_34]
  refine ⟨fun c => absurd c (by decide), fun _ => ⟨fun _ => ?_, fun c => absurd rfl c⟩⟩
  unfold b_X11_proof_58
  intro v14 e14 v15 e15
  subst e14; subst e15
  refine ⟨2, ?_⟩
  rw [b_X11_proof_64, h33]
  refine ⟨fun c => absurd c (by decide), fun _ => ⟨fun c => absurd rfl c, fun _ => ⟨by unfold vp_in; decide, fun c => absurd ?_ c, fun _ => ?_⟩⟩⟩
  · simp
  · unfold b_X11_proof_96
    intro v22 e22
    subst e22
    show b_X11_proof_64 post _ 1 σ3 0 (-1) 0 1 (0 + 1)
    rw [b_X11_proof_64, h33]
    refine ⟨fun _ => ?_, fun c => absurd (by decide) c⟩
    unfold b_X11_proof_104
    refine ⟨fun _ => ?_, fun c => absurd c (by decide)⟩
    unfold b_X11_proof_111
    intro v18 e18
    subst e18
    show b_X11_proof_34 post 1 σ3 0 (-1) (0 + 1)
    rw [b_X11_proof_34]
    exact ⟨fun _ => ⟨fun c => absurd rfl c, fun _ => hp _⟩, fun c => absurd (by decide) c⟩
theorem mx_decree {σ : eS} {x1 : Int32} {post : Int32 → eS → Prop} (F : Fm σ) (hp : ∀ σ', post (chR x1) σ') : w_X11_decree σ x1 post := by
  unfold w_X11_decree
  unfold chR at hp
  intro σ1 e1
  have F1 : Fm σ1 := by subst e1; exact F
  rw [F1.2.2.2.2.1]
  refine m_in ?_
  rw [in00, F1.1]
  by_cases c0 : x1 = 0
  · subst c0
    refine ⟨fun _ => ⟨fun _ => ?_, fun c => absurd (by decide) c⟩, fun c => absurd c (by decide)⟩
    refine m_choosing0 F1 (fun σ6 F6 h49 => ⟨fun _ v9 e9 => ?_, fun c => absurd c (by decide)⟩)
    subst e9
    refine pk_loop (fun n i s => b_X11_decree_51 post n s 1 (nI i)) (fun _ s => s.1 97 0 = 0) 12 0 σ6 (by decide) F6.1 (fun n s h => ?_) (fun n i s hi h ih => ?_)
    · rw [b_X11_decree_51]
      exact ⟨fun _ σ11 e11 σ12 e12 => by simpa using hp σ12, fun q => absurd (show (12 : Int32) ≤ nI 12 by decide) q⟩
    · rw [b_X11_decree_51, h]
      refine ⟨fun q => absurd q (nI_n12 hi), fun _ => ⟨fun _ => ?_, fun c => absurd (nI_pos' (Nat.lt_trans hi (by decide))) c⟩⟩
      unfold b_X11_decree_88
      refine ⟨vp_in_nI (by omega) (by decide), fun σ15 e15 v16 e16 => ?_⟩
      subst e16
      show b_X11_decree_51 post n σ15 1 (nI i + 1)
      rw [nI_up]
      exact ih σ15 (by subst e15; exact h)
  · rw [if_neg c0]
    exact ⟨fun c => absurd rfl c, fun _ => by simpa [c0] using hp σ1⟩

def kpR (x : Int32) : Int32 := if x < 0 then 0 else if x < 2 then 1 else 0
theorem k_copyFrom {σ : eS} {post : eS → Prop} (hp : ∀ σ', RS σ σ' → post σ') : w_X1_copyFrom σ post := by
  unfold w_X1_copyFrom
  intro v1 e1
  subst e1
  refine pk_loop (fun n i s => b_X1_copyFrom_2 post n s (nI i)) (fun _ s => RS σ s) 7 0 σ (by decide) RS.rf (fun n s h => ?_) (fun n i s hi h ih => ?_)
  · rw [b_X1_copyFrom_2]
    refine ⟨fun _ => ⟨by decide, by decide, by decide, by decide, by decide, fun σ8 e8 => ⟨by decide, by decide, by decide, by decide, by decide, fun σ14 e14 => ⟨by decide, by decide, by decide, by decide, by decide, fun σ20 e20 σ21 e21 σ22 e22 σ23 e23 σ24 e24 => hp σ24 ?_⟩⟩⟩, fun c => absurd (show (7 : Int32) ≤ nI 7 by decide) c⟩
    subst e24; subst e23; subst e22; subst e21; subst e20; subst e14; subst e8
    exact ((((((h.ua (by decide)).ua (by decide)).ula (by decide)).ui (by decide)).ui (by decide)).ui (by decide)).ul (by decide)
  · rw [b_X1_copyFrom_2]
    have hin : vp_in (nI i) 7 := vp_in_nI hi (by decide)
    refine ⟨fun c => absurd c (nI_ge (a := i) (b := 7) hi (by decide)), fun _ => ⟨hin, hin, by decide, by decide, by decide, by decide, by decide, fun σ32 e32 v33 e33 => ?_⟩⟩
    subst e33; subst e32
    rw [nI_up]
    refine ih _ (h.ua ?_)
    rw [nI_c (by omega)]
    omega
theorem k_copyFrom_v1 {σ : eS} {post : eS → Prop} (hp : ∀ σ', RS σ σ' → post σ') : w_X1_copyFrom_v1 σ post := by
  unfold w_X1_copyFrom_v1
  intro v1 e1
  subst e1
  refine pk_loop (fun n i s => b_X1_copyFrom_v1_2 post n s (nI i)) (fun _ s => RS σ s) 7 0 σ (by decide) RS.rf (fun n s h => ?_) (fun n i s hi h ih => ?_)
  · rw [b_X1_copyFrom_v1_2]
    refine ⟨fun _ => ⟨by decide, by decide, by decide, by decide, by decide, fun σ8 e8 => ⟨by decide, by decide, by decide, by decide, by decide, fun σ14 e14 => ⟨by decide, by decide, by decide, by decide, by decide, fun σ20 e20 σ21 e21 σ22 e22 σ23 e23 σ24 e24 => hp σ24 ?_⟩⟩⟩, fun c => absurd (show (7 : Int32) ≤ nI 7 by decide) c⟩
    subst e24; subst e23; subst e22; subst e21; subst e20; subst e14; subst e8
    exact ((((((h.ua (by decide)).ua (by decide)).ula (by decide)).ui (by decide)).ui (by decide)).ui (by decide)).ul (by decide)
  · rw [b_X1_copyFrom_v1_2]
    have hin : vp_in (nI i) 7 := vp_in_nI hi (by decide)
    refine ⟨fun c => absurd c (nI_ge (a := i) (b := 7) hi (by decide)), fun _ => ⟨hin, hin, by decide, by decide, by decide, by decide, by decide, fun σ32 e32 v33 e33 => ?_⟩⟩
    subst e33; subst e32
    rw [nI_up]
    refine ih _ (h.ua ?_)
    rw [nI_c (by omega)]
    omega
theorem two_of {x : Int32} (h1 : ¬ x < 0) (h2 : x < 2) : ∃ k : Nat, k < 2 ∧ x = nI k := by
  have hin : vp_in x 2 := by
    rw [vp_in_iff]
    simp only [Int32.lt_iff_toInt_lt] at *
    have e0 : (0 : Int32).toInt = 0 := by decide
    have e1 : (2 : Int32).toInt = 2 := by decide
    rw [e0] at h1
    rw [e1] at h2
    omega
  exact vp_in_of hin (by decide)
theorem kx_keep {σ : eS} {x1 : Int32} {post : Int32 → eS → Prop} (F : Fx σ) (hp : ∀ σ', RS σ σ' → post (kpR x1) σ') : w_X10_keep σ x1 post := by
  unfold w_X10_keep
  unfold kpR at hp
  refine ⟨fun c => ⟨rfl, by simpa [c] using hp σ RS.rf⟩, fun c => ⟨fun d => ?_, fun d => ⟨rfl, by simpa [c, d] using hp σ RS.rf⟩⟩⟩
  have hq : ∀ σ', RS σ σ' → post 1 σ' := fun σ' r => by simpa [c, d] using hp σ' r
  obtain ⟨k, hk, rfl⟩ := two_of c d
  have hin : vp_in (nI k) 2 := vp_in_nI hk (by decide)
  refine ⟨hin, fun _ => k_copyFrom (fun σ4 r4 => ⟨hin, fun _ σ6 e6 => ⟨rfl, hq σ6 ?_⟩, fun _ σ7 e7 => ⟨rfl, hq σ7 ?_⟩⟩), fun _ => k_copyFrom_v1 (fun σ4 r4 => ⟨hin, fun _ σ6 e6 => ⟨rfl, hq σ6 ?_⟩, fun _ σ7 e7 => ⟨rfl, hq σ7 ?_⟩⟩)⟩
  · subst e6; exact r4.ui (by decide)
  · subst e7; exact r4.ui (by decide)
  · subst e6; exact r4.ui (by decide)
  · subst e7; exact r4.ui (by decide)
theorem kx_again {σ : eS} {x1 : Int32} {post : Int32 → eS → Prop} (F : Fx σ) (hp : ∀ σ', RS σ σ' → post (0 : Int32) σ') : w_X10_again σ x1 post := by
  unfold w_X10_again
  have h := hp σ RS.rf
  refine ⟨fun c => ⟨rfl, h⟩, fun c => ⟨fun d => ?_, fun d => ⟨rfl, h⟩⟩⟩
  obtain ⟨k, hk, rfl⟩ := two_of c d
  refine ⟨vp_in_nI hk (by decide), fun _ => ⟨fun _ => ⟨rfl, h⟩, fun q => absurd F.2.2.2.2.2.2.2.2.2.1 q⟩, fun _ => ⟨fun _ => ⟨rfl, h⟩, fun q => absurd F.2.2.2.2.2.2.2.2.2.2.1 q⟩⟩
theorem in01 {x : Int32} : (if x.toInt64 < (0 : Int64) then (0 : Int32) else if (1 : Int64) < x.toInt64 then 0 else 1) = kpR x := by
  unfold kpR
  have e0 : (0 : Int64) = (0 : Int32).toInt64 := by decide
  have e1 : (1 : Int64) = (1 : Int32).toInt64 := by decide
  rw [e0, e1]
  simp only [i64_lt]
  by_cases c : x < 0
  · rw [if_pos c, if_pos c]
  · rw [if_neg c, if_neg c]
    by_cases d : 1 < x
    · have d2 : ¬ x < 2 := by
        simp only [Int32.lt_iff_toInt_lt] at *
        have a1 : (1 : Int32).toInt = 1 := by decide
        have a2 : (2 : Int32).toInt = 2 := by decide
        rw [a1] at d
        rw [a2]
        omega
      rw [if_pos d, if_neg d2]
    · have d2 : x < 2 := by
        simp only [Int32.lt_iff_toInt_lt] at *
        have a1 : (1 : Int32).toInt = 1 := by decide
        have a2 : (2 : Int32).toInt = 2 := by decide
        rw [a1] at d
        rw [a2]
        omega
      rw [if_neg d, if_pos d2]
theorem kp_of {x : Int32} (h : ¬ kpR x = 0) : ∃ k : Nat, k < 2 ∧ x = nI k := by
  unfold kpR at h
  by_cases c : x < 0
  · simp [c] at h
  · by_cases d : x < 2
    · exact two_of c d
    · simp [c, d] at h
theorem mx_again {σ : eS} {x1 : Int32} {post : Int32 → eS → Prop} (F : Fm σ) (hp : ∀ σ', post (0 : Int32) σ') : w_X11_again σ x1 post := by
  unfold w_X11_again
  intro σ1 e1
  have F1 : Fm σ1 := by subst e1; exact F
  refine m_in ?_
  rw [in01]
  refine ⟨fun _ => ⟨rfl, hp _⟩, fun c => ?_⟩
  obtain ⟨k, hk, rfl⟩ := kp_of c
  refine ⟨vp_in_nI hk (by decide), fun _ => ⟨rfl, hp _⟩, fun q => absurd ?_ q⟩
  rw [nI_c (by omega)]
  match k, hk with
  | 0, _ => exact F1.2.2.2.2.2.2.2.1
  | 1, _ => exact F1.2.2.2.2.2.2.2.2
theorem mx_keep {σ : eS} {x1 : Int32} {post : Int32 → eS → Prop} (F : Fm σ) (hp : ∀ σ', post (kpR x1) σ') : w_X11_keep σ x1 post := by
  unfold w_X11_keep
  intro σ1 e1
  refine m_in ?_
  rw [in01]
  refine ⟨fun c => ?_, fun c => ⟨rfl, by simpa [c] using hp σ1⟩⟩
  obtain ⟨k, hk, rfl⟩ := kp_of c
  have h1 : kpR (nI k) = 1 := by
    match k, hk with
    | 0, _ => decide
    | 1, _ => decide
  have hq : ∀ σ', post 1 σ' := fun σ' => by have := hp σ'; rwa [h1] at this
  have hin : vp_in (nI k) 2 := vp_in_nI hk (by decide)
  have e110 : (110 : Int32) * nI k = nI (110 * k) := by
    show nI 110 * nI k = _
    rw [pk_mul]
  have e13 : (13 : Int32) * nI k = nI (13 * k) := by
    show nI 13 * nI k = _
    rw [pk_mul]
  refine ⟨hin, fun σ6 e6 => ⟨hin, fun σ8 e8 v9 e9 => ?_⟩⟩
  rw [e110] at e9
  subst e9
  refine ⟨vp_in_nI (by omega) (by decide), fun σ11 e11 => ⟨by rw [nI_up]; exact vp_in_nI (by omega) (by decide), fun σ13 e13' v14 e14 => ?_⟩⟩
  subst e14
  refine pk_loop (fun n i s => b_X11_keep_63 post n s (nI k) (nI (110 * k)) (nI i)) (fun _ _ => True) 84 0 σ13 (by decide) trivial (fun n s _ => ?_) (fun n i s hi _ ih => ?_)
  · rw [b_X11_keep_63]
    refine ⟨fun _ v16 e16 v17 e17 => ?_, fun q => absurd (show (84 : Int32) ≤ nI 84 by decide) q⟩
    subst e17
    have e86 : nI (110 * k) + (86 : Int32) = nI (110 * k + 86) := nI_add (110 * k) 86
    rw [e86] at e16
    subst e16
    refine pk_loop (fun n i s => b_X11_keep_96 post n s (nI k) (nI (110 * k + 86)) (nI i)) (fun _ _ => True) 12 0 s (by decide) trivial (fun n s _ => ?_) (fun n i s hi _ ih => ?_)
    · rw [b_X11_keep_96]
      refine ⟨fun _ v19 e19 => ?_, fun q => absurd (show (12 : Int32) ≤ nI 12 by decide) q⟩
      have e12 : nI (110 * k + 86) + (12 : Int32) = nI (110 * k + 98) := nI_add (110 * k + 86) 12
      rw [e12] at e19
      subst e19
      rw [e13]
      refine ⟨vp_in_nI (by omega) (by decide), fun σ21 e21 v22 e22 => ?_⟩
      subst e22
      refine pk_loop (fun n i s => b_X11_keep_140 post n s (nI k) (nI (110 * k + 98)) (nI i)) (fun _ _ => True) 12 0 σ21 (by decide) trivial (fun n s _ => ?_) (fun n i s hi _ ih => ?_)
      · rw [b_X11_keep_140]
        exact ⟨fun _ => ⟨rfl, hq _⟩, fun q => absurd (show (12 : Int32) ≤ nI 12 by decide) q⟩
      · rw [b_X11_keep_140, e13]
        refine ⟨fun q => absurd q (nI_n12 hi), fun _ => ⟨nI_in12 hi, by rw [nI_add]; exact vp_in_nI (by omega) (by decide), fun σ26 e26 => ⟨nI_in12 hi, by rw [nI_up, nI_add]; exact vp_in_nI (by omega) (by decide), fun σ29 e29 v30 e30 => ?_⟩⟩⟩
        subst e30
        rw [nI_up]
        exact ih _ trivial
    · rw [b_X11_keep_96]
      refine ⟨fun q => absurd q (nI_n12 hi), fun _ => ⟨nI_in12 hi, by rw [nI_add]; exact vp_in_nI (by omega) (by decide), fun σ34 e34 v35 e35 => ?_⟩⟩
      subst e35
      rw [nI_up]
      exact ih _ trivial
  · rw [b_X11_keep_63]
    have e2 : nI (110 * k) + (2 : Int32) = nI (110 * k + 2) := nI_add (110 * k) 2
    rw [e2]
    refine ⟨fun q => absurd q (nI_ge (a := i) (b := 84) hi (by decide)), fun _ => ⟨vp_in_nI hi (by decide), by rw [nI_add]; exact vp_in_nI (by omega) (by decide), fun σ39 e39 v40 e40 => ?_⟩⟩
    subst e40
    rw [nI_up]
    exact ih _ trivial
