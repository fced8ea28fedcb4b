/-! THE PURE PART: a fresh object -/
def RS (σ σ' : eS) : Prop := ∀ k, 97 ≤ k → σ'.1 k = σ.1 k ∧ σ'.2.1 k = σ.2.1 k ∧ σ'.2.2 k = σ.2.2 k
theorem RS.rf {σ : eS} : RS σ σ := fun _ _ => ⟨rfl, rfl, rfl⟩
theorem RS.ui {σ τ : eS} {k j : Nat} {v : Int32} (h : RS σ τ) (hk : k < 97) : RS σ (e_ui τ k j v) := fun a ha => ⟨by simp [e_ui, show a ≠ k by omega, (h a ha).1], (h a ha).2⟩
theorem RS.ul {σ τ : eS} {k j : Nat} {v : Int64} (h : RS σ τ) (hk : k < 97) : RS σ (e_ul τ k j v) := fun a ha => ⟨(h a ha).1, by simp [e_ul, show a ≠ k by omega, (h a ha).2.1], (h a ha).2.2⟩
theorem RS.ua {σ τ : eS} {k : Nat} {f : Nat → Int32} (h : RS σ τ) (hk : k < 97) : RS σ (e_ua τ k f) := fun a ha => ⟨by simp [e_ua, show a ≠ k by omega, (h a ha).1], (h a ha).2⟩
theorem RS.ula {σ τ : eS} {k : Nat} {f : Nat → Int64} (h : RS σ τ) (hk : k < 97) : RS σ (e_ula τ k f) := fun a ha => ⟨(h a ha).1, by simp [e_ula, show a ≠ k by omega, (h a ha).2.1], (h a ha).2.2⟩
theorem RS.tr {σ τ υ : eS} (h : RS σ τ) (h2 : RS τ υ) : RS σ υ := fun a ha => ⟨(h2 a ha).1.trans (h a ha).1, (h2 a ha).2.1.trans (h a ha).2.1, (h2 a ha).2.2.trans (h a ha).2.2⟩
def Fx (σ : eS) : Prop := σ.1 1 1 = 0 ∧ σ.1 3 1 = 0 ∧ σ.1 5 4 = 0 ∧ σ.1 5 5 = 0 ∧ σ.1 5 6 = 0 ∧ σ.2.1 5 7 = 0 ∧ σ.1 32 2 = 1 ∧ σ.1 32 3 = 1 ∧ σ.1 41 3 = 0 ∧ σ.1 73 8 = 0 ∧ σ.1 85 8 = 0 ∧ (∀ i j, i < 10 → j < 10 → σ.1 (22 + i) j = if i = j then 0 else 999)
def Fm (σ : eS) : Prop := σ.1 97 0 = 0 ∧ σ.1 97 4 = 0 ∧ σ.2.1 97 6 = 0 ∧ σ.1 97 7 = 0 ∧ σ.1 97 10 = 0 ∧ σ.1 97 15 = 0 ∧ σ.1 97 17 = 0 ∧ σ.1 123 0 = 0 ∧ σ.1 123 1 = 0
theorem Fm.rs {σ σ' : eS} (F : Fm σ) (h : RS σ σ') : Fm σ' := by
  have h1 := (h 97 (by decide)).1
  have h2 := (h 97 (by decide)).2.1
  have h3 := (h 123 (by decide)).1
  unfold Fm at *
  rw [h1, h2, h3]
  exact F
theorem i_nn {x : Int32} (h : ¬ x < 0) : (0 : Int32) ≤ x := by
  simp only [Int32.lt_iff_toInt_lt, Int32.le_iff_toInt_le] at *
  omega
theorem k_isStreet {σ : eS} {x : Int32} {post : Int32 → eS → Prop} (F : Fx σ) (hp : post (0 : Int32) σ) : w_X10_isStreet σ x post := by
  unfold w_X10_isStreet
  refine ⟨fun _ => ⟨rfl, hp⟩, fun c => ⟨fun _ => ⟨rfl, hp⟩, fun d => absurd ?_ d⟩⟩
  rw [F.2.2.1]
  exact i_nn c
theorem k_isOrder {σ : eS} {x : Int32} {post : Int32 → eS → Prop} (F : Fx σ) (hp : post (0 : Int32) σ) : w_X10_isOrder σ x post := by
  unfold w_X10_isOrder
  refine ⟨fun _ => ⟨rfl, hp⟩, fun c => ⟨fun _ => ⟨rfl, hp⟩, fun d => absurd ?_ d⟩⟩
  rw [F.2.2.2.1]
  exact i_nn c
theorem k_isLetter {σ : eS} {x : Int32} {post : Int32 → eS → Prop} (F : Fx σ) (hp : post (0 : Int32) σ) : w_X10_isLetter σ x post := by
  unfold w_X10_isLetter
  refine ⟨fun _ => ⟨rfl, hp⟩, fun c => ⟨fun _ => ⟨rfl, hp⟩, fun d => absurd ?_ d⟩⟩
  rw [F.2.2.2.2.1]
  exact i_nn c
theorem lc_lt (x y : Int64) : lg_cmp x y < 0 ↔ x < y := by
  unfold lg_cmp
  simp only [gt_iff_lt, Int64.lt_iff_toInt_lt, ← Int64.toInt_inj]
  repeat' split
  all_goals (constructor <;> intro h <;> first | omega | exact absurd h (by decide) | decide)
theorem lc_gt (x y : Int64) : 0 < lg_cmp x y ↔ y < x := by
  unfold lg_cmp
  simp only [gt_iff_lt, Int64.lt_iff_toInt_lt, ← Int64.toInt_inj]
  repeat' split
  all_goals (constructor <;> intro h <;> first | omega | exact absurd h (by decide) | decide)
theorem lc_le (x y : Int64) : lg_cmp x y ≤ 0 ↔ x ≤ y := by
  unfold lg_cmp
  simp only [gt_iff_lt, Int64.lt_iff_toInt_lt, Int64.le_iff_toInt_le, ← Int64.toInt_inj]
  repeat' split
  all_goals (constructor <;> intro h <;> first | omega | exact absurd h (by decide) | decide)
theorem lc_eq (x : Int64) : lg_cmp x x = 0 := by
  unfold lg_cmp
  simp
def dayB (x : Int64) : Int32 := if x < 0 then 0 else if 1000000000000 < x then 0 else 1
theorem k_isDay {σ : eS} {x : Int64} {post : Int32 → eS → Prop} (hp : post (dayB x) σ) : w_X10_isDay σ x post := by
  unfold w_X10_isDay
  unfold dayB at hp
  simp only [lc_lt, lc_gt]
  refine ⟨fun c => ⟨rfl, by simpa [c] using hp⟩, fun c => ⟨fun d => ⟨rfl, by simpa [c, d] using hp⟩, fun d => ⟨rfl, by simpa [c, d] using hp⟩⟩⟩
theorem m_in {σ : eS} {x lo hi : Int64} {post : Int32 → eS → Prop} (hp : post (if x < lo then 0 else if hi < x then 0 else 1) σ) : w_X11_in σ x lo hi post := by
  unfold w_X11_in
  simp only [lc_lt, lc_gt]
  refine ⟨fun c => ⟨rfl, by simpa [c] using hp⟩, fun c => ⟨fun d => ⟨rfl, by simpa [c, d] using hp⟩, fun d => ⟨rfl, by simpa [c, d] using hp⟩⟩⟩
theorem nB_0 : narrow .boolean (.int (0 : Int32)) = .int (0 : Int32) := rfl
theorem nB_1 : narrow .boolean (.int (1 : Int32)) = .int (1 : Int32) := rfl
theorem nB_if {c d : Prop} [Decidable c] [Decidable d] : narrow .boolean (.int (if c then (0 : Int32) else if d then 0 else 1)) = .int (if c then (0 : Int32) else if d then 0 else 1) := by
  split
  · rfl
  · split <;> rfl
theorem m_isDay {σ : eS} {x : Int64} {post : Int32 → eS → Prop} (hp : post (dayB x) σ) : w_X11_isDay σ x post := by
  unfold w_X11_isDay
  refine m_in ?_
  exact ⟨nB_if, hp⟩
theorem i64_0 {x : Int32} : ((if x.toInt64 < (0 : Int64) then (0 : Int32) else if ((0 : Int32) - (1 : Int32)).toInt64 < x.toInt64 then 0 else 1)) = 0 := by
  by_cases c : x.toInt64 < (0 : Int64)
  · simp [c]
  · have d : ((0 : Int32) - (1 : Int32)).toInt64 < x.toInt64 := by
      simp only [Int64.lt_iff_toInt_lt] at *
      have e1 : ((0 : Int32) - (1 : Int32)).toInt64.toInt = -1 := by decide
      have e2 : (0 : Int64).toInt = 0 := by decide
      rw [e1]
      rw [e2] at c
      omega
    rw [if_neg c, if_pos d]

theorem m_isStreet {σ : eS} {x : Int32} {post : Int32 → eS → Prop} (F : Fm σ) (hp : post (0 : Int32) σ) : w_X11_isStreet σ x post := by
  unfold w_X11_isStreet
  refine m_in ?_
  rw [F.1, i64_0]
  exact ⟨rfl, hp⟩
theorem m_isOrder {σ : eS} {x : Int32} {post : Int32 → eS → Prop} (F : Fm σ) (hp : post (0 : Int32) σ) : w_X11_isOrder σ x post := by
  unfold w_X11_isOrder
  refine m_in ?_
  rw [F.2.1, i64_0]
  exact ⟨rfl, hp⟩
theorem m_isLetter {σ : eS} {x : Int32} {post : Int32 → eS → Prop} (F : Fm σ) (hp : post (0 : Int32) σ) : w_X11_isLetter σ x post := by
  unfold w_X11_isLetter
  refine m_in ?_
  rw [F.2.2.2.1, i64_0]
  exact ⟨rfl, hp⟩
theorem Fm.th {σ : eS} {v : Int32} (F : Fm σ) : Fm (e_ui σ 97 18 v) := F
theorem kx_next {σ : eS} {x1 : Int32} {x2 : Int32} {post : Int32 → eS → Prop} (F : Fx σ) (hp : ∀ σ', RS σ σ' → post (-1 : Int32) σ') : w_X10_next σ x1 x2 post := by
  unfold w_X10_next
  first
  | exact k_isOrder F ⟨fun _ => hp σ RS.rf, fun c => absurd rfl c⟩
  | exact k_isOrder F ⟨fun c => absurd rfl c, fun _ => hp σ RS.rf⟩
theorem mx_next {σ : eS} {x1 : Int32} {x2 : Int32} {post : Int32 → eS → Prop} (F : Fm σ) (hp : ∀ σ', post (-1 : Int32) σ') : w_X11_next σ x1 x2 post := by
  unfold w_X11_next
  intro σ1 e1
  subst e1
  first
  | exact m_isOrder F.th ⟨fun _ => hp _, fun c => absurd rfl c⟩
  | exact m_isOrder F.th ⟨fun c => absurd rfl c, fun _ => hp _⟩
theorem kx_name {σ : eS} {x1 : Int32} {x2 : Int64} {post : Int32 → eS → Prop} (F : Fx σ) (hp : ∀ σ', RS σ σ' → post (-1 : Int32) σ') : w_X10_name σ x1 x2 post := by
  unfold w_X10_name
  first
  | exact k_isStreet F ⟨fun _ => hp σ RS.rf, fun c => absurd rfl c⟩
  | exact k_isStreet F ⟨fun c => absurd rfl c, fun _ => hp σ RS.rf⟩
theorem mx_name {σ : eS} {x1 : Int32} {x2 : Int64} {post : Int32 → eS → Prop} (F : Fm σ) (hp : ∀ σ', post (-1 : Int32) σ') : w_X11_name σ x1 x2 post := by
  unfold w_X11_name
  intro σ1 e1
  subst e1
  first
  | exact m_isStreet F.th ⟨fun _ => hp _, fun c => absurd rfl c⟩
  | exact m_isStreet F.th ⟨fun c => absurd rfl c, fun _ => hp _⟩
theorem kx_where {σ : eS} {x1 : Int32} {x2 : Int64} {post : Int32 → eS → Prop} (F : Fx σ) (hp : ∀ σ', RS σ σ' → post (-1 : Int32) σ') : w_X10_where σ x1 x2 post := by
  unfold w_X10_where
  first
  | exact k_isStreet F ⟨fun _ => hp σ RS.rf, fun c => absurd rfl c⟩
  | exact k_isStreet F ⟨fun c => absurd rfl c, fun _ => hp σ RS.rf⟩
theorem mx_where {σ : eS} {x1 : Int32} {x2 : Int64} {post : Int32 → eS → Prop} (F : Fm σ) (hp : ∀ σ', post (-1 : Int32) σ') : w_X11_where σ x1 x2 post := by
  unfold w_X11_where
  intro σ1 e1
  subst e1
  first
  | exact m_isStreet F.th ⟨fun _ => hp _, fun c => absurd rfl c⟩
  | exact m_isStreet F.th ⟨fun c => absurd rfl c, fun _ => hp _⟩
theorem kx_meets {σ : eS} {x1 : Int32} {x2 : Int32} {x3 : Int64} {post : Int64 → eS → Prop} (F : Fx σ) (hp : ∀ σ', RS σ σ' → post (-1 : Int64) σ') : w_X10_meets σ x1 x2 x3 post := by
  unfold w_X10_meets
  first
  | exact k_isStreet F ⟨fun _ => hp σ RS.rf, fun c => absurd rfl c⟩
  | exact k_isStreet F ⟨fun c => absurd rfl c, fun _ => hp σ RS.rf⟩
theorem mx_meets {σ : eS} {x1 : Int32} {x2 : Int32} {x3 : Int64} {post : Int64 → eS → Prop} (F : Fm σ) (hp : ∀ σ', post (-1 : Int64) σ') : w_X11_meets σ x1 x2 x3 post := by
  unfold w_X11_meets
  intro σ1 e1
  subst e1
  first
  | exact m_isStreet F.th ⟨fun _ => hp _, fun c => absurd rfl c⟩
  | exact m_isStreet F.th ⟨fun c => absurd rfl c, fun _ => hp _⟩
theorem kx_trade {σ : eS} {x1 : Int32} {x2 : Int32} {x3 : Int64} {post : Int64 → eS → Prop} (F : Fx σ) (hp : ∀ σ', RS σ σ' → post (-1 : Int64) σ') : w_X10_trade σ x1 x2 x3 post := by
  unfold w_X10_trade
  first
  | exact k_isStreet F ⟨fun _ => hp σ RS.rf, fun c => absurd rfl c⟩
  | exact k_isStreet F ⟨fun c => absurd rfl c, fun _ => hp σ RS.rf⟩
theorem mx_trade {σ : eS} {x1 : Int32} {x2 : Int32} {x3 : Int64} {post : Int64 → eS → Prop} (F : Fm σ) (hp : ∀ σ', post (-1 : Int64) σ') : w_X11_trade σ x1 x2 x3 post := by
  unfold w_X11_trade
  intro σ1 e1
  subst e1
  first
  | exact m_isStreet F.th ⟨fun _ => hp _, fun c => absurd rfl c⟩
  | exact m_isStreet F.th ⟨fun c => absurd rfl c, fun _ => hp _⟩
theorem kx_bears {σ : eS} {x1 : Int32} {post : Int32 → eS → Prop} (F : Fx σ) (hp : ∀ σ', RS σ σ' → post (-1 : Int32) σ') : w_X10_bears σ x1 post := by
  unfold w_X10_bears
  first
  | exact k_isStreet F ⟨fun _ => hp σ RS.rf, fun c => absurd rfl c⟩
  | exact k_isStreet F ⟨fun c => absurd rfl c, fun _ => hp σ RS.rf⟩
theorem mx_bears {σ : eS} {x1 : Int32} {post : Int32 → eS → Prop} (F : Fm σ) (hp : ∀ σ', post (-1 : Int32) σ') : w_X11_bears σ x1 post := by
  unfold w_X11_bears
  intro σ1 e1
  subst e1
  first
  | exact m_isStreet F.th ⟨fun _ => hp _, fun c => absurd rfl c⟩
  | exact m_isStreet F.th ⟨fun c => absurd rfl c, fun _ => hp _⟩
theorem kx_often {σ : eS} {x1 : Int32} {x2 : Int32} {x3 : Int64} {post : Int64 → eS → Prop} (F : Fx σ) (hp : ∀ σ', RS σ σ' → post (-1 : Int64) σ') : w_X10_often σ x1 x2 x3 post := by
  unfold w_X10_often
  first
  | exact k_isStreet F ⟨fun _ => hp σ RS.rf, fun c => absurd rfl c⟩
  | exact k_isStreet F ⟨fun c => absurd rfl c, fun _ => hp σ RS.rf⟩
theorem mx_often {σ : eS} {x1 : Int32} {x2 : Int32} {x3 : Int64} {post : Int64 → eS → Prop} (F : Fm σ) (hp : ∀ σ', post (-1 : Int64) σ') : w_X11_often σ x1 x2 x3 post := by
  unfold w_X11_often
  intro σ1 e1
  subst e1
  first
  | exact m_isStreet F.th ⟨fun _ => hp _, fun c => absurd rfl c⟩
  | exact m_isStreet F.th ⟨fun c => absurd rfl c, fun _ => hp _⟩
theorem kx_letter {σ : eS} {x1 : Int32} {x2 : Int64} {post : Int32 → eS → Prop} (F : Fx σ) (hp : ∀ σ', RS σ σ' → post (-1 : Int32) σ') : w_X10_letter σ x1 x2 post := by
  unfold w_X10_letter
  first
  | exact k_isStreet F ⟨fun _ => hp σ RS.rf, fun c => absurd rfl c⟩
  | exact k_isStreet F ⟨fun c => absurd rfl c, fun _ => hp σ RS.rf⟩
theorem mx_letter {σ : eS} {x1 : Int32} {x2 : Int64} {post : Int32 → eS → Prop} (F : Fm σ) (hp : ∀ σ', post (-1 : Int32) σ') : w_X11_letter σ x1 x2 post := by
  unfold w_X11_letter
  intro σ1 e1
  subst e1
  first
  | exact m_isStreet F.th ⟨fun _ => hp _, fun c => absurd rfl c⟩
  | exact m_isStreet F.th ⟨fun c => absurd rfl c, fun _ => hp _⟩
theorem kx_means {σ : eS} {x1 : Int32} {x2 : Int64} {x4 : Int64} {post : Int32 → eS → Prop} (F : Fx σ) (hp : ∀ σ', RS σ σ' → post (-1 : Int32) σ') : w_X10_means σ x1 x2 x4 post := by
  unfold w_X10_means
  first
  | exact k_isStreet F ⟨fun _ => hp σ RS.rf, fun c => absurd rfl c⟩
  | exact k_isStreet F ⟨fun c => absurd rfl c, fun _ => hp σ RS.rf⟩
theorem mx_means {σ : eS} {x1 : Int32} {x2 : Int64} {x4 : Int64} {post : Int32 → eS → Prop} (F : Fm σ) (hp : ∀ σ', post (-1 : Int32) σ') : w_X11_means σ x1 x2 x4 post := by
  unfold w_X11_means
  intro σ1 e1
  subst e1
  first
  | exact m_isStreet F.th ⟨fun _ => hp _, fun c => absurd rfl c⟩
  | exact m_isStreet F.th ⟨fun c => absurd rfl c, fun _ => hp _⟩
theorem kx_smudge {σ : eS} {x1 : Int32} {x2 : Int32} {post : Int32 → eS → Prop} (F : Fx σ) (hp : ∀ σ', RS σ σ' → post (-1 : Int32) σ') : w_X10_smudge σ x1 x2 post := by
  unfold w_X10_smudge
  first
  | exact k_isStreet F ⟨fun _ => hp σ RS.rf, fun c => absurd rfl c⟩
  | exact k_isStreet F ⟨fun c => absurd rfl c, fun _ => hp σ RS.rf⟩
theorem mx_smudge {σ : eS} {x1 : Int32} {x2 : Int32} {post : Int32 → eS → Prop} (F : Fm σ) (hp : ∀ σ', post (-1 : Int32) σ') : w_X11_smudge σ x1 x2 post := by
  unfold w_X11_smudge
  intro σ1 e1
  subst e1
  first
  | exact m_isStreet F.th ⟨fun _ => hp _, fun c => absurd rfl c⟩
  | exact m_isStreet F.th ⟨fun c => absurd rfl c, fun _ => hp _⟩
theorem kx_asks {σ : eS} {x1 : Int32} {x2 : Int64} {x4 : Int64} {post : Int32 → eS → Prop} (F : Fx σ) (hp : ∀ σ', RS σ σ' → post (-1 : Int32) σ') : w_X10_asks σ x1 x2 x4 post := by
  unfold w_X10_asks
  first
  | exact k_isStreet F ⟨fun _ => hp σ RS.rf, fun c => absurd rfl c⟩
  | exact k_isStreet F ⟨fun c => absurd rfl c, fun _ => hp σ RS.rf⟩
theorem mx_asks {σ : eS} {x1 : Int32} {x2 : Int64} {x4 : Int64} {post : Int32 → eS → Prop} (F : Fm σ) (hp : ∀ σ', post (-1 : Int32) σ') : w_X11_asks σ x1 x2 x4 post := by
  unfold w_X11_asks
  intro σ1 e1
  subst e1
  first
  | exact m_isStreet F.th ⟨fun _ => hp _, fun c => absurd rfl c⟩
  | exact m_isStreet F.th ⟨fun c => absurd rfl c, fun _ => hp _⟩
theorem kx_wish {σ : eS} {x1 : Int32} {x2 : Int32} {x3 : Int32} {post : Int32 → eS → Prop} (F : Fx σ) (hp : ∀ σ', RS σ σ' → post (-1 : Int32) σ') : w_X10_wish σ x1 x2 x3 post := by
  unfold w_X10_wish
  first
  | exact k_isStreet F ⟨fun _ => hp σ RS.rf, fun c => absurd rfl c⟩
  | exact k_isStreet F ⟨fun c => absurd rfl c, fun _ => hp σ RS.rf⟩
theorem mx_wish {σ : eS} {x1 x2 x3 : Int32} {post : Int32 → eS → Prop} (F : Fm σ) (hp : ∀ σ', post (-1 : Int32) σ') : w_X11_wish σ x1 x2 x3 post := by
  unfold w_X11_wish
  intro σ1 e1
  subst e1
  refine m_in ?_
  exact ⟨fun _ => hp _, fun _ => m_isStreet F.th ⟨fun _ => hp _, fun c => absurd rfl c⟩⟩
theorem kx_home {σ : eS} {x1 : Int32} {post : Int32 → eS → Prop} (F : Fx σ) (hp : ∀ σ', RS σ σ' → post (-1 : Int32) σ') : w_X10_home σ x1 post := by
  unfold w_X10_home
  first
  | exact k_isLetter F ⟨fun _ => hp σ RS.rf, fun c => absurd rfl c⟩
  | exact k_isLetter F ⟨fun c => absurd rfl c, fun _ => hp σ RS.rf⟩
theorem mx_home {σ : eS} {x1 : Int32} {post : Int32 → eS → Prop} (F : Fm σ) (hp : ∀ σ', post (-1 : Int32) σ') : w_X11_home σ x1 post := by
  unfold w_X11_home
  intro σ1 e1
  subst e1
  first
  | exact m_isLetter F.th ⟨fun _ => hp _, fun c => absurd rfl c⟩
  | exact m_isLetter F.th ⟨fun c => absurd rfl c, fun _ => hp _⟩
theorem kx_misread {σ : eS} {x1 : Int32} {x2 : Int32} {post : Int32 → eS → Prop} (F : Fx σ) (hp : ∀ σ', RS σ σ' → post (-1 : Int32) σ') : w_X10_misread σ x1 x2 post := by
  unfold w_X10_misread
  first
  | exact k_isLetter F ⟨fun _ => hp σ RS.rf, fun c => absurd rfl c⟩
  | exact k_isLetter F ⟨fun c => absurd rfl c, fun _ => hp σ RS.rf⟩
theorem mx_misread {σ : eS} {x1 : Int32} {x2 : Int32} {post : Int32 → eS → Prop} (F : Fm σ) (hp : ∀ σ', post (-1 : Int32) σ') : w_X11_misread σ x1 x2 post := by
  unfold w_X11_misread
  intro σ1 e1
  subst e1
  first
  | exact m_isLetter F.th ⟨fun _ => hp _, fun c => absurd rfl c⟩
  | exact m_isLetter F.th ⟨fun c => absurd rfl c, fun _ => hp _⟩
theorem kx_shifts {σ : eS} {x1 : Int32} {post : Int32 → eS → Prop} (F : Fx σ) (hp : ∀ σ', RS σ σ' → post (-1 : Int32) σ') : w_X10_shifts σ x1 post := by
  unfold w_X10_shifts
  first
  | exact k_isLetter F ⟨fun _ => hp σ RS.rf, fun c => absurd rfl c⟩
  | exact k_isLetter F ⟨fun c => absurd rfl c, fun _ => hp σ RS.rf⟩
theorem mx_shifts {σ : eS} {x1 : Int32} {post : Int32 → eS → Prop} (F : Fm σ) (hp : ∀ σ', post (-1 : Int32) σ') : w_X11_shifts σ x1 post := by
  unfold w_X11_shifts
  intro σ1 e1
  subst e1
  first
  | exact m_isLetter F.th ⟨fun _ => hp _, fun c => absurd rfl c⟩
  | exact m_isLetter F.th ⟨fun c => absurd rfl c, fun _ => hp _⟩
theorem kx_answer {σ : eS} {x1 : Int32} {x2 : Int32} {post : Int32 → eS → Prop} (F : Fx σ) (hp : ∀ σ', RS σ σ' → post (-1 : Int32) σ') : w_X10_answer σ x1 x2 post := by
  unfold w_X10_answer
  first
  | exact k_isLetter F ⟨fun _ => hp σ RS.rf, fun c => absurd rfl c⟩
  | exact k_isLetter F ⟨fun c => absurd rfl c, fun _ => hp σ RS.rf⟩
theorem mx_answer {σ : eS} {x1 : Int32} {x2 : Int32} {post : Int32 → eS → Prop} (F : Fm σ) (hp : ∀ σ', post (-1 : Int32) σ') : w_X11_answer σ x1 x2 post := by
  unfold w_X11_answer
  intro σ1 e1
  subst e1
  first
  | exact m_isLetter F.th ⟨fun _ => hp _, fun c => absurd rfl c⟩
  | exact m_isLetter F.th ⟨fun c => absurd rfl c, fun _ => hp _⟩
theorem kx_carries {σ : eS} {x1 : Int32} {x2 : Int32} {post : Int32 → eS → Prop} (F : Fx σ) (hp : ∀ σ', RS σ σ' → post (-1 : Int32) σ') : w_X10_carries σ x1 x2 post := by
  unfold w_X10_carries
  first
  | exact k_isLetter F ⟨fun _ => hp σ RS.rf, fun c => absurd rfl c⟩
  | exact k_isLetter F ⟨fun c => absurd rfl c, fun _ => hp σ RS.rf⟩
theorem mx_carries {σ : eS} {x1 : Int32} {x2 : Int32} {post : Int32 → eS → Prop} (F : Fm σ) (hp : ∀ σ', post (-1 : Int32) σ') : w_X11_carries σ x1 x2 post := by
  unfold w_X11_carries
  intro σ1 e1
  subst e1
  first
  | exact m_isLetter F.th ⟨fun _ => hp _, fun c => absurd rfl c⟩
  | exact m_isLetter F.th ⟨fun c => absurd rfl c, fun _ => hp _⟩
theorem kx_best {σ : eS} {x1 : Int32} {post : Int32 → eS → Prop} (F : Fx σ) (hp : ∀ σ', RS σ σ' → post (-1 : Int32) σ') : w_X10_best σ x1 post := by
  unfold w_X10_best
  first
  | exact k_isLetter F ⟨fun _ => hp σ RS.rf, fun c => absurd rfl c⟩
  | exact k_isLetter F ⟨fun c => absurd rfl c, fun _ => hp σ RS.rf⟩
theorem mx_best {σ : eS} {x1 : Int32} {post : Int32 → eS → Prop} (F : Fm σ) (hp : ∀ σ', post (-1 : Int32) σ') : w_X11_best σ x1 post := by
  unfold w_X11_best
  intro σ1 e1
  subst e1
  first
  | exact m_isLetter F.th ⟨fun _ => hp _, fun c => absurd rfl c⟩
  | exact m_isLetter F.th ⟨fun c => absurd rfl c, fun _ => hp _⟩
theorem kx_days {σ : eS} {x1 : Int32} {x2 : Int32} {x3 : Int32} {post : Int32 → eS → Prop} (F : Fx σ) (hp : ∀ σ', RS σ σ' → post (-1 : Int32) σ') : w_X10_days σ x1 x2 x3 post := by
  unfold w_X10_days
  first
  | exact k_isLetter F ⟨fun _ => hp σ RS.rf, fun c => absurd rfl c⟩
  | exact k_isLetter F ⟨fun c => absurd rfl c, fun _ => hp σ RS.rf⟩
theorem mx_days {σ : eS} {x1 : Int32} {x2 : Int32} {x3 : Int32} {post : Int32 → eS → Prop} (F : Fm σ) (hp : ∀ σ', post (-1 : Int32) σ') : w_X11_days σ x1 x2 x3 post := by
  unfold w_X11_days
  intro σ1 e1
  subst e1
  first
  | exact m_isLetter F.th ⟨fun _ => hp _, fun c => absurd rfl c⟩
  | exact m_isLetter F.th ⟨fun c => absurd rfl c, fun _ => hp _⟩
theorem kx_travels {σ : eS} {x1 : Int32} {x2 : Int32} {post : Int32 → eS → Prop} (F : Fx σ) (hp : ∀ σ', RS σ σ' → post (-1 : Int32) σ') : w_X10_travels σ x1 x2 post := by
  unfold w_X10_travels
  first
  | exact k_isLetter F ⟨fun _ => hp σ RS.rf, fun c => absurd rfl c⟩
  | exact k_isLetter F ⟨fun c => absurd rfl c, fun _ => hp σ RS.rf⟩
theorem mx_travels {σ : eS} {x1 : Int32} {x2 : Int32} {post : Int32 → eS → Prop} (F : Fm σ) (hp : ∀ σ', post (-1 : Int32) σ') : w_X11_travels σ x1 x2 post := by
  unfold w_X11_travels
  intro σ1 e1
  subst e1
  first
  | exact m_isLetter F.th ⟨fun _ => hp _, fun c => absurd rfl c⟩
  | exact m_isLetter F.th ⟨fun c => absurd rfl c, fun _ => hp _⟩
theorem kx_sends {σ : eS} {x1 : Int32} {post : Int32 → eS → Prop} (F : Fx σ) (hp : ∀ σ', RS σ σ' → post (-1 : Int32) σ') : w_X10_sends σ x1 post := by
  unfold w_X10_sends
  first
  | exact k_isLetter F ⟨fun _ => hp σ RS.rf, fun c => absurd rfl c⟩
  | exact k_isLetter F ⟨fun c => absurd rfl c, fun _ => hp σ RS.rf⟩
theorem mx_sends {σ : eS} {x1 : Int32} {post : Int32 → eS → Prop} (F : Fm σ) (hp : ∀ σ', post (-1 : Int32) σ') : w_X11_sends σ x1 post := by
  unfold w_X11_sends
  intro σ1 e1
  subst e1
  first
  | exact m_isLetter F.th ⟨fun _ => hp _, fun c => absurd rfl c⟩
  | exact m_isLetter F.th ⟨fun c => absurd rfl c, fun _ => hp _⟩
theorem kx_cycles {σ : eS} {x1 : Int32} {post : Int32 → eS → Prop} (F : Fx σ) (hp : ∀ σ', RS σ σ' → post (-1 : Int32) σ') : w_X10_cycles σ x1 post := by
  unfold w_X10_cycles
  first
  | exact k_isOrder F ⟨fun _ => hp σ RS.rf, fun c => absurd rfl c⟩
  | exact k_isOrder F ⟨fun c => absurd rfl c, fun _ => hp σ RS.rf⟩
theorem mx_cycles {σ : eS} {x1 : Int32} {post : Int32 → eS → Prop} (F : Fm σ) (hp : ∀ σ', post (-1 : Int32) σ') : w_X11_cycles σ x1 post := by
  unfold w_X11_cycles
  intro σ1 e1
  subst e1
  first
  | exact m_isOrder F.th ⟨fun _ => hp _, fun c => absurd rfl c⟩
  | exact m_isOrder F.th ⟨fun c => absurd rfl c, fun _ => hp _⟩
theorem kx_roots {σ : eS} {x1 : Int32} {x2 : Int32} {post : Int32 → eS → Prop} (F : Fx σ) (hp : ∀ σ', RS σ σ' → post (-1 : Int32) σ') : w_X10_roots σ x1 x2 post := by
  unfold w_X10_roots
  first
  | exact k_isOrder F ⟨fun _ => hp σ RS.rf, fun c => absurd rfl c⟩
  | exact k_isOrder F ⟨fun c => absurd rfl c, fun _ => hp σ RS.rf⟩
theorem mx_roots {σ : eS} {x1 : Int32} {x2 : Int32} {post : Int32 → eS → Prop} (F : Fm σ) (hp : ∀ σ', post (-1 : Int32) σ') : w_X11_roots σ x1 x2 post := by
  unfold w_X11_roots
  intro σ1 e1
  subst e1
  first
  | exact m_isOrder F.th ⟨fun _ => hp _, fun c => absurd rfl c⟩
  | exact m_isOrder F.th ⟨fun c => absurd rfl c, fun _ => hp _⟩
theorem kx_swap {σ : eS} {x1 : Int32} {x2 : Int32} {post : Int32 → eS → Prop} (F : Fx σ) (hp : ∀ σ', RS σ σ' → post (0 : Int32) σ') : w_X10_swap σ x1 x2 post := by
  unfold w_X10_swap
  first
  | exact k_isOrder F ⟨fun _ => ⟨rfl, hp σ RS.rf⟩, fun c => absurd rfl c⟩
  | exact k_isOrder F ⟨fun c => absurd rfl c, fun _ => ⟨rfl, hp σ RS.rf⟩⟩
theorem mx_swap {σ : eS} {x1 : Int32} {x2 : Int32} {post : Int32 → eS → Prop} (F : Fm σ) (hp : ∀ σ', post (0 : Int32) σ') : w_X11_swap σ x1 x2 post := by
  unfold w_X11_swap
  intro σ1 e1
  subst e1
  first
  | exact m_isOrder F.th ⟨fun _ => ⟨rfl, hp _⟩, fun c => absurd rfl c⟩
  | exact m_isOrder F.th ⟨fun c => absurd rfl c, fun _ => ⟨rfl, hp _⟩⟩
