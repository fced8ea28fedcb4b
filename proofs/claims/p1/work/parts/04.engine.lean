/-! ENGINE: one world of N cells at labels; all methods speak of it; nothing is made. -/
abbrev eS : Type := (Nat → Nat → Int32) × (Nat → Nat → Int64) × (Nat → Nat → Nat)
abbrev eL : Type := Nat → Nat × Nat × List Nat
def e_mv (ρ : Nat → Nat) (n : Nat) : Value := match n with
  | 0 => .null
  | n + 1 => .ref (ρ n)
def e_mo (ρ : Nat → Nat) (n : Nat) : Option Nat := match n with
  | 0 => none
  | n + 1 => some (ρ n)
def e_fv (ρ : Nat → Nat) (σ : eS) (k j : Nat) (c : Nat) : Value := match c with
  | 0 => .int (σ.1 k j)
  | 1 => .long (σ.2.1 k j)
  | 2 => e_mv ρ (σ.2.2 k j)
  | c + 3 => .ref (ρ c)
def e_fs (ρ : Nat → Nat) (σ : eS) (k : Nat) : Nat → List Nat → List Value
  | _, [] => []
  | j, c :: r => e_fv ρ σ k j c :: e_fs ρ σ k (j + 1) r
def e_cell (ρ : Nat → Nat) (κ : Nat → ClassId) (σ : eS) (k : Nat) (q : Nat × Nat × List Nat) : va_E := match q with
  | (0, ci, fk) => .inr (ci, e_fs ρ σ k 0 fk)
  | (1, n, d) => .inl (κ (d.headD 0), n, .inl (σ.1 k))
  | (2, n, d) => .inl (κ (d.headD 0), n, .inr (.inl (σ.2.1 k)))
  | (3, n, d) => .inl (κ (d.headD 0), n, .inr (.inr (.inr (.inr (fun i => (d.tail[i]?).map ρ)))))
  | (_, n, d) => .inl (κ (d.headD 0), n, .inr (.inr (.inr (.inr (fun i => e_mo ρ (σ.2.2 k i))))))
def e_w (lay : eL) (N : Nat) (ρ : Nat → Nat) (κ : Nat → ClassId) (σ : eS) : va_W := (List.range N).map (fun k => (ρ k, e_cell ρ κ σ k (lay k)))
def e_ui (σ : eS) (k j : Nat) (v : Int32) : eS := (fun a => if a = k then upd (σ.1 a) j v else σ.1 a, σ.2)
def e_ul (σ : eS) (k j : Nat) (v : Int64) : eS := (σ.1, fun a => if a = k then vp_updL (σ.2.1 a) j v else σ.2.1 a, σ.2.2)
def e_ur (σ : eS) (k j : Nat) (v : Nat) : eS := (σ.1, σ.2.1, fun a => if a = k then (fun b => if b = j then v else σ.2.2 a b) else σ.2.2 a)
def e_ua (σ : eS) (k : Nat) (f : Nat → Int32) : eS := (fun a => if a = k then f else σ.1 a, σ.2)
def e_ula (σ : eS) (k : Nat) (f : Nat → Int64) : eS := (σ.1, fun a => if a = k then f else σ.2.1 a, σ.2.2)
theorem e_w_get {lay : eL} {N : Nat} {ρ : Nat → Nat} {κ : Nat → ClassId} {σ : eS} {k : Nat} (h : k < N) : (e_w lay N ρ κ σ)[k]? = some (ρ k, e_cell ρ κ σ k (lay k)) := by
  simp [e_w, h]
theorem e_fs_get {ρ : Nat → Nat} {σ : eS} {k : Nat} : ∀ (fk : List Nat) (i j c : Nat), fk[j]? = some c → (e_fs ρ σ k i fk)[j]? = some (e_fv ρ σ k (i + j) c)
  | [], _, _, _, h => by simp at h
  | a :: r, i, 0, c, h => by
    simp at h
    subst h
    rfl
  | a :: r, i, j + 1, c, h => by
    have h1 : r[j]? = some c := by simpa using h
    have h2 := e_fs_get (ρ := ρ) (σ := σ) (k := k) r (i + 1) j c h1
    show (e_fs ρ σ k (i + 1) r)[j]? = _
    rw [h2, show i + 1 + j = i + (j + 1) by omega]
theorem e_fs_len {ρ : Nat → Nat} {σ : eS} {k : Nat} : ∀ (fk : List Nat) (i : Nat), (e_fs ρ σ k i fk).length = fk.length
  | [], _ => rfl
  | a :: r, i => congrArg (· + 1) (e_fs_len r (i + 1))
theorem e_fv_congr {ρ : Nat → Nat} {σ σ' : eS} {k j : Nat} (h1 : σ.1 k j = σ'.1 k j) (h2 : σ.2.1 k j = σ'.2.1 k j) (h3 : σ.2.2 k j = σ'.2.2 k j) (c : Nat) : e_fv ρ σ k j c = e_fv ρ σ' k j c := by
  unfold e_fv
  split
  · rw [h1]
  · rw [h2]
  · rw [h3]
  · rfl
theorem e_fs_congr {ρ : Nat → Nat} {σ σ' : eS} {k : Nat} (h1 : σ.1 k = σ'.1 k) (h2 : σ.2.1 k = σ'.2.1 k) (h3 : σ.2.2 k = σ'.2.2 k) : ∀ (fk : List Nat) (i : Nat), e_fs ρ σ k i fk = e_fs ρ σ' k i fk
  | [], _ => rfl
  | a :: r, i => by
    show e_fv ρ σ k i a :: e_fs ρ σ k (i + 1) r = e_fv ρ σ' k i a :: e_fs ρ σ' k (i + 1) r
    rw [e_fv_congr (congrFun h1 i) (congrFun h2 i) (congrFun h3 i) a, e_fs_congr h1 h2 h3 r (i + 1)]
theorem e_cell_congr {ρ : Nat → Nat} {κ : Nat → ClassId} {σ σ' : eS} {k : Nat} (h1 : σ.1 k = σ'.1 k) (h2 : σ.2.1 k = σ'.2.1 k) (h3 : σ.2.2 k = σ'.2.2 k) (q : Nat × Nat × List Nat) : e_cell ρ κ σ k q = e_cell ρ κ σ' k q := by
  unfold e_cell
  split
  · rw [e_fs_congr h1 h2 h3]
  · rw [h1]
  · rw [h2]
  · rfl
  · rw [h3]
theorem e_w_set {lay : eL} {N : Nat} {ρ : Nat → Nat} {κ : Nat → ClassId} {σ : eS} (σ' : eS) {k : Nat} {e : va_E} (hne : ∀ a, a ≠ k → σ.1 a = σ'.1 a ∧ σ.2.1 a = σ'.2.1 a ∧ σ.2.2 a = σ'.2.2 a) (he : e = e_cell ρ κ σ' k (lay k)) : (e_w lay N ρ κ σ).set k (ρ k, e) = e_w lay N ρ κ σ' := by
  apply List.ext_getElem?
  intro i
  by_cases hi : i = k
  · subst hi
    by_cases hN : i < N
    · rw [List.getElem?_set_self (by simpa [e_w] using hN), e_w_get hN, he]
    · rw [List.getElem?_eq_none (by simpa [e_w] using Nat.not_lt.mp hN), List.getElem?_eq_none (by simpa [e_w] using Nat.not_lt.mp hN)]
  · rw [List.getElem?_set_ne (Ne.symm hi)]
    by_cases hN : i < N
    · obtain ⟨h1, h2, h3⟩ := hne i hi
      rw [e_w_get hN, e_w_get hN, e_cell_congr h1 h2 h3]
    · rw [List.getElem?_eq_none (by simpa [e_w] using Nat.not_lt.mp hN), List.getElem?_eq_none (by simpa [e_w] using Nat.not_lt.mp hN)]
theorem e_fs_set {ρ : Nat → Nat} {σ σ' : eS} {k jj : Nat} {v : Value} (hr : ∀ i c, i ≠ jj → e_fv ρ σ k i c = e_fv ρ σ' k i c) {c0 : Nat} (hv : v = e_fv ρ σ' k jj c0) : ∀ (fk : List Nat) (i j : Nat), i + j = jj → fk[j]? = some c0 → (e_fs ρ σ k i fk).set j v = e_fs ρ σ' k i fk
  | [], _, _, _, h => by simp at h
  | a :: r, i, 0, hj, h => by
    simp at h
    subst h
    have hj' : i = jj := by omega
    subst hj'
    show v :: e_fs ρ σ k (i + 1) r = e_fv ρ σ' k i a :: e_fs ρ σ' k (i + 1) r
    rw [hv]
    congr 1
    have key : ∀ (r : List Nat) (n : Nat), i < n → e_fs ρ σ k n r = e_fs ρ σ' k n r := by
      intro r
      induction r with
      | nil => intro _ _; rfl
      | cons b r ih =>
        intro n hn
        show e_fv ρ σ k n b :: e_fs ρ σ k (n + 1) r = e_fv ρ σ' k n b :: e_fs ρ σ' k (n + 1) r
        rw [hr n b (by omega), ih (n + 1) (by omega)]
    exact key r (i + 1) (by omega)
  | a :: r, i, j + 1, hj, h => by
    have h1 : r[j]? = some c0 := by simpa using h
    show e_fv ρ σ k i a :: (e_fs ρ σ k (i + 1) r).set j v = e_fv ρ σ' k i a :: e_fs ρ σ' k (i + 1) r
    rw [hr i a (by omega), e_fs_set hr hv r (i + 1) j (by omega) h1]
theorem e_ui_ne {σ : eS} {k j : Nat} {v : Int32} : ∀ a, a ≠ k → σ.1 a = (e_ui σ k j v).1 a ∧ σ.2.1 a = (e_ui σ k j v).2.1 a ∧ σ.2.2 a = (e_ui σ k j v).2.2 a := fun a h => ⟨by simp [e_ui, h], rfl, rfl⟩
theorem e_ul_ne {σ : eS} {k j : Nat} {v : Int64} : ∀ a, a ≠ k → σ.1 a = (e_ul σ k j v).1 a ∧ σ.2.1 a = (e_ul σ k j v).2.1 a ∧ σ.2.2 a = (e_ul σ k j v).2.2 a := fun a h => ⟨rfl, by simp [e_ul, h], rfl⟩
theorem e_ur_ne {σ : eS} {k j : Nat} {v : Nat} : ∀ a, a ≠ k → σ.1 a = (e_ur σ k j v).1 a ∧ σ.2.1 a = (e_ur σ k j v).2.1 a ∧ σ.2.2 a = (e_ur σ k j v).2.2 a := fun a h => ⟨rfl, rfl, by simp [e_ur, h]⟩
theorem e_ua_ne {σ : eS} {k : Nat} {f : Nat → Int32} : ∀ a, a ≠ k → σ.1 a = (e_ua σ k f).1 a ∧ σ.2.1 a = (e_ua σ k f).2.1 a ∧ σ.2.2 a = (e_ua σ k f).2.2 a := fun a h => ⟨by simp [e_ua, h], rfl, rfl⟩
theorem e_ula_ne {σ : eS} {k : Nat} {f : Nat → Int64} : ∀ a, a ≠ k → σ.1 a = (e_ula σ k f).1 a ∧ σ.2.1 a = (e_ula σ k f).2.1 a ∧ σ.2.2 a = (e_ula σ k f).2.2 a := fun a h => ⟨rfl, by simp [e_ula, h], rfl⟩
/-- what stays as it is while a method runs -/
abbrev eN : Type := List (String × Nat × String × String × String × String)
def eK (N : Nat) (cl : List vw_C) (tys : List (ClassId × FieldType)) (D : va_G) (ρ : Nat → Nat) (base : Nat) (nw : eN) (s : State) : Prop :=
  va_K D cl tys s ∧ (∀ i j, i < N → j < N → ρ i = ρ j → i = j) ∧ (∀ k, k < N → base ≤ ρ k) ∧ base ≤ s.heap.size ∧ ∀ q ∈ nw, va_Nw (.fieldLinkNest q.1 q.2.1 q.2.2.1 q.2.2.2.1 q.2.2.2.2.1 q.2.2.2.2.2) s
def e_nthq : eN → Nat → Option (String × Nat × String × String × String × String)
  | [], _ => none
  | a :: _, 0 => some a
  | _ :: r, n + 1 => e_nthq r n
theorem e_memq : ∀ {l : eN} {n : Nat} {w : String × Nat × String × String × String × String}, e_nthq l n = some w → w ∈ l
  | [], _, _, h => by cases h
  | a :: r, 0, w, h => by
    cases h
    exact List.mem_cons_self
  | a :: r, n + 1, w, h => List.mem_cons_of_mem _ (e_memq (l := r) (n := n) h)
/-- the world now -/
def eG (lay : eL) (N : Nat) (cl : List vw_C) (D : va_G) (ρ : Nat → Nat) (κ : Nat → ClassId) (base : Nat) (s : State) (σ : eS) (H : Heap) (locs : List Loc) : Prop :=
  va_P D cl (e_w lay N ρ κ σ) H ∧ va_S (fun q => base ≤ q) s.heap H locs
theorem e_D {lay : eL} {N : Nat} {ρ : Nat → Nat} {κ : Nat → ClassId} {σ : eS} {base : Nat} (h1 : ∀ i j, i < N → j < N → ρ i = ρ j → i = j) (h2 : ∀ k, k < N → base ≤ ρ k) : va_D (fun q => base ≤ q) (e_w lay N ρ κ σ) := by
  have key : ∀ (i : Nat) (p : Nat × va_E), (e_w lay N ρ κ σ)[i]? = some p → i < N ∧ p.1 = ρ i := by
    intro i p h
    have hl : i < N := by have := (List.getElem?_eq_some_iff.mp h).1; simpa [e_w] using this
    rw [e_w_get hl] at h
    cases h
    exact ⟨hl, rfl⟩
  refine ⟨fun i j p q hi hj hpq => ?_, fun k q hk => ?_⟩
  · obtain ⟨a1, a2⟩ := key i p hi
    obtain ⟨b1, b2⟩ := key j q hj
    exact h1 i j a1 b1 (by rw [← a2, ← b2, hpq])
  · obtain ⟨a1, a2⟩ := key k q hk
    show base ≤ q.1
    rw [a2]
    exact h2 k a1
section ENG
variable {p : Program} {l : Launch} {e : Env} {R : Room} {s : State} {m : MethodId} {args : Array Value} {below : List Frame} {meth : Method} {c : Code} {H : Heap} {locs : List Loc} {cells slots : Nat} {Q : State → Prop}
variable {cc : ByteArray} {pc : Nat} {ls : Array Slot} {rest : List Value} {D : va_G} {cl : List vw_C} {tys : List (ClassId × FieldType)} {lay : eL} {N base : Nat} {ρ : Nat → Nat} {κ : Nat → ClassId} {σ : eS} {nw : eN}
variable {own C : String} {T : u_T} {NF ci index : Nat} {Ts : List Cond} {fk : List Nat}
theorem e_geti (hexec : p.tables.exec = Jvm.exec) (hb : c.code = cc) (hts : ∀ w ∈ Ts, w.before args s = true) (hin : ∀ w ∈ u_ws C T NF, w ∈ Ts) (hown : s.vm.findClass own = some m.cls) (K : eK N cl tys D ρ base nw s) (G : eG lay N cl D ρ κ base s σ H locs) (k : Nat) (hk : k < N) (hl : lay k = (0, ci, fk)) (hc : cl[ci]? = some (C, T, NF)) (j : Nat) (hj : j < NF) (hf : fk[j]? = some 0) (hlink : (Cond.fieldLink own index (T j).1 (T j).2.1 (T j).2.2.1).before args s = true) (hdg : decode cc pc = .ok (.getfield index, 3))
    (kk : W p l e R s m args below meth c H locs cells slots Q (F0 m (pc + 3) ls (.int (σ.1 k j) :: rest))) : W p l e R s m args below meth c H locs cells slots Q (F0 m pc ls (.ref (ρ k) :: rest)) := by
  have he := e_w_get (lay := lay) (ρ := ρ) (κ := κ) (σ := σ) hk
  rw [hl] at he
  have hv := e_fs_get (ρ := ρ) (σ := σ) (k := k) fk 0 j 0 hf
  rw [Nat.zero_add] at hv
  exact va_get hexec hb hts hin hown K.1 G.1 k he hc j hj hlink (fun _ h => h) hv hdg kk
theorem e_getiN (hexec : p.tables.exec = Jvm.exec) (hb : c.code = cc) (hts : ∀ w ∈ Ts, w.before args s = true) (hin : ∀ w ∈ u_ws C T NF, w ∈ Ts) (hown : s.vm.findClass own = some m.cls) (K : eK N cl tys D ρ base nw s) (G : eG lay N cl D ρ κ base s σ H locs) (k : Nat) (hk : k < N) (hl : lay k = (0, ci, fk)) (hc : cl[ci]? = some (C, T, NF)) (j : Nat) (hj : j < NF) (hf : fk[j]? = some 0) {host : String} (hq : (own, index, (T j).1, (T j).2.1, (T j).2.2.1, host) ∈ nw) (hdg : decode cc pc = .ok (.getfield index, 3))
    (kk : W p l e R s m args below meth c H locs cells slots Q (F0 m (pc + 3) ls (.int (σ.1 k j) :: rest))) : W p l e R s m args below meth c H locs cells slots Q (F0 m pc ls (.ref (ρ k) :: rest)) := by
  have he := e_w_get (lay := lay) (ρ := ρ) (κ := κ) (σ := σ) hk
  rw [hl] at he
  have hv := e_fs_get (ρ := ρ) (σ := σ) (k := k) fk 0 j 0 hf
  rw [Nat.zero_add] at hv
  exact va_getN hexec hb hts hin hown K.1 G.1 k he hc j hj (va_Nw.use rfl (K.2.2.2.2 _ hq)) (fun _ h => h) hv hdg kk
theorem e_getl (hexec : p.tables.exec = Jvm.exec) (hb : c.code = cc) (hts : ∀ w ∈ Ts, w.before args s = true) (hin : ∀ w ∈ u_ws C T NF, w ∈ Ts) (hown : s.vm.findClass own = some m.cls) (K : eK N cl tys D ρ base nw s) (G : eG lay N cl D ρ κ base s σ H locs) (k : Nat) (hk : k < N) (hl : lay k = (0, ci, fk)) (hc : cl[ci]? = some (C, T, NF)) (j : Nat) (hj : j < NF) (hf : fk[j]? = some 1) (hlink : (Cond.fieldLink own index (T j).1 (T j).2.1 (T j).2.2.1).before args s = true) (hdg : decode cc pc = .ok (.getfield index, 3))
    (kk : W p l e R s m args below meth c H locs cells slots Q (F0 m (pc + 3) ls (.long (σ.2.1 k j) :: rest))) : W p l e R s m args below meth c H locs cells slots Q (F0 m pc ls (.ref (ρ k) :: rest)) := by
  have he := e_w_get (lay := lay) (ρ := ρ) (κ := κ) (σ := σ) hk
  rw [hl] at he
  have hv := e_fs_get (ρ := ρ) (σ := σ) (k := k) fk 0 j 1 hf
  rw [Nat.zero_add] at hv
  exact va_get hexec hb hts hin hown K.1 G.1 k he hc j hj hlink (fun _ h => h) hv hdg kk
theorem e_getlN (hexec : p.tables.exec = Jvm.exec) (hb : c.code = cc) (hts : ∀ w ∈ Ts, w.before args s = true) (hin : ∀ w ∈ u_ws C T NF, w ∈ Ts) (hown : s.vm.findClass own = some m.cls) (K : eK N cl tys D ρ base nw s) (G : eG lay N cl D ρ κ base s σ H locs) (k : Nat) (hk : k < N) (hl : lay k = (0, ci, fk)) (hc : cl[ci]? = some (C, T, NF)) (j : Nat) (hj : j < NF) (hf : fk[j]? = some 1) {host : String} (hq : (own, index, (T j).1, (T j).2.1, (T j).2.2.1, host) ∈ nw) (hdg : decode cc pc = .ok (.getfield index, 3))
    (kk : W p l e R s m args below meth c H locs cells slots Q (F0 m (pc + 3) ls (.long (σ.2.1 k j) :: rest))) : W p l e R s m args below meth c H locs cells slots Q (F0 m pc ls (.ref (ρ k) :: rest)) := by
  have he := e_w_get (lay := lay) (ρ := ρ) (κ := κ) (σ := σ) hk
  rw [hl] at he
  have hv := e_fs_get (ρ := ρ) (σ := σ) (k := k) fk 0 j 1 hf
  rw [Nat.zero_add] at hv
  exact va_getN hexec hb hts hin hown K.1 G.1 k he hc j hj (va_Nw.use rfl (K.2.2.2.2 _ hq)) (fun _ h => h) hv hdg kk
theorem e_getr (hexec : p.tables.exec = Jvm.exec) (hb : c.code = cc) (hts : ∀ w ∈ Ts, w.before args s = true) (hin : ∀ w ∈ u_ws C T NF, w ∈ Ts) (hown : s.vm.findClass own = some m.cls) (K : eK N cl tys D ρ base nw s) (G : eG lay N cl D ρ κ base s σ H locs) (k : Nat) (hk : k < N) (hl : lay k = (0, ci, fk)) (hc : cl[ci]? = some (C, T, NF)) (j : Nat) (hj : j < NF) (hf : fk[j]? = some 2) (hlink : (Cond.fieldLink own index (T j).1 (T j).2.1 (T j).2.2.1).before args s = true) (hdg : decode cc pc = .ok (.getfield index, 3))
    (kk : W p l e R s m args below meth c H locs cells slots Q (F0 m (pc + 3) ls (e_mv ρ (σ.2.2 k j) :: rest))) : W p l e R s m args below meth c H locs cells slots Q (F0 m pc ls (.ref (ρ k) :: rest)) := by
  have he := e_w_get (lay := lay) (ρ := ρ) (κ := κ) (σ := σ) hk
  rw [hl] at he
  have hv := e_fs_get (ρ := ρ) (σ := σ) (k := k) fk 0 j 2 hf
  rw [Nat.zero_add] at hv
  exact va_get hexec hb hts hin hown K.1 G.1 k he hc j hj hlink (fun _ h => h) hv hdg kk
theorem e_getrN (hexec : p.tables.exec = Jvm.exec) (hb : c.code = cc) (hts : ∀ w ∈ Ts, w.before args s = true) (hin : ∀ w ∈ u_ws C T NF, w ∈ Ts) (hown : s.vm.findClass own = some m.cls) (K : eK N cl tys D ρ base nw s) (G : eG lay N cl D ρ κ base s σ H locs) (k : Nat) (hk : k < N) (hl : lay k = (0, ci, fk)) (hc : cl[ci]? = some (C, T, NF)) (j : Nat) (hj : j < NF) (hf : fk[j]? = some 2) {host : String} (hq : (own, index, (T j).1, (T j).2.1, (T j).2.2.1, host) ∈ nw) (hdg : decode cc pc = .ok (.getfield index, 3))
    (kk : W p l e R s m args below meth c H locs cells slots Q (F0 m (pc + 3) ls (e_mv ρ (σ.2.2 k j) :: rest))) : W p l e R s m args below meth c H locs cells slots Q (F0 m pc ls (.ref (ρ k) :: rest)) := by
  have he := e_w_get (lay := lay) (ρ := ρ) (κ := κ) (σ := σ) hk
  rw [hl] at he
  have hv := e_fs_get (ρ := ρ) (σ := σ) (k := k) fk 0 j 2 hf
  rw [Nat.zero_add] at hv
  exact va_getN hexec hb hts hin hown K.1 G.1 k he hc j hj (va_Nw.use rfl (K.2.2.2.2 _ hq)) (fun _ h => h) hv hdg kk
theorem e_getq (hexec : p.tables.exec = Jvm.exec) (hb : c.code = cc) (hts : ∀ w ∈ Ts, w.before args s = true) (hin : ∀ w ∈ u_ws C T NF, w ∈ Ts) (hown : s.vm.findClass own = some m.cls) (K : eK N cl tys D ρ base nw s) (G : eG lay N cl D ρ κ base s σ H locs) (k : Nat) (hk : k < N) (hl : lay k = (0, ci, fk)) (hc : cl[ci]? = some (C, T, NF)) (j : Nat) (hj : j < NF) (b : Nat) (hf : fk[j]? = some (b + 3)) (hlink : (Cond.fieldLink own index (T j).1 (T j).2.1 (T j).2.2.1).before args s = true) (hdg : decode cc pc = .ok (.getfield index, 3))
    (kk : W p l e R s m args below meth c H locs cells slots Q (F0 m (pc + 3) ls (.ref (ρ b) :: rest))) : W p l e R s m args below meth c H locs cells slots Q (F0 m pc ls (.ref (ρ k) :: rest)) := by
  have he := e_w_get (lay := lay) (ρ := ρ) (κ := κ) (σ := σ) hk
  rw [hl] at he
  have hv := e_fs_get (ρ := ρ) (σ := σ) (k := k) fk 0 j (b + 3) hf
  rw [Nat.zero_add] at hv
  exact va_get hexec hb hts hin hown K.1 G.1 k he hc j hj hlink (fun _ h => h) hv hdg kk
theorem e_getqN (hexec : p.tables.exec = Jvm.exec) (hb : c.code = cc) (hts : ∀ w ∈ Ts, w.before args s = true) (hin : ∀ w ∈ u_ws C T NF, w ∈ Ts) (hown : s.vm.findClass own = some m.cls) (K : eK N cl tys D ρ base nw s) (G : eG lay N cl D ρ κ base s σ H locs) (k : Nat) (hk : k < N) (hl : lay k = (0, ci, fk)) (hc : cl[ci]? = some (C, T, NF)) (j : Nat) (hj : j < NF) (b : Nat) (hf : fk[j]? = some (b + 3)) {host : String} (hq : (own, index, (T j).1, (T j).2.1, (T j).2.2.1, host) ∈ nw) (hdg : decode cc pc = .ok (.getfield index, 3))
    (kk : W p l e R s m args below meth c H locs cells slots Q (F0 m (pc + 3) ls (.ref (ρ b) :: rest))) : W p l e R s m args below meth c H locs cells slots Q (F0 m pc ls (.ref (ρ k) :: rest)) := by
  have he := e_w_get (lay := lay) (ρ := ρ) (κ := κ) (σ := σ) hk
  rw [hl] at he
  have hv := e_fs_get (ρ := ρ) (σ := σ) (k := k) fk 0 j (b + 3) hf
  rw [Nat.zero_add] at hv
  exact va_getN hexec hb hts hin hown K.1 G.1 k he hc j hj (va_Nw.use rfl (K.2.2.2.2 _ hq)) (fun _ h => h) hv hdg kk
theorem e_puti (hexec : p.tables.exec = Jvm.exec) (hb : c.code = cc) (hts : ∀ w ∈ Ts, w.before args s = true) (hin : ∀ w ∈ u_ws C T NF, w ∈ Ts) (ty0 : Nat → FieldType) (hty : ∀ k, k < NF → parseFieldDescriptor (T k).2.2.1 = some (ty0 k)) (hnm : ∀ a, a < NF → ∀ b, b < NF → a ≠ b → (T a).2.1 ≠ (T b).2.1) (hown : s.vm.findClass own = some m.cls) (K : eK N cl tys D ρ base nw s) (G : eG lay N cl D ρ κ base s σ H locs) (k : Nat) (hk : k < N) (hl : lay k = (0, ci, fk)) (hc : cl[ci]? = some (C, T, NF)) (j : Nat) (hj : j < NF) (hf : fk[j]? = some 0) (hlink : (Cond.fieldLink own index (T j).1 (T j).2.1 (T j).2.2.1).before args s = true) (hfin : (T j).2.2.2 = false) {ty : FieldType} {v : Int32} (hd : parseFieldDescriptor (T j).2.2.1 = some ty) (hn : narrow ty (.int v) = .int v) (hfit : fits ty (.int v) = true) (hdg : decode cc pc = .ok (.putfield index, 3))
    (kk : ∀ (H1 : Heap) (locs1 : List Loc), eG lay N cl D ρ κ base s (e_ui σ k j v) H1 locs1 → W p l e R s m args below meth c H1 locs1 cells slots Q (F0 m (pc + 3) ls rest)) : W p l e R s m args below meth c H locs cells slots Q (F0 m pc ls (.int v :: .ref (ρ k) :: rest)) := by
  have he := e_w_get (lay := lay) (ρ := ρ) (κ := κ) (σ := σ) hk
  rw [hl] at he
  refine va_put hexec hb hts hin ty0 hty hnm hown K.1 G.1 (e_D K.2.1 K.2.2.1) G.2 k he hc j hj hlink (fun _ h => h) hfin hd hn hfit (by rw [e_fs_len]; exact (List.getElem?_eq_some_iff.mp hf).1) hdg (fun H1 locs1 hP _ hS => kk H1 locs1 ⟨?_, hS⟩)
  rwa [e_w_set (e_ui σ k j v) e_ui_ne] at hP
  rw [hl]
  show _ = Sum.inr (ci, e_fs ρ (e_ui σ k j v) k 0 fk)
  exact congrArg (fun z => (Sum.inr (ci, z) : va_E)) (e_fs_set (ρ := ρ) (σ := σ) (σ' := e_ui σ k j v) (k := k) (jj := j) (c0 := 0) (fun i c hi => e_fv_congr (ρ := ρ) (σ := σ) (σ' := e_ui σ k j v) (k := k) (j := i) (by simp [e_ui, upd, hi]) rfl rfl c) (by simp [e_fv, e_ui, upd]) fk 0 j (Nat.zero_add j) hf)
theorem e_putiN (hexec : p.tables.exec = Jvm.exec) (hb : c.code = cc) (hts : ∀ w ∈ Ts, w.before args s = true) (hin : ∀ w ∈ u_ws C T NF, w ∈ Ts) (ty0 : Nat → FieldType) (hty : ∀ k, k < NF → parseFieldDescriptor (T k).2.2.1 = some (ty0 k)) (hnm : ∀ a, a < NF → ∀ b, b < NF → a ≠ b → (T a).2.1 ≠ (T b).2.1) (hown : s.vm.findClass own = some m.cls) (K : eK N cl tys D ρ base nw s) (G : eG lay N cl D ρ κ base s σ H locs) (k : Nat) (hk : k < N) (hl : lay k = (0, ci, fk)) (hc : cl[ci]? = some (C, T, NF)) (j : Nat) (hj : j < NF) (hf : fk[j]? = some 0) {host : String} (hq : (own, index, (T j).1, (T j).2.1, (T j).2.2.1, host) ∈ nw) (hfin : (T j).2.2.2 = false) {ty : FieldType} {v : Int32} (hd : parseFieldDescriptor (T j).2.2.1 = some ty) (hn : narrow ty (.int v) = .int v) (hfit : fits ty (.int v) = true) (hdg : decode cc pc = .ok (.putfield index, 3))
    (kk : ∀ (H1 : Heap) (locs1 : List Loc), eG lay N cl D ρ κ base s (e_ui σ k j v) H1 locs1 → W p l e R s m args below meth c H1 locs1 cells slots Q (F0 m (pc + 3) ls rest)) : W p l e R s m args below meth c H locs cells slots Q (F0 m pc ls (.int v :: .ref (ρ k) :: rest)) := by
  have he := e_w_get (lay := lay) (ρ := ρ) (κ := κ) (σ := σ) hk
  rw [hl] at he
  refine va_putN hexec hb hts hin ty0 hty hnm hown K.1 G.1 (e_D K.2.1 K.2.2.1) G.2 k he hc j hj (va_Nw.use rfl (K.2.2.2.2 _ hq)) (fun _ h => h) hfin hd hn hfit (by rw [e_fs_len]; exact (List.getElem?_eq_some_iff.mp hf).1) hdg (fun H1 locs1 hP _ hS => kk H1 locs1 ⟨?_, hS⟩)
  rwa [e_w_set (e_ui σ k j v) e_ui_ne] at hP
  rw [hl]
  show _ = Sum.inr (ci, e_fs ρ (e_ui σ k j v) k 0 fk)
  exact congrArg (fun z => (Sum.inr (ci, z) : va_E)) (e_fs_set (ρ := ρ) (σ := σ) (σ' := e_ui σ k j v) (k := k) (jj := j) (c0 := 0) (fun i c hi => e_fv_congr (ρ := ρ) (σ := σ) (σ' := e_ui σ k j v) (k := k) (j := i) (by simp [e_ui, upd, hi]) rfl rfl c) (by simp [e_fv, e_ui, upd]) fk 0 j (Nat.zero_add j) hf)
theorem e_putl (hexec : p.tables.exec = Jvm.exec) (hb : c.code = cc) (hts : ∀ w ∈ Ts, w.before args s = true) (hin : ∀ w ∈ u_ws C T NF, w ∈ Ts) (ty0 : Nat → FieldType) (hty : ∀ k, k < NF → parseFieldDescriptor (T k).2.2.1 = some (ty0 k)) (hnm : ∀ a, a < NF → ∀ b, b < NF → a ≠ b → (T a).2.1 ≠ (T b).2.1) (hown : s.vm.findClass own = some m.cls) (K : eK N cl tys D ρ base nw s) (G : eG lay N cl D ρ κ base s σ H locs) (k : Nat) (hk : k < N) (hl : lay k = (0, ci, fk)) (hc : cl[ci]? = some (C, T, NF)) (j : Nat) (hj : j < NF) (hf : fk[j]? = some 1) (hlink : (Cond.fieldLink own index (T j).1 (T j).2.1 (T j).2.2.1).before args s = true) (hfin : (T j).2.2.2 = false) {v : Int64} (hd : parseFieldDescriptor (T j).2.2.1 = some .long) (hdg : decode cc pc = .ok (.putfield index, 3))
    (kk : ∀ (H1 : Heap) (locs1 : List Loc), eG lay N cl D ρ κ base s (e_ul σ k j v) H1 locs1 → W p l e R s m args below meth c H1 locs1 cells slots Q (F0 m (pc + 3) ls rest)) : W p l e R s m args below meth c H locs cells slots Q (F0 m pc ls (.long v :: .ref (ρ k) :: rest)) := by
  have he := e_w_get (lay := lay) (ρ := ρ) (κ := κ) (σ := σ) hk
  rw [hl] at he
  refine va_put hexec hb hts hin ty0 hty hnm hown K.1 G.1 (e_D K.2.1 K.2.2.1) G.2 k he hc j hj hlink (fun _ h => h) hfin hd rfl rfl (by rw [e_fs_len]; exact (List.getElem?_eq_some_iff.mp hf).1) hdg (fun H1 locs1 hP _ hS => kk H1 locs1 ⟨?_, hS⟩)
  rwa [e_w_set (e_ul σ k j v) e_ul_ne] at hP
  rw [hl]
  show _ = Sum.inr (ci, e_fs ρ (e_ul σ k j v) k 0 fk)
  exact congrArg (fun z => (Sum.inr (ci, z) : va_E)) (e_fs_set (ρ := ρ) (σ := σ) (σ' := e_ul σ k j v) (k := k) (jj := j) (c0 := 1) (fun i c hi => e_fv_congr (ρ := ρ) (σ := σ) (σ' := e_ul σ k j v) (k := k) (j := i) rfl (by simp [e_ul, vp_updL, hi]) rfl c) (by simp [e_fv, e_ul, vp_updL]) fk 0 j (Nat.zero_add j) hf)
theorem e_putlN (hexec : p.tables.exec = Jvm.exec) (hb : c.code = cc) (hts : ∀ w ∈ Ts, w.before args s = true) (hin : ∀ w ∈ u_ws C T NF, w ∈ Ts) (ty0 : Nat → FieldType) (hty : ∀ k, k < NF → parseFieldDescriptor (T k).2.2.1 = some (ty0 k)) (hnm : ∀ a, a < NF → ∀ b, b < NF → a ≠ b → (T a).2.1 ≠ (T b).2.1) (hown : s.vm.findClass own = some m.cls) (K : eK N cl tys D ρ base nw s) (G : eG lay N cl D ρ κ base s σ H locs) (k : Nat) (hk : k < N) (hl : lay k = (0, ci, fk)) (hc : cl[ci]? = some (C, T, NF)) (j : Nat) (hj : j < NF) (hf : fk[j]? = some 1) {host : String} (hq : (own, index, (T j).1, (T j).2.1, (T j).2.2.1, host) ∈ nw) (hfin : (T j).2.2.2 = false) {v : Int64} (hd : parseFieldDescriptor (T j).2.2.1 = some .long) (hdg : decode cc pc = .ok (.putfield index, 3))
    (kk : ∀ (H1 : Heap) (locs1 : List Loc), eG lay N cl D ρ κ base s (e_ul σ k j v) H1 locs1 → W p l e R s m args below meth c H1 locs1 cells slots Q (F0 m (pc + 3) ls rest)) : W p l e R s m args below meth c H locs cells slots Q (F0 m pc ls (.long v :: .ref (ρ k) :: rest)) := by
  have he := e_w_get (lay := lay) (ρ := ρ) (κ := κ) (σ := σ) hk
  rw [hl] at he
  refine va_putN hexec hb hts hin ty0 hty hnm hown K.1 G.1 (e_D K.2.1 K.2.2.1) G.2 k he hc j hj (va_Nw.use rfl (K.2.2.2.2 _ hq)) (fun _ h => h) hfin hd rfl rfl (by rw [e_fs_len]; exact (List.getElem?_eq_some_iff.mp hf).1) hdg (fun H1 locs1 hP _ hS => kk H1 locs1 ⟨?_, hS⟩)
  rwa [e_w_set (e_ul σ k j v) e_ul_ne] at hP
  rw [hl]
  show _ = Sum.inr (ci, e_fs ρ (e_ul σ k j v) k 0 fk)
  exact congrArg (fun z => (Sum.inr (ci, z) : va_E)) (e_fs_set (ρ := ρ) (σ := σ) (σ' := e_ul σ k j v) (k := k) (jj := j) (c0 := 1) (fun i c hi => e_fv_congr (ρ := ρ) (σ := σ) (σ' := e_ul σ k j v) (k := k) (j := i) rfl (by simp [e_ul, vp_updL, hi]) rfl c) (by simp [e_fv, e_ul, vp_updL]) fk 0 j (Nat.zero_add j) hf)
theorem e_putr (hexec : p.tables.exec = Jvm.exec) (hb : c.code = cc) (hts : ∀ w ∈ Ts, w.before args s = true) (hin : ∀ w ∈ u_ws C T NF, w ∈ Ts) (ty0 : Nat → FieldType) (hty : ∀ k, k < NF → parseFieldDescriptor (T k).2.2.1 = some (ty0 k)) (hnm : ∀ a, a < NF → ∀ b, b < NF → a ≠ b → (T a).2.1 ≠ (T b).2.1) (hown : s.vm.findClass own = some m.cls) (K : eK N cl tys D ρ base nw s) (G : eG lay N cl D ρ κ base s σ H locs) (k : Nat) (hk : k < N) (hl : lay k = (0, ci, fk)) (hc : cl[ci]? = some (C, T, NF)) (j : Nat) (hj : j < NF) (hf : fk[j]? = some 2) (hlink : (Cond.fieldLink own index (T j).1 (T j).2.1 (T j).2.2.1).before args s = true) (hfin : (T j).2.2.2 = false) {ty : FieldType} (n : Nat) (hd : parseFieldDescriptor (T j).2.2.1 = some ty) (hn : narrow ty (e_mv ρ n) = e_mv ρ n) (hfit : fits ty (e_mv ρ n) = true) (hdg : decode cc pc = .ok (.putfield index, 3))
    (kk : ∀ (H1 : Heap) (locs1 : List Loc), eG lay N cl D ρ κ base s (e_ur σ k j n) H1 locs1 → W p l e R s m args below meth c H1 locs1 cells slots Q (F0 m (pc + 3) ls rest)) : W p l e R s m args below meth c H locs cells slots Q (F0 m pc ls (e_mv ρ n :: .ref (ρ k) :: rest)) := by
  have he := e_w_get (lay := lay) (ρ := ρ) (κ := κ) (σ := σ) hk
  rw [hl] at he
  refine va_put hexec hb hts hin ty0 hty hnm hown K.1 G.1 (e_D K.2.1 K.2.2.1) G.2 k he hc j hj hlink (fun _ h => h) hfin hd hn hfit (by rw [e_fs_len]; exact (List.getElem?_eq_some_iff.mp hf).1) hdg (fun H1 locs1 hP _ hS => kk H1 locs1 ⟨?_, hS⟩)
  rwa [e_w_set (e_ur σ k j n) e_ur_ne] at hP
  rw [hl]
  show _ = Sum.inr (ci, e_fs ρ (e_ur σ k j n) k 0 fk)
  exact congrArg (fun z => (Sum.inr (ci, z) : va_E)) (e_fs_set (ρ := ρ) (σ := σ) (σ' := e_ur σ k j n) (k := k) (jj := j) (c0 := 2) (fun i c hi => e_fv_congr (ρ := ρ) (σ := σ) (σ' := e_ur σ k j n) (k := k) (j := i) rfl rfl (by simp [e_ur, hi]) c) (by simp [e_fv, e_ur]) fk 0 j (Nat.zero_add j) hf)
theorem e_putrN (hexec : p.tables.exec = Jvm.exec) (hb : c.code = cc) (hts : ∀ w ∈ Ts, w.before args s = true) (hin : ∀ w ∈ u_ws C T NF, w ∈ Ts) (ty0 : Nat → FieldType) (hty : ∀ k, k < NF → parseFieldDescriptor (T k).2.2.1 = some (ty0 k)) (hnm : ∀ a, a < NF → ∀ b, b < NF → a ≠ b → (T a).2.1 ≠ (T b).2.1) (hown : s.vm.findClass own = some m.cls) (K : eK N cl tys D ρ base nw s) (G : eG lay N cl D ρ κ base s σ H locs) (k : Nat) (hk : k < N) (hl : lay k = (0, ci, fk)) (hc : cl[ci]? = some (C, T, NF)) (j : Nat) (hj : j < NF) (hf : fk[j]? = some 2) {host : String} (hq : (own, index, (T j).1, (T j).2.1, (T j).2.2.1, host) ∈ nw) (hfin : (T j).2.2.2 = false) {ty : FieldType} (n : Nat) (hd : parseFieldDescriptor (T j).2.2.1 = some ty) (hn : narrow ty (e_mv ρ n) = e_mv ρ n) (hfit : fits ty (e_mv ρ n) = true) (hdg : decode cc pc = .ok (.putfield index, 3))
    (kk : ∀ (H1 : Heap) (locs1 : List Loc), eG lay N cl D ρ κ base s (e_ur σ k j n) H1 locs1 → W p l e R s m args below meth c H1 locs1 cells slots Q (F0 m (pc + 3) ls rest)) : W p l e R s m args below meth c H locs cells slots Q (F0 m pc ls (e_mv ρ n :: .ref (ρ k) :: rest)) := by
  have he := e_w_get (lay := lay) (ρ := ρ) (κ := κ) (σ := σ) hk
  rw [hl] at he
  refine va_putN hexec hb hts hin ty0 hty hnm hown K.1 G.1 (e_D K.2.1 K.2.2.1) G.2 k he hc j hj (va_Nw.use rfl (K.2.2.2.2 _ hq)) (fun _ h => h) hfin hd hn hfit (by rw [e_fs_len]; exact (List.getElem?_eq_some_iff.mp hf).1) hdg (fun H1 locs1 hP _ hS => kk H1 locs1 ⟨?_, hS⟩)
  rwa [e_w_set (e_ur σ k j n) e_ur_ne] at hP
  rw [hl]
  show _ = Sum.inr (ci, e_fs ρ (e_ur σ k j n) k 0 fk)
  exact congrArg (fun z => (Sum.inr (ci, z) : va_E)) (e_fs_set (ρ := ρ) (σ := σ) (σ' := e_ur σ k j n) (k := k) (jj := j) (c0 := 2) (fun i c hi => e_fv_congr (ρ := ρ) (σ := σ) (σ' := e_ur σ k j n) (k := k) (j := i) rfl rfl (by simp [e_ur, hi]) c) (by simp [e_fv, e_ur]) fk 0 j (Nat.zero_add j) hf)
theorem e_iald (hexec : p.tables.exec = Jvm.exec) (hb : c.code = cc) (K : eK N cl tys D ρ base nw s) (G : eG lay N cl D ρ κ base s σ H locs) (k t0 a n : Nat) (hk : k < N) (hl : lay k = (1, n, [a])) (ht : tys[t0]? = some (κ a, .int)) {i : Int32} (hin : vp_in i n) (hdg : decode cc pc = .ok (.iaload, 1))
    (kk : W p l e R s m args below meth c H locs cells slots Q (F0 m (pc + 1) ls (.int (σ.1 k i.toNatClampNeg) :: rest))) : W p l e R s m args below meth c H locs cells slots Q (F0 m pc ls (.int i :: .ref (ρ k) :: rest)) := by
  have he := e_w_get (lay := lay) (ρ := ρ) (κ := κ) (σ := σ) hk
  rw [hl] at he
  exact va_iald hexec hb K.1 G.1 k t0 he ht hin hdg kk
theorem e_bald (hexec : p.tables.exec = Jvm.exec) (hb : c.code = cc) (K : eK N cl tys D ρ base nw s) (G : eG lay N cl D ρ κ base s σ H locs) (k t0 a n : Nat) (hk : k < N) (hl : lay k = (1, n, [a])) (ht : tys[t0]? = some (κ a, .byte)) {i : Int32} (hin : vp_in i n) (hdg : decode cc pc = .ok (.baload, 1))
    (kk : W p l e R s m args below meth c H locs cells slots Q (F0 m (pc + 1) ls (.int (σ.1 k i.toNatClampNeg) :: rest))) : W p l e R s m args below meth c H locs cells slots Q (F0 m pc ls (.int i :: .ref (ρ k) :: rest)) := by
  have he := e_w_get (lay := lay) (ρ := ρ) (κ := κ) (σ := σ) hk
  rw [hl] at he
  exact va_bald hexec hb K.1 G.1 k t0 he ht hin hdg kk
theorem e_zald (hexec : p.tables.exec = Jvm.exec) (hb : c.code = cc) (K : eK N cl tys D ρ base nw s) (G : eG lay N cl D ρ κ base s σ H locs) (k t0 a n : Nat) (hk : k < N) (hl : lay k = (1, n, [a])) (ht : tys[t0]? = some (κ a, .boolean)) {i : Int32} (hin : vp_in i n) (hdg : decode cc pc = .ok (.baload, 1))
    (kk : W p l e R s m args below meth c H locs cells slots Q (F0 m (pc + 1) ls (.int (σ.1 k i.toNatClampNeg) :: rest))) : W p l e R s m args below meth c H locs cells slots Q (F0 m pc ls (.int i :: .ref (ρ k) :: rest)) := by
  have he := e_w_get (lay := lay) (ρ := ρ) (κ := κ) (σ := σ) hk
  rw [hl] at he
  exact va_zald hexec hb K.1 G.1 k t0 he ht hin hdg kk
theorem e_cald (hexec : p.tables.exec = Jvm.exec) (hb : c.code = cc) (K : eK N cl tys D ρ base nw s) (G : eG lay N cl D ρ κ base s σ H locs) (k t0 a n : Nat) (hk : k < N) (hl : lay k = (1, n, [a])) (ht : tys[t0]? = some (κ a, .char)) {i : Int32} (hin : vp_in i n) (hdg : decode cc pc = .ok (.caload, 1))
    (kk : W p l e R s m args below meth c H locs cells slots Q (F0 m (pc + 1) ls (.int (σ.1 k i.toNatClampNeg) :: rest))) : W p l e R s m args below meth c H locs cells slots Q (F0 m pc ls (.int i :: .ref (ρ k) :: rest)) := by
  have he := e_w_get (lay := lay) (ρ := ρ) (κ := κ) (σ := σ) hk
  rw [hl] at he
  exact va_cald hexec hb K.1 G.1 k t0 he ht hin hdg kk
theorem e_lald (hexec : p.tables.exec = Jvm.exec) (hb : c.code = cc) (K : eK N cl tys D ρ base nw s) (G : eG lay N cl D ρ κ base s σ H locs) (k t0 a n : Nat) (hk : k < N) (hl : lay k = (2, n, [a])) (ht : tys[t0]? = some (κ a, .long)) {i : Int32} (hin : vp_in i n) (hdg : decode cc pc = .ok (.laload, 1))
    (kk : W p l e R s m args below meth c H locs cells slots Q (F0 m (pc + 1) ls (.long (σ.2.1 k i.toNatClampNeg) :: rest))) : W p l e R s m args below meth c H locs cells slots Q (F0 m pc ls (.int i :: .ref (ρ k) :: rest)) := by
  have he := e_w_get (lay := lay) (ρ := ρ) (κ := κ) (σ := σ) hk
  rw [hl] at he
  exact va_lald hexec hb K.1 G.1 k t0 he ht hin hdg kk
theorem e_iast (hexec : p.tables.exec = Jvm.exec) (hb : c.code = cc) (K : eK N cl tys D ρ base nw s) (G : eG lay N cl D ρ κ base s σ H locs) (k t0 a n : Nat) (hk : k < N) (hl : lay k = (1, n, [a])) (ht : tys[t0]? = some (κ a, .int)) {i : Int32} {x : Int32} (hin : vp_in i n) (hdg : decode cc pc = .ok (.iastore, 1))
    (kk : ∀ (H1 : Heap) (locs1 : List Loc), eG lay N cl D ρ κ base s (e_ui σ k i.toNatClampNeg x) H1 locs1 → W p l e R s m args below meth c H1 locs1 cells slots Q (F0 m (pc + 1) ls rest)) : W p l e R s m args below meth c H locs cells slots Q (F0 m pc ls (.int x :: .int i :: .ref (ρ k) :: rest)) := by
  have he := e_w_get (lay := lay) (ρ := ρ) (κ := κ) (σ := σ) hk
  rw [hl] at he
  refine va_iast hexec hb K.1 G.1 (e_D K.2.1 K.2.2.1) G.2 k t0 he ht hin hdg (fun H1 locs1 hP _ hS => kk H1 locs1 ⟨?_, hS⟩)
  rwa [e_w_set (e_ui σ k i.toNatClampNeg x) e_ui_ne] at hP
  rw [hl]
  show _ = e_cell ρ κ _ k (1, n, [a])
  simp [e_cell, e_ui]
theorem e_bast (hexec : p.tables.exec = Jvm.exec) (hb : c.code = cc) (K : eK N cl tys D ρ base nw s) (G : eG lay N cl D ρ κ base s σ H locs) (k t0 a n : Nat) (hk : k < N) (hl : lay k = (1, n, [a])) (ht : tys[t0]? = some (κ a, .byte)) {i : Int32} {x : Int32} (hin : vp_in i n) (hdg : decode cc pc = .ok (.bastore, 1))
    (kk : ∀ (H1 : Heap) (locs1 : List Loc), eG lay N cl D ρ κ base s (e_ui σ k i.toNatClampNeg (vp_nar .byte x)) H1 locs1 → W p l e R s m args below meth c H1 locs1 cells slots Q (F0 m (pc + 1) ls rest)) : W p l e R s m args below meth c H locs cells slots Q (F0 m pc ls (.int x :: .int i :: .ref (ρ k) :: rest)) := by
  have he := e_w_get (lay := lay) (ρ := ρ) (κ := κ) (σ := σ) hk
  rw [hl] at he
  refine va_bast hexec hb K.1 G.1 (e_D K.2.1 K.2.2.1) G.2 k t0 he ht hin hdg (fun H1 locs1 hP _ hS => kk H1 locs1 ⟨?_, hS⟩)
  rwa [e_w_set (e_ui σ k i.toNatClampNeg (vp_nar .byte x)) e_ui_ne] at hP
  rw [hl]
  show _ = e_cell ρ κ _ k (1, n, [a])
  simp [e_cell, e_ui]
theorem e_zast (hexec : p.tables.exec = Jvm.exec) (hb : c.code = cc) (K : eK N cl tys D ρ base nw s) (G : eG lay N cl D ρ κ base s σ H locs) (k t0 a n : Nat) (hk : k < N) (hl : lay k = (1, n, [a])) (ht : tys[t0]? = some (κ a, .boolean)) {i : Int32} {x : Int32} (hin : vp_in i n) (hdg : decode cc pc = .ok (.bastore, 1))
    (kk : ∀ (H1 : Heap) (locs1 : List Loc), eG lay N cl D ρ κ base s (e_ui σ k i.toNatClampNeg (vp_nar .boolean x)) H1 locs1 → W p l e R s m args below meth c H1 locs1 cells slots Q (F0 m (pc + 1) ls rest)) : W p l e R s m args below meth c H locs cells slots Q (F0 m pc ls (.int x :: .int i :: .ref (ρ k) :: rest)) := by
  have he := e_w_get (lay := lay) (ρ := ρ) (κ := κ) (σ := σ) hk
  rw [hl] at he
  refine va_zast hexec hb K.1 G.1 (e_D K.2.1 K.2.2.1) G.2 k t0 he ht hin hdg (fun H1 locs1 hP _ hS => kk H1 locs1 ⟨?_, hS⟩)
  rwa [e_w_set (e_ui σ k i.toNatClampNeg (vp_nar .boolean x)) e_ui_ne] at hP
  rw [hl]
  show _ = e_cell ρ κ _ k (1, n, [a])
  simp [e_cell, e_ui]
theorem e_cast (hexec : p.tables.exec = Jvm.exec) (hb : c.code = cc) (K : eK N cl tys D ρ base nw s) (G : eG lay N cl D ρ κ base s σ H locs) (k t0 a n : Nat) (hk : k < N) (hl : lay k = (1, n, [a])) (ht : tys[t0]? = some (κ a, .char)) {i : Int32} {x : Int32} (hin : vp_in i n) (hdg : decode cc pc = .ok (.castore, 1))
    (kk : ∀ (H1 : Heap) (locs1 : List Loc), eG lay N cl D ρ κ base s (e_ui σ k i.toNatClampNeg (vp_nar .char x)) H1 locs1 → W p l e R s m args below meth c H1 locs1 cells slots Q (F0 m (pc + 1) ls rest)) : W p l e R s m args below meth c H locs cells slots Q (F0 m pc ls (.int x :: .int i :: .ref (ρ k) :: rest)) := by
  have he := e_w_get (lay := lay) (ρ := ρ) (κ := κ) (σ := σ) hk
  rw [hl] at he
  refine va_cast hexec hb K.1 G.1 (e_D K.2.1 K.2.2.1) G.2 k t0 he ht hin hdg (fun H1 locs1 hP _ hS => kk H1 locs1 ⟨?_, hS⟩)
  rwa [e_w_set (e_ui σ k i.toNatClampNeg (vp_nar .char x)) e_ui_ne] at hP
  rw [hl]
  show _ = e_cell ρ κ _ k (1, n, [a])
  simp [e_cell, e_ui]
theorem e_last (hexec : p.tables.exec = Jvm.exec) (hb : c.code = cc) (K : eK N cl tys D ρ base nw s) (G : eG lay N cl D ρ κ base s σ H locs) (k t0 a n : Nat) (hk : k < N) (hl : lay k = (2, n, [a])) (ht : tys[t0]? = some (κ a, .long)) {i : Int32} {x : Int64} (hin : vp_in i n) (hdg : decode cc pc = .ok (.lastore, 1))
    (kk : ∀ (H1 : Heap) (locs1 : List Loc), eG lay N cl D ρ κ base s (e_ul σ k i.toNatClampNeg x) H1 locs1 → W p l e R s m args below meth c H1 locs1 cells slots Q (F0 m (pc + 1) ls rest)) : W p l e R s m args below meth c H locs cells slots Q (F0 m pc ls (.long x :: .int i :: .ref (ρ k) :: rest)) := by
  have he := e_w_get (lay := lay) (ρ := ρ) (κ := κ) (σ := σ) hk
  rw [hl] at he
  refine va_last hexec hb K.1 G.1 (e_D K.2.1 K.2.2.1) G.2 k t0 he ht hin hdg (fun H1 locs1 hP _ hS => kk H1 locs1 ⟨?_, hS⟩)
  rwa [e_w_set (e_ul σ k i.toNatClampNeg x) e_ul_ne] at hP
  rw [hl]
  show _ = e_cell ρ κ _ k (2, n, [a])
  simp [e_cell, e_ul]
theorem e_aald (hexec : p.tables.exec = Jvm.exec) (hb : c.code = cc) (K : eK N cl tys D ρ base nw s) (G : eG lay N cl D ρ κ base s σ H locs) (k t0 a n : Nat) (hk : k < N) (d : List Nat) (hl : lay k = (3, n, a :: d)) {ty : FieldType} (hty : ty.isReference = true) (ht : tys[t0]? = some (κ a, ty)) {i : Int32} (hin : vp_in i n) (b : Nat) (hd : d[i.toNatClampNeg]? = some b) (hdg : decode cc pc = .ok (.aaload, 1))
    (kk : W p l e R s m args below meth c H locs cells slots Q (F0 m (pc + 1) ls (.ref (ρ b) :: rest))) : W p l e R s m args below meth c H locs cells slots Q (F0 m pc ls (.int i :: .ref (ρ k) :: rest)) := by
  have he := e_w_get (lay := lay) (ρ := ρ) (κ := κ) (σ := σ) hk
  rw [hl] at he
  have hlt : i.toNatClampNeg < n := Nat.not_le.mp fun q => hin (Or.inr q)
  have hc : H[ρ k]? = some (arrV (κ a) n (fun j => va_rf ((d[j]?).map ρ))) := G.1 k _ he
  refine W.aald (v := .ref (ρ b)) (ty := ty) hexec hb hc ((K.1.2 t0 _ ht).1 n (fun j => va_rf ((d[j]?).map ρ))) hty (fun q => by cases q) (by rw [arrV_size]; exact hin) (by rw [arrV_read _ _ hlt, hd]; rfl) rfl rfl hdg kk
theorem e_alen (hexec : p.tables.exec = Jvm.exec) (hb : c.code = cc) (K : eK N cl tys D ρ base nw s) (G : eG lay N cl D ρ κ base s σ H locs) (k t0 a n : Nat) (hk : k < N) {kd : Nat} {d : List Nat} (hl : lay k = (kd + 1, n, a :: d)) {ty : FieldType} (ht : tys[t0]? = some (κ a, ty)) {v : Int32} (hv : Int32.ofNat n = v) (hdg : decode cc pc = .ok (.arraylength, 1))
    (kk : W p l e R s m args below meth c H locs cells slots Q (F0 m (pc + 1) ls (.int v :: rest))) : W p l e R s m args below meth c H locs cells slots Q (F0 m pc ls (.ref (ρ k) :: rest)) := by
  have he := e_w_get (lay := lay) (ρ := ρ) (κ := κ) (σ := σ) hk
  rw [hl] at he
  match kd, he with
  | 0, he => exact va_alen hexec hb K.1 G.1 k t0 he ht hv hdg kk
  | 1, he => exact va_alen hexec hb K.1 G.1 k t0 he ht hv hdg kk
  | 2, he => exact va_alen hexec hb K.1 G.1 k t0 he ht hv hdg kk
  | q + 3, he => exact va_alen hexec hb K.1 G.1 k t0 he ht hv hdg kk
end ENG

/-! CONTRACTS, CALLS, ENDS -/
abbrev eA (base : Nat) : Nat → Prop := fun q => base ≤ q
def e_Pc (lay : eL) (N : Nat) (cl : List vw_C) (tys : List (ClassId × FieldType)) (D : va_G) (ρ : Nat → Nat) (κ : Nat → ClassId) (base : Nat) (nw : eN) (av : List Value) (σ : eS) : Array Value → State → Prop := va_Pc av (fun U => eK N cl tys D ρ base nw U ∧ va_P D cl (e_w lay N ρ κ σ) U.heap)
def e_Bw (lay : eL) (N : Nat) (cl : List vw_C) (D : va_G) (ρ : Nat → Nat) (κ : Nat → ClassId) : eS → State → Prop := fun σ t => va_P D cl (e_w lay N ρ κ σ) t.heap
theorem eK.warm {N : Nat} {cl : List vw_C} {tys : List (ClassId × FieldType)} {D : va_G} {ρ : Nat → Nat} {base : Nat} {nw : eN} {u U : State} (hW : u.WarmedH U.vm) (hz : base ≤ U.heap.size) (h : eK N cl tys D ρ base nw u) : eK N cl tys D ρ base nw U := ⟨va_K.moved hW.alike h.1, h.2.1, h.2.2.1, hz, fun q hq => va_Nw.warmF hW (h.2.2.2.2 q hq)⟩
theorem eK.same {N : Nat} {cl : List vw_C} {tys : List (ClassId × FieldType)} {D : va_G} {ρ : Nat → Nat} {base : Nat} {nw : eN} {u U : State} (hvm : u.vm = U.vm) (hz : base ≤ U.heap.size) (h : eK N cl tys D ρ base nw u) : eK N cl tys D ρ base nw U := ⟨va_K.moved (by rw [hvm]; exact Vm.Alike.refl U.vm) h.1, h.2.1, h.2.2.1, hz, fun q hq => va_Nw.same rfl hvm (h.2.2.2.2 q hq)⟩
theorem e_blind {lay : eL} {N : Nat} {cl : List vw_C} {tys : List (ClassId × FieldType)} {D : va_G} {ρ : Nat → Nat} {κ : Nat → ClassId} {base : Nat} {nw : eN} {av : List Value} {σ : eS} : FrameBlind (e_Pc lay N cl tys D ρ κ base nw av σ) := fun a U g mk q => by
  obtain ⟨h0, hK, hP⟩ := q
  exact ⟨h0, eK.same (u := U) (U := U.calling g mk a) rfl hK.2.2.2.1 hK, hP⟩
def eCx (p : Program) (s : State) (m : MethodId) (args : Array Value) (meth : Method) (c : Code) (cc : ByteArray) (own : String) (nL : Nat) (ret : Option FieldType) (Ts : List Cond) : Prop :=
  p.tables.exec = Jvm.exec ∧ c.code = cc ∧ c.maxLocals = nL ∧ s.vm.findClass own = some m.cls ∧ (∀ w ∈ Ts, w.before args s = true) ∧ meth.sig.returnType = ret ∧ meth.locks = false
def e_nth : List Cond → Nat → Option Cond
  | [], _ => none
  | a :: _, 0 => some a
  | _ :: r, n + 1 => e_nth r n
theorem e_mem : ∀ {l : List Cond} {n : Nat} {w : Cond}, e_nth l n = some w → w ∈ l
  | [], _, _, h => by cases h
  | a :: r, 0, w, h => by
    cases h
    exact List.mem_cons_self
  | a :: r, n + 1, w, h => List.mem_cons_of_mem _ (e_mem (l := r) (n := n) h)
section ENG2
variable {p : Program} {l : Launch} {e : Env} {R : Room} {s : State} {m : MethodId} {args : Array Value} {below : List Frame} {meth : Method} {c : Code} {H : Heap} {locs : List Loc} {cells slots : Nat} {Q : State → Prop}
variable {cc : ByteArray} {pc : Nat} {ls : Array Slot} {rest : List Value} {D : va_G} {cl : List vw_C} {tys : List (ClassId × FieldType)} {lay : eL} {N base : Nat} {ρ : Nat → Nat} {κ : Nat → ClassId} {σ : eS} {nw : eN}
variable {own C : String} {T : u_T} {NF ci index nL maxL n : Nat} {Ts ws ws' : List Cond} {fk : List Nat} {y : MethodName} {bytes : ByteArray} {ret : Option FieldType} {rm : Room} {As st0 : List Value}
theorem e_pre (K : eK N cl tys D ρ base nw s) (G : eG lay N cl D ρ κ base s σ H locs) (av : List Value) : ∀ U : State, U.heap = H → s.WarmedH U.vm → e_Pc lay N cl tys D ρ κ base nw av σ av.toArray U := fun U hU hW => ⟨rfl, eK.warm hW (by rw [hU]; exact Nat.le_trans K.2.2.2.1 G.2.1) K, by rw [hU]; exact G.1⟩
def eMi (l : Launch) (y : MethodName) (ws : List Cond) (rm : Room) (lay : eL) (N : Nat) (cl : List vw_C) (tys : List (ClassId × FieldType)) (D : va_G) (ρ : Nat → Nat) (κ : Nat → ClassId) (base : Nat) (nw : eN) (av : List Value) (σ : eS) (post : Int32 → eS → Prop) : Prop :=
  Met l y ws rm (e_Pc lay N cl tys D ρ κ base nw av σ) (va_Qi post (e_Bw lay N cl D ρ κ) (eA base)) 0 0 (eA base)
theorem e_callVi (S : CallFix p m c cc nL s args Ts own) (K : eK N cl tys D ρ base nw s) (G : eG lay N cl D ρ κ base s σ H locs) {post : Int32 → eS → Prop} (k : Nat) (hk : k < N) (hl : lay k = (0, ci, fk)) (hc : cl[ci]? = some (C, T, NF)) (hM : eMi l y ws rm lay N cl tys D ρ κ base nw (.ref (ρ k) :: As) σ post) (cw : CallW R s args own C index y bytes maxL ret ws rm 0 0 n) (hn : As.length = n) (hsize : ls.size = nL) (hst : st0 = As.reverse ++ .ref (ρ k) :: rest) (hW : (rest.map fun v => v.category).sum ≤ 8) (hdg : decode cc pc = .ok (.invokevirtual index, 3)) (hf : cells ≤ R.cells ∧ slots ≤ R.slots)
    (kk : ∀ (r : Int32) (σ' : eS) (H1 : Heap) (locs1 : List Loc), post r σ' → eG lay N cl D ρ κ base s σ' H1 locs1 → W p l e R s m args below meth c H1 locs1 cells slots Q (F0 m (pc + 3) ls (.int r :: rest))) : W p l e R s m args below meth c H locs cells slots Q (F0 m pc ls st0) := by
  have he := e_w_get (lay := lay) (ρ := ρ) (κ := κ) (σ := σ) hk
  rw [hl] at he
  exact va_calli (va_runV (As := As) (rest := rest) S hM cw ⟨e_blind, va_recv K.1 G.1 hc he, e_pre K G _⟩ rfl hn hsize hst (lv_room hW) hdg hf) G.2 (fun q _ h => h) (fun q h => h) (fun r u t H1 locs1 ht hvm hw hB hz1 hk1 hS => kk r u H1 locs1 hw ⟨by rw [← ht]; exact hB, hS⟩)
theorem e_callSi (S : CallFix p m c cc nL s args Ts own) (K : eK N cl tys D ρ base nw s) (G : eG lay N cl D ρ κ base s σ H locs) {post : Int32 → eS → Prop} (hM : eMi l y ws rm lay N cl tys D ρ κ base nw As σ post) (cw : CallB R s args own index y bytes maxL ret ws rm 0 0 n ∧ (Cond.static y).before args s = true) (hn : As.length = n) (hsize : ls.size = nL) (hst : st0 = As.reverse ++ rest) (hW : (rest.map fun v => v.category).sum ≤ 8) (hdg : decode cc pc = .ok (.invokestatic index, 3)) (hf : cells ≤ R.cells ∧ slots ≤ R.slots)
    (kk : ∀ (r : Int32) (σ' : eS) (H1 : Heap) (locs1 : List Loc), post r σ' → eG lay N cl D ρ κ base s σ' H1 locs1 → W p l e R s m args below meth c H1 locs1 cells slots Q (F0 m (pc + 3) ls (.int r :: rest))) : W p l e R s m args below meth c H locs cells slots Q (F0 m pc ls st0) := by
  exact va_calli (va_runS (As := As) (rest := rest) S hM cw ⟨e_blind, e_pre K G _⟩ rfl hn hsize hst (lv_room hW) hdg hf) G.2 (fun q _ h => h) (fun q h => h) (fun r u t H1 locs1 ht hvm hw hB hz1 hk1 hS => kk r u H1 locs1 hw ⟨by rw [← ht]; exact hB, hS⟩)
theorem e_ofWi {av : List Value} {post : Int32 → eS → Prop} (hy : plainName y.cls = true) (hw : ws = Cond.code y cc maxL ret :: ws') (hav : (lg_sl av).length ≤ maxL) (body : ∀ p e s m below meth c ls, eCx p s m av.toArray meth c cc y.cls maxL ret ws → eK N cl tys D ρ base nw s → eG lay N cl D ρ κ base s σ s.heap [] → lv_has ls maxL (lv_args 0 av) → W p l e rm s m av.toArray below meth c s.heap [] 0 0 (MQ below (va_Qi post (e_Bw lay N cl D ρ κ) (eA base)) av.toArray s 0 0 (eA base)) (F0 m 0 ls [])) : eMi l y ws rm lay N cl tys D ρ κ base nw av σ post := by
  refine Met.ofW (cc := cc) (maxL := maxL) (ret := ret) hy hw ?_
  intro p e s m args below meth c s₁ B hml hv
  obtain ⟨rfl, hK, hP⟩ := hv
  have hl := lv_entry av (n := maxL) hav
  rw [lg_entry_eq]
  exact body p e s m below meth c _ ⟨B.exec, B.bytes, hml, findClass_of_methodNamed B.named, atoms_spec (ws := ws) B.pre, B.returns, B.notSynchronized⟩ hK ⟨hP, va_S.rf⟩ hl
def eMl (l : Launch) (y : MethodName) (ws : List Cond) (rm : Room) (lay : eL) (N : Nat) (cl : List vw_C) (tys : List (ClassId × FieldType)) (D : va_G) (ρ : Nat → Nat) (κ : Nat → ClassId) (base : Nat) (nw : eN) (av : List Value) (σ : eS) (post : Int64 → eS → Prop) : Prop :=
  Met l y ws rm (e_Pc lay N cl tys D ρ κ base nw av σ) (va_Ql post (e_Bw lay N cl D ρ κ) (eA base)) 0 0 (eA base)
theorem e_callVl (S : CallFix p m c cc nL s args Ts own) (K : eK N cl tys D ρ base nw s) (G : eG lay N cl D ρ κ base s σ H locs) {post : Int64 → eS → Prop} (k : Nat) (hk : k < N) (hl : lay k = (0, ci, fk)) (hc : cl[ci]? = some (C, T, NF)) (hM : eMl l y ws rm lay N cl tys D ρ κ base nw (.ref (ρ k) :: As) σ post) (cw : CallW R s args own C index y bytes maxL ret ws rm 0 0 n) (hn : As.length = n) (hsize : ls.size = nL) (hst : st0 = As.reverse ++ .ref (ρ k) :: rest) (hW : (rest.map fun v => v.category).sum ≤ 8) (hdg : decode cc pc = .ok (.invokevirtual index, 3)) (hf : cells ≤ R.cells ∧ slots ≤ R.slots)
    (kk : ∀ (r : Int64) (σ' : eS) (H1 : Heap) (locs1 : List Loc), post r σ' → eG lay N cl D ρ κ base s σ' H1 locs1 → W p l e R s m args below meth c H1 locs1 cells slots Q (F0 m (pc + 3) ls (.long r :: rest))) : W p l e R s m args below meth c H locs cells slots Q (F0 m pc ls st0) := by
  have he := e_w_get (lay := lay) (ρ := ρ) (κ := κ) (σ := σ) hk
  rw [hl] at he
  exact va_calll (va_runV (As := As) (rest := rest) S hM cw ⟨e_blind, va_recv K.1 G.1 hc he, e_pre K G _⟩ rfl hn hsize hst (lv_room hW) hdg hf) G.2 (fun q _ h => h) (fun q h => h) (fun r u t H1 locs1 ht hvm hw hB hz1 hk1 hS => kk r u H1 locs1 hw ⟨by rw [← ht]; exact hB, hS⟩)
theorem e_callSl (S : CallFix p m c cc nL s args Ts own) (K : eK N cl tys D ρ base nw s) (G : eG lay N cl D ρ κ base s σ H locs) {post : Int64 → eS → Prop} (hM : eMl l y ws rm lay N cl tys D ρ κ base nw As σ post) (cw : CallB R s args own index y bytes maxL ret ws rm 0 0 n ∧ (Cond.static y).before args s = true) (hn : As.length = n) (hsize : ls.size = nL) (hst : st0 = As.reverse ++ rest) (hW : (rest.map fun v => v.category).sum ≤ 8) (hdg : decode cc pc = .ok (.invokestatic index, 3)) (hf : cells ≤ R.cells ∧ slots ≤ R.slots)
    (kk : ∀ (r : Int64) (σ' : eS) (H1 : Heap) (locs1 : List Loc), post r σ' → eG lay N cl D ρ κ base s σ' H1 locs1 → W p l e R s m args below meth c H1 locs1 cells slots Q (F0 m (pc + 3) ls (.long r :: rest))) : W p l e R s m args below meth c H locs cells slots Q (F0 m pc ls st0) := by
  exact va_calll (va_runS (As := As) (rest := rest) S hM cw ⟨e_blind, e_pre K G _⟩ rfl hn hsize hst (lv_room hW) hdg hf) G.2 (fun q _ h => h) (fun q h => h) (fun r u t H1 locs1 ht hvm hw hB hz1 hk1 hS => kk r u H1 locs1 hw ⟨by rw [← ht]; exact hB, hS⟩)
theorem e_ofWl {av : List Value} {post : Int64 → eS → Prop} (hy : plainName y.cls = true) (hw : ws = Cond.code y cc maxL ret :: ws') (hav : (lg_sl av).length ≤ maxL) (body : ∀ p e s m below meth c ls, eCx p s m av.toArray meth c cc y.cls maxL ret ws → eK N cl tys D ρ base nw s → eG lay N cl D ρ κ base s σ s.heap [] → lv_has ls maxL (lv_args 0 av) → W p l e rm s m av.toArray below meth c s.heap [] 0 0 (MQ below (va_Ql post (e_Bw lay N cl D ρ κ) (eA base)) av.toArray s 0 0 (eA base)) (F0 m 0 ls [])) : eMl l y ws rm lay N cl tys D ρ κ base nw av σ post := by
  refine Met.ofW (cc := cc) (maxL := maxL) (ret := ret) hy hw ?_
  intro p e s m args below meth c s₁ B hml hv
  obtain ⟨rfl, hK, hP⟩ := hv
  have hl := lv_entry av (n := maxL) hav
  rw [lg_entry_eq]
  exact body p e s m below meth c _ ⟨B.exec, B.bytes, hml, findClass_of_methodNamed B.named, atoms_spec (ws := ws) B.pre, B.returns, B.notSynchronized⟩ hK ⟨hP, va_S.rf⟩ hl
def eMv (l : Launch) (y : MethodName) (ws : List Cond) (rm : Room) (lay : eL) (N : Nat) (cl : List vw_C) (tys : List (ClassId × FieldType)) (D : va_G) (ρ : Nat → Nat) (κ : Nat → ClassId) (base : Nat) (nw : eN) (av : List Value) (σ : eS) (post : eS → Prop) : Prop :=
  Met l y ws rm (e_Pc lay N cl tys D ρ κ base nw av σ) (va_Qv post (e_Bw lay N cl D ρ κ) (eA base)) 0 0 (eA base)
theorem e_callVv (S : CallFix p m c cc nL s args Ts own) (K : eK N cl tys D ρ base nw s) (G : eG lay N cl D ρ κ base s σ H locs) {post : eS → Prop} (k : Nat) (hk : k < N) (hl : lay k = (0, ci, fk)) (hc : cl[ci]? = some (C, T, NF)) (hM : eMv l y ws rm lay N cl tys D ρ κ base nw (.ref (ρ k) :: As) σ post) (cw : CallW R s args own C index y bytes maxL ret ws rm 0 0 n) (hn : As.length = n) (hsize : ls.size = nL) (hst : st0 = As.reverse ++ .ref (ρ k) :: rest) (hW : (rest.map fun v => v.category).sum ≤ 8) (hdg : decode cc pc = .ok (.invokevirtual index, 3)) (hf : cells ≤ R.cells ∧ slots ≤ R.slots)
    (kk : ∀ (σ' : eS) (H1 : Heap) (locs1 : List Loc), post σ' → eG lay N cl D ρ κ base s σ' H1 locs1 → W p l e R s m args below meth c H1 locs1 cells slots Q (F0 m (pc + 3) ls (rest))) : W p l e R s m args below meth c H locs cells slots Q (F0 m pc ls st0) := by
  have he := e_w_get (lay := lay) (ρ := ρ) (κ := κ) (σ := σ) hk
  rw [hl] at he
  exact va_callv (va_runV (As := As) (rest := rest) S hM cw ⟨e_blind, va_recv K.1 G.1 hc he, e_pre K G _⟩ rfl hn hsize hst (lv_room hW) hdg hf) G.2 (fun q _ h => h) (fun q h => h) (fun u t H1 locs1 ht hvm hw hB hz1 hk1 hS => kk u H1 locs1 hw ⟨by rw [← ht]; exact hB, hS⟩)
theorem e_callSv (S : CallFix p m c cc nL s args Ts own) (K : eK N cl tys D ρ base nw s) (G : eG lay N cl D ρ κ base s σ H locs) {post : eS → Prop} (hM : eMv l y ws rm lay N cl tys D ρ κ base nw As σ post) (cw : CallB R s args own index y bytes maxL ret ws rm 0 0 n ∧ (Cond.static y).before args s = true) (hn : As.length = n) (hsize : ls.size = nL) (hst : st0 = As.reverse ++ rest) (hW : (rest.map fun v => v.category).sum ≤ 8) (hdg : decode cc pc = .ok (.invokestatic index, 3)) (hf : cells ≤ R.cells ∧ slots ≤ R.slots)
    (kk : ∀ (σ' : eS) (H1 : Heap) (locs1 : List Loc), post σ' → eG lay N cl D ρ κ base s σ' H1 locs1 → W p l e R s m args below meth c H1 locs1 cells slots Q (F0 m (pc + 3) ls (rest))) : W p l e R s m args below meth c H locs cells slots Q (F0 m pc ls st0) := by
  exact va_callv (va_runS (As := As) (rest := rest) S hM cw ⟨e_blind, e_pre K G _⟩ rfl hn hsize hst (lv_room hW) hdg hf) G.2 (fun q _ h => h) (fun q h => h) (fun u t H1 locs1 ht hvm hw hB hz1 hk1 hS => kk u H1 locs1 hw ⟨by rw [← ht]; exact hB, hS⟩)
theorem e_ofWv {av : List Value} {post : eS → Prop} (hy : plainName y.cls = true) (hw : ws = Cond.code y cc maxL ret :: ws') (hav : (lg_sl av).length ≤ maxL) (body : ∀ p e s m below meth c ls, eCx p s m av.toArray meth c cc y.cls maxL ret ws → eK N cl tys D ρ base nw s → eG lay N cl D ρ κ base s σ s.heap [] → lv_has ls maxL (lv_args 0 av) → W p l e rm s m av.toArray below meth c s.heap [] 0 0 (MQ below (va_Qv post (e_Bw lay N cl D ρ κ) (eA base)) av.toArray s 0 0 (eA base)) (F0 m 0 ls [])) : eMv l y ws rm lay N cl tys D ρ κ base nw av σ post := by
  refine Met.ofW (cc := cc) (maxL := maxL) (ret := ret) hy hw ?_
  intro p e s m args below meth c s₁ B hml hv
  obtain ⟨rfl, hK, hP⟩ := hv
  have hl := lv_entry av (n := maxL) hav
  rw [lg_entry_eq]
  exact body p e s m below meth c _ ⟨B.exec, B.bytes, hml, findClass_of_methodNamed B.named, atoms_spec (ws := ws) B.pre, B.returns, B.notSynchronized⟩ hK ⟨hP, va_S.rf⟩ hl
theorem e_iret {post : Int32 → eS → Prop} {v : Int32} (hexec : p.tables.exec = Jvm.exec) (hb : c.code = cc) (hr : meth.sig.returnType = some .int) (hlocks : meth.locks = false) (G : eG lay N cl D ρ κ base s σ H locs) (hq : post v σ) (hdg : decode cc pc = .ok (.ireturn, 1)) : W p l e R s m args below meth c H locs 0 0 (MQ below (va_Qi post (e_Bw lay N cl D ρ κ) (eA base)) args s 0 0 (eA base)) (F0 m pc ls [.int v]) :=
  W.iret hexec hb hr (fun t ht hW => ⟨⟨v, σ, rfl, hq, by show va_P D cl _ t.heap; rw [ht]; exact G.1⟩, G.2.F ht⟩) G.2.2.2 hdg hlocks
theorem e_zret {post : Int32 → eS → Prop} {v : Int32} {ty : FieldType} (hexec : p.tables.exec = Jvm.exec) (hb : c.code = cc) (hr : meth.sig.returnType = some ty) (hlocks : meth.locks = false) (G : eG lay N cl D ρ κ base s σ H locs) (hn : narrow ty (.int v) = .int v) (hq : post v σ) (hdg : decode cc pc = .ok (.ireturn, 1)) : W p l e R s m args below meth c H locs 0 0 (MQ below (va_Qi post (e_Bw lay N cl D ρ κ) (eA base)) args s 0 0 (eA base)) (F0 m pc ls [.int v]) :=
  W.zret hexec hb hr hn (fun t ht hW => ⟨⟨v, σ, rfl, hq, by show va_P D cl _ t.heap; rw [ht]; exact G.1⟩, G.2.F ht⟩) G.2.2.2 hdg hlocks
theorem e_lret {post : Int64 → eS → Prop} {v : Int64} (hexec : p.tables.exec = Jvm.exec) (hb : c.code = cc) (hr : meth.sig.returnType = some .long) (hlocks : meth.locks = false) (G : eG lay N cl D ρ κ base s σ H locs) (hq : post v σ) (hdg : decode cc pc = .ok (.lreturn, 1)) : W p l e R s m args below meth c H locs 0 0 (MQ below (va_Ql post (e_Bw lay N cl D ρ κ) (eA base)) args s 0 0 (eA base)) (F0 m pc ls [.long v]) :=
  W.lret hexec hb hr (fun t ht hW => ⟨⟨v, σ, rfl, hq, by show va_P D cl _ t.heap; rw [ht]; exact G.1⟩, G.2.F ht⟩) G.2.2.2 hdg hlocks
theorem e_vret {post : eS → Prop} (hexec : p.tables.exec = Jvm.exec) (hb : c.code = cc) (hr : meth.sig.returnType = none) (hlocks : meth.locks = false) (G : eG lay N cl D ρ κ base s σ H locs) (hq : post σ) (hdg : decode cc pc = .ok (.return_, 1)) : W p l e R s m args below meth c H locs 0 0 (MQ below (va_Qv post (e_Bw lay N cl D ρ κ) (eA base)) args s 0 0 (eA base)) (F0 m pc ls []) :=
  W.vret hexec hb hr (fun t ht hW => ⟨⟨σ, rfl, hq, by show va_P D cl _ t.heap; rw [ht]; exact G.1⟩, G.2.F ht⟩) G.2.2.2 hdg hlocks
theorem e_copyi (hexec : p.tables.exec = Jvm.exec) (hb : c.code = cc) (hml : c.maxLocals = ls.size) (hown : s.vm.findClass own = some m.cls) (hlink : (Cond.methodLink own index arraycopyName).before args s = true) (hnat : (Cond.native arraycopyName).before args s = true) (hstat : (Cond.static arraycopyName).before args s = true) (hini : (Cond.initialized "java/lang/System").before args s = true) (K : eK N cl tys D ρ base nw s) (G : eG lay N cl D ρ κ base s σ H locs) (k0 k1 t0 a n0 n1 : Nat) (hk0 : k0 < N) (hk1 : k1 < N) (hl0 : lay k0 = (1, n0, [a])) (hl1 : lay k1 = (1, n1, [a])) {ty : FieldType} (ht : tys[t0]? = some (κ a, ty)) (hty : ty = .int)
    {sp dp n : Int32} (h1 : ¬ sp < 0) (h2 : ¬ dp < 0) (h3 : ¬ n < 0) (h4 : sp.toNatClampNeg + n.toNatClampNeg ≤ n0) (h5 : dp.toNatClampNeg + n.toNatClampNeg ≤ n1) (hframes : 1 ≤ R.frames) (hlocals : (rest.map fun v => v.category).sum + (nativeFrameWords "java/lang/System" "arraycopy" 5 + 11) ≤ R.locals) (hdg : decode cc pc = .ok (.invokestatic index, 3))
    (kk : ∀ (H1 : Heap) (locs1 : List Loc), eG lay N cl D ρ κ base s (e_ua σ k1 (va_cpy (σ.1 k0) (σ.1 k1) sp.toNatClampNeg dp.toNatClampNeg n.toNatClampNeg)) H1 locs1 → W p l e R s m args below meth c H1 locs1 cells slots Q (F0 m (pc + 3) ls rest)) : W p l e R s m args below meth c H locs cells slots Q (F0 m pc ls (.int n :: .int dp :: .ref (ρ k1) :: .int sp :: .ref (ρ k0) :: rest)) := by
  have he0 := e_w_get (lay := lay) (ρ := ρ) (κ := κ) (σ := σ) hk0
  have he1 := e_w_get (lay := lay) (ρ := ρ) (κ := κ) (σ := σ) hk1
  rw [hl0] at he0
  rw [hl1] at he1
  subst hty
  refine va_copyi hexec hb hml hown hlink hnat hstat hini K.1 G.1 (e_D K.2.1 K.2.2.1) G.2 k0 k1 t0 t0 he0 he1 ht ht rfl h1 h2 h3 h4 h5 (fun _ _ => rfl) hframes hlocals hdg (fun H1 locs1 hP _ hS => kk H1 locs1 ⟨?_, hS⟩)
  rwa [e_w_set (e_ua σ k1 (va_cpy (σ.1 k0) (σ.1 k1) sp.toNatClampNeg dp.toNatClampNeg n.toNatClampNeg)) e_ua_ne] at hP
  rw [hl1]
  show _ = e_cell ρ κ _ k1 (1, n1, [a])
  simp [e_cell, e_ua]
theorem e_copyl (hexec : p.tables.exec = Jvm.exec) (hb : c.code = cc) (hml : c.maxLocals = ls.size) (hown : s.vm.findClass own = some m.cls) (hlink : (Cond.methodLink own index arraycopyName).before args s = true) (hnat : (Cond.native arraycopyName).before args s = true) (hstat : (Cond.static arraycopyName).before args s = true) (hini : (Cond.initialized "java/lang/System").before args s = true) (K : eK N cl tys D ρ base nw s) (G : eG lay N cl D ρ κ base s σ H locs) (k0 k1 t0 a n0 n1 : Nat) (hk0 : k0 < N) (hk1 : k1 < N) (hl0 : lay k0 = (2, n0, [a])) (hl1 : lay k1 = (2, n1, [a])) {ty : FieldType} (ht : tys[t0]? = some (κ a, ty)) (hty : ty = .long)
    {sp dp n : Int32} (h1 : ¬ sp < 0) (h2 : ¬ dp < 0) (h3 : ¬ n < 0) (h4 : sp.toNatClampNeg + n.toNatClampNeg ≤ n0) (h5 : dp.toNatClampNeg + n.toNatClampNeg ≤ n1) (hframes : 1 ≤ R.frames) (hlocals : (rest.map fun v => v.category).sum + (nativeFrameWords "java/lang/System" "arraycopy" 5 + 11) ≤ R.locals) (hdg : decode cc pc = .ok (.invokestatic index, 3))
    (kk : ∀ (H1 : Heap) (locs1 : List Loc), eG lay N cl D ρ κ base s (e_ula σ k1 (va_cpy (σ.2.1 k0) (σ.2.1 k1) sp.toNatClampNeg dp.toNatClampNeg n.toNatClampNeg)) H1 locs1 → W p l e R s m args below meth c H1 locs1 cells slots Q (F0 m (pc + 3) ls rest)) : W p l e R s m args below meth c H locs cells slots Q (F0 m pc ls (.int n :: .int dp :: .ref (ρ k1) :: .int sp :: .ref (ρ k0) :: rest)) := by
  have he0 := e_w_get (lay := lay) (ρ := ρ) (κ := κ) (σ := σ) hk0
  have he1 := e_w_get (lay := lay) (ρ := ρ) (κ := κ) (σ := σ) hk1
  rw [hl0] at he0
  rw [hl1] at he1
  subst hty
  refine va_copyl hexec hb hml hown hlink hnat hstat hini K.1 G.1 (e_D K.2.1 K.2.2.1) G.2 k0 k1 t0 t0 he0 he1 ht ht rfl h1 h2 h3 h4 h5 (fun _ _ => rfl) hframes hlocals hdg (fun H1 locs1 hP _ hS => kk H1 locs1 ⟨?_, hS⟩)
  rwa [e_w_set (e_ula σ k1 (va_cpy (σ.2.1 k0) (σ.2.1 k1) sp.toNatClampNeg dp.toNatClampNeg n.toNatClampNeg)) e_ula_ne] at hP
  rw [hl1]
  show _ = e_cell ρ κ _ k1 (2, n1, [a])
  simp [e_cell, e_ula]
end ENG2
/-! CONSTRUCTORS: the world grows, label by label; what is not there yet is zero in the state. -/
def eZ (σ : eS) (n : Nat) : Prop := (∀ k, n ≤ k → σ.1 k = (fun _ => 0) ∧ σ.2.1 k = (fun _ => 0) ∧ σ.2.2 k = (fun _ => 0)) ∧ ∀ k j, σ.2.2 k j ≤ n
theorem eZ.mono {σ : eS} {n : Nat} (a : Nat) (h : eZ σ n) : eZ σ (n + a) := ⟨fun k hk => h.1 k (by omega), fun k j => Nat.le_trans (h.2 k j) (by omega)⟩
theorem eZ.ui {σ : eS} {n k j : Nat} {v : Int32} (h : eZ σ n) (hk : k < n) : eZ (e_ui σ k j v) n := ⟨fun a ha => by
  have h1 : a ≠ k := by omega
  refine ⟨?_, (h.1 a ha).2⟩
  simp [e_ui, h1, (h.1 a ha).1], h.2⟩
theorem eZ.ul {σ : eS} {n k j : Nat} {v : Int64} (h : eZ σ n) (hk : k < n) : eZ (e_ul σ k j v) n := ⟨fun a ha => by
  have h1 : a ≠ k := by omega
  refine ⟨(h.1 a ha).1, ?_, (h.1 a ha).2.2⟩
  simp [e_ul, h1, (h.1 a ha).2.1], h.2⟩
theorem eZ.ur {σ : eS} {n k j : Nat} {v : Nat} (h : eZ σ n) (hk : k < n) (hv : v ≤ n) : eZ (e_ur σ k j v) n := ⟨fun a ha => by
  have h1 : a ≠ k := by omega
  refine ⟨(h.1 a ha).1, (h.1 a ha).2.1, ?_⟩
  simp [e_ur, h1, (h.1 a ha).2.2], fun a b => by
  by_cases h1 : a = k
  · by_cases h2 : b = j
    · simp [e_ur, h1, h2, hv]
    · simp [e_ur, h1, h2, h.2 k b]
  · simp [e_ur, h1, h.2 a b]⟩
/-- an entry of the layout speaks of labels below n alone -/
def e_ok (n : Nat) (q : Nat × Nat × List Nat) : Bool := match q with
  | (0, _, fk) => fk.all (fun c => decide (c ≤ 2))
  | (3, _, d) => d.tail.all (fun c => decide (c < n))
  | _ => true
theorem e_mv_ag {ρ ρ' : Nat → Nat} {n v : Nat} (hag : ∀ k, k < n → ρ' k = ρ k) (h : v ≤ n) : e_mv ρ' v = e_mv ρ v := by
  match v, h with
  | 0, _ => rfl
  | v + 1, h => show Value.ref (ρ' v) = Value.ref (ρ v); rw [hag v (by omega)]
theorem e_fs_ag {ρ ρ' : Nat → Nat} {σ : eS} {n k : Nat} (hag : ∀ k, k < n → ρ' k = ρ k) (hZ : ∀ k j, σ.2.2 k j ≤ n) : ∀ (fk : List Nat) (i : Nat), (fk.all (fun c => decide (c ≤ 2))) = true → e_fs ρ' σ k i fk = e_fs ρ σ k i fk
  | [], _, _ => rfl
  | a :: r, i, h => by
    simp only [List.all_cons, Bool.and_eq_true, decide_eq_true_eq] at h
    show e_fv ρ' σ k i a :: e_fs ρ' σ k (i + 1) r = e_fv ρ σ k i a :: e_fs ρ σ k (i + 1) r
    rw [e_fs_ag hag hZ r (i + 1) h.2]
    congr 1
    match a, h.1 with
    | 0, _ => rfl
    | 1, _ => rfl
    | 2, _ => exact e_mv_ag hag (hZ k i)
theorem e_cell_ag {ρ ρ' : Nat → Nat} {κ : Nat → ClassId} {σ : eS} {n k : Nat} (hag : ∀ k, k < n → ρ' k = ρ k) (hZ : ∀ k j, σ.2.2 k j ≤ n) (q : Nat × Nat × List Nat) (hq : e_ok n q = true) : e_cell ρ' κ σ k q = e_cell ρ κ σ k q := by
  match q, hq with
  | (0, ci, fk), hq => exact congrArg (fun z => (Sum.inr (ci, z) : va_E)) (e_fs_ag hag hZ fk 0 hq)
  | (1, _, _), _ => rfl
  | (2, _, _), _ => rfl
  | (3, m, d), hq =>
    have h1 : (fun i : Nat => (d.tail[i]?).map ρ') = (fun i : Nat => (d.tail[i]?).map ρ) := by
      funext i
      cases hd : d.tail[i]? with
      | none => rfl
      | some b =>
        have hb := List.all_eq_true.mp hq b (List.mem_of_getElem? hd)
        simp only [decide_eq_true_eq] at hb
        simp [hag b hb]
    show (Sum.inl (κ (d.headD 0), m, .inr (.inr (.inr (.inr (fun i => (d.tail[i]?).map ρ'))))) : va_E) = _
    rw [h1]
    rfl
  | (x + 4, m, d), _ =>
    have h1 : (fun i : Nat => e_mo ρ' (σ.2.2 k i)) = (fun i : Nat => e_mo ρ (σ.2.2 k i)) := by
      funext i
      have hz := hZ k i
      generalize σ.2.2 k i = v at hz
      match v, hz with
      | 0, _ => rfl
      | v + 1, hz => show some (ρ' v) = some (ρ v); rw [hag v (by omega)]
    show (Sum.inl (κ (d.headD 0), m, .inr (.inr (.inr (.inr (fun i => e_mo ρ' (σ.2.2 k i)))))) : va_E) = _
    rw [h1]
    rfl
theorem ec_grow {lay : eL} {n : Nat} {ρ : Nat → Nat} {κ : Nat → ClassId} {σ : eS} {D : va_G} {cl : List vw_C} {H1 : Heap} {base : Nat} {news : va_W} (hP : va_P D cl (e_w lay n ρ κ σ ++ news) H1) (hD : va_D (fun q => base ≤ q) (e_w lay n ρ κ σ ++ news)) (ρ' : Nat → Nat) (hag : ∀ k, k < n → ρ' k = ρ k) (hZ : ∀ k j, σ.2.2 k j ≤ n) (hok : ∀ k, k < n → e_ok n (lay k) = true) (a : Nat) (hlen : news.length = a) (hnew : ∀ i, i < a → news[i]? = some (ρ' (n + i), e_cell ρ' κ σ (n + i) (lay (n + i)))) : va_P D cl (e_w lay (n + a) ρ' κ σ) H1 ∧ (∀ i j, i < n + a → j < n + a → ρ' i = ρ' j → i = j) ∧ ∀ k, k < n + a → base ≤ ρ' k := by
  have he : e_w lay n ρ κ σ ++ news = e_w lay (n + a) ρ' κ σ := by
    apply List.ext_getElem?
    intro i
    have hl : (e_w lay n ρ κ σ).length = n := by simp [e_w]
    by_cases h1 : i < n
    · rw [List.getElem?_append_left (by omega), e_w_get h1, e_w_get (by omega), hag i h1, e_cell_ag hag hZ (lay i) (hok i h1)]
    · rw [List.getElem?_append_right (by omega), hl]
      by_cases h2 : i < n + a
      · rw [hnew (i - n) (by omega), e_w_get h2, show n + (i - n) = i by omega]
      · rw [List.getElem?_eq_none (by omega), List.getElem?_eq_none (by simp [e_w]; omega)]
  rw [he] at hP hD
  refine ⟨hP, fun i j hi hj h => hD.1 i j _ _ (e_w_get hi) (e_w_get hj) h, fun k hk => hD.2 k _ (e_w_get hk)⟩
def eX (mw : List (String × Nat × MethodName × String)) (s : State) : Prop := va_AOA .int s ∧ va_AOA .long s ∧ va_AO "StreetsStepOn$Book" s ∧ ∀ q ∈ mw, va_Nw (.methodLinkNest q.1 q.2.1 q.2.2.1 q.2.2.2) s
theorem eX.warm {mw : List (String × Nat × MethodName × String)} {u U : State} (hW : u.WarmedH U.vm) (h : eX mw u) : eX mw U := ⟨Jvm.Stand.arrayOver_alikeB hW.alike h.1, Jvm.Stand.arrayOver_alikeB hW.alike h.2.1, va_AO.moved hW.alike h.2.2.1, fun q hq => va_Nw.warmM hW (h.2.2.2 q hq)⟩
theorem eX.same {mw : List (String × Nat × MethodName × String)} {u U : State} (hvm : u.vm = U.vm) (h : eX mw u) : eX mw U := ⟨Jvm.Stand.arrayOver_alikeB (by rw [hvm]; exact Vm.Alike.refl U.vm) h.1, Jvm.Stand.arrayOver_alikeB (by rw [hvm]; exact Vm.Alike.refl U.vm) h.2.1, va_AO.moved (by rw [hvm]; exact Vm.Alike.refl U.vm) h.2.2.1, fun q hq => va_Nw.same rfl hvm (h.2.2.2 q hq)⟩
def e_dv (c : Nat) : Value := match c with
  | 0 => .int 0
  | 1 => .long 0
  | _ => .null
theorem e_fs_dv {ρ : Nat → Nat} {σ : eS} {k : Nat} (h : σ.1 k = (fun _ => 0) ∧ σ.2.1 k = (fun _ => 0) ∧ σ.2.2 k = (fun _ => 0)) : ∀ (fk : List Nat) (i : Nat), (fk.all (fun c => decide (c ≤ 2))) = true → e_fs ρ σ k i fk = fk.map e_dv
  | [], _, _ => rfl
  | a :: r, i, hq => by
    simp only [List.all_cons, Bool.and_eq_true, decide_eq_true_eq] at hq
    show e_fv ρ σ k i a :: e_fs ρ σ k (i + 1) r = e_dv a :: r.map e_dv
    rw [e_fs_dv h r (i + 1) hq.2]
    congr 1
    match a, hq.1 with
    | 0, _ => show Value.int (σ.1 k i) = .int 0; rw [h.1]
    | 1, _ => show Value.long (σ.2.1 k i) = .long 0; rw [h.2.1]
    | 2, _ => show e_mv ρ (σ.2.2 k i) = .null; rw [h.2.2]; rfl
section ENGC
variable {p : Program} {l : Launch} {e : Env} {R : Room} {s : State} {m : MethodId} {args : Array Value} {below : List Frame} {meth : Method} {c : Code} {H : Heap} {locs : List Loc} {cells slots : Nat} {Q : State → Prop}
variable {cc : ByteArray} {pc : Nat} {ls : Array Slot} {rest : List Value} {D : va_G} {cl : List vw_C} {tys : List (ClassId × FieldType)} {lay : eL} {N base : Nat} {ρ : Nat → Nat} {κ : Nat → ClassId} {σ : eS} {nw : eN}
variable {own C : String} {T : u_T} {NF ci index : Nat} {Ts : List Cond} {fk : List Nat}
theorem ec_K {ρ' : Nat → Nat} {a : Nat} {N' : Nat} (K : eK N cl tys D ρ base nw s) (h1 : ∀ i j, i < N' → j < N' → ρ' i = ρ' j → i = j) (h2 : ∀ k, k < N' → base ≤ ρ' k) : eK N' cl tys D ρ' base nw s := ⟨K.1, h1, h2, K.2.2.2.1, K.2.2.2.2⟩
theorem ec_new (hexec : p.tables.exec = Jvm.exec) (hb : c.code = cc) (hts : ∀ w ∈ Ts, w.before args s = true) (hin : ∀ w ∈ u_ws C T NF, w ∈ Ts) (ty : Nat → FieldType) (hty : ∀ k, k < NF → parseFieldDescriptor (T k).2.2.1 = some (ty k)) (hown : s.vm.findClass own = some m.cls) (hcl : (Cond.classLink own index C).before args s = true) (hinst : (Cond.instantiable C NF).before args s = true) (hini : (Cond.initialized C).before args s = true)
    (K : eK N cl tys D ρ base nw s) (G : eG lay N cl D ρ κ base s σ H locs) (Z : eZ σ N) (hok : ∀ k, k < N → e_ok N (lay k) = true) (hl : lay N = (0, ci, fk)) (hfk : (fk.all (fun c => decide (c ≤ 2))) = true) (hc : cl[ci]? = some (C, T, NF)) (hfs : ∀ j, j < NF → defaultValue (ty j) = vp_V (fk.map e_dv) j) (hcells : cells + 1 ≤ R.cells) (hslots : slots + NF ≤ R.slots) (hdg : decode cc pc = .ok (.new index, 3))
    (kk : ∀ (ρ' : Nat → Nat) (H1 : Heap), (∀ k, k < N → ρ' k = ρ k) → eK (N + 1) cl tys D ρ' base nw s → eG lay (N + 1) cl D ρ' κ base s σ H1 locs → eZ σ (N + 1) → W p l e R s m args below meth c H1 locs (cells + 1) (slots + NF) Q (F0 m (pc + 3) ls (.ref (ρ' N) :: rest))) : W p l e R s m args below meth c H locs cells slots Q (F0 m pc ls rest) := by
  refine va_new hexec hb hts hin ty hty hown hcl hinst hini K.1 G.1 (e_D K.2.1 K.2.2.1) G.2 (fun q h => Nat.le_trans K.2.2.2.1 h) hc hfs hcells hslots hdg (fun q H1 hP hD hS => ?_)
  have hag : ∀ k, k < N → (fun k => if k = N then q else ρ k) k = ρ k := fun k hk => by simp [Nat.ne_of_lt hk]
  obtain ⟨g1, g2, g3⟩ := ec_grow hP hD (fun k => if k = N then q else ρ k) hag Z.2 hok 1 rfl (fun i hi => by
    have hi0 : i = 0 := by omega
    subst hi0
    have hz := e_fs_dv (ρ := fun k => if k = N then q else ρ k) (Z.1 N (Nat.le_refl N)) fk 0 hfk
    show some (q, Sum.inr (ci, fk.map e_dv)) = some ((fun k => if k = N then q else ρ k) N, e_cell (fun k => if k = N then q else ρ k) κ σ N (lay N))
    rw [hl]
    show _ = some ((fun k => if k = N then q else ρ k) N, Sum.inr (ci, e_fs (fun k => if k = N then q else ρ k) σ N 0 fk))
    rw [hz]
    simp)
  have k2 := kk (fun k => if k = N then q else ρ k) H1 hag (ec_K (a := 1) K g2 g3) ⟨g1, hS⟩ (Z.mono 1)
  simpa using k2
theorem ec_newa (hexec : p.tables.exec = Jvm.exec) (hb : c.code = cc) {atype : ArrayType} (harr : (Cond.arrayClass (newarray.typeOf atype)).before args s = true) {ty : FieldType} (hty : newarray.typeOf atype = ty)
    (K : eK N cl tys D ρ base nw s) (G : eG lay N cl D ρ κ base s σ H locs) (Z : eZ σ N) (hok : ∀ k, k < N → e_ok N (lay k) = true) {kd a : Nat} {n : Int32} {N' : Nat} (hl : lay N = (kd + 1, N', [a])) (hkd : (kd = 0 ∧ defaultValue ty = .int 0) ∨ (kd = 1 ∧ defaultValue ty = .long 0)) (ht : tys[a]? = some (κ a, ty)) (hra : ∀ U cA, va_RA U cA ty = (U.vm.findClass ("[" ++ ty.toString) = some cA)) (hn : ¬ n < 0) (hN : n.toNatClampNeg = N') (hbytes : N' * componentBytes ty ≤ 536870912) (hcells : cells + 1 ≤ R.cells) (hslots : slots + N' ≤ R.slots) (hdg : decode cc pc = .ok (.newarray atype, 2))
    (kk : ∀ (ρ' : Nat → Nat) (H1 : Heap), (∀ k, k < N → ρ' k = ρ k) → eK (N + 1) cl tys D ρ' base nw s → eG lay (N + 1) cl D ρ' κ base s σ H1 locs → eZ σ (N + 1) → W p l e R s m args below meth c H1 locs (cells + 1) (slots + N') Q (F0 m (pc + 2) ls (.ref (ρ' N) :: rest))) : W p l e R s m args below meth c H locs cells slots Q (F0 m pc ls (.int n :: rest)) := by
  have hz := Z.1 N (Nat.le_refl N)
  have key : ∀ (a0 : vp_A), (∀ cA : ClassId, vp_cell cA a0 = arrV cA N' (fun _ => defaultValue ty)) → (∀ ρ'' : Nat → Nat, e_cell ρ'' κ σ N (kd + 1, N', [a]) = .inl (κ a, a0)) → W p l e R s m args below meth c H locs cells slots Q (F0 m pc ls (.int n :: rest)) := by
    intro a0 ha hcell
    refine va_newa hexec hb harr hty K.1 G.1 (e_D K.2.1 K.2.2.1) G.2 (fun q h => Nat.le_trans K.2.2.2.1 h) ha hn hN hbytes hcells hslots hdg (fun q cA H1 hK hP hD hS => ?_)
    have hA1 := (hK.2 tys.length (cA, ty) (by rw [List.getElem?_append_right (Nat.le_refl _), Nat.sub_self]; rfl)).2
    have hA2 := (K.1.2 a _ ht).2
    rw [hra] at hA1 hA2
    have hcA : cA = κ a := Option.some.inj (hA1.symm.trans hA2)
    subst hcA
    have hag : ∀ k, k < N → (fun k => if k = N then q else ρ k) k = ρ k := fun k hk => by simp [Nat.ne_of_lt hk]
    obtain ⟨g1, g2, g3⟩ := ec_grow hP hD (fun k => if k = N then q else ρ k) hag Z.2 hok 1 rfl (fun i hi => by
      have hi0 : i = 0 := by omega
      subst hi0
      show some (q, _) = some ((fun k => if k = N then q else ρ k) N, e_cell (fun k => if k = N then q else ρ k) κ σ N (lay N))
      rw [hl, hcell]
      simp)
    have k2 := kk (fun k => if k = N then q else ρ k) H1 hag (ec_K (a := 1) K g2 g3) ⟨g1, hS⟩ (Z.mono 1)
    simpa using k2
  rcases hkd with ⟨rfl, hd⟩ | ⟨rfl, hd⟩
  · exact key (N', .inl (fun _ => 0)) (fun cA => by rw [hd]; exact vp_cell_i cA N' (fun _ => 0)) (fun ρ'' => by
      show (Sum.inl (κ a, N', .inl (σ.1 N)) : va_E) = _
      rw [hz.1])
  · exact key (N', .inr (.inl (fun _ => 0))) (fun cA => by rw [hd]; exact vp_cell_l cA N' (fun _ => 0)) (fun ρ'' => by
      show (Sum.inl (κ a, N', .inr (.inl (σ.2.1 N))) : va_E) = _
      rw [hz.2.1])
theorem ec_mna (hexec : p.tables.exec = Jvm.exec) (hb : c.code = cc) {ty : FieldType} (hown : s.vm.findClass own = some m.cls) (hclink : (Cond.classLink own index ("[" ++ (FieldType.array ty).toString)).before args s = true) (hover : va_AOA ty s) (harr : (Cond.arrayClass ty).before args s = true)
    (K : eK N cl tys D ρ base nw s) (G : eG lay N cl D ρ κ base s σ H locs) (Z : eZ σ N) (hok : ∀ k, k < N → e_ok N (lay k) = true) {kd a b : Nat} {n k : Int32} {N' K' : Nat} {d : List Nat} (hl : lay N = (3, N', b :: d)) (hd : d = (List.range N').map (fun i => N + 1 + i)) (hrow : ∀ i, i < N' → lay (N + 1 + i) = (kd + 1, K', [a])) (hkd : (kd = 0 ∧ defaultValue ty = .int 0) ∨ (kd = 1 ∧ defaultValue ty = .long 0)) (hta : tys[a]? = some (κ a, ty)) (htb : tys[b]? = some (κ b, .array ty)) (hra : ∀ U cA, va_RA U cA ty = (U.vm.findClass ("[" ++ ty.toString) = some cA)) (hnm : (FieldType.array ty).toString = "[" ++ ty.toString) (hn : ¬ n < 0) (hk : ¬ k < 0) (hN : n.toNatClampNeg = N') (hM : k.toNatClampNeg = K') (hb1 : N' * 4 ≤ 536870912) (hb2 : K' * componentBytes ty ≤ 536870912) (hb3 : K' ≤ 536870912) (hdf : fits ty (defaultValue ty) = true) (hdd : (defaultValue ty).isDefault = true) (hcells : cells + (1 + N') ≤ R.cells) (hslots : slots + (N' + N' * K') ≤ R.slots) (hdg : decode cc pc = .ok (.multianewarray index 2, 4))
    (kk : ∀ (ρ' : Nat → Nat) (H1 : Heap), (∀ k, k < N → ρ' k = ρ k) → eK (N + (1 + N')) cl tys D ρ' base nw s → eG lay (N + (1 + N')) cl D ρ' κ base s σ H1 locs → eZ σ (N + (1 + N')) → W p l e R s m args below meth c H1 locs (cells + 1 + N') (slots + N' + N' * K') Q (F0 m (pc + 4) ls (.ref (ρ' N) :: rest))) : W p l e R s m args below meth c H locs cells slots Q (F0 m pc ls (.int k :: .int n :: rest)) := by
  have hA2 := (K.1.2 a _ hta).2
  rw [hra] at hA2
  have key : ∀ (z : vp_A), (∀ c : ClassId, Jvm.Free.Multi.innerC c K' (defaultValue ty) = vp_cell c z) → (∀ (ρ'' : Nat → Nat) (i : Nat), i < N' → e_cell ρ'' κ σ (N + 1 + i) (kd + 1, K', [a]) = .inl (κ a, z)) → W p l e R s m args below meth c H locs cells slots Q (F0 m pc ls (.int k :: .int n :: rest)) := by
    intro z hz hcell
    have hP0 : va_P D cl (e_w lay N ρ κ σ ++ va_pl [] (fun _ => (.inl (κ a, z) : va_E))) H := by
      rw [show va_pl [] (fun _ => (.inl (κ a, z) : va_E)) = [] from rfl, List.append_nil]; exact G.1
    have hD0 : va_D (fun q => base ≤ q) (e_w lay N ρ κ σ ++ va_pl [] (fun _ => (.inl (κ a, z) : va_E))) := by
      rw [show va_pl [] (fun _ => (.inl (κ a, z) : va_E)) = [] from rfl, List.append_nil]; exact e_D K.2.1 K.2.2.1
    refine va_mna hexec hb hown hclink hover harr (cy := κ a) (by rw [hnm]; exact hA2) K.1 hP0 hD0 G.2 (fun q h => Nat.le_trans K.2.2.2.1 h) hn hk hN hM hb1 hb2 hb3 hdf hdd hcells hslots hz hdg (fun q r cA H1 hinj hnl hK hP hD hS => ?_)
    have hB1 := (hK.2 tys.length (cA, .array ty) (by rw [List.getElem?_append_right (Nat.le_refl _), Nat.sub_self]; rfl)).2
    have hB2 := (K.1.2 b _ htb).2
    have hcA : cA = κ b := Option.some.inj (Eq.trans (Eq.symm (show s.vm.findClass ("[" ++ (FieldType.array ty).toString) = some cA from hB1)) (show s.vm.findClass ("[" ++ (FieldType.array ty).toString) = some (κ b) from hB2))
    subst hcA
    rw [List.append_assoc] at hP hD
    have hag : ∀ k, k < N → (fun k => if k < N then ρ k else if k = N then q else r (k - (N + 1))) k = ρ k := fun k hk => by simp [hk]
    obtain ⟨g1, g2, g3⟩ := ec_grow hP hD (fun k => if k < N then ρ k else if k = N then q else r (k - (N + 1))) hag Z.2 hok (1 + N') (by simp [va_pl]; omega) (fun i hi => by
      by_cases hi0 : i = 0
      · subst hi0
        show some (q, _) = some (_, e_cell _ κ σ N (lay N))
        rw [hl]
        have e1 : (if N + 0 < N then ρ (N + 0) else if N + 0 = N then q else r (N + 0 - (N + 1))) = q := by simp
        have e2 : (fun i => if i < N' then some (r i) else none) = (fun i => (d[i]?).map (fun k => if k < N then ρ k else if k = N then q else r (k - (N + 1)))) := by
          funext i
          by_cases h : i < N'
          · have h1 : ¬ N + 1 + i < N := by omega
            have h2 : ¬ N + 1 + i = N := by omega
            simp [hd, h, h1, h2]
          · simp [hd, h]
        rw [e2]
        show some (q, _) = some ((if N + 0 < N then ρ (N + 0) else if N + 0 = N then q else r (N + 0 - (N + 1))), _)
        rw [e1]
        rfl
      · obtain ⟨j, rfl⟩ : ∃ j, i = 1 + j := ⟨i - 1, by omega⟩
        have hj : j < N' := by omega
        rw [List.getElem?_append_right (by simp), show 1 + j - ([(q, _)] : va_W).length = j by simp]
        have h1 : ¬ N + (1 + j) < N := by omega
        have h2 : ¬ N + (1 + j) = N := by omega
        have h3 : N + (1 + j) = N + 1 + j := by omega
        rw [h3, hrow j hj, hcell _ j hj]
        have h4 : r j ∈ (List.range N').map r := List.mem_map.mpr ⟨j, List.mem_range.mpr hj, rfl⟩
        have h5 : ¬ N + 1 + j < N := by omega
        have h6 : ¬ N + 1 + j = N := by omega
        simp [va_pl, hj, vr_up, h5, h6])
    have k2 := kk (fun k => if k < N then ρ k else if k = N then q else r (k - (N + 1))) H1 hag (ec_K (a := 1) K g2 g3) ⟨g1, hS⟩ (Z.mono (1 + N'))
    simpa using k2
  rcases hkd with ⟨rfl, hd0⟩ | ⟨rfl, hd0⟩
  · refine key (K', .inl (fun _ => 0)) (fun c => by rw [hd0, vp_cell_i]; exact arrV_new c K' (.int 0)) (fun ρ'' i hi => ?_)
    show (Sum.inl (κ a, K', .inl (σ.1 (N + 1 + i))) : va_E) = _
    rw [(Z.1 (N + 1 + i) (by omega)).1]
  · refine key (K', .inr (.inl (fun _ => 0))) (fun c => by rw [hd0, vp_cell_l]; exact arrV_new c K' (.long 0)) (fun ρ'' i hi => ?_)
    show (Sum.inl (κ a, K', .inr (.inl (σ.2.1 (N + 1 + i)))) : va_E) = _
    rw [(Z.1 (N + 1 + i) (by omega)).2.1]
theorem ec_newq (hexec : p.tables.exec = Jvm.exec) (hb : c.code = cc) (hown : s.vm.findClass own = some m.cls) (hclink : (Cond.classLink own index C).before args s = true) (hover : va_AO C s)
    (K : eK N cl tys D ρ base nw s) (G : eG lay N cl D ρ κ base s σ H locs) (Z : eZ σ N) (hok : ∀ k, k < N → e_ok N (lay k) = true) {a : Nat} {n : Int32} {N' : Nat} (hl : lay N = (4, N', [a])) (ht : tys[a]? = some (κ a, .object C)) (hn : ¬ n < 0) (hN : n.toNatClampNeg = N') (hbytes : N' * 4 ≤ 536870912) (hcells : cells + 1 ≤ R.cells) (hslots : slots + N' ≤ R.slots) (hdg : decode cc pc = .ok (.anewarray index, 3))
    (kk : ∀ (ρ' : Nat → Nat) (H1 : Heap), (∀ k, k < N → ρ' k = ρ k) → eK (N + 1) cl tys D ρ' base nw s → eG lay (N + 1) cl D ρ' κ base s σ H1 locs → eZ σ (N + 1) → W p l e R s m args below meth c H1 locs (cells + 1) (slots + N') Q (F0 m (pc + 3) ls (.ref (ρ' N) :: rest))) : W p l e R s m args below meth c H locs cells slots Q (F0 m pc ls (.int n :: rest)) := by
  refine va_newq hexec hb hown hclink hover K.1 G.1 (e_D K.2.1 K.2.2.1) G.2 (fun q h => Nat.le_trans K.2.2.2.1 h) hn hN hbytes hcells hslots hdg (fun q cA H1 hK hP hD hS => ?_)
  obtain ⟨_, _, _, _, _, hA1⟩ := (hK.2 tys.length (cA, .object C) (by rw [List.getElem?_append_right (Nat.le_refl _), Nat.sub_self]; rfl)).2
  obtain ⟨_, _, _, _, _, hA2⟩ := (K.1.2 a _ ht).2
  have hcA : cA = κ a := Option.some.inj (hA1.symm.trans hA2)
  subst hcA
  have hag : ∀ k, k < N → (fun k => if k = N then q else ρ k) k = ρ k := fun k hk => by simp [Nat.ne_of_lt hk]
  obtain ⟨g1, g2, g3⟩ := ec_grow hP hD (fun k => if k = N then q else ρ k) hag Z.2 hok 1 rfl (fun i hi => by
    have hi0 : i = 0 := by omega
    subst hi0
    show some (q, _) = some ((fun k => if k = N then q else ρ k) N, e_cell (fun k => if k = N then q else ρ k) κ σ N (lay N))
    rw [hl]
    have e2 : (fun i => e_mo (fun k => if k = N then q else ρ k) (σ.2.2 N i)) = (fun _ => none) := by
      funext i
      rw [(Z.1 N (Nat.le_refl N)).2.2]
      rfl
    show _ = some (_, (Sum.inl (κ a, N', .inr (.inr (.inr (.inr (fun i => e_mo (fun k => if k = N then q else ρ k) (σ.2.2 N i)))))) : va_E))
    rw [e2]
    simp)
  have k2 := kk (fun k => if k = N then q else ρ k) H1 hag (ec_K (a := 1) K g2 g3) ⟨g1, hS⟩ (Z.mono 1)
  simpa using k2
theorem ec_aast (hexec : p.tables.exec = Jvm.exec) (hb : c.code = cc) (K : eK N cl tys D ρ base nw s) (G : eG lay N cl D ρ κ base s σ H locs) (k a n v : Nat) (hk : k < N) (hl : lay k = (4, n, [a])) (ht : tys[a]? = some (κ a, .object C)) (hv : v < N) (hlv : lay v = (0, ci, fk)) (hc : cl[ci]? = some (C, T, NF)) {i : Int32} (hin : vp_in i n) (hdg : decode cc pc = .ok (.aastore, 1))
    (kk : ∀ (H1 : Heap) (locs1 : List Loc), eG lay N cl D ρ κ base s (e_ur σ k i.toNatClampNeg (v + 1)) H1 locs1 → W p l e R s m args below meth c H1 locs1 cells slots Q (F0 m (pc + 1) ls rest)) : W p l e R s m args below meth c H locs cells slots Q (F0 m pc ls (.ref (ρ v) :: .int i :: .ref (ρ k) :: rest)) := by
  have he := e_w_get (lay := lay) (ρ := ρ) (κ := κ) (σ := σ) hk
  have hev := e_w_get (lay := lay) (ρ := ρ) (κ := κ) (σ := σ) hv
  rw [hl] at he
  rw [hlv] at hev
  refine va_astq (r := (C, T, NF)) hexec hb K.1 G.1 (e_D K.2.1 K.2.2.1) G.2 k a v ci he ht hev hc hin hdg (fun H1 locs1 hP _ hS => kk H1 locs1 ⟨?_, hS⟩)
  rwa [e_w_set (e_ur σ k i.toNatClampNeg (v + 1)) e_ur_ne] at hP
  rw [hl]
  have e2 : va_up (fun i => e_mo ρ (σ.2.2 k i)) i.toNatClampNeg (some (ρ v)) = (fun b => e_mo ρ ((e_ur σ k i.toNatClampNeg (v + 1)).2.2 k b)) := by
    funext b
    by_cases h : b = i.toNatClampNeg
    · subst h; simp [va_up, e_ur, e_mo]
    · simp [va_up, e_ur, h]
  show (Sum.inl (κ a, n, .inr (.inr (.inr (.inr (va_up (fun i => e_mo ρ (σ.2.2 k i)) i.toNatClampNeg (some (ρ v))))))) : va_E) = _
  rw [e2]
  rfl
theorem e_putrF (hexec : p.tables.exec = Jvm.exec) (hb : c.code = cc) (hts : ∀ w ∈ Ts, w.before args s = true) (hin : ∀ w ∈ u_ws C T NF, w ∈ Ts) (ty0 : Nat → FieldType) (hty : ∀ k, k < NF → parseFieldDescriptor (T k).2.2.1 = some (ty0 k)) (hnm : ∀ a, a < NF → ∀ b, b < NF → a ≠ b → (T a).2.1 ≠ (T b).2.1) (hown : s.vm.findClass own = some m.cls) (K : eK N cl tys D ρ base nw s) (G : eG lay N cl D ρ κ base s σ H locs) (k : Nat) (hk : k < N) (hl : lay k = (0, ci, fk)) (hc : cl[ci]? = some (C, T, NF)) (j : Nat) (hj : j < NF) (hf : fk[j]? = some 2) (hlink : (Cond.fieldLink own index (T j).1 (T j).2.1 (T j).2.2.1).before args s = true) (hfin : (T j).2.2.2 = true) (hin2 : meth.name = "<init>") (hdecl : (T j).1 = own) {ty : FieldType} (n : Nat) (hd : parseFieldDescriptor (T j).2.2.1 = some ty) (hn : narrow ty (e_mv ρ n) = e_mv ρ n) (hfit : fits ty (e_mv ρ n) = true) (hdg : decode cc pc = .ok (.putfield index, 3))
    (kk : ∀ (H1 : Heap) (locs1 : List Loc), eG lay N cl D ρ κ base s (e_ur σ k j n) H1 locs1 → W p l e R s m args below meth c H1 locs1 cells slots Q (F0 m (pc + 3) ls rest)) : W p l e R s m args below meth c H locs cells slots Q (F0 m pc ls (e_mv ρ n :: .ref (ρ k) :: rest)) := by
  have he := e_w_get (lay := lay) (ρ := ρ) (κ := κ) (σ := σ) hk
  rw [hl] at he
  refine va_putF hexec hb hts hin ty0 hty hnm hown K.1 G.1 (e_D K.2.1 K.2.2.1) G.2 k he hc j hj hlink (fun _ h => h) hfin hin2 hdecl hd hn hfit (by rw [e_fs_len]; exact (List.getElem?_eq_some_iff.mp hf).1) hdg (fun H1 locs1 hP _ hS => kk H1 locs1 ⟨?_, hS⟩)
  rwa [e_w_set (e_ur σ k j n) e_ur_ne] at hP
  rw [hl]
  show _ = Sum.inr (ci, e_fs ρ (e_ur σ k j n) k 0 fk)
  exact congrArg (fun z => (Sum.inr (ci, z) : va_E)) (e_fs_set (ρ := ρ) (σ := σ) (σ' := e_ur σ k j n) (k := k) (jj := j) (c0 := 2) (fun i c hi => e_fv_congr (ρ := ρ) (σ := σ) (σ' := e_ur σ k j n) (k := k) (j := i) rfl rfl (by simp [e_ur, hi]) c) (by simp [e_fv, e_ur]) fk 0 j (Nat.zero_add j) hf)
end ENGC
abbrev eMW : Type := List (String × Nat × MethodName × String)
def e_Pcc (lay : eL) (N : Nat) (cl : List vw_C) (tys : List (ClassId × FieldType)) (D : va_G) (ρ : Nat → Nat) (κ : Nat → ClassId) (base : Nat) (nw : eN) (mw : eMW) (av : List Value) (σ : eS) : Array Value → State → Prop := va_Pc av (fun U => eK N cl tys D ρ base nw U ∧ eX mw U ∧ va_P D cl (e_w lay N ρ κ σ) U.heap)
def e_postc (N N' base : Nat) (ρ : Nat → Nat) (post : eS → Prop) : eS × (Nat → Nat) → Prop := fun u => post u.1 ∧ eZ u.1 N' ∧ (∀ k, k < N → u.2 k = ρ k) ∧ (∀ i j, i < N' → j < N' → u.2 i = u.2 j → i = j) ∧ ∀ k, k < N' → base ≤ u.2 k
def e_Bc (lay : eL) (N' : Nat) (cl : List vw_C) (D : va_G) (κ : Nat → ClassId) : eS × (Nat → Nat) → State → Prop := fun u t => va_P D cl (e_w lay N' u.2 κ u.1) t.heap
def eMc (l : Launch) (y : MethodName) (ws : List Cond) (rm : Room) (lay : eL) (N N' : Nat) (cl : List vw_C) (tys : List (ClassId × FieldType)) (D : va_G) (ρ : Nat → Nat) (κ : Nat → ClassId) (base : Nat) (nw : eN) (mw : eMW) (av : List Value) (σ : eS) (post : eS → Prop) (mc ms : Nat) : Prop :=
  Met l y ws rm (e_Pcc lay N cl tys D ρ κ base nw mw av σ) (va_Qv (e_postc N N' base ρ post) (e_Bc lay N' cl D κ) (eA base)) mc ms (eA base)
section ENGD
variable {p : Program} {l : Launch} {e : Env} {R : Room} {s : State} {m : MethodId} {args : Array Value} {below : List Frame} {meth : Method} {c : Code} {H : Heap} {locs : List Loc} {cells slots : Nat} {Q : State → Prop}
variable {cc : ByteArray} {pc : Nat} {ls : Array Slot} {rest : List Value} {D : va_G} {cl : List vw_C} {tys : List (ClassId × FieldType)} {lay : eL} {N N' base mc ms : Nat} {ρ : Nat → Nat} {κ : Nat → ClassId} {σ : eS} {nw : eN} {mw : eMW}
variable {own C host : String} {T : u_T} {NF ci index nL maxL n : Nat} {Ts ws ws' : List Cond} {fk : List Nat} {y : MethodName} {bytes : ByteArray} {ret : Option FieldType} {rm : Room} {As st0 : List Value}
theorem ec_blind {av : List Value} : FrameBlind (e_Pcc lay N cl tys D ρ κ base nw mw av σ) := fun a U g mk q => by
  obtain ⟨h0, hK, hX, hP⟩ := q
  exact ⟨h0, eK.same (u := U) (U := U.calling g mk a) rfl hK.2.2.2.1 hK, eX.same (u := U) (U := U.calling g mk a) rfl hX, hP⟩
theorem ec_pre (K : eK N cl tys D ρ base nw s) (X : eX mw s) (G : eG lay N cl D ρ κ base s σ H locs) (av : List Value) : ∀ U : State, U.heap = H → s.WarmedH U.vm → e_Pcc lay N cl tys D ρ κ base nw mw av σ av.toArray U := fun U hU hW => ⟨rfl, eK.warm hW (by rw [hU]; exact Nat.le_trans K.2.2.2.1 G.2.1) K, eX.warm hW X, by rw [hU]; exact G.1⟩
theorem ec_callIN (S : CallFix p m c cc nL s args Ts own) (K : eK N cl tys D ρ base nw s) (X : eX mw s) (G : eG lay N cl D ρ κ base s σ H locs) {post : eS → Prop} (k : Nat) (hM : eMc l y ws rm lay N N' cl tys D ρ κ base nw mw (.ref (ρ k) :: As) σ post mc ms) (cw : va_CN R s args own index y host bytes maxL none ws rm mc ms n ∧ y.name = "<init>" ∧ (Cond.instanceMethod y).before args s = true) (hn : As.length = n) (hsize : ls.size = nL) (hst : st0 = As.reverse ++ .ref (ρ k) :: rest) (hW : (rest.map fun v => v.category).sum ≤ 8) (hdg : decode cc pc = .ok (.invokespecial index, 3)) (hf : cells + mc ≤ R.cells ∧ slots + ms ≤ R.slots)
    (kk : ∀ (ρ' : Nat → Nat) (σ' : eS) (H1 : Heap) (locs1 : List Loc), post σ' → (∀ k, k < N → ρ' k = ρ k) → eK N' cl tys D ρ' base nw s → eG lay N' cl D ρ' κ base s σ' H1 locs1 → eZ σ' N' → W p l e R s m args below meth c H1 locs1 (cells + mc) (slots + ms) Q (F0 m (pc + 3) ls rest)) : W p l e R s m args below meth c H locs cells slots Q (F0 m pc ls st0) := by
  exact va_callv (va_runIN (As := As) (rest := rest) S hM cw ⟨ec_blind, ec_pre K X G _⟩ rfl hn hsize hst (lv_room hW) hdg hf) G.2 (fun q _ h => h) (fun q h => h) (fun u t H1 locs1 ht hvm hw hB hz1 hk1 hS => kk u.2 u.1 H1 locs1 hw.1 hw.2.2.1 (ec_K (a := 1) K hw.2.2.2.1 hw.2.2.2.2) ⟨by rw [← ht]; exact hB, hS⟩ hw.2.1)
theorem ec_callI (S : CallFix p m c cc nL s args Ts own) (K : eK N cl tys D ρ base nw s) (X : eX mw s) (G : eG lay N cl D ρ κ base s σ H locs) {post : eS → Prop} (k : Nat) (hM : eMc l y ws rm lay N N' cl tys D ρ κ base nw mw (.ref (ρ k) :: As) σ post mc ms) (cw : CallB R s args own index y bytes maxL none ws rm mc ms n ∧ y.name = "<init>" ∧ (Cond.instanceMethod y).before args s = true) (hn : As.length = n) (hsize : ls.size = nL) (hst : st0 = As.reverse ++ .ref (ρ k) :: rest) (hW : (rest.map fun v => v.category).sum ≤ 8) (hdg : decode cc pc = .ok (.invokespecial index, 3)) (hf : cells + mc ≤ R.cells ∧ slots + ms ≤ R.slots)
    (kk : ∀ (ρ' : Nat → Nat) (σ' : eS) (H1 : Heap) (locs1 : List Loc), post σ' → (∀ k, k < N → ρ' k = ρ k) → eK N' cl tys D ρ' base nw s → eG lay N' cl D ρ' κ base s σ' H1 locs1 → eZ σ' N' → W p l e R s m args below meth c H1 locs1 (cells + mc) (slots + ms) Q (F0 m (pc + 3) ls rest)) : W p l e R s m args below meth c H locs cells slots Q (F0 m pc ls st0) := by
  exact va_callv (va_runI (As := As) (rest := rest) S hM cw ⟨ec_blind, ec_pre K X G _⟩ rfl hn hsize hst (lv_room hW) hdg hf) G.2 (fun q _ h => h) (fun q h => h) (fun u t H1 locs1 ht hvm hw hB hz1 hk1 hS => kk u.2 u.1 H1 locs1 hw.1 hw.2.2.1 (ec_K (a := 1) K hw.2.2.2.1 hw.2.2.2.2) ⟨by rw [← ht]; exact hB, hS⟩ hw.2.1)
theorem ec_ofW {av : List Value} {post : eS → Prop} (hy : plainName y.cls = true) (hw : ws = Cond.code y cc maxL ret :: ws') (hy1 : y.name = "<init>") (hav : (lg_sl av).length ≤ maxL) (body : ∀ p e s m below meth c ls, eCx p s m av.toArray meth c cc y.cls maxL ret ws → meth.name = "<init>" → eK N cl tys D ρ base nw s → eX mw s → eG lay N cl D ρ κ base s σ s.heap [] → lv_has ls maxL (lv_args 0 av) → W p l e rm s m av.toArray below meth c s.heap [] 0 0 (MQ below (va_Qv (e_postc N N' base ρ post) (e_Bc lay N' cl D κ) (eA base)) av.toArray s mc ms (eA base)) (F0 m 0 ls [])) : eMc l y ws rm lay N N' cl tys D ρ κ base nw mw av σ post mc ms := by
  refine Met.ofW (cc := cc) (maxL := maxL) (ret := ret) hy hw ?_
  intro p e s m args below meth c s₁ B hml hv
  obtain ⟨rfl, hK, hX, hP⟩ := hv
  have hl := lv_entry av (n := maxL) hav
  rw [lg_entry_eq]
  exact body p e s m below meth c _ ⟨B.exec, B.bytes, hml, findClass_of_methodNamed B.named, atoms_spec (ws := ws) B.pre, B.returns, B.notSynchronized⟩ (by rw [(name_of_methodNamed B.named B.method).1]; exact hy1) hK hX ⟨hP, va_S.rf⟩ hl
theorem ec_vret {ρ' : Nat → Nat} {post : eS → Prop} (hexec : p.tables.exec = Jvm.exec) (hb : c.code = cc) (hr : meth.sig.returnType = none) (hlocks : meth.locks = false) (K : eK N' cl tys D ρ' base nw s) (G : eG lay N' cl D ρ' κ base s σ H locs) (Z : eZ σ N') (hag : ∀ k, k < N → ρ' k = ρ k) (hq : post σ) (hdg : decode cc pc = .ok (.return_, 1)) : W p l e R s m args below meth c H locs cells slots (MQ below (va_Qv (e_postc N N' base ρ post) (e_Bc lay N' cl D κ) (eA base)) args s cells slots (eA base)) (F0 m pc ls []) :=
  W.vret hexec hb hr (fun t ht hW => ⟨⟨(σ, ρ'), rfl, ⟨hq, Z, hag, K.2.1, K.2.2.1⟩, by show va_P D cl _ t.heap; rw [ht]; exact G.1⟩, G.2.F ht⟩) G.2.2.2 hdg hlocks
end ENGD
