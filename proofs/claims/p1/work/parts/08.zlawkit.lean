/-! THE LAW'S SIDE: its ends, room for throws, statics that a throw reads -/
def eBd (n cells slots : Nat) : Prop := cells + 2 * n ≤ 600000 ∧ slots + 8 * n ≤ 7302000
theorem eBd.le {n cells slots : Nat} (h : eBd n cells slots) : cells ≤ room_1.cells ∧ slots ≤ room_1.slots := by
  obtain ⟨h1, h2⟩ := h
  exact ⟨Nat.le_trans (show cells ≤ 600000 by omega) (by decide), Nat.le_trans (show slots ≤ 7302000 by omega) (by decide)⟩
theorem eBd.dec {n cells slots : Nat} (h : eBd (n + 1) cells slots) : eBd n cells slots := by
  obtain ⟨h1, h2⟩ := h
  exact ⟨by omega, by omega⟩
theorem eBd.thr {n cells slots : Nat} (h : eBd (n + 1) cells slots) : eBd n (cells + 1) (slots + 6) := by
  obtain ⟨h1, h2⟩ := h
  exact ⟨by omega, by omega⟩
theorem eBd.room {n cells slots : Nat} (h : eBd (n + 1) cells slots) : cells + 1 ≤ room_1.cells ∧ slots + 6 ≤ room_1.slots := by
  obtain ⟨h1, h2⟩ := h
  exact ⟨Nat.le_trans (show cells + 1 ≤ 600000 by omega) (by decide), Nat.le_trans (show slots + 6 ≤ 7302000 by omega) (by decide)⟩
def R_law : String := "StreetsStepOnLaw"
def lw_P (b : Addr) (xs : List Int32) (args : Array Value) (s : State) : Prop := args = #[.ref b] ∧ s.IntsAt b xs ∧ xs.length ≤ 6 ∧ (Jvm.Cond.and given_1 narrow_1).before args s = true
def lw_Q (_ : Array Value) (s : State) (o : Outcome) (t : State) : Prop := o = .returned (some (.int 1)) ∧ Framed s o t [] 600002 7302232
def lw_Z (below : List Frame) (a : Array Value) (s : State) : State → Prop := fun t => ∃ o, t.status = .running ∧ Ended t below o ∧ lw_Q a s o t
theorem lw_ret {p : Program} {l : Launch} {e : Env} {s : State} {m : MethodId} {below : List Frame} {meth : Method} {c : Code} {b : Nat} (hx : p.tables.exec = Jvm.exec) (hb : c.code = code) (hr : meth.sig.returnType = ret) (hlocks : meth.locks = false) {pc : Nat} {H : Heap} {ls : Array Slot} (hdg : decode code pc = .ok (.ireturn, 1)) : W p l e room_1 s m #[Value.ref b] below meth c H [] 600002 7302232 (lw_Z below #[Value.ref b] s) (F0 m pc ls [.int 1]) := by
  intro T hT X
  obtain ⟨fs, hret, hrun, hended, hW, hframe⟩ := X.leave (v := some (.int 1)) (hlocks := hlocks) (fun h => by rw [hr] at h; cases h)
  have hmeth' : T.vm.method? m = some meth := X.method'
  refine ⟨T.setFrames fs, ?_, .returned (some (.int 1)), hrun, hended, rfl, ⟨_, rfl⟩, hW, hframe⟩
  jvm_step X.here [X.here.top, hx, hb, hdg, hmeth', hr, ret, narrow_b1]
  (try refine ⟨rfl, ?_⟩); (try refine ⟨rfl, ?_⟩)
  first | (intro acts; rw [hret _ acts rfl rfl rfl]) | rw [hret _ _ rfl rfl rfl]
  exact Steps.refl _
def lw_At (p : Program) (s : State) (m : MethodId) (meth : Method) (c : Code) (b L : Nat) (xs : Nat → Int32) : Prop :=
  p.tables.exec = Jvm.exec ∧ c.code = code ∧ meth.sig.returnType = ret ∧ c.maxLocals = 8 ∧ s.vm.findClass R_law = some m.cls ∧ (∀ w ∈ lw_tbl, w.before #[Value.ref b] s = true) ∧ va_X b L xs s s.heap ∧ b < s.heap.size ∧ meth.locks = false ∧ (Jvm.Cond.and given_1 narrow_1).before #[Value.ref b] s = true
/-- the law's end -/
theorem le_ret {p : Program} {l : Launch} {e : Env} {s : State} {m : MethodId} {below : List Frame} {meth : Method} {c : Code} {b n cells slots base N : Nat} {H : Heap} {locs : List Loc} {lay : eL} {cl : List vw_C} {D : va_G} {ρ : Nat → Nat} {κ : Nat → ClassId} {σ : eS} {pc : Nat} {ls : Array Slot} {v : Int32} (hx : p.tables.exec = Jvm.exec) (hb : c.code = code) (hr : meth.sig.returnType = some .boolean) (hlocks : meth.locks = false) (hcs : eBd n cells slots) (hb0 : s.heap.size ≤ base) (G : eG lay N cl D ρ κ base s σ H locs) (hv : v = 1) (hdg : decode code pc = .ok (.ireturn, 1)) : W p l e room_1 s m #[Value.ref b] below meth c H locs cells slots (lw_Z below #[Value.ref b] s) (F0 m pc ls [.int v]) := by
  subst hv
  refine va_forget (fun q hq => Nat.le_trans hb0 (G.2.2.2 q hq)) ?_
  refine W.widen (k := 600002) (n := 7302232) (by have := hcs.1; omega) (by have := hcs.2; omega) ?_
  exact lw_ret hx hb hr hlocks hdg
abbrev gNS : String := "java/util/NoSuchElementException"
def eV (base : Nat) (U : State) : Prop := vx_Zq Bundle.tN "UNASSIGNED_STACK" Bundle.steD (eA base) U U.heap ∧ vx_Zq Bundle.tN "SUPPRESSED_SENTINEL" Bundle.listD (eA base) U U.heap ∧ va_Nw (.castable gNS gNS) U ∧ va_Nw (.declares (Bundle.init0 "java/lang/RuntimeException")) U ∧ va_Nw (.declares (Bundle.init0 "java/lang/Exception")) U ∧ va_Nw (.declares (Bundle.init0 Bundle.tN)) U
theorem eV.warm {base : Nat} {u U : State} (hW : u.WarmedH U.vm) (hk : ∀ a : Nat, a < u.heap.size → ¬ eA base a → U.heap[a]? = u.heap[a]?) (h : eV base u) : eV base U := ⟨vx_Zq.kept (vx_Zq.moved hW.alike h.1) hk, vx_Zq.kept (vx_Zq.moved hW.alike h.2.1) hk, va_Nw.warmC hW h.2.2.1, va_Nw.warmD hW h.2.2.2.1, va_Nw.warmD hW h.2.2.2.2.1, va_Nw.warmD hW h.2.2.2.2.2⟩
theorem eV.same {base : Nat} {u U : State} (hvm : u.vm = U.vm) (hh : u.heap = U.heap) (h : eV base u) : eV base U := ⟨by rw [← hh]; exact vx_Zq.moved (by rw [hvm]; exact Vm.Alike.refl U.vm) h.1, by rw [← hh]; exact vx_Zq.moved (by rw [hvm]; exact Vm.Alike.refl U.vm) h.2.1, va_Nw.same rfl hvm h.2.2.1, va_Nw.same rfl hvm h.2.2.2.1, va_Nw.same rfl hvm h.2.2.2.2.1, va_Nw.same rfl hvm h.2.2.2.2.2⟩
def e_Pcx (lay : eL) (N : Nat) (cl : List vw_C) (tys : List (ClassId × FieldType)) (D : va_G) (ρ : Nat → Nat) (κ : Nat → ClassId) (base : Nat) (nw : eN) (av : List Value) (σ : eS) : Array Value → State → Prop := va_Pc av (fun U => eK N cl tys D ρ base nw U ∧ eV base U ∧ va_P D cl (e_w lay N ρ κ σ) U.heap)
def e_Xc (lay : eL) (N : Nat) (cl : List vw_C) (D : va_G) (ρ : Nat → Nat) (κ : Nat → ClassId) (base : Nat) (px : eS → Prop) : String → State → State → Prop := vx_X px (fun E σ' t => E = gNS ∧ va_P D cl (e_w lay N ρ κ σ') t.heap) (eA base)
section ENGX
variable {p : Program} {l : Launch} {e : Env} {R : Room} {s : State} {m : MethodId} {args : Array Value} {below : List Frame} {meth : Method} {c : Code} {H : Heap} {locs : List Loc} {cells slots : Nat} {Q : State → Prop}
variable {cc : ByteArray} {pc : Nat} {ls : Array Slot} {rest : List Value} {D : va_G} {cl : List vw_C} {tys : List (ClassId × FieldType)} {lay : eL} {N base : Nat} {ρ : Nat → Nat} {κ : Nat → ClassId} {σ : eS} {nw : eN}
variable {own C : String} {T : u_T} {NF ci index nL maxL n : Nat} {Ts ws ws' : List Cond} {fk : List Nat} {y : MethodName} {bytes : ByteArray} {ret : Option FieldType} {rm : Room} {As st0 : List Value}
theorem ex_blind {av : List Value} : FrameBlind (e_Pcx lay N cl tys D ρ κ base nw av σ) := fun a U g mk q => by
  obtain ⟨h0, hK, hV, hP⟩ := q
  exact ⟨h0, eK.same (u := U) (U := U.calling g mk a) rfl hK.2.2.2.1 hK, eV.same (u := U) (U := U.calling g mk a) rfl rfl hV, hP⟩
theorem ex_pre (K : eK N cl tys D ρ base nw s) (V : eV base s) (G : eG lay N cl D ρ κ base s σ H locs) (av : List Value) : ∀ U : State, U.heap = H → s.WarmedH U.vm → e_Pcx lay N cl tys D ρ κ base nw av σ av.toArray U := fun U hU hW => ⟨rfl, eK.warm hW (by rw [hU]; exact Nat.le_trans K.2.2.2.1 G.2.1) K, eV.warm hW (fun a h1 h2 => by rw [hU]; exact G.2.2.1 a h1 h2) V, by rw [hU]; exact G.1⟩
def eMxi (l : Launch) (y : MethodName) (ws : List Cond) (rm : Room) (lay : eL) (N : Nat) (cl : List vw_C) (tys : List (ClassId × FieldType)) (D : va_G) (ρ : Nat → Nat) (κ : Nat → ClassId) (base : Nat) (nw : eN) (av : List Value) (σ : eS) (post : Int32 → eS → Prop) (px : eS → Prop) : Prop :=
  vx_Met l y ws rm (e_Pcx lay N cl tys D ρ κ base nw av σ) (va_Qi post (e_Bw lay N cl D ρ κ) (eA base)) (e_Xc lay N cl D ρ κ base px) 1 6 (eA base)
theorem ex_ofWi {av : List Value} {post : Int32 → eS → Prop} {px : eS → Prop} (hy : plainName y.cls = true) (hw : ws = Cond.code y cc maxL ret :: ws') (hav : (lg_sl av).length ≤ maxL) (body : ∀ p e s m below meth c ls, eCx p s m av.toArray meth c cc y.cls maxL ret ws → (∀ x ∈ c.exceptionTable.toList, False) → eK N cl tys D ρ base nw s → eV base s → eG lay N cl D ρ κ base s σ s.heap [] → lv_has ls maxL (lv_args 0 av) → W p l e rm s m av.toArray below meth c s.heap [] 0 0 (vx_MQ below (va_Qi post (e_Bw lay N cl D ρ κ) (eA base)) (e_Xc lay N cl D ρ κ base px) av.toArray s 1 6 (eA base)) (F0 m 0 ls [])) : eMxi l y ws rm lay N cl tys D ρ κ base nw av σ post px := by
  refine vx_ofW (cc := cc) (maxL := maxL) (ret := ret) hy hw ?_
  intro p e s m args below meth c s₁ B hml hno hv
  obtain ⟨rfl, hK, hV, hP⟩ := hv
  have hl := lv_entry av (n := maxL) hav
  rw [lg_entry_eq]
  exact body p e s m below meth c _ ⟨B.exec, B.bytes, hml, findClass_of_methodNamed B.named, atoms_spec (ws := ws) B.pre, B.returns, B.notSynchronized⟩ hno hK hV ⟨hP, va_S.rf⟩ hl
theorem ex_callVi (S : CallFix p m c cc nL s args Ts own) (K : eK N cl tys D ρ base nw s) (V : eV base s) (G : eG lay N cl D ρ κ base s σ H locs) {post : Int32 → eS → Prop} {px : eS → Prop} (k : Nat) (hk : k < N) (hl : lay k = (0, ci, fk)) (hc : cl[ci]? = some (C, T, NF)) (hM : eMxi l y ws rm lay N cl tys D ρ κ base nw (.ref (ρ k) :: As) σ post px) (cw : CallW R s args own C index y bytes maxL ret ws rm 1 6 n) (hn : As.length = n) (hsize : ls.size = nL) (hst : st0 = As.reverse ++ .ref (ρ k) :: rest) (hW : (rest.map fun v => v.category).sum ≤ 8) (hdg : decode cc pc = .ok (.invokevirtual index, 3)) (hf : cells + 1 ≤ R.cells ∧ slots + 6 ≤ R.slots)
    (kx : ∀ (σ' : eS) (H1 : Heap) (locs1 : List Loc) (q : Nat) (ce : Cell), px σ' → eG lay N cl D ρ κ base s σ' H1 locs1 → H1[q]? = some ce → ce.vm = .none → s.vm.findClass gNS = some ce.cls → vx_W p l e R s m args below meth c H1 locs1 (cells + 1) (slots + 6) Q (F0 m pc ls rest) q)
    (kk : ∀ (r : Int32) (σ' : eS) (H1 : Heap) (locs1 : List Loc), post r σ' → eG lay N cl D ρ κ base s σ' H1 locs1 → W p l e R s m args below meth c H1 locs1 (cells + 1) (slots + 6) Q (F0 m (pc + 3) ls (.int r :: rest))) : W p l e R s m args below meth c H locs cells slots Q (F0 m pc ls st0) := by
  have he := e_w_get (lay := lay) (ρ := ρ) (κ := κ) (σ := σ) hk
  rw [hl] at he
  exact vx_calli (vx_runV (As := As) (rest := rest) S hM cw ⟨ex_blind, va_recv K.1 G.1 hc he, ex_pre K V G _⟩ rfl hn hsize hst (lv_room hW) hdg hf) G.2 (fun q _ h => h) (fun q h => h) (fun q _ h => h) (fun E ce q9 u t H1 locs1 ht hvm hp hB hz1 hk1 hS h1 h2 h3 => by
    obtain ⟨rfl, hB⟩ := hB
    exact kx u H1 locs1 q9 ce hp ⟨by rw [← ht]; exact hB, hS⟩ h1 h2 h3) (fun r u t H1 locs1 ht hvm hw hB hz1 hk1 hS => kk r u H1 locs1 hw ⟨by rw [← ht]; exact hB, hS⟩)
def eMxl (l : Launch) (y : MethodName) (ws : List Cond) (rm : Room) (lay : eL) (N : Nat) (cl : List vw_C) (tys : List (ClassId × FieldType)) (D : va_G) (ρ : Nat → Nat) (κ : Nat → ClassId) (base : Nat) (nw : eN) (av : List Value) (σ : eS) (post : Int64 → eS → Prop) (px : eS → Prop) : Prop :=
  vx_Met l y ws rm (e_Pcx lay N cl tys D ρ κ base nw av σ) (va_Ql post (e_Bw lay N cl D ρ κ) (eA base)) (e_Xc lay N cl D ρ κ base px) 1 6 (eA base)
theorem ex_ofWl {av : List Value} {post : Int64 → eS → Prop} {px : eS → Prop} (hy : plainName y.cls = true) (hw : ws = Cond.code y cc maxL ret :: ws') (hav : (lg_sl av).length ≤ maxL) (body : ∀ p e s m below meth c ls, eCx p s m av.toArray meth c cc y.cls maxL ret ws → (∀ x ∈ c.exceptionTable.toList, False) → eK N cl tys D ρ base nw s → eV base s → eG lay N cl D ρ κ base s σ s.heap [] → lv_has ls maxL (lv_args 0 av) → W p l e rm s m av.toArray below meth c s.heap [] 0 0 (vx_MQ below (va_Ql post (e_Bw lay N cl D ρ κ) (eA base)) (e_Xc lay N cl D ρ κ base px) av.toArray s 1 6 (eA base)) (F0 m 0 ls [])) : eMxl l y ws rm lay N cl tys D ρ κ base nw av σ post px := by
  refine vx_ofW (cc := cc) (maxL := maxL) (ret := ret) hy hw ?_
  intro p e s m args below meth c s₁ B hml hno hv
  obtain ⟨rfl, hK, hV, hP⟩ := hv
  have hl := lv_entry av (n := maxL) hav
  rw [lg_entry_eq]
  exact body p e s m below meth c _ ⟨B.exec, B.bytes, hml, findClass_of_methodNamed B.named, atoms_spec (ws := ws) B.pre, B.returns, B.notSynchronized⟩ hno hK hV ⟨hP, va_S.rf⟩ hl
theorem ex_callVl (S : CallFix p m c cc nL s args Ts own) (K : eK N cl tys D ρ base nw s) (V : eV base s) (G : eG lay N cl D ρ κ base s σ H locs) {post : Int64 → eS → Prop} {px : eS → Prop} (k : Nat) (hk : k < N) (hl : lay k = (0, ci, fk)) (hc : cl[ci]? = some (C, T, NF)) (hM : eMxl l y ws rm lay N cl tys D ρ κ base nw (.ref (ρ k) :: As) σ post px) (cw : CallW R s args own C index y bytes maxL ret ws rm 1 6 n) (hn : As.length = n) (hsize : ls.size = nL) (hst : st0 = As.reverse ++ .ref (ρ k) :: rest) (hW : (rest.map fun v => v.category).sum ≤ 8) (hdg : decode cc pc = .ok (.invokevirtual index, 3)) (hf : cells + 1 ≤ R.cells ∧ slots + 6 ≤ R.slots)
    (kx : ∀ (σ' : eS) (H1 : Heap) (locs1 : List Loc) (q : Nat) (ce : Cell), px σ' → eG lay N cl D ρ κ base s σ' H1 locs1 → H1[q]? = some ce → ce.vm = .none → s.vm.findClass gNS = some ce.cls → vx_W p l e R s m args below meth c H1 locs1 (cells + 1) (slots + 6) Q (F0 m pc ls rest) q)
    (kk : ∀ (r : Int64) (σ' : eS) (H1 : Heap) (locs1 : List Loc), post r σ' → eG lay N cl D ρ κ base s σ' H1 locs1 → W p l e R s m args below meth c H1 locs1 (cells + 1) (slots + 6) Q (F0 m (pc + 3) ls (.long r :: rest))) : W p l e R s m args below meth c H locs cells slots Q (F0 m pc ls st0) := by
  have he := e_w_get (lay := lay) (ρ := ρ) (κ := κ) (σ := σ) hk
  rw [hl] at he
  exact vx_calll (vx_runV (As := As) (rest := rest) S hM cw ⟨ex_blind, va_recv K.1 G.1 hc he, ex_pre K V G _⟩ rfl hn hsize hst (lv_room hW) hdg hf) G.2 (fun q _ h => h) (fun q h => h) (fun q _ h => h) (fun E ce q9 u t H1 locs1 ht hvm hp hB hz1 hk1 hS h1 h2 h3 => by
    obtain ⟨rfl, hB⟩ := hB
    exact kx u H1 locs1 q9 ce hp ⟨by rw [← ht]; exact hB, hS⟩ h1 h2 h3) (fun r u t H1 locs1 ht hvm hw hB hz1 hk1 hS => kk r u H1 locs1 hw ⟨by rw [← ht]; exact hB, hS⟩)
theorem ex_throw {Qc : Array Value → State → Outcome → State → Prop} {px : eS → Prop} {ik ic : Nat} (hexec : p.tables.exec = Jvm.exec) (hb : c.code = cc) (hfl : l.stackTraces = false) (hown : s.vm.findClass own = some m.cls) (hno : ∀ x ∈ c.exceptionTable.toList, False) (hml : c.maxLocals = nL) (hlocks : meth.locks = false) (hk : (Cond.classLink own ik gNS).before args s = true) (hini : (Cond.initialized gNS).before args s = true) (hat : ∀ w ∈ (vx_at0 own ic gNS ["java/lang/RuntimeException", "java/lang/Exception"]).filter goodWord, w.before args s = true) (hng : ∀ w ∈ (vx_at0 own ic gNS ["java/lang/RuntimeException", "java/lang/Exception"]).filter (fun w => !goodWord w), w ∈ [Cond.castable gNS gNS, .declares (Bundle.init0 "java/lang/RuntimeException"), .declares (Bundle.init0 "java/lang/Exception"), .declares (Bundle.init0 Bundle.tN)]) (hot : ∀ w ∈ Cond.classLink own ik gNS :: Cond.initialized gNS :: vx_at0 own ic gNS ["java/lang/RuntimeException", "java/lang/Exception"], vx_ot w = true) (V : eV base s) (G : eG lay N cl D ρ κ base s σ H locs) (hsize : ls.size = nL) (d0 : decode cc pc = .ok (.new ik, 3)) (d3 : decode cc (pc + 3) = .ok (.dup, 1)) (d4 : decode cc (pc + 4) = .ok (.invokespecial ic, 3)) (d7 : decode cc (pc + 7) = .ok (.athrow, 1)) (hRf : 5 < R.frames) (hRl : (rest.map fun v => v.category).sum + (13 * 3 + 42) ≤ R.locals) (hRc : 1 ≤ R.cells) (hRs : 6 ≤ R.slots) (hq : px σ) : W p l e R s m args below meth c H locs 0 0 (vx_MQ below Qc (e_Xc lay N cl D ρ κ base px) args s 1 6 (eA base)) (F0 m pc ls rest) := by
  refine vx_throw0 hexec hb hfl (names := ["java/lang/RuntimeException", "java/lang/Exception"]) hown (by decide) (by decide) hk hini (vx_hat hat hng (fun w hw => by
    rcases List.mem_cons.mp hw with rfl | hw
    · exact va_Nw.use rfl V.2.2.1
    rcases List.mem_cons.mp hw with rfl | hw
    · exact va_Nw.use rfl V.2.2.2.1
    rcases List.mem_cons.mp hw with rfl | hw
    · exact va_Nw.use rfl V.2.2.2.2.1
    rcases List.mem_cons.mp hw with rfl | hw
    · exact va_Nw.use rfl V.2.2.2.2.2
    · cases hw)) hot V.1 V.2.1 G.2 (hsize.trans hml.symm) d0 d3 d4 d7 (fun x hx => (hno x hx).elim) hRf hRl (by omega) (by omega) hlocks (fun t hvm hz hkk => ?_) G.2.2.2 (Nat.le_refl _) (Nat.le_refl _)
  refine ⟨σ, hq, ⟨rfl, G.1.kept (fun k q hk => hkk _ ((G.1 k q hk).lt))⟩, Nat.le_trans G.2.1 hz, fun q h1 h2 => ?_⟩
  rw [hkk q (Nat.lt_of_lt_of_le h1 G.2.1)]
  exact G.2.2.1 q h1 h2
theorem ex_ofWH {av : List Value} {post : Int32 → eS → Prop} {hh : List (Nat × Nat × Nat × Nat)} (hy : plainName y.cls = true) (hw : ws = Cond.codeWith y cc maxL ret hh :: ws') (hav : (lg_sl av).length ≤ maxL) (body : ∀ p e s m below meth c ls, eCx p s m av.toArray meth c cc y.cls maxL ret ws → c.exceptionTable.toList = tableOf hh → eK N cl tys D ρ base nw s → eV base s → eG lay N cl D ρ κ base s σ s.heap [] → lv_has ls maxL (lv_args 0 av) → W p l e rm s m av.toArray below meth c s.heap [] 0 0 (vx_MQ below (va_Qi post (e_Bw lay N cl D ρ κ) (eA base)) (e_Xc lay N cl D ρ κ base (fun _ => False)) av.toArray s 1 6 (eA base)) (F0 m 0 ls [])) : eMxi l y ws rm lay N cl tys D ρ κ base nw av σ post (fun _ => False) := by
  refine vx_ofWH (cc := cc) (maxL := maxL) (ret := ret) (hh := hh) hy hw ?_
  intro p e s m args below meth c s₁ B hml hv
  obtain ⟨rfl, hK, hV, hP⟩ := hv
  have hl := lv_entry av (n := maxL) hav
  rw [lg_entry_eq]
  have hts := atoms_spec (ws := ws) B.pre
  exact body p e s m below meth c _ ⟨B.exec, B.bytes, hml, findClass_of_methodNamed B.named, hts, B.returns, B.notSynchronized⟩ (vx_table (x := y) B (hts _ (by rw [hw]; exact List.mem_cons_self))) hK hV ⟨hP, va_S.rf⟩ hl
theorem ex_iret {post : Int32 → eS → Prop} {XC : String → State → State → Prop} {v : Int32} (hexec : p.tables.exec = Jvm.exec) (hb : c.code = cc) (hr : meth.sig.returnType = some .int) (hlocks : meth.locks = false) (G : eG lay N cl D ρ κ base s σ H locs) (hq : post v σ) (hdg : decode cc pc = .ok (.ireturn, 1)) : W p l e R s m args below meth c H locs 1 6 (vx_MQ below (va_Qi post (e_Bw lay N cl D ρ κ) (eA base)) XC args s 1 6 (eA base)) (F0 m pc ls [.int v]) :=
  vx_ret (W.iret hexec hb hr (fun t ht hW => ⟨⟨v, σ, rfl, hq, by show va_P D cl _ t.heap; rw [ht]; exact G.1⟩, G.2.F ht⟩) G.2.2.2 hdg hlocks)
theorem e_callSX (S : CallFix p m c cc nL s args Ts own) (K : eK N cl tys D ρ base nw s) (V : eV base s) (G : eG lay N cl D ρ κ base s σ H locs) {post : Int32 → eS → Prop} {hh : List (Nat × Nat × Nat × Nat)} (hM : eMxi l y ws rm lay N cl tys D ρ κ base nw As σ post (fun _ => False)) (cw : vx_CSW R s args own index y bytes maxL ret hh ws rm 1 6 n) (hn : As.length = n) (hsize : ls.size = nL) (hst : st0 = As.reverse ++ rest) (hW : (rest.map fun v => v.category).sum ≤ 8) (hdg : decode cc pc = .ok (.invokestatic index, 3)) (hf : cells + 1 ≤ R.cells ∧ slots + 6 ≤ R.slots)
    (kk : ∀ (r : Int32) (σ' : eS) (H1 : Heap) (locs1 : List Loc), post r σ' → eG lay N cl D ρ κ base s σ' H1 locs1 → W p l e R s m args below meth c H1 locs1 (cells + 1) (slots + 6) Q (F0 m (pc + 3) ls (.int r :: rest))) : W p l e R s m args below meth c H locs cells slots Q (F0 m pc ls st0) := by
  exact vx_calli (vx_runSX (As := As) (rest := rest) S hM cw ⟨ex_blind, ex_pre K V G _⟩ rfl hn hsize hst (lv_room hW) hdg hf) G.2 (fun q _ h => h) (fun q h => h) (fun q _ h => h) (fun E ce q9 u t H1 locs1 ht hvm hp hB hz1 hk1 hS h1 h2 h3 => hp.elim) (fun r u t H1 locs1 ht hvm hw hB hz1 hk1 hS => kk r u H1 locs1 hw ⟨by rw [← ht]; exact hB, hS⟩)
end ENGX
theorem ng_NS : ∀ w ∈ (vx_at0 RX10 110 gNS ["java/lang/RuntimeException", "java/lang/Exception"]).filter (fun w => !goodWord w), w ∈ [Cond.castable gNS gNS, .declares (Bundle.init0 "java/lang/RuntimeException"), .declares (Bundle.init0 "java/lang/Exception"), .declares (Bundle.init0 Bundle.tN)] := by decide +kernel
theorem ot_NS : ∀ w ∈ Cond.classLink RX10 108 gNS :: Cond.initialized gNS :: vx_at0 RX10 110 gNS ["java/lang/RuntimeException", "java/lang/Exception"], vx_ot w = true := by decide +kernel
abbrev rm_X10_street : Room := { frames := 6, cells := 1, slots := 6, locals := 90 }
theorem in_X10_street_X1 : ∀ w ∈ wsX10, w ∈ wsX10_street := fun w h => List.mem_cons_of_mem _ (List.mem_append_left _ (List.mem_append_left _ (List.mem_append_left _ (List.mem_append_right _ h))))
theorem in_X10_street_X10 : ∀ w ∈ wsX100, w ∈ wsX10_street := fun w h => List.mem_cons_of_mem _ (List.mem_append_left _ (List.mem_append_left _ (List.mem_append_left _ (List.mem_append_left _ (List.mem_append_right _ h)))))
def w_X10_street (σ : eS) (x1 : Int32) (x2 : Int32) (post : eS → Prop) : Prop := w_X10_isStreet σ x1 (fun r2 σ1 => ((¬ r2 = 0 → ((x2 = (0 : Int32) → False) ∧ (¬ (x2 = (0 : Int32)) → ((x2 = (1 : Int32) → False) ∧ (¬ (x2 = (1 : Int32)) → ((x2 = (2 : Int32) → (vp_in x1 12) ∧ False) ∧ (¬ (x2 = (2 : Int32)) → ((x2 = (3 : Int32) → False) ∧ (¬ (x2 = (3 : Int32)) → post σ1))))))))) ∧ (r2 = 0 → post σ1)))
set_option maxHeartbeats 4000000 in
set_option maxRecDepth 100000 in
theorem c_X10_street {l : Launch} {D : va_G} {ρ : Nat → Nat} {κ : Nat → ClassId} {base : Nat} {σ : eS} {x1 : Int32} {x2 : Int32} {post : eS → Prop} (hfl : l.stackTraces = false) (h : w_X10_street σ x1 x2 post) : eMxi l yX10_street wsX10_street rm_X10_street gL NN vwCl (gT κ) D ρ κ base gNw [.ref (ρ (0)), .int (x1), .int (x2)] σ (fun _ _ => False) post := by
  refine ex_ofWi (cc := cX10_street) (maxL := 3) (ret := (some .int)) (by decide) rfl (Nat.le_of_ble_eq_true rfl) ?_
  intro p e s m below meth c ls C hno K V G hl
  obtain ⟨hx, hb, hml, hown, hts, hr, hlocks⟩ := id C
  have hl : lv_has ls 3 [(0, .ref (ρ (0))), (1, .int (x1)), (2, .int (x2))] := hl
  unfold w_X10_street at h
  refine lv_aload_n hx hb dX10_street_0 rfl (lv_at hl 0 rfl) ?_
  refine lv_iload_n hx hb dX10_street_1 rfl (lv_at hl 1 rfl) ?_
  refine e_callVi (As := [.int (x1)]) (rest := []) ⟨hx, hb, hml, hown, hts⟩ K G 0 (by decide) gl_0 rfl (c_X10_isStreet h) (cwV 1 hts gX10_street_X10_isStreet rfl rfl rfl (by decide +kernel) ⟨Nat.le_of_ble_eq_true rfl, Nat.le_of_ble_eq_true rfl⟩) rfl hl.1 rfl (Nat.le_of_ble_eq_true rfl) dX10_street_2 ⟨Nat.zero_le _, Nat.zero_le _⟩ (fun r2 σ1 H locs h G => ?_)
  refine lv_if_ne (tgt := 16) hx hb dX10_street_5 (by decide) (fun c3 => ?_) (fun c3 => ?_)
  · have h := h.1 c3
    refine lv_iload_n hx hb dX10_street_16 rfl (lv_at hl 2 rfl) ?_
    by_cases c4 : x2 = (0 : Int32)
    · have h := h.1 c4
      refine lv_tableIn (tgt := 48) hx hb dX10_street_17 (by rw [c4]; decide) (by rw [c4]; decide) (by rw [c4]; rfl) (by decide) ?_
      refine lv_aload_n hx hb dX10_street_48 rfl (lv_at hl 0 rfl) ?_
      refine e_getq hx hb hts in_X10_street_X10 hown K G 0 (by decide) gl_0 rfl 4 (by decide) 18 rfl (hts (.fieldLink RX10 37 "StreetsStepOn" "roads" "LStreetsStepOn$Roads;") (e_mem (n := 3) rfl)) dX10_street_49 ?_
      refine lv_iload_n hx hb dX10_street_52 rfl (lv_at hl 1 rfl) ?_
      exact h.elim
    · have h := h.2 c4
      by_cases c5 : x2 = (1 : Int32)
      · have h := h.1 c5
        refine lv_tableIn (tgt := 57) hx hb dX10_street_17 (by rw [c5]; decide) (by rw [c5]; decide) (by rw [c5]; rfl) (by decide) ?_
        refine lv_aload_n hx hb dX10_street_57 rfl (lv_at hl 0 rfl) ?_
        refine e_getq hx hb hts in_X10_street_X10 hown K G 0 (by decide) gl_0 rfl 4 (by decide) 18 rfl (hts (.fieldLink RX10 37 "StreetsStepOn" "roads" "LStreetsStepOn$Roads;") (e_mem (n := 3) rfl)) dX10_street_58 ?_
        refine lv_iload_n hx hb dX10_street_61 rfl (lv_at hl 1 rfl) ?_
        exact h.elim
      · have h := h.2 c5
        by_cases c6 : x2 = (2 : Int32)
        · have h := h.1 c6
          refine lv_tableIn (tgt := 66) hx hb dX10_street_17 (by rw [c6]; decide) (by rw [c6]; decide) (by rw [c6]; rfl) (by decide) ?_
          refine lv_aload_n hx hb dX10_street_66 rfl (lv_at hl 0 rfl) ?_
          refine e_getq hx hb hts in_X10_street_X10 hown K G 0 (by decide) gl_0 rfl 2 (by decide) 5 rfl (hts (.fieldLink RX10 26 "StreetsStepOn" "book" "LStreetsStepOn$Book;") (e_mem (n := 4) rfl)) dX10_street_67 ?_
          refine e_getqN hx hb hts in_X10_street_X1 hown K G 5 (by decide) gl_5 rfl 1 (by decide) 14 rfl (e_memq (n := 11) rfl) dX10_street_70 ?_
          refine lv_iload_n hx hb dX10_street_73 rfl (lv_at hl 1 rfl) ?_
          have hi7 := h.1
          have h := h.2
          refine e_iald hx hb K G 14 0 0 12 (by decide) gl_14 rfl hi7 dX10_street_74 ?_
          exact h.elim
        · have h := h.2 c6
          by_cases c8 : x2 = (3 : Int32)
          · have h := h.1 c8
            refine lv_tableIn (tgt := 76) hx hb dX10_street_17 (by rw [c8]; decide) (by rw [c8]; decide) (by rw [c8]; rfl) (by decide) ?_
            refine lv_aload_n hx hb dX10_street_76 rfl (lv_at hl 0 rfl) ?_
            refine e_getq hx hb hts in_X10_street_X10 hown K G 0 (by decide) gl_0 rfl 5 (by decide) 32 rfl (hts (.fieldLink RX10 44 "StreetsStepOn" "almanac" "LStreetsStepOn$Almanac;") (e_mem (n := 5) rfl)) dX10_street_77 ?_
            refine lv_iload_n hx hb dX10_street_80 rfl (lv_at hl 1 rfl) ?_
            refine lv_aload_n hx hb dX10_street_81 rfl (lv_at hl 0 rfl) ?_
            refine e_getq hx hb hts in_X10_street_X10 hown K G 0 (by decide) gl_0 rfl 2 (by decide) 5 rfl (hts (.fieldLink RX10 26 "StreetsStepOn" "book" "LStreetsStepOn$Book;") (e_mem (n := 4) rfl)) dX10_street_82 ?_
            refine e_getlN hx hb hts in_X10_street_X1 hown K G 5 (by decide) gl_5 rfl 7 (by decide) rfl (e_memq (n := 24) rfl) dX10_street_85 ?_
            exact h.elim
          · have h := h.2 c8
            refine lv_tableOut (tgt := 92) hx hb dX10_street_17 (by have := e_ne c4; have := e_ne c5; have := e_ne c6; have := e_ne c8; have : ∀ n : Int32, n.toInt = n.toInt := fun _ => rfl; simp only [Int32.reduceToInt] at *; omega) (by decide) ?_
            exact ex_throw hx hb hfl hown hno hml hlocks (hts (.classLink RX10 108 "java/util/NoSuchElementException") (e_mem (n := 1) rfl)) (hts (.initialized "java/util/NoSuchElementException") (e_mem (n := 2) rfl)) (fun w hw => hts w (List.mem_cons_of_mem _ (List.mem_append_right _ hw))) ng_NS ot_NS V G hl.1 dX10_street_92 dX10_street_95 dX10_street_96 dX10_street_99 (Nat.le_of_ble_eq_true rfl) (Nat.le_of_ble_eq_true rfl) (Nat.le_of_ble_eq_true rfl) (Nat.le_of_ble_eq_true rfl) h
  · have h := h.2 c3
    exact ex_throw hx hb hfl hown hno hml hlocks (hts (.classLink RX10 108 "java/util/NoSuchElementException") (e_mem (n := 1) rfl)) (hts (.initialized "java/util/NoSuchElementException") (e_mem (n := 2) rfl)) (fun w hw => hts w (List.mem_cons_of_mem _ (List.mem_append_right _ hw))) ng_NS ot_NS V G hl.1 dX10_street_8 dX10_street_11 dX10_street_12 dX10_street_15 (Nat.le_of_ble_eq_true rfl) (Nat.le_of_ble_eq_true rfl) (Nat.le_of_ble_eq_true rfl) (Nat.le_of_ble_eq_true rfl) h
abbrev rm_X10_late : Room := { frames := 6, cells := 1, slots := 6, locals := 90 }
theorem in_X10_late_X1 : ∀ w ∈ wsX10, w ∈ wsX10_late := fun w h => List.mem_cons_of_mem _ (List.mem_append_left _ (List.mem_append_left _ (List.mem_append_right _ h)))
theorem in_X10_late_X10 : ∀ w ∈ wsX100, w ∈ wsX10_late := fun w h => List.mem_cons_of_mem _ (List.mem_append_left _ (List.mem_append_left _ (List.mem_append_left _ (List.mem_append_right _ h))))
def b_X10_late_20 (post : eS → Prop) (σ : eS) : Prop := post σ
set_option maxHeartbeats 4000000 in
set_option maxRecDepth 100000 in
theorem l_X10_late_20 {p : Program} {l : Launch} {e : Env} {s : State} {m : MethodId} {args : Array Value} {below : List Frame} {meth : Method} {c : Code} {D : va_G} {ρ : Nat → Nat} {κ : Nat → ClassId} {base : Nat} {post : eS → Prop} (C : eCx p s m args meth c cX10_late RX10 4 (some .int) wsX10_late) (K : gK D ρ κ base s) (hfl : l.stackTraces = false) (hno : ∀ x ∈ c.exceptionTable.toList, False) (V : eV base s) : ∀ (σ : eS) (H : Heap) (locs : List Loc) (ls : Array Slot), b_X10_late_20 post σ → gG D ρ κ base s σ H locs → lv_has ls 4 [] → W p l e rm_X10_late s m args below meth c H locs 0 0 (vx_MQ below (va_Qi (fun _ _ => False) (e_Bw gL NN vwCl D ρ κ) (eA base)) (e_Xc gL NN vwCl D ρ κ base post) args s 1 6 (eA base)) (F0 m 20 ls []) := by
  obtain ⟨hx, hb, hml, hown, hts, hr, hlocks⟩ := id C
  intro σ H locs ls h G hl
  unfold b_X10_late_20 at h
  exact ex_throw hx hb hfl hown hno hml hlocks (hts (.classLink RX10 108 "java/util/NoSuchElementException") (e_mem (n := 1) rfl)) (hts (.initialized "java/util/NoSuchElementException") (e_mem (n := 2) rfl)) (fun w hw => hts w (List.mem_cons_of_mem _ (List.mem_append_right _ hw))) ng_NS ot_NS V G hl.1 dX10_late_20 dX10_late_23 dX10_late_24 dX10_late_27 (Nat.le_of_ble_eq_true rfl) (Nat.le_of_ble_eq_true rfl) (Nat.le_of_ble_eq_true rfl) (Nat.le_of_ble_eq_true rfl) h
def w_X10_late (σ : eS) (x1 : Int32) (x2 : Int32) (x3 : Int32) (post : eS → Prop) : Prop := w_X10_isLetter σ x1 (fun r2 σ1 => ((r2 = 0 → b_X10_late_20 post σ1) ∧ (¬ (r2 = 0) → ((x2 < 0 → b_X10_late_20 post σ1) ∧ (¬ (x2 < 0) → w_X10_isStreet σ1 x3 (fun r6 σ5 => ((¬ r6 = 0 → False) ∧ (r6 = 0 → b_X10_late_20 post σ5))))))))
set_option maxHeartbeats 4000000 in
set_option maxRecDepth 100000 in
theorem c_X10_late {l : Launch} {D : va_G} {ρ : Nat → Nat} {κ : Nat → ClassId} {base : Nat} {σ : eS} {x1 : Int32} {x2 : Int32} {x3 : Int32} {post : eS → Prop} (hfl : l.stackTraces = false) (h : w_X10_late σ x1 x2 x3 post) : eMxi l yX10_late wsX10_late rm_X10_late gL NN vwCl (gT κ) D ρ κ base gNw [.ref (ρ (0)), .int (x1), .int (x2), .int (x3)] σ (fun _ _ => False) post := by
  refine ex_ofWi (cc := cX10_late) (maxL := 4) (ret := (some .int)) (by decide) rfl (Nat.le_of_ble_eq_true rfl) ?_
  intro p e s m below meth c ls C hno K V G hl
  obtain ⟨hx, hb, hml, hown, hts, hr, hlocks⟩ := id C
  have hl : lv_has ls 4 [(0, .ref (ρ (0))), (1, .int (x1)), (2, .int (x2)), (3, .int (x3))] := hl
  unfold w_X10_late at h
  refine lv_aload_n hx hb dX10_late_0 rfl (lv_at hl 0 rfl) ?_
  refine lv_iload_n hx hb dX10_late_1 rfl (lv_at hl 1 rfl) ?_
  refine e_callVi (As := [.int (x1)]) (rest := []) ⟨hx, hb, hml, hown, hts⟩ K G 0 (by decide) gl_0 rfl (c_X10_isLetter h) (cwV 1 hts gX10_late_X10_isLetter rfl rfl rfl (by decide +kernel) ⟨Nat.le_of_ble_eq_true rfl, Nat.le_of_ble_eq_true rfl⟩) rfl hl.1 rfl (Nat.le_of_ble_eq_true rfl) dX10_late_2 ⟨Nat.zero_le _, Nat.zero_le _⟩ (fun r2 σ1 H locs h G => ?_)
  refine lv_if_eq (tgt := 20) hx hb dX10_late_5 (by decide) (fun c3 => ?_) (fun c3 => ?_)
  · have h := h.1 c3
    exact l_X10_late_20 C K hfl hno V σ1 _ _ _  h G (lv_sub hl [] rfl)
  · have h := h.2 c3
    refine lv_iload_n hx hb dX10_late_8 rfl (lv_at hl 2 rfl) ?_
    refine lv_if_lt (tgt := 20) hx hb dX10_late_9 (by decide) (fun c4 => ?_) (fun c4 => ?_)
    · have h := h.1 c4
      exact l_X10_late_20 C K hfl hno V σ1 _ _ _  h G (lv_sub hl [] rfl)
    · have h := h.2 c4
      refine lv_aload_n hx hb dX10_late_12 rfl (lv_at hl 0 rfl) ?_
      refine lv_iload_n hx hb dX10_late_13 rfl (lv_at hl 3 rfl) ?_
      refine e_callVi (As := [.int (x3)]) (rest := []) ⟨hx, hb, hml, hown, hts⟩ K G 0 (by decide) gl_0 rfl (c_X10_isStreet h) (cwV 1 hts gX10_late_X10_isStreet rfl rfl rfl (by decide +kernel) ⟨Nat.le_of_ble_eq_true rfl, Nat.le_of_ble_eq_true rfl⟩) rfl hl.1 rfl (Nat.le_of_ble_eq_true rfl) dX10_late_14 ⟨Nat.zero_le _, Nat.zero_le _⟩ (fun r6 σ5 H locs h G => ?_)
      refine lv_if_ne (tgt := 28) hx hb dX10_late_17 (by decide) (fun c7 => ?_) (fun c7 => ?_)
      · have h := h.1 c7
        refine lv_aload_n hx hb dX10_late_28 rfl (lv_at hl 0 rfl) ?_
        refine lv_iload_n hx hb dX10_late_29 rfl (lv_at hl 1 rfl) ?_
        refine lv_iload_n hx hb dX10_late_30 rfl (lv_at hl 2 rfl) ?_
        refine lv_iload_n hx hb dX10_late_31 rfl (lv_at hl 3 rfl) ?_
        refine lv_aload_n hx hb dX10_late_32 rfl (lv_at hl 0 rfl) ?_
        refine e_getq hx hb hts in_X10_late_X10 hown K G 0 (by decide) gl_0 rfl 2 (by decide) 5 rfl (hts (.fieldLink RX10 26 "StreetsStepOn" "book" "LStreetsStepOn$Book;") (e_mem (n := 3) rfl)) dX10_late_33 ?_
        refine e_getlN hx hb hts in_X10_late_X1 hown K G 5 (by decide) gl_5 rfl 7 (by decide) rfl (e_memq (n := 24) rfl) dX10_late_36 ?_
        exact h.elim
      · have h := h.2 c7
        exact l_X10_late_20 C K hfl hno V σ5 _ _ _  h G (lv_sub hl [] rfl)
abbrev rm_X10_row : Room := { frames := 6, cells := 1, slots := 6, locals := 90 }
theorem in_X10_row_X10 : ∀ w ∈ wsX100, w ∈ wsX10_row := fun w h => List.mem_cons_of_mem _ (List.mem_append_left _ (List.mem_append_left _ (List.mem_append_right _ h)))
theorem in_X10_row_X5 : ∀ w ∈ wsX50, w ∈ wsX10_row := fun w h => List.mem_cons_of_mem _ (List.mem_append_left _ (List.mem_append_right _ h))
def b_X10_row_15 (post : eS → Prop) (σ : eS) : Prop := post σ
set_option maxHeartbeats 4000000 in
set_option maxRecDepth 100000 in
theorem l_X10_row_15 {p : Program} {l : Launch} {e : Env} {s : State} {m : MethodId} {args : Array Value} {below : List Frame} {meth : Method} {c : Code} {D : va_G} {ρ : Nat → Nat} {κ : Nat → ClassId} {base : Nat} {post : eS → Prop} (C : eCx p s m args meth c cX10_row RX10 2 (some .long) wsX10_row) (K : gK D ρ κ base s) (hfl : l.stackTraces = false) (hno : ∀ x ∈ c.exceptionTable.toList, False) (V : eV base s) : ∀ (σ : eS) (H : Heap) (locs : List Loc) (ls : Array Slot), b_X10_row_15 post σ → gG D ρ κ base s σ H locs → lv_has ls 2 [] → W p l e rm_X10_row s m args below meth c H locs 0 0 (vx_MQ below (va_Ql (fun _ _ => False) (e_Bw gL NN vwCl D ρ κ) (eA base)) (e_Xc gL NN vwCl D ρ κ base post) args s 1 6 (eA base)) (F0 m 15 ls []) := by
  obtain ⟨hx, hb, hml, hown, hts, hr, hlocks⟩ := id C
  intro σ H locs ls h G hl
  unfold b_X10_row_15 at h
  exact ex_throw hx hb hfl hown hno hml hlocks (hts (.classLink RX10 108 "java/util/NoSuchElementException") (e_mem (n := 1) rfl)) (hts (.initialized "java/util/NoSuchElementException") (e_mem (n := 2) rfl)) (fun w hw => hts w (List.mem_cons_of_mem _ (List.mem_append_right _ hw))) ng_NS ot_NS V G hl.1 dX10_row_15 dX10_row_18 dX10_row_19 dX10_row_22 (Nat.le_of_ble_eq_true rfl) (Nat.le_of_ble_eq_true rfl) (Nat.le_of_ble_eq_true rfl) (Nat.le_of_ble_eq_true rfl) h
def w_X10_row (σ : eS) (x1 : Int32) (post : eS → Prop) : Prop := ((x1 < 0 → b_X10_row_15 post σ) ∧ (¬ (x1 < 0) → ((x1 < (σ.1 3 1) → (vp_in x1 12) ∧ False) ∧ (¬ (x1 < (σ.1 3 1)) → b_X10_row_15 post σ))))
set_option maxHeartbeats 4000000 in
set_option maxRecDepth 100000 in
theorem c_X10_row {l : Launch} {D : va_G} {ρ : Nat → Nat} {κ : Nat → ClassId} {base : Nat} {σ : eS} {x1 : Int32} {post : eS → Prop} (hfl : l.stackTraces = false) (h : w_X10_row σ x1 post) : eMxl l yX10_row wsX10_row rm_X10_row gL NN vwCl (gT κ) D ρ κ base gNw [.ref (ρ (0)), .int (x1)] σ (fun _ _ => False) post := by
  refine ex_ofWl (cc := cX10_row) (maxL := 2) (ret := (some .long)) (by decide) rfl (Nat.le_of_ble_eq_true rfl) ?_
  intro p e s m below meth c ls C hno K V G hl
  obtain ⟨hx, hb, hml, hown, hts, hr, hlocks⟩ := id C
  have hl : lv_has ls 2 [(0, .ref (ρ (0))), (1, .int (x1))] := hl
  unfold w_X10_row at h
  refine lv_iload_n hx hb dX10_row_0 rfl (lv_at hl 1 rfl) ?_
  refine lv_if_lt (tgt := 15) hx hb dX10_row_1 (by decide) (fun c1 => ?_) (fun c1 => ?_)
  · have h := h.1 c1
    exact l_X10_row_15 C K hfl hno V σ _ _ _  h G (lv_sub hl [] rfl)
  · have h := h.2 c1
    refine lv_iload_n hx hb dX10_row_4 rfl (lv_at hl 1 rfl) ?_
    refine lv_aload_n hx hb dX10_row_5 rfl (lv_at hl 0 rfl) ?_
    refine e_getq hx hb hts in_X10_row_X10 hown K G 0 (by decide) gl_0 rfl 1 (by decide) 3 rfl (hts (.fieldLink RX10 19 "StreetsStepOn" "told" "LStreetsStepOn$Row;") (e_mem (n := 3) rfl)) dX10_row_6 ?_
    refine e_getiN hx hb hts in_X10_row_X5 hown K G 3 (by decide) gl_3 rfl 1 (by decide) rfl (e_memq (n := 4) rfl) dX10_row_9 ?_
    refine lv_icmp_lt (tgt := 23) hx hb dX10_row_12 (by decide) (fun c2 => ?_) (fun c2 => ?_)
    · have h := h.1 c2
      refine lv_aload_n hx hb dX10_row_23 rfl (lv_at hl 0 rfl) ?_
      refine e_getq hx hb hts in_X10_row_X10 hown K G 0 (by decide) gl_0 rfl 1 (by decide) 3 rfl (hts (.fieldLink RX10 19 "StreetsStepOn" "told" "LStreetsStepOn$Row;") (e_mem (n := 3) rfl)) dX10_row_24 ?_
      refine e_getqN hx hb hts in_X10_row_X5 hown K G 3 (by decide) gl_3 rfl 0 (by decide) 4 rfl (e_memq (n := 3) rfl) dX10_row_27 ?_
      refine lv_iload_n hx hb dX10_row_30 rfl (lv_at hl 1 rfl) ?_
      have hi3 := h.1
      have h := h.2
      refine e_lald hx hb K G 4 1 1 12 (by decide) gl_4 rfl hi3 dX10_row_31 ?_
      exact h.elim
    · have h := h.2 c2
      exact l_X10_row_15 C K hfl hno V σ _ _ _  h G (lv_sub hl [] rfl)
abbrev rm_L_street : Room := { frames := 7, cells := 1, slots := 6, locals := 112 }
def w_L_street (σ : eS) (x1 : Int32) (x2 : Int32) (post : Int32 → eS → Prop) : Prop := w_X10_street σ x1 x2 (fun σ1 => post (1 : Int32) σ1)
set_option maxHeartbeats 4000000 in
set_option maxRecDepth 100000 in
theorem c_L_street {l : Launch} {D : va_G} {ρ : Nat → Nat} {κ : Nat → ClassId} {base : Nat} {σ : eS} {x1 : Int32} {x2 : Int32} {post : Int32 → eS → Prop} (hfl : l.stackTraces = false) (h : w_L_street σ x1 x2 post) : eMxi l yL_street wsL_street rm_L_street gL NN vwCl (gT κ) D ρ κ base gNw [.ref (ρ (0)), .int (x1), .int (x2), .ref (ρ (125))] σ post (fun _ => False) := by
  refine ex_ofWH (cc := cL_street) (maxL := 5) (ret := some .int) (hh := [(0, 10, 13, 13)]) (by decide) rfl (Nat.le_of_ble_eq_true rfl) ?_
  intro p e s m below meth c ls C htab K V G hl
  obtain ⟨hx, hb, hml, hown, hts, hr, hlocks⟩ := id C
  have hl : lv_has ls 5 [(0, .ref (ρ (0))), (1, .int (x1)), (2, .int (x2)), (3, .ref (ρ (125)))] := hl
  unfold w_L_street at h
  refine lv_aload_n hx hb dL_street_0 rfl (lv_at hl 3 rfl) ?_
  refine lv_iconst (v := (0 : Int32)) hx hb dL_street_1 (by decide) ?_
  refine lv_aload_n hx hb dL_street_2 rfl (lv_at hl 0 rfl) ?_
  refine lv_iload_n hx hb dL_street_3 rfl (lv_at hl 1 rfl) ?_
  refine lv_iload_n hx hb dL_street_4 rfl (lv_at hl 2 rfl) ?_
  refine ex_callVi (As := [.int (x1), .int (x2)]) (rest := [.int ((0 : Int32)), .ref (ρ (125))]) ⟨hx, hb, hml, hown, hts⟩ K V G 0 (by decide) gl_0 rfl (c_X10_street hfl h) (cwV 2 hts gL_street_X10_street rfl rfl rfl (by decide +kernel) ⟨Nat.le_of_ble_eq_true rfl, Nat.le_of_ble_eq_true rfl⟩) rfl hl.1 rfl (Nat.le_of_ble_eq_true rfl) dL_street_5 ⟨Nat.le_of_ble_eq_true rfl, Nat.le_of_ble_eq_true rfl⟩ (fun σ1 H locs q ce h G e1 e2 e3 => ?_) (fun _ _ _ _ h _ => h.elim)
  refine vx_catch (name := gNS) hown [] ⟨0, 10, 13, 13⟩ [] htab (fun _ h => nomatch h) (by decide) (by decide) (hts (.classLink RL 13 gNS) (e_mem (n := 1) rfl)) (va_Nw.use rfl V.2.2.1) e1 e2 e3 ?_
  refine lv_astore (lv' := [(4, .ref q), (0, .ref (ρ (0))), (1, .int (x1)), (2, .int (x2)), (3, .ref (ρ (125)))]) hx hb dL_street_13 hl (by decide) rfl (fun ls hl => ?_)
  refine lv_iconst (v := (1 : Int32)) hx hb dL_street_15 (by decide) ?_
  exact ex_iret hx hb hr hlocks G h dL_street_16
abbrev rm_L_late : Room := { frames := 7, cells := 1, slots := 6, locals := 113 }
def w_L_late (σ : eS) (x1 : Int32) (x2 : Int32) (x3 : Int32) (post : Int32 → eS → Prop) : Prop := w_X10_late σ x1 x2 x3 (fun σ1 => post (1 : Int32) σ1)
set_option maxHeartbeats 4000000 in
set_option maxRecDepth 100000 in
theorem c_L_late {l : Launch} {D : va_G} {ρ : Nat → Nat} {κ : Nat → ClassId} {base : Nat} {σ : eS} {x1 : Int32} {x2 : Int32} {x3 : Int32} {post : Int32 → eS → Prop} (hfl : l.stackTraces = false) (h : w_L_late σ x1 x2 x3 post) : eMxi l yL_late wsL_late rm_L_late gL NN vwCl (gT κ) D ρ κ base gNw [.ref (ρ (0)), .int (x1), .int (x2), .int (x3), .ref (ρ (125))] σ post (fun _ => False) := by
  refine ex_ofWH (cc := cL_late) (maxL := 6) (ret := some .int) (hh := [(0, 12, 15, 13)]) (by decide) rfl (Nat.le_of_ble_eq_true rfl) ?_
  intro p e s m below meth c ls C htab K V G hl
  obtain ⟨hx, hb, hml, hown, hts, hr, hlocks⟩ := id C
  have hl : lv_has ls 6 [(0, .ref (ρ (0))), (1, .int (x1)), (2, .int (x2)), (3, .int (x3)), (4, .ref (ρ (125)))] := hl
  unfold w_L_late at h
  refine lv_aload hx hb dL_late_0 (lv_at hl 4 rfl) ?_
  refine lv_iconst (v := (0 : Int32)) hx hb dL_late_2 (by decide) ?_
  refine lv_aload_n hx hb dL_late_3 rfl (lv_at hl 0 rfl) ?_
  refine lv_iload_n hx hb dL_late_4 rfl (lv_at hl 1 rfl) ?_
  refine lv_iload_n hx hb dL_late_5 rfl (lv_at hl 2 rfl) ?_
  refine lv_iload_n hx hb dL_late_6 rfl (lv_at hl 3 rfl) ?_
  refine ex_callVi (As := [.int (x1), .int (x2), .int (x3)]) (rest := [.int ((0 : Int32)), .ref (ρ (125))]) ⟨hx, hb, hml, hown, hts⟩ K V G 0 (by decide) gl_0 rfl (c_X10_late hfl h) (cwV 3 hts gL_late_X10_late rfl rfl rfl (by decide +kernel) ⟨Nat.le_of_ble_eq_true rfl, Nat.le_of_ble_eq_true rfl⟩) rfl hl.1 rfl (Nat.le_of_ble_eq_true rfl) dL_late_7 ⟨Nat.le_of_ble_eq_true rfl, Nat.le_of_ble_eq_true rfl⟩ (fun σ1 H locs q ce h G e1 e2 e3 => ?_) (fun _ _ _ _ h _ => h.elim)
  refine vx_catch (name := gNS) hown [] ⟨0, 12, 15, 13⟩ [] htab (fun _ h => nomatch h) (by decide) (by decide) (hts (.classLink RL 13 gNS) (e_mem (n := 1) rfl)) (va_Nw.use rfl V.2.2.1) e1 e2 e3 ?_
  refine lv_astore (lv' := [(5, .ref q), (0, .ref (ρ (0))), (1, .int (x1)), (2, .int (x2)), (3, .int (x3)), (4, .ref (ρ (125)))]) hx hb dL_late_15 hl (by decide) rfl (fun ls hl => ?_)
  refine lv_iconst (v := (1 : Int32)) hx hb dL_late_17 (by decide) ?_
  exact ex_iret hx hb hr hlocks G h dL_late_18
abbrev rm_L_row : Room := { frames := 7, cells := 1, slots := 6, locals := 111 }
def w_L_row (σ : eS) (x1 : Int32) (post : Int32 → eS → Prop) : Prop := w_X10_row σ x1 (fun σ1 => post (1 : Int32) σ1)
set_option maxHeartbeats 4000000 in
set_option maxRecDepth 100000 in
theorem c_L_row {l : Launch} {D : va_G} {ρ : Nat → Nat} {κ : Nat → ClassId} {base : Nat} {σ : eS} {x1 : Int32} {post : Int32 → eS → Prop} (hfl : l.stackTraces = false) (h : w_L_row σ x1 post) : eMxi l yL_row wsL_row rm_L_row gL NN vwCl (gT κ) D ρ κ base gNw [.ref (ρ (0)), .int (x1), .ref (ρ (125))] σ post (fun _ => False) := by
  refine ex_ofWH (cc := cL_row) (maxL := 4) (ret := some .int) (hh := [(0, 8, 11, 13)]) (by decide) rfl (Nat.le_of_ble_eq_true rfl) ?_
  intro p e s m below meth c ls C htab K V G hl
  obtain ⟨hx, hb, hml, hown, hts, hr, hlocks⟩ := id C
  have hl : lv_has ls 4 [(0, .ref (ρ (0))), (1, .int (x1)), (2, .ref (ρ (125)))] := hl
  unfold w_L_row at h
  refine lv_aload_n hx hb dL_row_0 rfl (lv_at hl 2 rfl) ?_
  refine lv_iconst (v := (0 : Int32)) hx hb dL_row_1 (by decide) ?_
  refine lv_aload_n hx hb dL_row_2 rfl (lv_at hl 0 rfl) ?_
  refine lv_iload_n hx hb dL_row_3 rfl (lv_at hl 1 rfl) ?_
  refine ex_callVl (As := [.int (x1)]) (rest := [.int ((0 : Int32)), .ref (ρ (125))]) ⟨hx, hb, hml, hown, hts⟩ K V G 0 (by decide) gl_0 rfl (c_X10_row hfl h) (cwV 1 hts gL_row_X10_row rfl rfl rfl (by decide +kernel) ⟨Nat.le_of_ble_eq_true rfl, Nat.le_of_ble_eq_true rfl⟩) rfl hl.1 rfl (Nat.le_of_ble_eq_true rfl) dL_row_4 ⟨Nat.le_of_ble_eq_true rfl, Nat.le_of_ble_eq_true rfl⟩ (fun σ1 H locs q ce h G e1 e2 e3 => ?_) (fun _ _ _ _ h _ => h.elim)
  refine vx_catch (name := gNS) hown [] ⟨0, 8, 11, 13⟩ [] htab (fun _ h => nomatch h) (by decide) (by decide) (hts (.classLink RL 13 gNS) (e_mem (n := 1) rfl)) (va_Nw.use rfl V.2.2.1) e1 e2 e3 ?_
  refine lv_astore_n (lv' := [(3, .ref q), (0, .ref (ρ (0))), (1, .int (x1)), (2, .ref (ρ (125)))]) hx hb dL_row_11 rfl hl (by decide) rfl (fun ls hl => ?_)
  refine lv_iconst (v := (1 : Int32)) hx hb dL_row_12 (by decide) ?_
  exact ex_iret hx hb hr hlocks G h dL_row_13
