def b_L_law_2415 (L : Nat) (xs : Nat → Int32) (post : Int32 → eS → Prop) (K23 : eS → Int32 → Prop) (σ : eS) (x4 : Int32) : Prop := ∀ v12 : Int32, v12 = (x4 + (6 : Int32)) → K23 σ v12
set_option maxHeartbeats 4000000 in
set_option maxRecDepth 100000 in
theorem l_L_law_2415 {p : Program} {l : Launch} {e : Env} {s : State} {m : MethodId} {below : List Frame} {meth : Method} {c : Code} {D : va_G} {ρ : Nat → Nat} {κ : Nat → ClassId} {base : Nat} {post : Int32 → eS → Prop} {b L : Nat} {xs : Nat → Int32} {fu : Nat} (C : eCx p s m #[Value.ref b] meth c code RL 8 (some .boolean) lw_tbl) (K : gK D ρ κ base s) (hX : va_X b L xs s s.heap) (hbl : b < s.heap.size) (hbA : ¬ base ≤ b) (hb0 : s.heap.size ≤ base) (hfl : l.stackTraces = false) (V : eV base s) (hp : ∀ v σ, post v σ → v = 1) {K23 : eS → Int32 → Prop} (hK23 : ∀ (σ : eS) (x4 : Int32) (H : Heap) (locs : List Loc) (ls : Array Slot) (cells slots : Nat), eBd fu cells slots → K23 σ x4 → gG D ρ κ base s σ H locs → lv_has ls 8 [(0, .ref b), (1, .ref (ρ (0))), (2, .ref (ρ (97))), (3, .ref (ρ (125))), (4, .int (x4))] → W p l e room_1 s m #[Value.ref b] below meth c H locs cells slots (lw_Z below #[Value.ref b] s) (F0 m 23 ls [])) : ∀ (σ : eS) (x4 : Int32) (H : Heap) (locs : List Loc) (ls : Array Slot) (cells slots : Nat), eBd fu cells slots → b_L_law_2415 L xs post K23 σ x4 → gG D ρ κ base s σ H locs → lv_has ls 8 [(0, .ref b), (1, .ref (ρ (0))), (2, .ref (ρ (97))), (3, .ref (ρ (125))), (4, .int (x4))] → W p l e room_1 s m #[Value.ref b] below meth c H locs cells slots (lw_Z below #[Value.ref b] s) (F0 m 2415 ls []) := by
  obtain ⟨hx, hb, hml, hown, hts, hr, hlocks⟩ := id C
  intro σ x4 H locs ls cells slots hcs h G hl
  unfold b_L_law_2415 at h
  obtain ⟨v12, ev12⟩ : ∃ y : Int32, y = x4 + (6 : Int32) := ⟨_, rfl⟩
  have h := h v12 ev12
  refine lv_iinc (v := v12) (lv' := [(4, .int (v12)), (0, .ref b), (1, .ref (ρ (0))), (2, .ref (ρ (97))), (3, .ref (ρ (125)))]) hx hb dL_law_2415 hl (k := 4) rfl (by rw [ev12]; rfl) (by decide) rfl (fun ls hl => ?_)
  refine lv_goto (tgt := 23) hx hb dL_law_2418 (by decide) ?_
  exact hK23 σ v12 _ _ _ _ _ hcs  h G (lv_sub hl [1, 2, 3, 4, 0] rfl)
def b_L_law_23 (L : Nat) (xs : Nat → Int32) (post : Int32 → eS → Prop) : Nat → eS → Int32 → Prop
  | 0, _, _ => False
  | n + 1, σ, x4 => ((((Int32.ofNat L) - (6 : Int32)) < x4 → post (1 : Int32) σ) ∧ (¬ (((Int32.ofNat L) - (6 : Int32)) < x4) → (vp_in x4 L) ∧ ∀ v3 : Int32, v3 = ((xs x4.toNatClampNeg) &&& (63 : Int32)) → ((v3 = (0 : Int32) → (vp_in (x4 + (1 : Int32)) L) ∧ w_X10_sign σ (xs (x4 + (1 : Int32)).toNatClampNeg) (fun r7 σ6 => (vp_in (x4 + (1 : Int32)) L) ∧ w_X11_sign σ6 (xs (x4 + (1 : Int32)).toNatClampNeg) (fun r10 σ9 => ((r7 = r10 → b_L_law_2415 L xs post (fun s x4 => b_L_law_23 L xs post n s x4) σ9 x4) ∧ (¬ (r7 = r10) → post (0 : Int32) σ9))))) ∧ (¬ (v3 = (0 : Int32)) → ((v3 = (1 : Int32) → (vp_in (x4 + (1 : Int32)) L) ∧ w_X10_end σ (xs (x4 + (1 : Int32)).toNatClampNeg) (fun r16 σ15 => (vp_in (x4 + (1 : Int32)) L) ∧ w_X11_end σ15 (xs (x4 + (1 : Int32)).toNatClampNeg) (fun r19 σ18 => ((r16 = r19 → b_L_law_2415 L xs post (fun s x4 => b_L_law_23 L xs post n s x4) σ18 x4) ∧ (¬ (r16 = r19) → post (0 : Int32) σ18))))) ∧ (¬ (v3 = (1 : Int32)) → ((v3 = (2 : Int32) → w_X10_town σ (fun r23 σ22 => w_X11_town σ22 (fun r25 σ24 => ((r23 = r25 → b_L_law_2415 L xs post (fun s x4 => b_L_law_23 L xs post n s x4) σ24 x4) ∧ (¬ (r23 = r25) → post (0 : Int32) σ24))))) ∧ (¬ (v3 = (2 : Int32)) → ((v3 = (3 : Int32) → (vp_in (x4 + (1 : Int32)) L) ∧ (vp_in (x4 + (2 : Int32)) L) ∧ w_L_street σ (xs (x4 + (1 : Int32)).toNatClampNeg) (xs (x4 + (2 : Int32)).toNatClampNeg) (fun r31 σ30 => (vp_in (x4 + (1 : Int32)) L) ∧ (vp_in (x4 + (2 : Int32)) L) ∧ w_X11_street σ30 (xs (x4 + (1 : Int32)).toNatClampNeg) (xs (x4 + (2 : Int32)).toNatClampNeg) (fun r35 σ34 => w_X11_thrown σ34 (fun r37 σ36 => ((r37 = r31 → ((¬ r31 = 0 → b_L_law_2415 L xs post (fun s x4 => b_L_law_23 L xs post n s x4) σ36 x4) ∧ (r31 = 0 → (vp_in (0 : Int32) 1) ∧ (((lg_cmp (σ36.2.1 125 ((0 : Int32)).toNatClampNeg) (r35.toInt64)) = 0 → b_L_law_2415 L xs post (fun s x4 => b_L_law_23 L xs post n s x4) σ36 x4) ∧ (¬ ((lg_cmp (σ36.2.1 125 ((0 : Int32)).toNatClampNeg) (r35.toInt64)) = 0) → post (0 : Int32) σ36))))) ∧ (¬ (r37 = r31) → post (0 : Int32) σ36)))))) ∧ (¬ (v3 = (3 : Int32)) → ((v3 = (4 : Int32) → (vp_in (x4 + (1 : Int32)) L) ∧ (vp_in (x4 + (2 : Int32)) L) ∧ w_X10_next σ (xs (x4 + (1 : Int32)).toNatClampNeg) (xs (x4 + (2 : Int32)).toNatClampNeg) (fun r46 σ45 => (vp_in (x4 + (1 : Int32)) L) ∧ (vp_in (x4 + (2 : Int32)) L) ∧ w_X11_next σ45 (xs (x4 + (1 : Int32)).toNatClampNeg) (xs (x4 + (2 : Int32)).toNatClampNeg) (fun r50 σ49 => ((r46 = r50 → b_L_law_2415 L xs post (fun s x4 => b_L_law_23 L xs post n s x4) σ49 x4) ∧ (¬ (r46 = r50) → post (0 : Int32) σ49))))) ∧ (¬ (v3 = (4 : Int32)) → ((v3 = (5 : Int32) → (vp_in (x4 + (1 : Int32)) L) ∧ (vp_in (x4 + (2 : Int32)) L) ∧ (vp_in (x4 + (3 : Int32)) L) ∧ (vp_in (x4 + (4 : Int32)) L) ∧ w_X10_sheet σ (xs (x4 + (1 : Int32)).toNatClampNeg) (xs (x4 + (2 : Int32)).toNatClampNeg) (xs (x4 + (3 : Int32)).toNatClampNeg) (xs (x4 + (4 : Int32)).toNatClampNeg) (fun r58 σ57 => (vp_in (x4 + (1 : Int32)) L) ∧ (vp_in (x4 + (2 : Int32)) L) ∧ (vp_in (x4 + (3 : Int32)) L) ∧ (vp_in (x4 + (4 : Int32)) L) ∧ w_X11_sheet σ57 (xs (x4 + (1 : Int32)).toNatClampNeg) (xs (x4 + (2 : Int32)).toNatClampNeg) (xs (x4 + (3 : Int32)).toNatClampNeg) (xs (x4 + (4 : Int32)).toNatClampNeg) (fun r64 σ63 => ((r58 = r64 → b_L_law_2415 L xs post (fun s x4 => b_L_law_23 L xs post n s x4) σ63 x4) ∧ (¬ (r58 = r64) → post (0 : Int32) σ63))))) ∧ (¬ (v3 = (5 : Int32)) → ((v3 = (6 : Int32) → (vp_in (x4 + (1 : Int32)) L) ∧ (vp_in (x4 + (2 : Int32)) L) ∧ w_X10_far σ (xs (x4 + (1 : Int32)).toNatClampNeg) (xs (x4 + (2 : Int32)).toNatClampNeg) (fun r70 σ69 => (vp_in (x4 + (1 : Int32)) L) ∧ (vp_in (x4 + (2 : Int32)) L) ∧ w_X11_far σ69 (xs (x4 + (1 : Int32)).toNatClampNeg) (xs (x4 + (2 : Int32)).toNatClampNeg) (fun r74 σ73 => ((r70 = r74 → b_L_law_2415 L xs post (fun s x4 => b_L_law_23 L xs post n s x4) σ73 x4) ∧ (¬ (r70 = r74) → post (0 : Int32) σ73))))) ∧ (¬ (v3 = (6 : Int32)) → ((v3 = (7 : Int32) → (vp_in (x4 + (1 : Int32)) L) ∧ (vp_in (x4 + (2 : Int32)) L) ∧ w_X10_pass σ ((((xs (x4 + (1 : Int32)).toNatClampNeg).toInt64) <<< (((32 : Int32)).toInt64 &&& 63)) ||| (((xs (x4 + (2 : Int32)).toNatClampNeg).toInt64) &&& (4294967295 : Int64))) (fun r80 σ79 => (vp_in (x4 + (1 : Int32)) L) ∧ (vp_in (x4 + (2 : Int32)) L) ∧ w_X11_pass σ79 ((((xs (x4 + (1 : Int32)).toNatClampNeg).toInt64) <<< (((32 : Int32)).toInt64 &&& 63)) ||| (((xs (x4 + (2 : Int32)).toNatClampNeg).toInt64) &&& (4294967295 : Int64))) (fun r84 σ83 => ((r80 = r84 → b_L_law_2415 L xs post (fun s x4 => b_L_law_23 L xs post n s x4) σ83 x4) ∧ (¬ (r80 = r84) → post (0 : Int32) σ83))))) ∧ (¬ (v3 = (7 : Int32)) → ((v3 = (8 : Int32) → (vp_in (x4 + (1 : Int32)) L) ∧ (vp_in (x4 + (2 : Int32)) L) ∧ (vp_in (x4 + (3 : Int32)) L) ∧ w_X10_name σ (xs (x4 + (1 : Int32)).toNatClampNeg) ((((xs (x4 + (2 : Int32)).toNatClampNeg).toInt64) <<< (((32 : Int32)).toInt64 &&& 63)) ||| (((xs (x4 + (3 : Int32)).toNatClampNeg).toInt64) &&& (4294967295 : Int64))) (fun r91 σ90 => (vp_in (x4 + (1 : Int32)) L) ∧ (vp_in (x4 + (2 : Int32)) L) ∧ (vp_in (x4 + (3 : Int32)) L) ∧ w_X11_name σ90 (xs (x4 + (1 : Int32)).toNatClampNeg) ((((xs (x4 + (2 : Int32)).toNatClampNeg).toInt64) <<< (((32 : Int32)).toInt64 &&& 63)) ||| (((xs (x4 + (3 : Int32)).toNatClampNeg).toInt64) &&& (4294967295 : Int64))) (fun r96 σ95 => ((r91 = r96 → b_L_law_2415 L xs post (fun s x4 => b_L_law_23 L xs post n s x4) σ95 x4) ∧ (¬ (r91 = r96) → post (0 : Int32) σ95))))) ∧ (¬ (v3 = (8 : Int32)) → ((v3 = (9 : Int32) → (vp_in (x4 + (1 : Int32)) L) ∧ (vp_in (x4 + (2 : Int32)) L) ∧ (vp_in (x4 + (3 : Int32)) L) ∧ w_X10_where σ (xs (x4 + (1 : Int32)).toNatClampNeg) ((((xs (x4 + (2 : Int32)).toNatClampNeg).toInt64) <<< (((32 : Int32)).toInt64 &&& 63)) ||| (((xs (x4 + (3 : Int32)).toNatClampNeg).toInt64) &&& (4294967295 : Int64))) (fun r103 σ102 => (vp_in (x4 + (1 : Int32)) L) ∧ (vp_in (x4 + (2 : Int32)) L) ∧ (vp_in (x4 + (3 : Int32)) L) ∧ w_X11_where σ102 (xs (x4 + (1 : Int32)).toNatClampNeg) ((((xs (x4 + (2 : Int32)).toNatClampNeg).toInt64) <<< (((32 : Int32)).toInt64 &&& 63)) ||| (((xs (x4 + (3 : Int32)).toNatClampNeg).toInt64) &&& (4294967295 : Int64))) (fun r108 σ107 => ((r103 = r108 → b_L_law_2415 L xs post (fun s x4 => b_L_law_23 L xs post n s x4) σ107 x4) ∧ (¬ (r103 = r108) → post (0 : Int32) σ107))))) ∧ (¬ (v3 = (9 : Int32)) → ((v3 = (10 : Int32) → (vp_in (x4 + (1 : Int32)) L) ∧ (vp_in (x4 + (2 : Int32)) L) ∧ (vp_in (x4 + (3 : Int32)) L) ∧ (vp_in (x4 + (4 : Int32)) L) ∧ w_X10_same σ ((((xs (x4 + (1 : Int32)).toNatClampNeg).toInt64) <<< (((32 : Int32)).toInt64 &&& 63)) ||| (((xs (x4 + (2 : Int32)).toNatClampNeg).toInt64) &&& (4294967295 : Int64))) ((((xs (x4 + (3 : Int32)).toNatClampNeg).toInt64) <<< (((32 : Int32)).toInt64 &&& 63)) ||| (((xs (x4 + (4 : Int32)).toNatClampNeg).toInt64) &&& (4294967295 : Int64))) (fun r116 σ115 => (vp_in (x4 + (1 : Int32)) L) ∧ (vp_in (x4 + (2 : Int32)) L) ∧ (vp_in (x4 + (3 : Int32)) L) ∧ (vp_in (x4 + (4 : Int32)) L) ∧ w_X11_same σ115 ((((xs (x4 + (1 : Int32)).toNatClampNeg).toInt64) <<< (((32 : Int32)).toInt64 &&& 63)) ||| (((xs (x4 + (2 : Int32)).toNatClampNeg).toInt64) &&& (4294967295 : Int64))) ((((xs (x4 + (3 : Int32)).toNatClampNeg).toInt64) <<< (((32 : Int32)).toInt64 &&& 63)) ||| (((xs (x4 + (4 : Int32)).toNatClampNeg).toInt64) &&& (4294967295 : Int64))) (fun r122 σ121 => ((r116 = r122 → b_L_law_2415 L xs post (fun s x4 => b_L_law_23 L xs post n s x4) σ121 x4) ∧ (¬ (r116 = r122) → post (0 : Int32) σ121))))) ∧ (¬ (v3 = (10 : Int32)) → ((v3 = (11 : Int32) → w_X10_period σ (fun r126 σ125 => w_X11_period σ125 (fun r128 σ127 => ((r126 = r128 → b_L_law_2415 L xs post (fun s x4 => b_L_law_23 L xs post n s x4) σ127 x4) ∧ (¬ (r126 = r128) → post (0 : Int32) σ127))))) ∧ (¬ (v3 = (11 : Int32)) → ((v3 = (12 : Int32) → (vp_in (x4 + (1 : Int32)) L) ∧ (vp_in (x4 + (2 : Int32)) L) ∧ (vp_in (x4 + (3 : Int32)) L) ∧ (vp_in (x4 + (4 : Int32)) L) ∧ w_X10_meets σ (xs (x4 + (1 : Int32)).toNatClampNeg) (xs (x4 + (2 : Int32)).toNatClampNeg) ((((xs (x4 + (3 : Int32)).toNatClampNeg).toInt64) <<< (((32 : Int32)).toInt64 &&& 63)) ||| (((xs (x4 + (4 : Int32)).toNatClampNeg).toInt64) &&& (4294967295 : Int64))) (fun r136 σ135 => (vp_in (x4 + (1 : Int32)) L) ∧ (vp_in (x4 + (2 : Int32)) L) ∧ (vp_in (x4 + (3 : Int32)) L) ∧ (vp_in (x4 + (4 : Int32)) L) ∧ w_X11_meets σ135 (xs (x4 + (1 : Int32)).toNatClampNeg) (xs (x4 + (2 : Int32)).toNatClampNeg) ((((xs (x4 + (3 : Int32)).toNatClampNeg).toInt64) <<< (((32 : Int32)).toInt64 &&& 63)) ||| (((xs (x4 + (4 : Int32)).toNatClampNeg).toInt64) &&& (4294967295 : Int64))) (fun r142 σ141 => (((lg_cmp r136 r142) = 0 → b_L_law_2415 L xs post (fun s x4 => b_L_law_23 L xs post n s x4) σ141 x4) ∧ (¬ ((lg_cmp r136 r142) = 0) → post (0 : Int32) σ141))))) ∧ (¬ (v3 = (12 : Int32)) → ((v3 = (13 : Int32) → (vp_in (x4 + (1 : Int32)) L) ∧ (vp_in (x4 + (2 : Int32)) L) ∧ (vp_in (x4 + (3 : Int32)) L) ∧ (vp_in (x4 + (4 : Int32)) L) ∧ w_X10_trade σ (xs (x4 + (1 : Int32)).toNatClampNeg) (xs (x4 + (2 : Int32)).toNatClampNeg) ((((xs (x4 + (3 : Int32)).toNatClampNeg).toInt64) <<< (((32 : Int32)).toInt64 &&& 63)) ||| (((xs (x4 + (4 : Int32)).toNatClampNeg).toInt64) &&& (4294967295 : Int64))) (fun r150 σ149 => (vp_in (x4 + (1 : Int32)) L) ∧ (vp_in (x4 + (2 : Int32)) L) ∧ (vp_in (x4 + (3 : Int32)) L) ∧ (vp_in (x4 + (4 : Int32)) L) ∧ w_X11_trade σ149 (xs (x4 + (1 : Int32)).toNatClampNeg) (xs (x4 + (2 : Int32)).toNatClampNeg) ((((xs (x4 + (3 : Int32)).toNatClampNeg).toInt64) <<< (((32 : Int32)).toInt64 &&& 63)) ||| (((xs (x4 + (4 : Int32)).toNatClampNeg).toInt64) &&& (4294967295 : Int64))) (fun r156 σ155 => (((lg_cmp r150 r156) = 0 → b_L_law_2415 L xs post (fun s x4 => b_L_law_23 L xs post n s x4) σ155 x4) ∧ (¬ ((lg_cmp r150 r156) = 0) → post (0 : Int32) σ155))))) ∧ (¬ (v3 = (13 : Int32)) → ((v3 = (14 : Int32) → (vp_in (x4 + (1 : Int32)) L) ∧ w_X10_bears σ (xs (x4 + (1 : Int32)).toNatClampNeg) (fun r161 σ160 => (vp_in (x4 + (1 : Int32)) L) ∧ w_X11_bears σ160 (xs (x4 + (1 : Int32)).toNatClampNeg) (fun r164 σ163 => ((r161 = r164 → b_L_law_2415 L xs post (fun s x4 => b_L_law_23 L xs post n s x4) σ163 x4) ∧ (¬ (r161 = r164) → post (0 : Int32) σ163))))) ∧ (¬ (v3 = (14 : Int32)) → ((v3 = (15 : Int32) → (vp_in (x4 + (1 : Int32)) L) ∧ (vp_in (x4 + (2 : Int32)) L) ∧ (vp_in (x4 + (3 : Int32)) L) ∧ (vp_in (x4 + (4 : Int32)) L) ∧ w_X10_often σ (xs (x4 + (1 : Int32)).toNatClampNeg) (xs (x4 + (2 : Int32)).toNatClampNeg) ((((xs (x4 + (3 : Int32)).toNatClampNeg).toInt64) <<< (((32 : Int32)).toInt64 &&& 63)) ||| (((xs (x4 + (4 : Int32)).toNatClampNeg).toInt64) &&& (4294967295 : Int64))) (fun r172 σ171 => (vp_in (x4 + (1 : Int32)) L) ∧ (vp_in (x4 + (2 : Int32)) L) ∧ (vp_in (x4 + (3 : Int32)) L) ∧ (vp_in (x4 + (4 : Int32)) L) ∧ w_X11_often σ171 (xs (x4 + (1 : Int32)).toNatClampNeg) (xs (x4 + (2 : Int32)).toNatClampNeg) ((((xs (x4 + (3 : Int32)).toNatClampNeg).toInt64) <<< (((32 : Int32)).toInt64 &&& 63)) ||| (((xs (x4 + (4 : Int32)).toNatClampNeg).toInt64) &&& (4294967295 : Int64))) (fun r178 σ177 => (((lg_cmp r172 r178) = 0 → b_L_law_2415 L xs post (fun s x4 => b_L_law_23 L xs post n s x4) σ177 x4) ∧ (¬ ((lg_cmp r172 r178) = 0) → post (0 : Int32) σ177))))) ∧ (¬ (v3 = (15 : Int32)) → ((v3 = (16 : Int32) → w_X10_quiet σ (fun r182 σ181 => w_X11_quiet σ181 (fun r184 σ183 => ((r182 = r184 → b_L_law_2415 L xs post (fun s x4 => b_L_law_23 L xs post n s x4) σ183 x4) ∧ (¬ (r182 = r184) → post (0 : Int32) σ183))))) ∧ (¬ (v3 = (16 : Int32)) → ((v3 = (17 : Int32) → (vp_in (x4 + (1 : Int32)) L) ∧ (vp_in (x4 + (2 : Int32)) L) ∧ (vp_in (x4 + (3 : Int32)) L) ∧ w_X10_letter σ (xs (x4 + (1 : Int32)).toNatClampNeg) ((((xs (x4 + (2 : Int32)).toNatClampNeg).toInt64) <<< (((32 : Int32)).toInt64 &&& 63)) ||| (((xs (x4 + (3 : Int32)).toNatClampNeg).toInt64) &&& (4294967295 : Int64))) (fun r191 σ190 => (vp_in (x4 + (1 : Int32)) L) ∧ (vp_in (x4 + (2 : Int32)) L) ∧ (vp_in (x4 + (3 : Int32)) L) ∧ w_X11_letter σ190 (xs (x4 + (1 : Int32)).toNatClampNeg) ((((xs (x4 + (2 : Int32)).toNatClampNeg).toInt64) <<< (((32 : Int32)).toInt64 &&& 63)) ||| (((xs (x4 + (3 : Int32)).toNatClampNeg).toInt64) &&& (4294967295 : Int64))) (fun r196 σ195 => ((r191 = r196 → b_L_law_2415 L xs post (fun s x4 => b_L_law_23 L xs post n s x4) σ195 x4) ∧ (¬ (r191 = r196) → post (0 : Int32) σ195))))) ∧ (¬ (v3 = (17 : Int32)) → ((v3 = (18 : Int32) → (vp_in (x4 + (1 : Int32)) L) ∧ w_X10_home σ (xs (x4 + (1 : Int32)).toNatClampNeg) (fun r201 σ200 => (vp_in (x4 + (1 : Int32)) L) ∧ w_X11_home σ200 (xs (x4 + (1 : Int32)).toNatClampNeg) (fun r204 σ203 => ((r201 = r204 → b_L_law_2415 L xs post (fun s x4 => b_L_law_23 L xs post n s x4) σ203 x4) ∧ (¬ (r201 = r204) → post (0 : Int32) σ203))))) ∧ (¬ (v3 = (18 : Int32)) → ((v3 = (19 : Int32) → (vp_in (x4 + (1 : Int32)) L) ∧ (vp_in (x4 + (2 : Int32)) L) ∧ (vp_in (x4 + (3 : Int32)) L) ∧ (vp_in (x4 + (4 : Int32)) L) ∧ (vp_in (x4 + (5 : Int32)) L) ∧ w_X10_means σ (xs (x4 + (1 : Int32)).toNatClampNeg) ((((xs (x4 + (2 : Int32)).toNatClampNeg).toInt64) <<< (((32 : Int32)).toInt64 &&& 63)) ||| (((xs (x4 + (3 : Int32)).toNatClampNeg).toInt64) &&& (4294967295 : Int64))) ((((xs (x4 + (4 : Int32)).toNatClampNeg).toInt64) <<< (((32 : Int32)).toInt64 &&& 63)) ||| (((xs (x4 + (5 : Int32)).toNatClampNeg).toInt64) &&& (4294967295 : Int64))) (fun r213 σ212 => (vp_in (x4 + (1 : Int32)) L) ∧ (vp_in (x4 + (2 : Int32)) L) ∧ (vp_in (x4 + (3 : Int32)) L) ∧ (vp_in (x4 + (4 : Int32)) L) ∧ (vp_in (x4 + (5 : Int32)) L) ∧ w_X11_means σ212 (xs (x4 + (1 : Int32)).toNatClampNeg) ((((xs (x4 + (2 : Int32)).toNatClampNeg).toInt64) <<< (((32 : Int32)).toInt64 &&& 63)) ||| (((xs (x4 + (3 : Int32)).toNatClampNeg).toInt64) &&& (4294967295 : Int64))) ((((xs (x4 + (4 : Int32)).toNatClampNeg).toInt64) <<< (((32 : Int32)).toInt64 &&& 63)) ||| (((xs (x4 + (5 : Int32)).toNatClampNeg).toInt64) &&& (4294967295 : Int64))) (fun r220 σ219 => ((r213 = r220 → b_L_law_2415 L xs post (fun s x4 => b_L_law_23 L xs post n s x4) σ219 x4) ∧ (¬ (r213 = r220) → post (0 : Int32) σ219))))) ∧ (¬ (v3 = (19 : Int32)) → ((v3 = (20 : Int32) → (vp_in (x4 + (1 : Int32)) L) ∧ (vp_in (x4 + (2 : Int32)) L) ∧ w_X10_smudge σ (xs (x4 + (1 : Int32)).toNatClampNeg) (xs (x4 + (2 : Int32)).toNatClampNeg) (fun r226 σ225 => (vp_in (x4 + (1 : Int32)) L) ∧ (vp_in (x4 + (2 : Int32)) L) ∧ w_X11_smudge σ225 (xs (x4 + (1 : Int32)).toNatClampNeg) (xs (x4 + (2 : Int32)).toNatClampNeg) (fun r230 σ229 => ((r226 = r230 → b_L_law_2415 L xs post (fun s x4 => b_L_law_23 L xs post n s x4) σ229 x4) ∧ (¬ (r226 = r230) → post (0 : Int32) σ229))))) ∧ (¬ (v3 = (20 : Int32)) → ((v3 = (21 : Int32) → (vp_in (x4 + (1 : Int32)) L) ∧ (vp_in (x4 + (2 : Int32)) L) ∧ w_X10_misread σ (xs (x4 + (1 : Int32)).toNatClampNeg) (xs (x4 + (2 : Int32)).toNatClampNeg) (fun r236 σ235 => (vp_in (x4 + (1 : Int32)) L) ∧ (vp_in (x4 + (2 : Int32)) L) ∧ w_X11_misread σ235 (xs (x4 + (1 : Int32)).toNatClampNeg) (xs (x4 + (2 : Int32)).toNatClampNeg) (fun r240 σ239 => ((r236 = r240 → b_L_law_2415 L xs post (fun s x4 => b_L_law_23 L xs post n s x4) σ239 x4) ∧ (¬ (r236 = r240) → post (0 : Int32) σ239))))) ∧ (¬ (v3 = (21 : Int32)) → ((v3 = (22 : Int32) → (vp_in (x4 + (1 : Int32)) L) ∧ w_X10_shifts σ (xs (x4 + (1 : Int32)).toNatClampNeg) (fun r245 σ244 => (vp_in (x4 + (1 : Int32)) L) ∧ w_X11_shifts σ244 (xs (x4 + (1 : Int32)).toNatClampNeg) (fun r248 σ247 => ((r245 = r248 → b_L_law_2415 L xs post (fun s x4 => b_L_law_23 L xs post n s x4) σ247 x4) ∧ (¬ (r245 = r248) → post (0 : Int32) σ247))))) ∧ (¬ (v3 = (22 : Int32)) → ((v3 = (23 : Int32) → (vp_in (x4 + (1 : Int32)) L) ∧ (vp_in (x4 + (2 : Int32)) L) ∧ (vp_in (x4 + (3 : Int32)) L) ∧ (vp_in (x4 + (4 : Int32)) L) ∧ (vp_in (x4 + (5 : Int32)) L) ∧ w_X10_asks σ (xs (x4 + (1 : Int32)).toNatClampNeg) ((((xs (x4 + (2 : Int32)).toNatClampNeg).toInt64) <<< (((32 : Int32)).toInt64 &&& 63)) ||| (((xs (x4 + (3 : Int32)).toNatClampNeg).toInt64) &&& (4294967295 : Int64))) ((((xs (x4 + (4 : Int32)).toNatClampNeg).toInt64) <<< (((32 : Int32)).toInt64 &&& 63)) ||| (((xs (x4 + (5 : Int32)).toNatClampNeg).toInt64) &&& (4294967295 : Int64))) (fun r257 σ256 => (vp_in (x4 + (1 : Int32)) L) ∧ (vp_in (x4 + (2 : Int32)) L) ∧ (vp_in (x4 + (3 : Int32)) L) ∧ (vp_in (x4 + (4 : Int32)) L) ∧ (vp_in (x4 + (5 : Int32)) L) ∧ w_X11_asks σ256 (xs (x4 + (1 : Int32)).toNatClampNeg) ((((xs (x4 + (2 : Int32)).toNatClampNeg).toInt64) <<< (((32 : Int32)).toInt64 &&& 63)) ||| (((xs (x4 + (3 : Int32)).toNatClampNeg).toInt64) &&& (4294967295 : Int64))) ((((xs (x4 + (4 : Int32)).toNatClampNeg).toInt64) <<< (((32 : Int32)).toInt64 &&& 63)) ||| (((xs (x4 + (5 : Int32)).toNatClampNeg).toInt64) &&& (4294967295 : Int64))) (fun r264 σ263 => ((r257 = r264 → b_L_law_2415 L xs post (fun s x4 => b_L_law_23 L xs post n s x4) σ263 x4) ∧ (¬ (r257 = r264) → post (0 : Int32) σ263))))) ∧ (¬ (v3 = (23 : Int32)) → ((v3 = (24 : Int32) → (vp_in (x4 + (1 : Int32)) L) ∧ (vp_in (x4 + (2 : Int32)) L) ∧ w_X10_answer σ (xs (x4 + (1 : Int32)).toNatClampNeg) (xs (x4 + (2 : Int32)).toNatClampNeg) (fun r270 σ269 => (vp_in (x4 + (1 : Int32)) L) ∧ (vp_in (x4 + (2 : Int32)) L) ∧ w_X11_answer σ269 (xs (x4 + (1 : Int32)).toNatClampNeg) (xs (x4 + (2 : Int32)).toNatClampNeg) (fun r274 σ273 => ((r270 = r274 → b_L_law_2415 L xs post (fun s x4 => b_L_law_23 L xs post n s x4) σ273 x4) ∧ (¬ (r270 = r274) → post (0 : Int32) σ273))))) ∧ (¬ (v3 = (24 : Int32)) → ((v3 = (25 : Int32) → (vp_in (x4 + (1 : Int32)) L) ∧ w_X10_cycles σ (xs (x4 + (1 : Int32)).toNatClampNeg) (fun r279 σ278 => (vp_in (x4 + (1 : Int32)) L) ∧ w_X11_cycles σ278 (xs (x4 + (1 : Int32)).toNatClampNeg) (fun r282 σ281 => ((r279 = r282 → b_L_law_2415 L xs post (fun s x4 => b_L_law_23 L xs post n s x4) σ281 x4) ∧ (¬ (r279 = r282) → post (0 : Int32) σ281))))) ∧ (¬ (v3 = (25 : Int32)) → ((v3 = (26 : Int32) → (vp_in (x4 + (1 : Int32)) L) ∧ (vp_in (x4 + (2 : Int32)) L) ∧ w_X10_roots σ (xs (x4 + (1 : Int32)).toNatClampNeg) (xs (x4 + (2 : Int32)).toNatClampNeg) (fun r288 σ287 => (vp_in (x4 + (1 : Int32)) L) ∧ (vp_in (x4 + (2 : Int32)) L) ∧ w_X11_roots σ287 (xs (x4 + (1 : Int32)).toNatClampNeg) (xs (x4 + (2 : Int32)).toNatClampNeg) (fun r292 σ291 => ((r288 = r292 → b_L_law_2415 L xs post (fun s x4 => b_L_law_23 L xs post n s x4) σ291 x4) ∧ (¬ (r288 = r292) → post (0 : Int32) σ291))))) ∧ (¬ (v3 = (26 : Int32)) → ((v3 = (27 : Int32) → (vp_in (x4 + (1 : Int32)) L) ∧ (vp_in (x4 + (2 : Int32)) L) ∧ w_X10_mends σ ((((xs (x4 + (1 : Int32)).toNatClampNeg).toInt64) <<< (((32 : Int32)).toInt64 &&& 63)) ||| (((xs (x4 + (2 : Int32)).toNatClampNeg).toInt64) &&& (4294967295 : Int64))) (fun r298 σ297 => (vp_in (x4 + (1 : Int32)) L) ∧ (vp_in (x4 + (2 : Int32)) L) ∧ w_X11_mends σ297 ((((xs (x4 + (1 : Int32)).toNatClampNeg).toInt64) <<< (((32 : Int32)).toInt64 &&& 63)) ||| (((xs (x4 + (2 : Int32)).toNatClampNeg).toInt64) &&& (4294967295 : Int64))) (fun r302 σ301 => ((r298 = r302 → b_L_law_2415 L xs post (fun s x4 => b_L_law_23 L xs post n s x4) σ301 x4) ∧ (¬ (r298 = r302) → post (0 : Int32) σ301))))) ∧ (¬ (v3 = (27 : Int32)) → ((v3 = (28 : Int32) → (vp_in (x4 + (1 : Int32)) L) ∧ (vp_in (x4 + (2 : Int32)) L) ∧ w_X10_carries σ (xs (x4 + (1 : Int32)).toNatClampNeg) (xs (x4 + (2 : Int32)).toNatClampNeg) (fun r308 σ307 => (vp_in (x4 + (1 : Int32)) L) ∧ (vp_in (x4 + (2 : Int32)) L) ∧ w_X11_carries σ307 (xs (x4 + (1 : Int32)).toNatClampNeg) (xs (x4 + (2 : Int32)).toNatClampNeg) (fun r312 σ311 => ((r308 = r312 → b_L_law_2415 L xs post (fun s x4 => b_L_law_23 L xs post n s x4) σ311 x4) ∧ (¬ (r308 = r312) → post (0 : Int32) σ311))))) ∧ (¬ (v3 = (28 : Int32)) → ((v3 = (29 : Int32) → (vp_in (x4 + (1 : Int32)) L) ∧ w_X10_best σ (xs (x4 + (1 : Int32)).toNatClampNeg) (fun r317 σ316 => (vp_in (x4 + (1 : Int32)) L) ∧ w_X11_best σ316 (xs (x4 + (1 : Int32)).toNatClampNeg) (fun r320 σ319 => ((r317 = r320 → b_L_law_2415 L xs post (fun s x4 => b_L_law_23 L xs post n s x4) σ319 x4) ∧ (¬ (r317 = r320) → post (0 : Int32) σ319))))) ∧ (¬ (v3 = (29 : Int32)) → ((v3 = (30 : Int32) → (vp_in (x4 + (1 : Int32)) L) ∧ (vp_in (x4 + (2 : Int32)) L) ∧ (vp_in (x4 + (3 : Int32)) L) ∧ w_X10_days σ (xs (x4 + (1 : Int32)).toNatClampNeg) (xs (x4 + (2 : Int32)).toNatClampNeg) (xs (x4 + (3 : Int32)).toNatClampNeg) (fun r327 σ326 => (vp_in (x4 + (1 : Int32)) L) ∧ (vp_in (x4 + (2 : Int32)) L) ∧ (vp_in (x4 + (3 : Int32)) L) ∧ w_X11_days σ326 (xs (x4 + (1 : Int32)).toNatClampNeg) (xs (x4 + (2 : Int32)).toNatClampNeg) (xs (x4 + (3 : Int32)).toNatClampNeg) (fun r332 σ331 => ((r327 = r332 → b_L_law_2415 L xs post (fun s x4 => b_L_law_23 L xs post n s x4) σ331 x4) ∧ (¬ (r327 = r332) → post (0 : Int32) σ331))))) ∧ (¬ (v3 = (30 : Int32)) → ((v3 = (31 : Int32) → (vp_in (x4 + (1 : Int32)) L) ∧ w_X10_postman σ (xs (x4 + (1 : Int32)).toNatClampNeg) (fun r337 σ336 => (vp_in (x4 + (1 : Int32)) L) ∧ w_X11_postman σ336 (xs (x4 + (1 : Int32)).toNatClampNeg) (fun r340 σ339 => ((r337 = r340 → b_L_law_2415 L xs post (fun s x4 => b_L_law_23 L xs post n s x4) σ339 x4) ∧ (¬ (r337 = r340) → post (0 : Int32) σ339))))) ∧ (¬ (v3 = (31 : Int32)) → ((v3 = (32 : Int32) → (vp_in (x4 + (1 : Int32)) L) ∧ (vp_in (x4 + (2 : Int32)) L) ∧ w_X10_travels σ (xs (x4 + (1 : Int32)).toNatClampNeg) (xs (x4 + (2 : Int32)).toNatClampNeg) (fun r346 σ345 => (vp_in (x4 + (1 : Int32)) L) ∧ (vp_in (x4 + (2 : Int32)) L) ∧ w_X11_travels σ345 (xs (x4 + (1 : Int32)).toNatClampNeg) (xs (x4 + (2 : Int32)).toNatClampNeg) (fun r350 σ349 => ((r346 = r350 → b_L_law_2415 L xs post (fun s x4 => b_L_law_23 L xs post n s x4) σ349 x4) ∧ (¬ (r346 = r350) → post (0 : Int32) σ349))))) ∧ (¬ (v3 = (32 : Int32)) → ((v3 = (33 : Int32) → (vp_in (x4 + (1 : Int32)) L) ∧ (vp_in (x4 + (2 : Int32)) L) ∧ (vp_in (x4 + (3 : Int32)) L) ∧ w_X10_round σ (xs (x4 + (1 : Int32)).toNatClampNeg) (xs (x4 + (2 : Int32)).toNatClampNeg) (xs (x4 + (3 : Int32)).toNatClampNeg) (fun r357 σ356 => (vp_in (x4 + (1 : Int32)) L) ∧ (vp_in (x4 + (2 : Int32)) L) ∧ (vp_in (x4 + (3 : Int32)) L) ∧ w_X11_round σ356 (xs (x4 + (1 : Int32)).toNatClampNeg) (xs (x4 + (2 : Int32)).toNatClampNeg) (xs (x4 + (3 : Int32)).toNatClampNeg) (fun r362 σ361 => ((r357 = r362 → b_L_law_2415 L xs post (fun s x4 => b_L_law_23 L xs post n s x4) σ361 x4) ∧ (¬ (r357 = r362) → post (0 : Int32) σ361))))) ∧ (¬ (v3 = (33 : Int32)) → ((v3 = (34 : Int32) → w_X10_rule σ (fun r366 σ365 => w_X11_rule σ365 (fun r368 σ367 => ((r366 = r368 → b_L_law_2415 L xs post (fun s x4 => b_L_law_23 L xs post n s x4) σ367 x4) ∧ (¬ (r366 = r368) → post (0 : Int32) σ367))))) ∧ (¬ (v3 = (34 : Int32)) → ((v3 = (35 : Int32) → (vp_in (x4 + (1 : Int32)) L) ∧ (vp_in (x4 + (2 : Int32)) L) ∧ (vp_in (x4 + (3 : Int32)) L) ∧ w_L_late σ (xs (x4 + (1 : Int32)).toNatClampNeg) (xs (x4 + (2 : Int32)).toNatClampNeg) (xs (x4 + (3 : Int32)).toNatClampNeg) (fun r375 σ374 => (vp_in (x4 + (1 : Int32)) L) ∧ (vp_in (x4 + (2 : Int32)) L) ∧ (vp_in (x4 + (3 : Int32)) L) ∧ w_X11_late σ374 (xs (x4 + (1 : Int32)).toNatClampNeg) (xs (x4 + (2 : Int32)).toNatClampNeg) (xs (x4 + (3 : Int32)).toNatClampNeg) (fun r380 σ379 => w_X11_thrown σ379 (fun r382 σ381 => ((r382 = r375 → ((¬ r375 = 0 → b_L_law_2415 L xs post (fun s x4 => b_L_law_23 L xs post n s x4) σ381 x4) ∧ (r375 = 0 → (vp_in (0 : Int32) 1) ∧ (((lg_cmp (σ381.2.1 125 ((0 : Int32)).toNatClampNeg) (r380.toInt64)) = 0 → b_L_law_2415 L xs post (fun s x4 => b_L_law_23 L xs post n s x4) σ381 x4) ∧ (¬ ((lg_cmp (σ381.2.1 125 ((0 : Int32)).toNatClampNeg) (r380.toInt64)) = 0) → post (0 : Int32) σ381))))) ∧ (¬ (r382 = r375) → post (0 : Int32) σ381)))))) ∧ (¬ (v3 = (35 : Int32)) → ((v3 = (36 : Int32) → (vp_in (x4 + (1 : Int32)) L) ∧ w_X10_sends σ (xs (x4 + (1 : Int32)).toNatClampNeg) (fun r390 σ389 => (vp_in (x4 + (1 : Int32)) L) ∧ w_X11_sends σ389 (xs (x4 + (1 : Int32)).toNatClampNeg) (fun r393 σ392 => ((r390 = r393 → b_L_law_2415 L xs post (fun s x4 => b_L_law_23 L xs post n s x4) σ392 x4) ∧ (¬ (r390 = r393) → post (0 : Int32) σ392))))) ∧ (¬ (v3 = (36 : Int32)) → ((v3 = (37 : Int32) → (vp_in (x4 + (1 : Int32)) L) ∧ (vp_in (x4 + (2 : Int32)) L) ∧ w_X10_walk σ (xs (x4 + (1 : Int32)).toNatClampNeg) (xs (x4 + (2 : Int32)).toNatClampNeg) (fun r399 σ398 => (vp_in (x4 + (1 : Int32)) L) ∧ (vp_in (x4 + (2 : Int32)) L) ∧ w_X11_walk σ398 (xs (x4 + (1 : Int32)).toNatClampNeg) (xs (x4 + (2 : Int32)).toNatClampNeg) (fun r403 σ402 => ((r399 = r403 → b_L_law_2415 L xs post (fun s x4 => b_L_law_23 L xs post n s x4) σ402 x4) ∧ (¬ (r399 = r403) → post (0 : Int32) σ402))))) ∧ (¬ (v3 = (37 : Int32)) → ((v3 = (38 : Int32) → (vp_in (x4 + (1 : Int32)) L) ∧ w_X10_meet σ (xs (x4 + (1 : Int32)).toNatClampNeg) (fun r408 σ407 => (vp_in (x4 + (1 : Int32)) L) ∧ w_X11_meet σ407 (xs (x4 + (1 : Int32)).toNatClampNeg) (fun r411 σ410 => ((r408 = r411 → b_L_law_2415 L xs post (fun s x4 => b_L_law_23 L xs post n s x4) σ410 x4) ∧ (¬ (r408 = r411) → post (0 : Int32) σ410))))) ∧ (¬ (v3 = (38 : Int32)) → ((v3 = (39 : Int32) → (vp_in (x4 + (1 : Int32)) L) ∧ (vp_in (x4 + (2 : Int32)) L) ∧ (vp_in (x4 + (3 : Int32)) L) ∧ w_X10_wish σ (xs (x4 + (1 : Int32)).toNatClampNeg) (xs (x4 + (2 : Int32)).toNatClampNeg) (xs (x4 + (3 : Int32)).toNatClampNeg) (fun r418 σ417 => (vp_in (x4 + (1 : Int32)) L) ∧ (vp_in (x4 + (2 : Int32)) L) ∧ (vp_in (x4 + (3 : Int32)) L) ∧ w_X11_wish σ417 (xs (x4 + (1 : Int32)).toNatClampNeg) (xs (x4 + (2 : Int32)).toNatClampNeg) (xs (x4 + (3 : Int32)).toNatClampNeg) (fun r423 σ422 => ((r418 = r423 → b_L_law_2415 L xs post (fun s x4 => b_L_law_23 L xs post n s x4) σ422 x4) ∧ (¬ (r418 = r423) → post (0 : Int32) σ422))))) ∧ (¬ (v3 = (39 : Int32)) → ((v3 = (40 : Int32) → w_X10_kept σ (fun r427 σ426 => w_X11_kept σ426 (fun r429 σ428 => ((r427 = r429 → b_L_law_2415 L xs post (fun s x4 => b_L_law_23 L xs post n s x4) σ428 x4) ∧ (¬ (r427 = r429) → post (0 : Int32) σ428))))) ∧ (¬ (v3 = (40 : Int32)) → ((v3 = (41 : Int32) → (vp_in (x4 + (1 : Int32)) L) ∧ w_X10_choose σ (xs (x4 + (1 : Int32)).toNatClampNeg) (fun r434 σ433 => (vp_in (x4 + (1 : Int32)) L) ∧ w_X11_choose σ433 (xs (x4 + (1 : Int32)).toNatClampNeg) (fun r437 σ436 => ((r434 = r437 → b_L_law_2415 L xs post (fun s x4 => b_L_law_23 L xs post n s x4) σ436 x4) ∧ (¬ (r434 = r437) → post (0 : Int32) σ436))))) ∧ (¬ (v3 = (41 : Int32)) → ((v3 = (42 : Int32) → w_X10_proof σ (fun r441 σ440 => w_X11_proof σ440 (fun r443 σ442 => ((r441 = r443 → b_L_law_2415 L xs post (fun s x4 => b_L_law_23 L xs post n s x4) σ442 x4) ∧ (¬ (r441 = r443) → post (0 : Int32) σ442))))) ∧ (¬ (v3 = (42 : Int32)) → ((v3 = (43 : Int32) → (vp_in (x4 + (1 : Int32)) L) ∧ w_X10_decree σ (xs (x4 + (1 : Int32)).toNatClampNeg) (fun r448 σ447 => (vp_in (x4 + (1 : Int32)) L) ∧ w_X11_decree σ447 (xs (x4 + (1 : Int32)).toNatClampNeg) (fun r451 σ450 => ((r448 = r451 → b_L_law_2415 L xs post (fun s x4 => b_L_law_23 L xs post n s x4) σ450 x4) ∧ (¬ (r448 = r451) → post (0 : Int32) σ450))))) ∧ (¬ (v3 = (43 : Int32)) → ((v3 = (44 : Int32) → (vp_in (x4 + (1 : Int32)) L) ∧ (vp_in (x4 + (2 : Int32)) L) ∧ w_X10_swap σ (xs (x4 + (1 : Int32)).toNatClampNeg) (xs (x4 + (2 : Int32)).toNatClampNeg) (fun r457 σ456 => (vp_in (x4 + (1 : Int32)) L) ∧ (vp_in (x4 + (2 : Int32)) L) ∧ w_X11_swap σ456 (xs (x4 + (1 : Int32)).toNatClampNeg) (xs (x4 + (2 : Int32)).toNatClampNeg) (fun r461 σ460 => ((r457 = r461 → b_L_law_2415 L xs post (fun s x4 => b_L_law_23 L xs post n s x4) σ460 x4) ∧ (¬ (r457 = r461) → post (0 : Int32) σ460))))) ∧ (¬ (v3 = (44 : Int32)) → ((v3 = (45 : Int32) → w_X10_soonest σ (fun r465 σ464 => w_X11_soonest σ464 (fun r467 σ466 => ((r465 = r467 → b_L_law_2415 L xs post (fun s x4 => b_L_law_23 L xs post n s x4) σ466 x4) ∧ (¬ (r465 = r467) → post (0 : Int32) σ466))))) ∧ (¬ (v3 = (45 : Int32)) → ((v3 = (46 : Int32) → (vp_in (x4 + (1 : Int32)) L) ∧ w_X10_keep σ (xs (x4 + (1 : Int32)).toNatClampNeg) (fun r472 σ471 => (vp_in (x4 + (1 : Int32)) L) ∧ w_X11_keep σ471 (xs (x4 + (1 : Int32)).toNatClampNeg) (fun r475 σ474 => ((r472 = r475 → b_L_law_2415 L xs post (fun s x4 => b_L_law_23 L xs post n s x4) σ474 x4) ∧ (¬ (r472 = r475) → post (0 : Int32) σ474))))) ∧ (¬ (v3 = (46 : Int32)) → ((v3 = (47 : Int32) → (vp_in (x4 + (1 : Int32)) L) ∧ w_X10_again σ (xs (x4 + (1 : Int32)).toNatClampNeg) (fun r480 σ479 => (vp_in (x4 + (1 : Int32)) L) ∧ w_X11_again σ479 (xs (x4 + (1 : Int32)).toNatClampNeg) (fun r483 σ482 => ((r480 = r483 → b_L_law_2415 L xs post (fun s x4 => b_L_law_23 L xs post n s x4) σ482 x4) ∧ (¬ (r480 = r483) → post (0 : Int32) σ482))))) ∧ (¬ (v3 = (47 : Int32)) → ((v3 = (48 : Int32) → (vp_in (x4 + (1 : Int32)) L) ∧ w_X10_count σ (xs (x4 + (1 : Int32)).toNatClampNeg) (fun r488 σ487 => (vp_in (x4 + (1 : Int32)) L) ∧ w_X11_count σ487 (xs (x4 + (1 : Int32)).toNatClampNeg) (fun r491 σ490 => ((r488 = r491 → b_L_law_2415 L xs post (fun s x4 => b_L_law_23 L xs post n s x4) σ490 x4) ∧ (¬ (r488 = r491) → post (0 : Int32) σ490))))) ∧ (¬ (v3 = (48 : Int32)) → ((v3 = (49 : Int32) → w_X10_today σ (fun r495 σ494 => w_X11_today σ494 (fun r497 σ496 => (((lg_cmp r495 r497) = 0 → b_L_law_2415 L xs post (fun s x4 => b_L_law_23 L xs post n s x4) σ496 x4) ∧ (¬ ((lg_cmp r495 r497) = 0) → post (0 : Int32) σ496))))) ∧ (¬ (v3 = (49 : Int32)) → ((v3 = (50 : Int32) → (vp_in (x4 + (1 : Int32)) L) ∧ w_L_row σ (xs (x4 + (1 : Int32)).toNatClampNeg) (fun r502 σ501 => (vp_in (x4 + (1 : Int32)) L) ∧ w_X11_row σ501 (xs (x4 + (1 : Int32)).toNatClampNeg) (fun r505 σ504 => w_X11_thrown σ504 (fun r507 σ506 => ((r507 = r502 → ((¬ r502 = 0 → b_L_law_2415 L xs post (fun s x4 => b_L_law_23 L xs post n s x4) σ506 x4) ∧ (r502 = 0 → (vp_in (0 : Int32) 1) ∧ (((lg_cmp (σ506.2.1 125 ((0 : Int32)).toNatClampNeg) r505) = 0 → b_L_law_2415 L xs post (fun s x4 => b_L_law_23 L xs post n s x4) σ506 x4) ∧ (¬ ((lg_cmp (σ506.2.1 125 ((0 : Int32)).toNatClampNeg) r505) = 0) → post (0 : Int32) σ506))))) ∧ (¬ (r507 = r502) → post (0 : Int32) σ506)))))) ∧ (¬ (v3 = (50 : Int32)) → b_L_law_2415 L xs post (fun s x4 => b_L_law_23 L xs post n s x4) σ x4))))))))))))))))))))))))))))))))))))))))))))))))))))))))))))))))))))))))))))))))))))))))))))))))))))))))
set_option maxHeartbeats 4000000 in
set_option maxRecDepth 100000 in
theorem l_L_law_23 {p : Program} {l : Launch} {e : Env} {s : State} {m : MethodId} {below : List Frame} {meth : Method} {c : Code} {D : va_G} {ρ : Nat → Nat} {κ : Nat → ClassId} {base : Nat} {post : Int32 → eS → Prop} {b L : Nat} {xs : Nat → Int32} {fu : Nat} (C : eCx p s m #[Value.ref b] meth c code RL 8 (some .boolean) lw_tbl) (K : gK D ρ κ base s) (hX : va_X b L xs s s.heap) (hbl : b < s.heap.size) (hbA : ¬ base ≤ b) (hb0 : s.heap.size ≤ base) (hfl : l.stackTraces = false) (V : eV base s) (hp : ∀ v σ, post v σ → v = 1) : ∀ (n : Nat) (σ : eS) (x4 : Int32) (H : Heap) (locs : List Loc) (ls : Array Slot) (cells slots : Nat), eBd n cells slots → b_L_law_23 L xs post n σ x4 → gG D ρ κ base s σ H locs → lv_has ls 8 [(0, .ref b), (1, .ref (ρ (0))), (2, .ref (ρ (97))), (3, .ref (ρ (125))), (4, .int (x4))] → W p l e room_1 s m #[Value.ref b] below meth c H locs cells slots (lw_Z below #[Value.ref b] s) (F0 m 23 ls []) := by
  obtain ⟨hx, hb, hml, hown, hts, hr, hlocks⟩ := id C
  intro n
  induction n with
  | zero => intro σ x4 H locs ls cells slots hcs h G hl; exact False.elim h
  | succ n ih =>
    intro σ x4 H locs ls cells slots hcs h G hl
    rw [b_L_law_23] at h
    refine lv_iload hx hb dL_law_23 (lv_at hl 4 rfl) ?_
    refine lv_aload_n hx hb dL_law_25 rfl (lv_at hl 0 rfl) ?_
    refine va_slen hx hb hX hbl hbA G.2 dL_law_26 ?_
    refine lv_bipush (v := (6 : Int32)) hx hb dL_law_27 (by decide) ?_
    refine lv_isub hx hb dL_law_29 ?_
    refine lv_icmp_gt (tgt := 2421) hx hb dL_law_30 (by decide) (fun c1 => ?_) (fun c1 => ?_)
    · have h := h.1 c1
      refine lv_iconst (v := (1 : Int32)) hx hb dL_law_2421 (by decide) ?_
      exact le_ret hx hb hr hlocks hcs hb0 G (hp _ _ h) dL_law_2422
    · have h := h.2 c1
      refine lv_aload_n hx hb dL_law_33 rfl (lv_at hl 0 rfl) ?_
      refine lv_iload hx hb dL_law_34 (lv_at hl 4 rfl) ?_
      have hi2 := h.1
      have h := h.2
      refine va_sld hx hb hX hbl hbA G.2 hi2 dL_law_36 ?_
      refine lv_bipush (v := (63 : Int32)) hx hb dL_law_37 (by decide) ?_
      refine lv_iand hx hb dL_law_39 ?_
      refine lv_topi (fun v3 ev3 => ?_)
      have h := h v3 ev3
      by_cases c4 : v3 = (0 : Int32)
      · have h := h.1 c4
        refine lv_tableIn (tgt := 260) hx hb dL_law_40 (by rw [c4]; decide) (by rw [c4]; decide) (by rw [c4]; rfl) (by decide) ?_
        refine lv_aload_n hx hb dL_law_260 rfl (lv_at hl 1 rfl) ?_
        refine lv_aload_n hx hb dL_law_261 rfl (lv_at hl 0 rfl) ?_
        refine lv_iload hx hb dL_law_262 (lv_at hl 4 rfl) ?_
        refine lv_iconst (v := (1 : Int32)) hx hb dL_law_264 (by decide) ?_
        refine lv_iadd hx hb dL_law_265 ?_
        have hi5 := h.1
        have h := h.2
        refine va_sld hx hb hX hbl hbA G.2 hi5 dL_law_266 ?_
        refine e_callVi (As := [.int (xs (x4 + (1 : Int32)).toNatClampNeg)]) (rest := []) ⟨hx, hb, hml, hown, hts⟩ K G 0 (by decide) gl_0 rfl (c_X10_sign h) (cwV 1 hts gw_27 rfl rfl rfl (by decide +kernel) ⟨Nat.le_of_ble_eq_true rfl, Nat.le_of_ble_eq_true rfl⟩) rfl hl.1 rfl (Nat.le_of_ble_eq_true rfl) dL_law_267 hcs.le (fun r7 σ6 H locs h G => ?_)
        refine lv_aload_n hx hb dL_law_270 rfl (lv_at hl 2 rfl) ?_
        refine lv_aload_n hx hb dL_law_271 rfl (lv_at hl 0 rfl) ?_
        refine lv_iload hx hb dL_law_272 (lv_at hl 4 rfl) ?_
        refine lv_iconst (v := (1 : Int32)) hx hb dL_law_274 (by decide) ?_
        refine lv_iadd hx hb dL_law_275 ?_
        have hi8 := h.1
        have h := h.2
        refine va_sld hx hb hX hbl hbA G.2 hi8 dL_law_276 ?_
        refine e_callVi (As := [.int (xs (x4 + (1 : Int32)).toNatClampNeg)]) (rest := [.int (r7)]) ⟨hx, hb, hml, hown, hts⟩ K G 97 (by decide) gl_97 rfl (c_X11_sign h) (cwV 1 hts gw_31 rfl rfl rfl (by decide +kernel) ⟨Nat.le_of_ble_eq_true rfl, Nat.le_of_ble_eq_true rfl⟩) rfl hl.1 rfl (Nat.le_of_ble_eq_true rfl) dL_law_277 hcs.le (fun r10 σ9 H locs h G => ?_)
        refine lv_icmp_eq (tgt := 2415) hx hb dL_law_280 (by decide) (fun c11 => ?_) (fun c11 => ?_)
        · have h := h.1 c11
          exact l_L_law_2415 (fu := n) C K hX hbl hbA hb0 hfl V hp (hK23 := ih) σ9 x4 _ _ _ _ _ hcs.dec  h G (lv_sub hl [0, 1, 2, 3, 4] rfl)
        · have h := h.2 c11
          refine lv_iconst (v := (0 : Int32)) hx hb dL_law_283 (by decide) ?_
          exact le_ret hx hb hr hlocks hcs hb0 G (hp _ _ h) dL_law_284
      · have h := h.2 c4
        by_cases c13 : v3 = (1 : Int32)
        · have h := h.1 c13
          refine lv_tableIn (tgt := 285) hx hb dL_law_40 (by rw [c13]; decide) (by rw [c13]; decide) (by rw [c13]; rfl) (by decide) ?_
          refine lv_aload_n hx hb dL_law_285 rfl (lv_at hl 1 rfl) ?_
          refine lv_aload_n hx hb dL_law_286 rfl (lv_at hl 0 rfl) ?_
          refine lv_iload hx hb dL_law_287 (lv_at hl 4 rfl) ?_
          refine lv_iconst (v := (1 : Int32)) hx hb dL_law_289 (by decide) ?_
          refine lv_iadd hx hb dL_law_290 ?_
          have hi14 := h.1
          have h := h.2
          refine va_sld hx hb hX hbl hbA G.2 hi14 dL_law_291 ?_
          refine e_callVi (As := [.int (xs (x4 + (1 : Int32)).toNatClampNeg)]) (rest := []) ⟨hx, hb, hml, hown, hts⟩ K G 0 (by decide) gl_0 rfl (c_X10_end h) (cwV 1 hts gw_32 rfl rfl rfl (by decide +kernel) ⟨Nat.le_of_ble_eq_true rfl, Nat.le_of_ble_eq_true rfl⟩) rfl hl.1 rfl (Nat.le_of_ble_eq_true rfl) dL_law_292 hcs.le (fun r16 σ15 H locs h G => ?_)
          refine lv_aload_n hx hb dL_law_295 rfl (lv_at hl 2 rfl) ?_
          refine lv_aload_n hx hb dL_law_296 rfl (lv_at hl 0 rfl) ?_
          refine lv_iload hx hb dL_law_297 (lv_at hl 4 rfl) ?_
          refine lv_iconst (v := (1 : Int32)) hx hb dL_law_299 (by decide) ?_
          refine lv_iadd hx hb dL_law_300 ?_
          have hi17 := h.1
          have h := h.2
          refine va_sld hx hb hX hbl hbA G.2 hi17 dL_law_301 ?_
          refine e_callVi (As := [.int (xs (x4 + (1 : Int32)).toNatClampNeg)]) (rest := [.int (r16)]) ⟨hx, hb, hml, hown, hts⟩ K G 97 (by decide) gl_97 rfl (c_X11_end h) (cwV 1 hts gw_36 rfl rfl rfl (by decide +kernel) ⟨Nat.le_of_ble_eq_true rfl, Nat.le_of_ble_eq_true rfl⟩) rfl hl.1 rfl (Nat.le_of_ble_eq_true rfl) dL_law_302 hcs.le (fun r19 σ18 H locs h G => ?_)
          refine lv_icmp_eq (tgt := 2415) hx hb dL_law_305 (by decide) (fun c20 => ?_) (fun c20 => ?_)
          · have h := h.1 c20
            exact l_L_law_2415 (fu := n) C K hX hbl hbA hb0 hfl V hp (hK23 := ih) σ18 x4 _ _ _ _ _ hcs.dec  h G (lv_sub hl [0, 1, 2, 3, 4] rfl)
          · have h := h.2 c20
            refine lv_iconst (v := (0 : Int32)) hx hb dL_law_308 (by decide) ?_
            exact le_ret hx hb hr hlocks hcs hb0 G (hp _ _ h) dL_law_309
        · have h := h.2 c13
          by_cases c21 : v3 = (2 : Int32)
          · have h := h.1 c21
            refine lv_tableIn (tgt := 310) hx hb dL_law_40 (by rw [c21]; decide) (by rw [c21]; decide) (by rw [c21]; rfl) (by decide) ?_
            refine lv_aload_n hx hb dL_law_310 rfl (lv_at hl 1 rfl) ?_
            refine e_callVi (As := []) (rest := []) ⟨hx, hb, hml, hown, hts⟩ K G 0 (by decide) gl_0 rfl (c_X10_town h) (cwV 0 hts gw_37 rfl rfl rfl (by decide +kernel) ⟨Nat.le_of_ble_eq_true rfl, Nat.le_of_ble_eq_true rfl⟩) rfl hl.1 rfl (Nat.le_of_ble_eq_true rfl) dL_law_311 hcs.le (fun r23 σ22 H locs h G => ?_)
            refine lv_aload_n hx hb dL_law_314 rfl (lv_at hl 2 rfl) ?_
            refine e_callVi (As := []) (rest := [.int (r23)]) ⟨hx, hb, hml, hown, hts⟩ K G 97 (by decide) gl_97 rfl (c_X11_town h) (cwV 0 hts gw_41 rfl rfl rfl (by decide +kernel) ⟨Nat.le_of_ble_eq_true rfl, Nat.le_of_ble_eq_true rfl⟩) rfl hl.1 rfl (Nat.le_of_ble_eq_true rfl) dL_law_315 hcs.le (fun r25 σ24 H locs h G => ?_)
            refine lv_icmp_eq (tgt := 2415) hx hb dL_law_318 (by decide) (fun c26 => ?_) (fun c26 => ?_)
            · have h := h.1 c26
              exact l_L_law_2415 (fu := n) C K hX hbl hbA hb0 hfl V hp (hK23 := ih) σ24 x4 _ _ _ _ _ hcs.dec  h G (lv_sub hl [0, 1, 2, 3, 4] rfl)
            · have h := h.2 c26
              refine lv_iconst (v := (0 : Int32)) hx hb dL_law_321 (by decide) ?_
              exact le_ret hx hb hr hlocks hcs hb0 G (hp _ _ h) dL_law_322
          · have h := h.2 c21
            by_cases c27 : v3 = (3 : Int32)
            · have h := h.1 c27
              refine lv_tableIn (tgt := 323) hx hb dL_law_40 (by rw [c27]; decide) (by rw [c27]; decide) (by rw [c27]; rfl) (by decide) ?_
              refine lv_aload_n hx hb dL_law_323 rfl (lv_at hl 1 rfl) ?_
              refine lv_aload_n hx hb dL_law_324 rfl (lv_at hl 0 rfl) ?_
              refine lv_iload hx hb dL_law_325 (lv_at hl 4 rfl) ?_
              refine lv_iconst (v := (1 : Int32)) hx hb dL_law_327 (by decide) ?_
              refine lv_iadd hx hb dL_law_328 ?_
              have hi28 := h.1
              have h := h.2
              refine va_sld hx hb hX hbl hbA G.2 hi28 dL_law_329 ?_
              refine lv_aload_n hx hb dL_law_330 rfl (lv_at hl 0 rfl) ?_
              refine lv_iload hx hb dL_law_331 (lv_at hl 4 rfl) ?_
              refine lv_iconst (v := (2 : Int32)) hx hb dL_law_333 (by decide) ?_
              refine lv_iadd hx hb dL_law_334 ?_
              have hi29 := h.1
              have h := h.2
              refine va_sld hx hb hX hbl hbA G.2 hi29 dL_law_335 ?_
              refine lv_aload_n hx hb dL_law_336 rfl (lv_at hl 3 rfl) ?_
              refine e_callSX (As := [.ref (ρ (0)), .int (xs (x4 + (1 : Int32)).toNatClampNeg), .int (xs (x4 + (2 : Int32)).toNatClampNeg), .ref (ρ (125))]) (rest := []) ⟨hx, hb, hml, hown, hts⟩ K V G (c_L_street hfl h) (vx_cwSW 4 hts gw_42 rfl rfl rfl (by decide +kernel) ⟨Nat.le_of_ble_eq_true rfl, Nat.le_of_ble_eq_true rfl⟩) rfl hl.1 rfl (Nat.le_of_ble_eq_true rfl) dL_law_337 hcs.room (fun r31 σ30 H locs h G => ?_)
              have hcs := hcs.thr
              refine lv_istore (lv' := [(5, .int (r31)), (0, .ref b), (1, .ref (ρ (0))), (2, .ref (ρ (97))), (3, .ref (ρ (125))), (4, .int (x4))]) hx hb dL_law_340 hl (by decide) rfl (fun ls hl => ?_)
              refine lv_aload_n hx hb dL_law_342 rfl (lv_at hl 3 rfl) ?_
              refine lv_aload_n hx hb dL_law_343 rfl (lv_at hl 1 rfl) ?_
              refine lv_iload hx hb dL_law_344 (lv_at hl 5 rfl) ?_
              refine lv_iconst (v := (1 : Int32)) hx hb dL_law_346 (by decide) ?_
              refine lv_iadd hx hb dL_law_347 ?_
              have hi32 := h.1
              have h := h.2
              refine va_sld hx hb hX hbl hbA G.2 hi32 dL_law_348 ?_
              refine lv_aload_n hx hb dL_law_349 rfl (lv_at hl 1 rfl) ?_
              refine lv_iload hx hb dL_law_350 (lv_at hl 5 rfl) ?_
              refine lv_iconst (v := (2 : Int32)) hx hb dL_law_352 (by decide) ?_
              refine lv_iadd hx hb dL_law_353 ?_
              have hi33 := h.1
              have h := h.2
              refine va_sld hx hb hX hbl hbA G.2 hi33 dL_law_354 ?_
              refine e_callVi (As := [.int (xs (x4 + (1 : Int32)).toNatClampNeg), .int (xs (x4 + (2 : Int32)).toNatClampNeg)]) (rest := []) ⟨hx, hb, hml, hown, hts⟩ K G 97 (by decide) gl_97 rfl (c_X11_street h) (cwV 2 hts gw_47 rfl rfl rfl (by decide +kernel) ⟨Nat.le_of_ble_eq_true rfl, Nat.le_of_ble_eq_true rfl⟩) rfl hl.1 rfl (Nat.le_of_ble_eq_true rfl) dL_law_355 hcs.le (fun r35 σ34 H locs h G => ?_)
              refine lv_istore (lv' := [(6, .int (r35)), (5, .int (r31)), (0, .ref b), (1, .ref (ρ (0))), (2, .ref (ρ (97))), (3, .ref (ρ (125))), (4, .int (x4))]) hx hb dL_law_358 hl (by decide) rfl (fun ls hl => ?_)
              refine lv_aload_n hx hb dL_law_360 rfl (lv_at hl 4 rfl) ?_
              refine e_callVi (As := []) (rest := []) ⟨hx, hb, hml, hown, hts⟩ K G 97 (by decide) gl_97 rfl (c_X11_thrown h) (cwV 0 hts gw_48 rfl rfl rfl (by decide +kernel) ⟨Nat.le_of_ble_eq_true rfl, Nat.le_of_ble_eq_true rfl⟩) rfl hl.1 rfl (Nat.le_of_ble_eq_true rfl) dL_law_361 hcs.le (fun r37 σ36 H locs h G => ?_)
              refine lv_iload hx hb dL_law_364 (lv_at hl 1 rfl) ?_
              refine lv_icmp_eq (tgt := 371) hx hb dL_law_366 (by decide) (fun c38 => ?_) (fun c38 => ?_)
              · have h := h.1 c38
                refine lv_iload hx hb dL_law_371 (lv_at hl 1 rfl) ?_
                refine lv_if_ne (tgt := 388) hx hb dL_law_373 (by decide) (fun c39 => ?_) (fun c39 => ?_)
                · have h := h.1 c39
                  refine lv_goto (tgt := 2415) hx hb dL_law_388 (by decide) ?_
                  exact l_L_law_2415 (fu := n) C K hX hbl hbA hb0 hfl V hp (hK23 := ih) σ36 x4 _ _ _ _ _ hcs  h G (lv_sub hl [2, 3, 4, 5, 6] rfl)
                · have h := h.2 c39
                  refine lv_aload_n hx hb dL_law_376 rfl (lv_at hl 5 rfl) ?_
                  refine lv_iconst (v := (0 : Int32)) hx hb dL_law_377 (by decide) ?_
                  have hi40 := h.1
                  have h := h.2
                  refine e_lald hx hb K G 125 1 1 1 (by decide) gl_125 rfl hi40 dL_law_378 ?_
                  refine lv_iload hx hb dL_law_379 (lv_at hl 0 rfl) ?_
                  refine lv_i2l hx hb dL_law_381 rfl ?_
                  refine W.lcmp hx hb dL_law_382 ?_
                  refine lv_if_eq (tgt := 388) hx hb dL_law_383 (by decide) (fun c41 => ?_) (fun c41 => ?_)
                  · have h := h.1 c41
                    refine lv_goto (tgt := 2415) hx hb dL_law_388 (by decide) ?_
                    exact l_L_law_2415 (fu := n) C K hX hbl hbA hb0 hfl V hp (hK23 := ih) σ36 x4 _ _ _ _ _ hcs  h G (lv_sub hl [2, 3, 4, 5, 6] rfl)
                  · have h := h.2 c41
                    refine lv_iconst (v := (0 : Int32)) hx hb dL_law_386 (by decide) ?_
                    exact le_ret hx hb hr hlocks hcs hb0 G (hp _ _ h) dL_law_387
              · have h := h.2 c38
                refine lv_iconst (v := (0 : Int32)) hx hb dL_law_369 (by decide) ?_
                exact le_ret hx hb hr hlocks hcs hb0 G (hp _ _ h) dL_law_370
            · have h := h.2 c27
              by_cases c42 : v3 = (4 : Int32)
              · have h := h.1 c42
                refine lv_tableIn (tgt := 391) hx hb dL_law_40 (by rw [c42]; decide) (by rw [c42]; decide) (by rw [c42]; rfl) (by decide) ?_
                refine lv_aload_n hx hb dL_law_391 rfl (lv_at hl 1 rfl) ?_
                refine lv_aload_n hx hb dL_law_392 rfl (lv_at hl 0 rfl) ?_
                refine lv_iload hx hb dL_law_393 (lv_at hl 4 rfl) ?_
                refine lv_iconst (v := (1 : Int32)) hx hb dL_law_395 (by decide) ?_
                refine lv_iadd hx hb dL_law_396 ?_
                have hi43 := h.1
                have h := h.2
                refine va_sld hx hb hX hbl hbA G.2 hi43 dL_law_397 ?_
                refine lv_aload_n hx hb dL_law_398 rfl (lv_at hl 0 rfl) ?_
                refine lv_iload hx hb dL_law_399 (lv_at hl 4 rfl) ?_
                refine lv_iconst (v := (2 : Int32)) hx hb dL_law_401 (by decide) ?_
                refine lv_iadd hx hb dL_law_402 ?_
                have hi44 := h.1
                have h := h.2
                refine va_sld hx hb hX hbl hbA G.2 hi44 dL_law_403 ?_
                refine e_callVi (As := [.int (xs (x4 + (1 : Int32)).toNatClampNeg), .int (xs (x4 + (2 : Int32)).toNatClampNeg)]) (rest := []) ⟨hx, hb, hml, hown, hts⟩ K G 0 (by decide) gl_0 rfl (c_X10_next h) (cwV 2 hts gw_51 rfl rfl rfl (by decide +kernel) ⟨Nat.le_of_ble_eq_true rfl, Nat.le_of_ble_eq_true rfl⟩) rfl hl.1 rfl (Nat.le_of_ble_eq_true rfl) dL_law_404 hcs.le (fun r46 σ45 H locs h G => ?_)
                refine lv_aload_n hx hb dL_law_407 rfl (lv_at hl 2 rfl) ?_
                refine lv_aload_n hx hb dL_law_408 rfl (lv_at hl 0 rfl) ?_
                refine lv_iload hx hb dL_law_409 (lv_at hl 4 rfl) ?_
                refine lv_iconst (v := (1 : Int32)) hx hb dL_law_411 (by decide) ?_
                refine lv_iadd hx hb dL_law_412 ?_
                have hi47 := h.1
                have h := h.2
                refine va_sld hx hb hX hbl hbA G.2 hi47 dL_law_413 ?_
                refine lv_aload_n hx hb dL_law_414 rfl (lv_at hl 0 rfl) ?_
                refine lv_iload hx hb dL_law_415 (lv_at hl 4 rfl) ?_
                refine lv_iconst (v := (2 : Int32)) hx hb dL_law_417 (by decide) ?_
                refine lv_iadd hx hb dL_law_418 ?_
                have hi48 := h.1
                have h := h.2
                refine va_sld hx hb hX hbl hbA G.2 hi48 dL_law_419 ?_
                refine e_callVi (As := [.int (xs (x4 + (1 : Int32)).toNatClampNeg), .int (xs (x4 + (2 : Int32)).toNatClampNeg)]) (rest := [.int (r46)]) ⟨hx, hb, hml, hown, hts⟩ K G 97 (by decide) gl_97 rfl (c_X11_next h) (cwV 2 hts gw_54 rfl rfl rfl (by decide +kernel) ⟨Nat.le_of_ble_eq_true rfl, Nat.le_of_ble_eq_true rfl⟩) rfl hl.1 rfl (Nat.le_of_ble_eq_true rfl) dL_law_420 hcs.le (fun r50 σ49 H locs h G => ?_)
                refine lv_icmp_eq (tgt := 2415) hx hb dL_law_423 (by decide) (fun c51 => ?_) (fun c51 => ?_)
                · have h := h.1 c51
                  exact l_L_law_2415 (fu := n) C K hX hbl hbA hb0 hfl V hp (hK23 := ih) σ49 x4 _ _ _ _ _ hcs.dec  h G (lv_sub hl [0, 1, 2, 3, 4] rfl)
                · have h := h.2 c51
                  refine lv_iconst (v := (0 : Int32)) hx hb dL_law_426 (by decide) ?_
                  exact le_ret hx hb hr hlocks hcs hb0 G (hp _ _ h) dL_law_427
              · have h := h.2 c42
                by_cases c52 : v3 = (5 : Int32)
                · have h := h.1 c52
                  refine lv_tableIn (tgt := 428) hx hb dL_law_40 (by rw [c52]; decide) (by rw [c52]; decide) (by rw [c52]; rfl) (by decide) ?_
                  refine lv_aload_n hx hb dL_law_428 rfl (lv_at hl 1 rfl) ?_
                  refine lv_aload_n hx hb dL_law_429 rfl (lv_at hl 0 rfl) ?_
                  refine lv_iload hx hb dL_law_430 (lv_at hl 4 rfl) ?_
                  refine lv_iconst (v := (1 : Int32)) hx hb dL_law_432 (by decide) ?_
                  refine lv_iadd hx hb dL_law_433 ?_
                  have hi53 := h.1
                  have h := h.2
                  refine va_sld hx hb hX hbl hbA G.2 hi53 dL_law_434 ?_
                  refine lv_aload_n hx hb dL_law_435 rfl (lv_at hl 0 rfl) ?_
                  refine lv_iload hx hb dL_law_436 (lv_at hl 4 rfl) ?_
                  refine lv_iconst (v := (2 : Int32)) hx hb dL_law_438 (by decide) ?_
                  refine lv_iadd hx hb dL_law_439 ?_
                  have hi54 := h.1
                  have h := h.2
                  refine va_sld hx hb hX hbl hbA G.2 hi54 dL_law_440 ?_
                  refine lv_aload_n hx hb dL_law_441 rfl (lv_at hl 0 rfl) ?_
                  refine lv_iload hx hb dL_law_442 (lv_at hl 4 rfl) ?_
                  refine lv_iconst (v := (3 : Int32)) hx hb dL_law_444 (by decide) ?_
                  refine lv_iadd hx hb dL_law_445 ?_
                  have hi55 := h.1
                  have h := h.2
                  refine va_sld hx hb hX hbl hbA G.2 hi55 dL_law_446 ?_
                  refine lv_aload_n hx hb dL_law_447 rfl (lv_at hl 0 rfl) ?_
                  refine lv_iload hx hb dL_law_448 (lv_at hl 4 rfl) ?_
                  refine lv_iconst (v := (4 : Int32)) hx hb dL_law_450 (by decide) ?_
                  refine lv_iadd hx hb dL_law_451 ?_
                  have hi56 := h.1
                  have h := h.2
                  refine va_sld hx hb hX hbl hbA G.2 hi56 dL_law_452 ?_
                  refine e_callVi (As := [.int (xs (x4 + (1 : Int32)).toNatClampNeg), .int (xs (x4 + (2 : Int32)).toNatClampNeg), .int (xs (x4 + (3 : Int32)).toNatClampNeg), .int (xs (x4 + (4 : Int32)).toNatClampNeg)]) (rest := []) ⟨hx, hb, hml, hown, hts⟩ K G 0 (by decide) gl_0 rfl (c_X10_sheet h) (cwV 4 hts gw_55 rfl rfl rfl (by decide +kernel) ⟨Nat.le_of_ble_eq_true rfl, Nat.le_of_ble_eq_true rfl⟩) rfl hl.1 rfl (Nat.le_of_ble_eq_true rfl) dL_law_453 hcs.le (fun r58 σ57 H locs h G => ?_)
                  refine lv_aload_n hx hb dL_law_456 rfl (lv_at hl 2 rfl) ?_
                  refine lv_aload_n hx hb dL_law_457 rfl (lv_at hl 0 rfl) ?_
                  refine lv_iload hx hb dL_law_458 (lv_at hl 4 rfl) ?_
                  refine lv_iconst (v := (1 : Int32)) hx hb dL_law_460 (by decide) ?_
                  refine lv_iadd hx hb dL_law_461 ?_
                  have hi59 := h.1
                  have h := h.2
                  refine va_sld hx hb hX hbl hbA G.2 hi59 dL_law_462 ?_
                  refine lv_aload_n hx hb dL_law_463 rfl (lv_at hl 0 rfl) ?_
                  refine lv_iload hx hb dL_law_464 (lv_at hl 4 rfl) ?_
                  refine lv_iconst (v := (2 : Int32)) hx hb dL_law_466 (by decide) ?_
                  refine lv_iadd hx hb dL_law_467 ?_
                  have hi60 := h.1
                  have h := h.2
                  refine va_sld hx hb hX hbl hbA G.2 hi60 dL_law_468 ?_
                  refine lv_aload_n hx hb dL_law_469 rfl (lv_at hl 0 rfl) ?_
                  refine lv_iload hx hb dL_law_470 (lv_at hl 4 rfl) ?_
                  refine lv_iconst (v := (3 : Int32)) hx hb dL_law_472 (by decide) ?_
                  refine lv_iadd hx hb dL_law_473 ?_
                  have hi61 := h.1
                  have h := h.2
                  refine va_sld hx hb hX hbl hbA G.2 hi61 dL_law_474 ?_
                  refine lv_aload_n hx hb dL_law_475 rfl (lv_at hl 0 rfl) ?_
                  refine lv_iload hx hb dL_law_476 (lv_at hl 4 rfl) ?_
                  refine lv_iconst (v := (4 : Int32)) hx hb dL_law_478 (by decide) ?_
                  refine lv_iadd hx hb dL_law_479 ?_
                  have hi62 := h.1
                  have h := h.2
                  refine va_sld hx hb hX hbl hbA G.2 hi62 dL_law_480 ?_
                  refine e_callVi (As := [.int (xs (x4 + (1 : Int32)).toNatClampNeg), .int (xs (x4 + (2 : Int32)).toNatClampNeg), .int (xs (x4 + (3 : Int32)).toNatClampNeg), .int (xs (x4 + (4 : Int32)).toNatClampNeg)]) (rest := [.int (r58)]) ⟨hx, hb, hml, hown, hts⟩ K G 97 (by decide) gl_97 rfl (c_X11_sheet h) (cwV 4 hts gw_59 rfl rfl rfl (by decide +kernel) ⟨Nat.le_of_ble_eq_true rfl, Nat.le_of_ble_eq_true rfl⟩) rfl hl.1 rfl (Nat.le_of_ble_eq_true rfl) dL_law_481 hcs.le (fun r64 σ63 H locs h G => ?_)
                  refine lv_icmp_eq (tgt := 2415) hx hb dL_law_484 (by decide) (fun c65 => ?_) (fun c65 => ?_)
                  · have h := h.1 c65
                    exact l_L_law_2415 (fu := n) C K hX hbl hbA hb0 hfl V hp (hK23 := ih) σ63 x4 _ _ _ _ _ hcs.dec  h G (lv_sub hl [0, 1, 2, 3, 4] rfl)
                  · have h := h.2 c65
                    refine lv_iconst (v := (0 : Int32)) hx hb dL_law_487 (by decide) ?_
                    exact le_ret hx hb hr hlocks hcs hb0 G (hp _ _ h) dL_law_488
                · have h := h.2 c52
                  by_cases c66 : v3 = (6 : Int32)
                  · have h := h.1 c66
                    refine lv_tableIn (tgt := 489) hx hb dL_law_40 (by rw [c66]; decide) (by rw [c66]; decide) (by rw [c66]; rfl) (by decide) ?_
                    refine lv_aload_n hx hb dL_law_489 rfl (lv_at hl 1 rfl) ?_
                    refine lv_aload_n hx hb dL_law_490 rfl (lv_at hl 0 rfl) ?_
                    refine lv_iload hx hb dL_law_491 (lv_at hl 4 rfl) ?_
                    refine lv_iconst (v := (1 : Int32)) hx hb dL_law_493 (by decide) ?_
                    refine lv_iadd hx hb dL_law_494 ?_
                    have hi67 := h.1
                    have h := h.2
                    refine va_sld hx hb hX hbl hbA G.2 hi67 dL_law_495 ?_
                    refine lv_aload_n hx hb dL_law_496 rfl (lv_at hl 0 rfl) ?_
                    refine lv_iload hx hb dL_law_497 (lv_at hl 4 rfl) ?_
                    refine lv_iconst (v := (2 : Int32)) hx hb dL_law_499 (by decide) ?_
                    refine lv_iadd hx hb dL_law_500 ?_
                    have hi68 := h.1
                    have h := h.2
                    refine va_sld hx hb hX hbl hbA G.2 hi68 dL_law_501 ?_
                    refine e_callVi (As := [.int (xs (x4 + (1 : Int32)).toNatClampNeg), .int (xs (x4 + (2 : Int32)).toNatClampNeg)]) (rest := []) ⟨hx, hb, hml, hown, hts⟩ K G 0 (by decide) gl_0 rfl (c_X10_far h) (cwV 2 hts gw_60 rfl rfl rfl (by decide +kernel) ⟨Nat.le_of_ble_eq_true rfl, Nat.le_of_ble_eq_true rfl⟩) rfl hl.1 rfl (Nat.le_of_ble_eq_true rfl) dL_law_502 hcs.le (fun r70 σ69 H locs h G => ?_)
                    refine lv_aload_n hx hb dL_law_505 rfl (lv_at hl 2 rfl) ?_
                    refine lv_aload_n hx hb dL_law_506 rfl (lv_at hl 0 rfl) ?_
                    refine lv_iload hx hb dL_law_507 (lv_at hl 4 rfl) ?_
                    refine lv_iconst (v := (1 : Int32)) hx hb dL_law_509 (by decide) ?_
                    refine lv_iadd hx hb dL_law_510 ?_
                    have hi71 := h.1
                    have h := h.2
                    refine va_sld hx hb hX hbl hbA G.2 hi71 dL_law_511 ?_
                    refine lv_aload_n hx hb dL_law_512 rfl (lv_at hl 0 rfl) ?_
                    refine lv_iload hx hb dL_law_513 (lv_at hl 4 rfl) ?_
                    refine lv_iconst (v := (2 : Int32)) hx hb dL_law_515 (by decide) ?_
                    refine lv_iadd hx hb dL_law_516 ?_
                    have hi72 := h.1
                    have h := h.2
                    refine va_sld hx hb hX hbl hbA G.2 hi72 dL_law_517 ?_
                    refine e_callVi (As := [.int (xs (x4 + (1 : Int32)).toNatClampNeg), .int (xs (x4 + (2 : Int32)).toNatClampNeg)]) (rest := [.int (r70)]) ⟨hx, hb, hml, hown, hts⟩ K G 97 (by decide) gl_97 rfl (c_X11_far h) (cwV 2 hts gw_63 rfl rfl rfl (by decide +kernel) ⟨Nat.le_of_ble_eq_true rfl, Nat.le_of_ble_eq_true rfl⟩) rfl hl.1 rfl (Nat.le_of_ble_eq_true rfl) dL_law_518 hcs.le (fun r74 σ73 H locs h G => ?_)
                    refine lv_icmp_eq (tgt := 2415) hx hb dL_law_521 (by decide) (fun c75 => ?_) (fun c75 => ?_)
                    · have h := h.1 c75
                      exact l_L_law_2415 (fu := n) C K hX hbl hbA hb0 hfl V hp (hK23 := ih) σ73 x4 _ _ _ _ _ hcs.dec  h G (lv_sub hl [0, 1, 2, 3, 4] rfl)
                    · have h := h.2 c75
                      refine lv_iconst (v := (0 : Int32)) hx hb dL_law_524 (by decide) ?_
                      exact le_ret hx hb hr hlocks hcs hb0 G (hp _ _ h) dL_law_525
                  · have h := h.2 c66
                    by_cases c76 : v3 = (7 : Int32)
                    · have h := h.1 c76
                      refine lv_tableIn (tgt := 526) hx hb dL_law_40 (by rw [c76]; decide) (by rw [c76]; decide) (by rw [c76]; rfl) (by decide) ?_
                      refine lv_aload_n hx hb dL_law_526 rfl (lv_at hl 1 rfl) ?_
                      refine lv_aload_n hx hb dL_law_527 rfl (lv_at hl 0 rfl) ?_
                      refine lv_iload hx hb dL_law_528 (lv_at hl 4 rfl) ?_
                      refine lv_iconst (v := (1 : Int32)) hx hb dL_law_530 (by decide) ?_
                      refine lv_iadd hx hb dL_law_531 ?_
                      have hi77 := h.1
                      have h := h.2
                      refine va_sld hx hb hX hbl hbA G.2 hi77 dL_law_532 ?_
                      refine lv_i2l hx hb dL_law_533 rfl ?_
                      refine lv_bipush (v := (32 : Int32)) hx hb dL_law_534 (by decide) ?_
                      refine lv_lshl hx hb dL_law_536 rfl ?_
                      refine lv_aload_n hx hb dL_law_537 rfl (lv_at hl 0 rfl) ?_
                      refine lv_iload hx hb dL_law_538 (lv_at hl 4 rfl) ?_
                      refine lv_iconst (v := (2 : Int32)) hx hb dL_law_540 (by decide) ?_
                      refine lv_iadd hx hb dL_law_541 ?_
                      have hi78 := h.1
                      have h := h.2
                      refine va_sld hx hb hX hbl hbA G.2 hi78 dL_law_542 ?_
                      refine lv_i2l hx hb dL_law_543 rfl ?_
                      refine lv_ldc2 (v := (4294967295 : Int64)) hx hb hown (hts (.constantLong RL 64 (4294967295)) tw_1245) dL_law_544 ?_
                      refine lv_land hx hb dL_law_547 ?_
                      refine lv_lor hx hb dL_law_548 ?_
                      refine e_callVi (As := [.long ((((xs (x4 + (1 : Int32)).toNatClampNeg).toInt64) <<< (((32 : Int32)).toInt64 &&& 63)) ||| (((xs (x4 + (2 : Int32)).toNatClampNeg).toInt64) &&& (4294967295 : Int64)))]) (rest := []) ⟨hx, hb, hml, hown, hts⟩ K G 0 (by decide) gl_0 rfl (c_X10_pass h) (cwV 1 hts gw_66 rfl rfl rfl (by decide +kernel) ⟨Nat.le_of_ble_eq_true rfl, Nat.le_of_ble_eq_true rfl⟩) rfl hl.1 rfl (Nat.le_of_ble_eq_true rfl) dL_law_549 hcs.le (fun r80 σ79 H locs h G => ?_)
                      refine lv_aload_n hx hb dL_law_552 rfl (lv_at hl 2 rfl) ?_
                      refine lv_aload_n hx hb dL_law_553 rfl (lv_at hl 0 rfl) ?_
                      refine lv_iload hx hb dL_law_554 (lv_at hl 4 rfl) ?_
                      refine lv_iconst (v := (1 : Int32)) hx hb dL_law_556 (by decide) ?_
                      refine lv_iadd hx hb dL_law_557 ?_
                      have hi81 := h.1
                      have h := h.2
                      refine va_sld hx hb hX hbl hbA G.2 hi81 dL_law_558 ?_
                      refine lv_i2l hx hb dL_law_559 rfl ?_
                      refine lv_bipush (v := (32 : Int32)) hx hb dL_law_560 (by decide) ?_
                      refine lv_lshl hx hb dL_law_562 rfl ?_
                      refine lv_aload_n hx hb dL_law_563 rfl (lv_at hl 0 rfl) ?_
                      refine lv_iload hx hb dL_law_564 (lv_at hl 4 rfl) ?_
                      refine lv_iconst (v := (2 : Int32)) hx hb dL_law_566 (by decide) ?_
                      refine lv_iadd hx hb dL_law_567 ?_
                      have hi82 := h.1
                      have h := h.2
                      refine va_sld hx hb hX hbl hbA G.2 hi82 dL_law_568 ?_
                      refine lv_i2l hx hb dL_law_569 rfl ?_
                      refine lv_ldc2 (v := (4294967295 : Int64)) hx hb hown (hts (.constantLong RL 64 (4294967295)) tw_1245) dL_law_570 ?_
                      refine lv_land hx hb dL_law_573 ?_
                      refine lv_lor hx hb dL_law_574 ?_
                      refine e_callVi (As := [.long ((((xs (x4 + (1 : Int32)).toNatClampNeg).toInt64) <<< (((32 : Int32)).toInt64 &&& 63)) ||| (((xs (x4 + (2 : Int32)).toNatClampNeg).toInt64) &&& (4294967295 : Int64)))]) (rest := [.int (r80)]) ⟨hx, hb, hml, hown, hts⟩ K G 97 (by decide) gl_97 rfl (c_X11_pass h) (cwV 1 hts gw_70 rfl rfl rfl (by decide +kernel) ⟨Nat.le_of_ble_eq_true rfl, Nat.le_of_ble_eq_true rfl⟩) rfl hl.1 rfl (Nat.le_of_ble_eq_true rfl) dL_law_575 hcs.le (fun r84 σ83 H locs h G => ?_)
                      refine lv_icmp_eq (tgt := 2415) hx hb dL_law_578 (by decide) (fun c85 => ?_) (fun c85 => ?_)
                      · have h := h.1 c85
                        exact l_L_law_2415 (fu := n) C K hX hbl hbA hb0 hfl V hp (hK23 := ih) σ83 x4 _ _ _ _ _ hcs.dec  h G (lv_sub hl [0, 1, 2, 3, 4] rfl)
                      · have h := h.2 c85
                        refine lv_iconst (v := (0 : Int32)) hx hb dL_law_581 (by decide) ?_
                        exact le_ret hx hb hr hlocks hcs hb0 G (hp _ _ h) dL_law_582
                    · have h := h.2 c76
                      by_cases c86 : v3 = (8 : Int32)
                      · have h := h.1 c86
                        refine lv_tableIn (tgt := 583) hx hb dL_law_40 (by rw [c86]; decide) (by rw [c86]; decide) (by rw [c86]; rfl) (by decide) ?_
                        refine lv_aload_n hx hb dL_law_583 rfl (lv_at hl 1 rfl) ?_
                        refine lv_aload_n hx hb dL_law_584 rfl (lv_at hl 0 rfl) ?_
                        refine lv_iload hx hb dL_law_585 (lv_at hl 4 rfl) ?_
                        refine lv_iconst (v := (1 : Int32)) hx hb dL_law_587 (by decide) ?_
                        refine lv_iadd hx hb dL_law_588 ?_
                        have hi87 := h.1
                        have h := h.2
                        refine va_sld hx hb hX hbl hbA G.2 hi87 dL_law_589 ?_
                        refine lv_aload_n hx hb dL_law_590 rfl (lv_at hl 0 rfl) ?_
                        refine lv_iload hx hb dL_law_591 (lv_at hl 4 rfl) ?_
                        refine lv_iconst (v := (2 : Int32)) hx hb dL_law_593 (by decide) ?_
                        refine lv_iadd hx hb dL_law_594 ?_
                        have hi88 := h.1
                        have h := h.2
                        refine va_sld hx hb hX hbl hbA G.2 hi88 dL_law_595 ?_
                        refine lv_i2l hx hb dL_law_596 rfl ?_
                        refine lv_bipush (v := (32 : Int32)) hx hb dL_law_597 (by decide) ?_
                        refine lv_lshl hx hb dL_law_599 rfl ?_
                        refine lv_aload_n hx hb dL_law_600 rfl (lv_at hl 0 rfl) ?_
                        refine lv_iload hx hb dL_law_601 (lv_at hl 4 rfl) ?_
                        refine lv_iconst (v := (3 : Int32)) hx hb dL_law_603 (by decide) ?_
                        refine lv_iadd hx hb dL_law_604 ?_
                        have hi89 := h.1
                        have h := h.2
                        refine va_sld hx hb hX hbl hbA G.2 hi89 dL_law_605 ?_
                        refine lv_i2l hx hb dL_law_606 rfl ?_
                        refine lv_ldc2 (v := (4294967295 : Int64)) hx hb hown (hts (.constantLong RL 64 (4294967295)) tw_1245) dL_law_607 ?_
                        refine lv_land hx hb dL_law_610 ?_
                        refine lv_lor hx hb dL_law_611 ?_
                        refine e_callVi (As := [.int (xs (x4 + (1 : Int32)).toNatClampNeg), .long ((((xs (x4 + (2 : Int32)).toNatClampNeg).toInt64) <<< (((32 : Int32)).toInt64 &&& 63)) ||| (((xs (x4 + (3 : Int32)).toNatClampNeg).toInt64) &&& (4294967295 : Int64)))]) (rest := []) ⟨hx, hb, hml, hown, hts⟩ K G 0 (by decide) gl_0 rfl (c_X10_name h) (cwV 2 hts gw_71 rfl rfl rfl (by decide +kernel) ⟨Nat.le_of_ble_eq_true rfl, Nat.le_of_ble_eq_true rfl⟩) rfl hl.1 rfl (Nat.le_of_ble_eq_true rfl) dL_law_612 hcs.le (fun r91 σ90 H locs h G => ?_)
                        refine lv_aload_n hx hb dL_law_615 rfl (lv_at hl 2 rfl) ?_
                        refine lv_aload_n hx hb dL_law_616 rfl (lv_at hl 0 rfl) ?_
                        refine lv_iload hx hb dL_law_617 (lv_at hl 4 rfl) ?_
                        refine lv_iconst (v := (1 : Int32)) hx hb dL_law_619 (by decide) ?_
                        refine lv_iadd hx hb dL_law_620 ?_
                        have hi92 := h.1
                        have h := h.2
                        refine va_sld hx hb hX hbl hbA G.2 hi92 dL_law_621 ?_
                        refine lv_aload_n hx hb dL_law_622 rfl (lv_at hl 0 rfl) ?_
                        refine lv_iload hx hb dL_law_623 (lv_at hl 4 rfl) ?_
                        refine lv_iconst (v := (2 : Int32)) hx hb dL_law_625 (by decide) ?_
                        refine lv_iadd hx hb dL_law_626 ?_
                        have hi93 := h.1
                        have h := h.2
                        refine va_sld hx hb hX hbl hbA G.2 hi93 dL_law_627 ?_
                        refine lv_i2l hx hb dL_law_628 rfl ?_
                        refine lv_bipush (v := (32 : Int32)) hx hb dL_law_629 (by decide) ?_
                        refine lv_lshl hx hb dL_law_631 rfl ?_
                        refine lv_aload_n hx hb dL_law_632 rfl (lv_at hl 0 rfl) ?_
                        refine lv_iload hx hb dL_law_633 (lv_at hl 4 rfl) ?_
                        refine lv_iconst (v := (3 : Int32)) hx hb dL_law_635 (by decide) ?_
                        refine lv_iadd hx hb dL_law_636 ?_
                        have hi94 := h.1
                        have h := h.2
                        refine va_sld hx hb hX hbl hbA G.2 hi94 dL_law_637 ?_
                        refine lv_i2l hx hb dL_law_638 rfl ?_
                        refine lv_ldc2 (v := (4294967295 : Int64)) hx hb hown (hts (.constantLong RL 64 (4294967295)) tw_1245) dL_law_639 ?_
                        refine lv_land hx hb dL_law_642 ?_
                        refine lv_lor hx hb dL_law_643 ?_
                        refine e_callVi (As := [.int (xs (x4 + (1 : Int32)).toNatClampNeg), .long ((((xs (x4 + (2 : Int32)).toNatClampNeg).toInt64) <<< (((32 : Int32)).toInt64 &&& 63)) ||| (((xs (x4 + (3 : Int32)).toNatClampNeg).toInt64) &&& (4294967295 : Int64)))]) (rest := [.int (r91)]) ⟨hx, hb, hml, hown, hts⟩ K G 97 (by decide) gl_97 rfl (c_X11_name h) (cwV 2 hts gw_75 rfl rfl rfl (by decide +kernel) ⟨Nat.le_of_ble_eq_true rfl, Nat.le_of_ble_eq_true rfl⟩) rfl hl.1 rfl (Nat.le_of_ble_eq_true rfl) dL_law_644 hcs.le (fun r96 σ95 H locs h G => ?_)
                        refine lv_icmp_eq (tgt := 2415) hx hb dL_law_647 (by decide) (fun c97 => ?_) (fun c97 => ?_)
                        · have h := h.1 c97
                          exact l_L_law_2415 (fu := n) C K hX hbl hbA hb0 hfl V hp (hK23 := ih) σ95 x4 _ _ _ _ _ hcs.dec  h G (lv_sub hl [0, 1, 2, 3, 4] rfl)
                        · have h := h.2 c97
                          refine lv_iconst (v := (0 : Int32)) hx hb dL_law_650 (by decide) ?_
                          exact le_ret hx hb hr hlocks hcs hb0 G (hp _ _ h) dL_law_651
                      · have h := h.2 c86
                        by_cases c98 : v3 = (9 : Int32)
                        · have h := h.1 c98
                          refine lv_tableIn (tgt := 652) hx hb dL_law_40 (by rw [c98]; decide) (by rw [c98]; decide) (by rw [c98]; rfl) (by decide) ?_
                          refine lv_aload_n hx hb dL_law_652 rfl (lv_at hl 1 rfl) ?_
                          refine lv_aload_n hx hb dL_law_653 rfl (lv_at hl 0 rfl) ?_
                          refine lv_iload hx hb dL_law_654 (lv_at hl 4 rfl) ?_
                          refine lv_iconst (v := (1 : Int32)) hx hb dL_law_656 (by decide) ?_
                          refine lv_iadd hx hb dL_law_657 ?_
                          have hi99 := h.1
                          have h := h.2
                          refine va_sld hx hb hX hbl hbA G.2 hi99 dL_law_658 ?_
                          refine lv_aload_n hx hb dL_law_659 rfl (lv_at hl 0 rfl) ?_
                          refine lv_iload hx hb dL_law_660 (lv_at hl 4 rfl) ?_
                          refine lv_iconst (v := (2 : Int32)) hx hb dL_law_662 (by decide) ?_
                          refine lv_iadd hx hb dL_law_663 ?_
                          have hi100 := h.1
                          have h := h.2
                          refine va_sld hx hb hX hbl hbA G.2 hi100 dL_law_664 ?_
                          refine lv_i2l hx hb dL_law_665 rfl ?_
                          refine lv_bipush (v := (32 : Int32)) hx hb dL_law_666 (by decide) ?_
                          refine lv_lshl hx hb dL_law_668 rfl ?_
                          refine lv_aload_n hx hb dL_law_669 rfl (lv_at hl 0 rfl) ?_
                          refine lv_iload hx hb dL_law_670 (lv_at hl 4 rfl) ?_
                          refine lv_iconst (v := (3 : Int32)) hx hb dL_law_672 (by decide) ?_
                          refine lv_iadd hx hb dL_law_673 ?_
                          have hi101 := h.1
                          have h := h.2
                          refine va_sld hx hb hX hbl hbA G.2 hi101 dL_law_674 ?_
                          refine lv_i2l hx hb dL_law_675 rfl ?_
                          refine lv_ldc2 (v := (4294967295 : Int64)) hx hb hown (hts (.constantLong RL 64 (4294967295)) tw_1245) dL_law_676 ?_
                          refine lv_land hx hb dL_law_679 ?_
                          refine lv_lor hx hb dL_law_680 ?_
                          refine e_callVi (As := [.int (xs (x4 + (1 : Int32)).toNatClampNeg), .long ((((xs (x4 + (2 : Int32)).toNatClampNeg).toInt64) <<< (((32 : Int32)).toInt64 &&& 63)) ||| (((xs (x4 + (3 : Int32)).toNatClampNeg).toInt64) &&& (4294967295 : Int64)))]) (rest := []) ⟨hx, hb, hml, hown, hts⟩ K G 0 (by decide) gl_0 rfl (c_X10_where h) (cwV 2 hts gw_76 rfl rfl rfl (by decide +kernel) ⟨Nat.le_of_ble_eq_true rfl, Nat.le_of_ble_eq_true rfl⟩) rfl hl.1 rfl (Nat.le_of_ble_eq_true rfl) dL_law_681 hcs.le (fun r103 σ102 H locs h G => ?_)
                          refine lv_aload_n hx hb dL_law_684 rfl (lv_at hl 2 rfl) ?_
                          refine lv_aload_n hx hb dL_law_685 rfl (lv_at hl 0 rfl) ?_
                          refine lv_iload hx hb dL_law_686 (lv_at hl 4 rfl) ?_
                          refine lv_iconst (v := (1 : Int32)) hx hb dL_law_688 (by decide) ?_
                          refine lv_iadd hx hb dL_law_689 ?_
                          have hi104 := h.1
                          have h := h.2
                          refine va_sld hx hb hX hbl hbA G.2 hi104 dL_law_690 ?_
                          refine lv_aload_n hx hb dL_law_691 rfl (lv_at hl 0 rfl) ?_
                          refine lv_iload hx hb dL_law_692 (lv_at hl 4 rfl) ?_
                          refine lv_iconst (v := (2 : Int32)) hx hb dL_law_694 (by decide) ?_
                          refine lv_iadd hx hb dL_law_695 ?_
                          have hi105 := h.1
                          have h := h.2
                          refine va_sld hx hb hX hbl hbA G.2 hi105 dL_law_696 ?_
                          refine lv_i2l hx hb dL_law_697 rfl ?_
                          refine lv_bipush (v := (32 : Int32)) hx hb dL_law_698 (by decide) ?_
                          refine lv_lshl hx hb dL_law_700 rfl ?_
                          refine lv_aload_n hx hb dL_law_701 rfl (lv_at hl 0 rfl) ?_
                          refine lv_iload hx hb dL_law_702 (lv_at hl 4 rfl) ?_
                          refine lv_iconst (v := (3 : Int32)) hx hb dL_law_704 (by decide) ?_
                          refine lv_iadd hx hb dL_law_705 ?_
                          have hi106 := h.1
                          have h := h.2
                          refine va_sld hx hb hX hbl hbA G.2 hi106 dL_law_706 ?_
                          refine lv_i2l hx hb dL_law_707 rfl ?_
                          refine lv_ldc2 (v := (4294967295 : Int64)) hx hb hown (hts (.constantLong RL 64 (4294967295)) tw_1245) dL_law_708 ?_
                          refine lv_land hx hb dL_law_711 ?_
                          refine lv_lor hx hb dL_law_712 ?_
                          refine e_callVi (As := [.int (xs (x4 + (1 : Int32)).toNatClampNeg), .long ((((xs (x4 + (2 : Int32)).toNatClampNeg).toInt64) <<< (((32 : Int32)).toInt64 &&& 63)) ||| (((xs (x4 + (3 : Int32)).toNatClampNeg).toInt64) &&& (4294967295 : Int64)))]) (rest := [.int (r103)]) ⟨hx, hb, hml, hown, hts⟩ K G 97 (by decide) gl_97 rfl (c_X11_where h) (cwV 2 hts gw_79 rfl rfl rfl (by decide +kernel) ⟨Nat.le_of_ble_eq_true rfl, Nat.le_of_ble_eq_true rfl⟩) rfl hl.1 rfl (Nat.le_of_ble_eq_true rfl) dL_law_713 hcs.le (fun r108 σ107 H locs h G => ?_)
                          refine lv_icmp_eq (tgt := 2415) hx hb dL_law_716 (by decide) (fun c109 => ?_) (fun c109 => ?_)
                          · have h := h.1 c109
                            exact l_L_law_2415 (fu := n) C K hX hbl hbA hb0 hfl V hp (hK23 := ih) σ107 x4 _ _ _ _ _ hcs.dec  h G (lv_sub hl [0, 1, 2, 3, 4] rfl)
                          · have h := h.2 c109
                            refine lv_iconst (v := (0 : Int32)) hx hb dL_law_719 (by decide) ?_
                            exact le_ret hx hb hr hlocks hcs hb0 G (hp _ _ h) dL_law_720
                        · have h := h.2 c98
                          by_cases c110 : v3 = (10 : Int32)
                          · have h := h.1 c110
                            refine lv_tableIn (tgt := 721) hx hb dL_law_40 (by rw [c110]; decide) (by rw [c110]; decide) (by rw [c110]; rfl) (by decide) ?_
                            refine lv_aload_n hx hb dL_law_721 rfl (lv_at hl 1 rfl) ?_
                            refine lv_aload_n hx hb dL_law_722 rfl (lv_at hl 0 rfl) ?_
                            refine lv_iload hx hb dL_law_723 (lv_at hl 4 rfl) ?_
                            refine lv_iconst (v := (1 : Int32)) hx hb dL_law_725 (by decide) ?_
                            refine lv_iadd hx hb dL_law_726 ?_
                            have hi111 := h.1
                            have h := h.2
                            refine va_sld hx hb hX hbl hbA G.2 hi111 dL_law_727 ?_
                            refine lv_i2l hx hb dL_law_728 rfl ?_
                            refine lv_bipush (v := (32 : Int32)) hx hb dL_law_729 (by decide) ?_
                            refine lv_lshl hx hb dL_law_731 rfl ?_
                            refine lv_aload_n hx hb dL_law_732 rfl (lv_at hl 0 rfl) ?_
                            refine lv_iload hx hb dL_law_733 (lv_at hl 4 rfl) ?_
                            refine lv_iconst (v := (2 : Int32)) hx hb dL_law_735 (by decide) ?_
                            refine lv_iadd hx hb dL_law_736 ?_
                            have hi112 := h.1
                            have h := h.2
                            refine va_sld hx hb hX hbl hbA G.2 hi112 dL_law_737 ?_
                            refine lv_i2l hx hb dL_law_738 rfl ?_
                            refine lv_ldc2 (v := (4294967295 : Int64)) hx hb hown (hts (.constantLong RL 64 (4294967295)) tw_1245) dL_law_739 ?_
                            refine lv_land hx hb dL_law_742 ?_
                            refine lv_lor hx hb dL_law_743 ?_
                            refine lv_aload_n hx hb dL_law_744 rfl (lv_at hl 0 rfl) ?_
                            refine lv_iload hx hb dL_law_745 (lv_at hl 4 rfl) ?_
                            refine lv_iconst (v := (3 : Int32)) hx hb dL_law_747 (by decide) ?_
                            refine lv_iadd hx hb dL_law_748 ?_
                            have hi113 := h.1
                            have h := h.2
                            refine va_sld hx hb hX hbl hbA G.2 hi113 dL_law_749 ?_
                            refine lv_i2l hx hb dL_law_750 rfl ?_
                            refine lv_bipush (v := (32 : Int32)) hx hb dL_law_751 (by decide) ?_
                            refine lv_lshl hx hb dL_law_753 rfl ?_
                            refine lv_aload_n hx hb dL_law_754 rfl (lv_at hl 0 rfl) ?_
                            refine lv_iload hx hb dL_law_755 (lv_at hl 4 rfl) ?_
                            refine lv_iconst (v := (4 : Int32)) hx hb dL_law_757 (by decide) ?_
                            refine lv_iadd hx hb dL_law_758 ?_
                            have hi114 := h.1
                            have h := h.2
                            refine va_sld hx hb hX hbl hbA G.2 hi114 dL_law_759 ?_
                            refine lv_i2l hx hb dL_law_760 rfl ?_
                            refine lv_ldc2 (v := (4294967295 : Int64)) hx hb hown (hts (.constantLong RL 64 (4294967295)) tw_1245) dL_law_761 ?_
                            refine lv_land hx hb dL_law_764 ?_
                            refine lv_lor hx hb dL_law_765 ?_
                            refine e_callVi (As := [.long ((((xs (x4 + (1 : Int32)).toNatClampNeg).toInt64) <<< (((32 : Int32)).toInt64 &&& 63)) ||| (((xs (x4 + (2 : Int32)).toNatClampNeg).toInt64) &&& (4294967295 : Int64))), .long ((((xs (x4 + (3 : Int32)).toNatClampNeg).toInt64) <<< (((32 : Int32)).toInt64 &&& 63)) ||| (((xs (x4 + (4 : Int32)).toNatClampNeg).toInt64) &&& (4294967295 : Int64)))]) (rest := []) ⟨hx, hb, hml, hown, hts⟩ K G 0 (by decide) gl_0 rfl (c_X10_same h) (cwV 2 hts gw_80 rfl rfl rfl (by decide +kernel) ⟨Nat.le_of_ble_eq_true rfl, Nat.le_of_ble_eq_true rfl⟩) rfl hl.1 rfl (Nat.le_of_ble_eq_true rfl) dL_law_766 hcs.le (fun r116 σ115 H locs h G => ?_)
                            refine lv_aload_n hx hb dL_law_769 rfl (lv_at hl 2 rfl) ?_
                            refine lv_aload_n hx hb dL_law_770 rfl (lv_at hl 0 rfl) ?_
                            refine lv_iload hx hb dL_law_771 (lv_at hl 4 rfl) ?_
                            refine lv_iconst (v := (1 : Int32)) hx hb dL_law_773 (by decide) ?_
                            refine lv_iadd hx hb dL_law_774 ?_
                            have hi117 := h.1
                            have h := h.2
                            refine va_sld hx hb hX hbl hbA G.2 hi117 dL_law_775 ?_
                            refine lv_i2l hx hb dL_law_776 rfl ?_
                            refine lv_bipush (v := (32 : Int32)) hx hb dL_law_777 (by decide) ?_
                            refine lv_lshl hx hb dL_law_779 rfl ?_
                            refine lv_aload_n hx hb dL_law_780 rfl (lv_at hl 0 rfl) ?_
                            refine lv_iload hx hb dL_law_781 (lv_at hl 4 rfl) ?_
                            refine lv_iconst (v := (2 : Int32)) hx hb dL_law_783 (by decide) ?_
                            refine lv_iadd hx hb dL_law_784 ?_
                            have hi118 := h.1
                            have h := h.2
                            refine va_sld hx hb hX hbl hbA G.2 hi118 dL_law_785 ?_
                            refine lv_i2l hx hb dL_law_786 rfl ?_
                            refine lv_ldc2 (v := (4294967295 : Int64)) hx hb hown (hts (.constantLong RL 64 (4294967295)) tw_1245) dL_law_787 ?_
                            refine lv_land hx hb dL_law_790 ?_
                            refine lv_lor hx hb dL_law_791 ?_
                            refine lv_aload_n hx hb dL_law_792 rfl (lv_at hl 0 rfl) ?_
                            refine lv_iload hx hb dL_law_793 (lv_at hl 4 rfl) ?_
                            refine lv_iconst (v := (3 : Int32)) hx hb dL_law_795 (by decide) ?_
                            refine lv_iadd hx hb dL_law_796 ?_
                            have hi119 := h.1
                            have h := h.2
                            refine va_sld hx hb hX hbl hbA G.2 hi119 dL_law_797 ?_
                            refine lv_i2l hx hb dL_law_798 rfl ?_
                            refine lv_bipush (v := (32 : Int32)) hx hb dL_law_799 (by decide) ?_
                            refine lv_lshl hx hb dL_law_801 rfl ?_
                            refine lv_aload_n hx hb dL_law_802 rfl (lv_at hl 0 rfl) ?_
                            refine lv_iload hx hb dL_law_803 (lv_at hl 4 rfl) ?_
                            refine lv_iconst (v := (4 : Int32)) hx hb dL_law_805 (by decide) ?_
                            refine lv_iadd hx hb dL_law_806 ?_
                            have hi120 := h.1
                            have h := h.2
                            refine va_sld hx hb hX hbl hbA G.2 hi120 dL_law_807 ?_
                            refine lv_i2l hx hb dL_law_808 rfl ?_
                            refine lv_ldc2 (v := (4294967295 : Int64)) hx hb hown (hts (.constantLong RL 64 (4294967295)) tw_1245) dL_law_809 ?_
                            refine lv_land hx hb dL_law_812 ?_
                            refine lv_lor hx hb dL_law_813 ?_
                            refine e_callVi (As := [.long ((((xs (x4 + (1 : Int32)).toNatClampNeg).toInt64) <<< (((32 : Int32)).toInt64 &&& 63)) ||| (((xs (x4 + (2 : Int32)).toNatClampNeg).toInt64) &&& (4294967295 : Int64))), .long ((((xs (x4 + (3 : Int32)).toNatClampNeg).toInt64) <<< (((32 : Int32)).toInt64 &&& 63)) ||| (((xs (x4 + (4 : Int32)).toNatClampNeg).toInt64) &&& (4294967295 : Int64)))]) (rest := [.int (r116)]) ⟨hx, hb, hml, hown, hts⟩ K G 97 (by decide) gl_97 rfl (c_X11_same h) (cwV 2 hts gw_84 rfl rfl rfl (by decide +kernel) ⟨Nat.le_of_ble_eq_true rfl, Nat.le_of_ble_eq_true rfl⟩) rfl hl.1 rfl (Nat.le_of_ble_eq_true rfl) dL_law_814 hcs.le (fun r122 σ121 H locs h G => ?_)
                            refine lv_icmp_eq (tgt := 2415) hx hb dL_law_817 (by decide) (fun c123 => ?_) (fun c123 => ?_)
                            · have h := h.1 c123
                              exact l_L_law_2415 (fu := n) C K hX hbl hbA hb0 hfl V hp (hK23 := ih) σ121 x4 _ _ _ _ _ hcs.dec  h G (lv_sub hl [0, 1, 2, 3, 4] rfl)
                            · have h := h.2 c123
                              refine lv_iconst (v := (0 : Int32)) hx hb dL_law_820 (by decide) ?_
                              exact le_ret hx hb hr hlocks hcs hb0 G (hp _ _ h) dL_law_821
                          · have h := h.2 c110
                            by_cases c124 : v3 = (11 : Int32)
                            · have h := h.1 c124
                              refine lv_tableIn (tgt := 822) hx hb dL_law_40 (by rw [c124]; decide) (by rw [c124]; decide) (by rw [c124]; rfl) (by decide) ?_
                              refine lv_aload_n hx hb dL_law_822 rfl (lv_at hl 1 rfl) ?_
                              refine e_callVi (As := []) (rest := []) ⟨hx, hb, hml, hown, hts⟩ K G 0 (by decide) gl_0 rfl (c_X10_period h) (cwV 0 hts gw_85 rfl rfl rfl (by decide +kernel) ⟨Nat.le_of_ble_eq_true rfl, Nat.le_of_ble_eq_true rfl⟩) rfl hl.1 rfl (Nat.le_of_ble_eq_true rfl) dL_law_823 hcs.le (fun r126 σ125 H locs h G => ?_)
                              refine lv_aload_n hx hb dL_law_826 rfl (lv_at hl 2 rfl) ?_
                              refine e_callVi (As := []) (rest := [.int (r126)]) ⟨hx, hb, hml, hown, hts⟩ K G 97 (by decide) gl_97 rfl (c_X11_period h) (cwV 0 hts gw_88 rfl rfl rfl (by decide +kernel) ⟨Nat.le_of_ble_eq_true rfl, Nat.le_of_ble_eq_true rfl⟩) rfl hl.1 rfl (Nat.le_of_ble_eq_true rfl) dL_law_827 hcs.le (fun r128 σ127 H locs h G => ?_)
                              refine lv_icmp_eq (tgt := 2415) hx hb dL_law_830 (by decide) (fun c129 => ?_) (fun c129 => ?_)
                              · have h := h.1 c129
                                exact l_L_law_2415 (fu := n) C K hX hbl hbA hb0 hfl V hp (hK23 := ih) σ127 x4 _ _ _ _ _ hcs.dec  h G (lv_sub hl [0, 1, 2, 3, 4] rfl)
                              · have h := h.2 c129
                                refine lv_iconst (v := (0 : Int32)) hx hb dL_law_833 (by decide) ?_
                                exact le_ret hx hb hr hlocks hcs hb0 G (hp _ _ h) dL_law_834
                            · have h := h.2 c124
                              by_cases c130 : v3 = (12 : Int32)
                              · have h := h.1 c130
                                refine lv_tableIn (tgt := 835) hx hb dL_law_40 (by rw [c130]; decide) (by rw [c130]; decide) (by rw [c130]; rfl) (by decide) ?_
                                refine lv_aload_n hx hb dL_law_835 rfl (lv_at hl 1 rfl) ?_
                                refine lv_aload_n hx hb dL_law_836 rfl (lv_at hl 0 rfl) ?_
                                refine lv_iload hx hb dL_law_837 (lv_at hl 4 rfl) ?_
                                refine lv_iconst (v := (1 : Int32)) hx hb dL_law_839 (by decide) ?_
                                refine lv_iadd hx hb dL_law_840 ?_
                                have hi131 := h.1
                                have h := h.2
                                refine va_sld hx hb hX hbl hbA G.2 hi131 dL_law_841 ?_
                                refine lv_aload_n hx hb dL_law_842 rfl (lv_at hl 0 rfl) ?_
                                refine lv_iload hx hb dL_law_843 (lv_at hl 4 rfl) ?_
                                refine lv_iconst (v := (2 : Int32)) hx hb dL_law_845 (by decide) ?_
                                refine lv_iadd hx hb dL_law_846 ?_
                                have hi132 := h.1
                                have h := h.2
                                refine va_sld hx hb hX hbl hbA G.2 hi132 dL_law_847 ?_
                                refine lv_aload_n hx hb dL_law_848 rfl (lv_at hl 0 rfl) ?_
                                refine lv_iload hx hb dL_law_849 (lv_at hl 4 rfl) ?_
                                refine lv_iconst (v := (3 : Int32)) hx hb dL_law_851 (by decide) ?_
                                refine lv_iadd hx hb dL_law_852 ?_
                                have hi133 := h.1
                                have h := h.2
                                refine va_sld hx hb hX hbl hbA G.2 hi133 dL_law_853 ?_
                                refine lv_i2l hx hb dL_law_854 rfl ?_
                                refine lv_bipush (v := (32 : Int32)) hx hb dL_law_855 (by decide) ?_
                                refine lv_lshl hx hb dL_law_857 rfl ?_
                                refine lv_aload_n hx hb dL_law_858 rfl (lv_at hl 0 rfl) ?_
                                refine lv_iload hx hb dL_law_859 (lv_at hl 4 rfl) ?_
                                refine lv_iconst (v := (4 : Int32)) hx hb dL_law_861 (by decide) ?_
                                refine lv_iadd hx hb dL_law_862 ?_
                                have hi134 := h.1
                                have h := h.2
                                refine va_sld hx hb hX hbl hbA G.2 hi134 dL_law_863 ?_
                                refine lv_i2l hx hb dL_law_864 rfl ?_
                                refine lv_ldc2 (v := (4294967295 : Int64)) hx hb hown (hts (.constantLong RL 64 (4294967295)) tw_1245) dL_law_865 ?_
                                refine lv_land hx hb dL_law_868 ?_
                                refine lv_lor hx hb dL_law_869 ?_
                                refine e_callVl (As := [.int (xs (x4 + (1 : Int32)).toNatClampNeg), .int (xs (x4 + (2 : Int32)).toNatClampNeg), .long ((((xs (x4 + (3 : Int32)).toNatClampNeg).toInt64) <<< (((32 : Int32)).toInt64 &&& 63)) ||| (((xs (x4 + (4 : Int32)).toNatClampNeg).toInt64) &&& (4294967295 : Int64)))]) (rest := []) ⟨hx, hb, hml, hown, hts⟩ K G 0 (by decide) gl_0 rfl (c_X10_meets h) (cwV 3 hts gw_89 rfl rfl rfl (by decide +kernel) ⟨Nat.le_of_ble_eq_true rfl, Nat.le_of_ble_eq_true rfl⟩) rfl hl.1 rfl (Nat.le_of_ble_eq_true rfl) dL_law_870 hcs.le (fun r136 σ135 H locs h G => ?_)
                                refine lv_aload_n hx hb dL_law_873 rfl (lv_at hl 2 rfl) ?_
                                refine lv_aload_n hx hb dL_law_874 rfl (lv_at hl 0 rfl) ?_
                                refine lv_iload hx hb dL_law_875 (lv_at hl 4 rfl) ?_
                                refine lv_iconst (v := (1 : Int32)) hx hb dL_law_877 (by decide) ?_
                                refine lv_iadd hx hb dL_law_878 ?_
                                have hi137 := h.1
                                have h := h.2
                                refine va_sld hx hb hX hbl hbA G.2 hi137 dL_law_879 ?_
                                refine lv_aload_n hx hb dL_law_880 rfl (lv_at hl 0 rfl) ?_
                                refine lv_iload hx hb dL_law_881 (lv_at hl 4 rfl) ?_
                                refine lv_iconst (v := (2 : Int32)) hx hb dL_law_883 (by decide) ?_
                                refine lv_iadd hx hb dL_law_884 ?_
                                have hi138 := h.1
                                have h := h.2
                                refine va_sld hx hb hX hbl hbA G.2 hi138 dL_law_885 ?_
                                refine lv_aload_n hx hb dL_law_886 rfl (lv_at hl 0 rfl) ?_
                                refine lv_iload hx hb dL_law_887 (lv_at hl 4 rfl) ?_
                                refine lv_iconst (v := (3 : Int32)) hx hb dL_law_889 (by decide) ?_
                                refine lv_iadd hx hb dL_law_890 ?_
                                have hi139 := h.1
                                have h := h.2
                                refine va_sld hx hb hX hbl hbA G.2 hi139 dL_law_891 ?_
                                refine lv_i2l hx hb dL_law_892 rfl ?_
                                refine lv_bipush (v := (32 : Int32)) hx hb dL_law_893 (by decide) ?_
                                refine lv_lshl hx hb dL_law_895 rfl ?_
                                refine lv_aload_n hx hb dL_law_896 rfl (lv_at hl 0 rfl) ?_
                                refine lv_iload hx hb dL_law_897 (lv_at hl 4 rfl) ?_
                                refine lv_iconst (v := (4 : Int32)) hx hb dL_law_899 (by decide) ?_
                                refine lv_iadd hx hb dL_law_900 ?_
                                have hi140 := h.1
                                have h := h.2
                                refine va_sld hx hb hX hbl hbA G.2 hi140 dL_law_901 ?_
                                refine lv_i2l hx hb dL_law_902 rfl ?_
                                refine lv_ldc2 (v := (4294967295 : Int64)) hx hb hown (hts (.constantLong RL 64 (4294967295)) tw_1245) dL_law_903 ?_
                                refine lv_land hx hb dL_law_906 ?_
                                refine lv_lor hx hb dL_law_907 ?_
                                refine e_callVl (As := [.int (xs (x4 + (1 : Int32)).toNatClampNeg), .int (xs (x4 + (2 : Int32)).toNatClampNeg), .long ((((xs (x4 + (3 : Int32)).toNatClampNeg).toInt64) <<< (((32 : Int32)).toInt64 &&& 63)) ||| (((xs (x4 + (4 : Int32)).toNatClampNeg).toInt64) &&& (4294967295 : Int64)))]) (rest := [.long (r136)]) ⟨hx, hb, hml, hown, hts⟩ K G 97 (by decide) gl_97 rfl (c_X11_meets h) (cwV 3 hts gw_93 rfl rfl rfl (by decide +kernel) ⟨Nat.le_of_ble_eq_true rfl, Nat.le_of_ble_eq_true rfl⟩) rfl hl.1 rfl (Nat.le_of_ble_eq_true rfl) dL_law_908 hcs.le (fun r142 σ141 H locs h G => ?_)
                                refine W.lcmp hx hb dL_law_911 ?_
                                refine lv_if_eq (tgt := 2415) hx hb dL_law_912 (by decide) (fun c143 => ?_) (fun c143 => ?_)
                                · have h := h.1 c143
                                  exact l_L_law_2415 (fu := n) C K hX hbl hbA hb0 hfl V hp (hK23 := ih) σ141 x4 _ _ _ _ _ hcs.dec  h G (lv_sub hl [0, 1, 2, 3, 4] rfl)
                                · have h := h.2 c143
                                  refine lv_iconst (v := (0 : Int32)) hx hb dL_law_915 (by decide) ?_
                                  exact le_ret hx hb hr hlocks hcs hb0 G (hp _ _ h) dL_law_916
                              · have h := h.2 c130
                                by_cases c144 : v3 = (13 : Int32)
                                · have h := h.1 c144
                                  refine lv_tableIn (tgt := 917) hx hb dL_law_40 (by rw [c144]; decide) (by rw [c144]; decide) (by rw [c144]; rfl) (by decide) ?_
                                  refine lv_aload_n hx hb dL_law_917 rfl (lv_at hl 1 rfl) ?_
                                  refine lv_aload_n hx hb dL_law_918 rfl (lv_at hl 0 rfl) ?_
                                  refine lv_iload hx hb dL_law_919 (lv_at hl 4 rfl) ?_
                                  refine lv_iconst (v := (1 : Int32)) hx hb dL_law_921 (by decide) ?_
                                  refine lv_iadd hx hb dL_law_922 ?_
                                  have hi145 := h.1
                                  have h := h.2
                                  refine va_sld hx hb hX hbl hbA G.2 hi145 dL_law_923 ?_
                                  refine lv_aload_n hx hb dL_law_924 rfl (lv_at hl 0 rfl) ?_
                                  refine lv_iload hx hb dL_law_925 (lv_at hl 4 rfl) ?_
                                  refine lv_iconst (v := (2 : Int32)) hx hb dL_law_927 (by decide) ?_
                                  refine lv_iadd hx hb dL_law_928 ?_
                                  have hi146 := h.1
                                  have h := h.2
                                  refine va_sld hx hb hX hbl hbA G.2 hi146 dL_law_929 ?_
                                  refine lv_aload_n hx hb dL_law_930 rfl (lv_at hl 0 rfl) ?_
                                  refine lv_iload hx hb dL_law_931 (lv_at hl 4 rfl) ?_
                                  refine lv_iconst (v := (3 : Int32)) hx hb dL_law_933 (by decide) ?_
                                  refine lv_iadd hx hb dL_law_934 ?_
                                  have hi147 := h.1
                                  have h := h.2
                                  refine va_sld hx hb hX hbl hbA G.2 hi147 dL_law_935 ?_
                                  refine lv_i2l hx hb dL_law_936 rfl ?_
                                  refine lv_bipush (v := (32 : Int32)) hx hb dL_law_937 (by decide) ?_
                                  refine lv_lshl hx hb dL_law_939 rfl ?_
                                  refine lv_aload_n hx hb dL_law_940 rfl (lv_at hl 0 rfl) ?_
                                  refine lv_iload hx hb dL_law_941 (lv_at hl 4 rfl) ?_
                                  refine lv_iconst (v := (4 : Int32)) hx hb dL_law_943 (by decide) ?_
                                  refine lv_iadd hx hb dL_law_944 ?_
                                  have hi148 := h.1
                                  have h := h.2
                                  refine va_sld hx hb hX hbl hbA G.2 hi148 dL_law_945 ?_
                                  refine lv_i2l hx hb dL_law_946 rfl ?_
                                  refine lv_ldc2 (v := (4294967295 : Int64)) hx hb hown (hts (.constantLong RL 64 (4294967295)) tw_1245) dL_law_947 ?_
                                  refine lv_land hx hb dL_law_950 ?_
                                  refine lv_lor hx hb dL_law_951 ?_
                                  refine e_callVl (As := [.int (xs (x4 + (1 : Int32)).toNatClampNeg), .int (xs (x4 + (2 : Int32)).toNatClampNeg), .long ((((xs (x4 + (3 : Int32)).toNatClampNeg).toInt64) <<< (((32 : Int32)).toInt64 &&& 63)) ||| (((xs (x4 + (4 : Int32)).toNatClampNeg).toInt64) &&& (4294967295 : Int64)))]) (rest := []) ⟨hx, hb, hml, hown, hts⟩ K G 0 (by decide) gl_0 rfl (c_X10_trade h) (cwV 3 hts gw_94 rfl rfl rfl (by decide +kernel) ⟨Nat.le_of_ble_eq_true rfl, Nat.le_of_ble_eq_true rfl⟩) rfl hl.1 rfl (Nat.le_of_ble_eq_true rfl) dL_law_952 hcs.le (fun r150 σ149 H locs h G => ?_)
                                  refine lv_aload_n hx hb dL_law_955 rfl (lv_at hl 2 rfl) ?_
                                  refine lv_aload_n hx hb dL_law_956 rfl (lv_at hl 0 rfl) ?_
                                  refine lv_iload hx hb dL_law_957 (lv_at hl 4 rfl) ?_
                                  refine lv_iconst (v := (1 : Int32)) hx hb dL_law_959 (by decide) ?_
                                  refine lv_iadd hx hb dL_law_960 ?_
                                  have hi151 := h.1
                                  have h := h.2
                                  refine va_sld hx hb hX hbl hbA G.2 hi151 dL_law_961 ?_
                                  refine lv_aload_n hx hb dL_law_962 rfl (lv_at hl 0 rfl) ?_
                                  refine lv_iload hx hb dL_law_963 (lv_at hl 4 rfl) ?_
                                  refine lv_iconst (v := (2 : Int32)) hx hb dL_law_965 (by decide) ?_
                                  refine lv_iadd hx hb dL_law_966 ?_
                                  have hi152 := h.1
                                  have h := h.2
                                  refine va_sld hx hb hX hbl hbA G.2 hi152 dL_law_967 ?_
                                  refine lv_aload_n hx hb dL_law_968 rfl (lv_at hl 0 rfl) ?_
                                  refine lv_iload hx hb dL_law_969 (lv_at hl 4 rfl) ?_
                                  refine lv_iconst (v := (3 : Int32)) hx hb dL_law_971 (by decide) ?_
                                  refine lv_iadd hx hb dL_law_972 ?_
                                  have hi153 := h.1
                                  have h := h.2
                                  refine va_sld hx hb hX hbl hbA G.2 hi153 dL_law_973 ?_
                                  refine lv_i2l hx hb dL_law_974 rfl ?_
                                  refine lv_bipush (v := (32 : Int32)) hx hb dL_law_975 (by decide) ?_
                                  refine lv_lshl hx hb dL_law_977 rfl ?_
                                  refine lv_aload_n hx hb dL_law_978 rfl (lv_at hl 0 rfl) ?_
                                  refine lv_iload hx hb dL_law_979 (lv_at hl 4 rfl) ?_
                                  refine lv_iconst (v := (4 : Int32)) hx hb dL_law_981 (by decide) ?_
                                  refine lv_iadd hx hb dL_law_982 ?_
                                  have hi154 := h.1
                                  have h := h.2
                                  refine va_sld hx hb hX hbl hbA G.2 hi154 dL_law_983 ?_
                                  refine lv_i2l hx hb dL_law_984 rfl ?_
                                  refine lv_ldc2 (v := (4294967295 : Int64)) hx hb hown (hts (.constantLong RL 64 (4294967295)) tw_1245) dL_law_985 ?_
                                  refine lv_land hx hb dL_law_988 ?_
                                  refine lv_lor hx hb dL_law_989 ?_
                                  refine e_callVl (As := [.int (xs (x4 + (1 : Int32)).toNatClampNeg), .int (xs (x4 + (2 : Int32)).toNatClampNeg), .long ((((xs (x4 + (3 : Int32)).toNatClampNeg).toInt64) <<< (((32 : Int32)).toInt64 &&& 63)) ||| (((xs (x4 + (4 : Int32)).toNatClampNeg).toInt64) &&& (4294967295 : Int64)))]) (rest := [.long (r150)]) ⟨hx, hb, hml, hown, hts⟩ K G 97 (by decide) gl_97 rfl (c_X11_trade h) (cwV 3 hts gw_97 rfl rfl rfl (by decide +kernel) ⟨Nat.le_of_ble_eq_true rfl, Nat.le_of_ble_eq_true rfl⟩) rfl hl.1 rfl (Nat.le_of_ble_eq_true rfl) dL_law_990 hcs.le (fun r156 σ155 H locs h G => ?_)
                                  refine W.lcmp hx hb dL_law_993 ?_
                                  refine lv_if_eq (tgt := 2415) hx hb dL_law_994 (by decide) (fun c157 => ?_) (fun c157 => ?_)
                                  · have h := h.1 c157
                                    exact l_L_law_2415 (fu := n) C K hX hbl hbA hb0 hfl V hp (hK23 := ih) σ155 x4 _ _ _ _ _ hcs.dec  h G (lv_sub hl [0, 1, 2, 3, 4] rfl)
                                  · have h := h.2 c157
                                    refine lv_iconst (v := (0 : Int32)) hx hb dL_law_997 (by decide) ?_
                                    exact le_ret hx hb hr hlocks hcs hb0 G (hp _ _ h) dL_law_998
                                · have h := h.2 c144
                                  by_cases c158 : v3 = (14 : Int32)
                                  · have h := h.1 c158
                                    refine lv_tableIn (tgt := 999) hx hb dL_law_40 (by rw [c158]; decide) (by rw [c158]; decide) (by rw [c158]; rfl) (by decide) ?_
                                    refine lv_aload_n hx hb dL_law_999 rfl (lv_at hl 1 rfl) ?_
                                    refine lv_aload_n hx hb dL_law_1000 rfl (lv_at hl 0 rfl) ?_
                                    refine lv_iload hx hb dL_law_1001 (lv_at hl 4 rfl) ?_
                                    refine lv_iconst (v := (1 : Int32)) hx hb dL_law_1003 (by decide) ?_
                                    refine lv_iadd hx hb dL_law_1004 ?_
                                    have hi159 := h.1
                                    have h := h.2
                                    refine va_sld hx hb hX hbl hbA G.2 hi159 dL_law_1005 ?_
                                    refine e_callVi (As := [.int (xs (x4 + (1 : Int32)).toNatClampNeg)]) (rest := []) ⟨hx, hb, hml, hown, hts⟩ K G 0 (by decide) gl_0 rfl (c_X10_bears h) (cwV 1 hts gw_98 rfl rfl rfl (by decide +kernel) ⟨Nat.le_of_ble_eq_true rfl, Nat.le_of_ble_eq_true rfl⟩) rfl hl.1 rfl (Nat.le_of_ble_eq_true rfl) dL_law_1006 hcs.le (fun r161 σ160 H locs h G => ?_)
                                    refine lv_aload_n hx hb dL_law_1009 rfl (lv_at hl 2 rfl) ?_
                                    refine lv_aload_n hx hb dL_law_1010 rfl (lv_at hl 0 rfl) ?_
                                    refine lv_iload hx hb dL_law_1011 (lv_at hl 4 rfl) ?_
                                    refine lv_iconst (v := (1 : Int32)) hx hb dL_law_1013 (by decide) ?_
                                    refine lv_iadd hx hb dL_law_1014 ?_
                                    have hi162 := h.1
                                    have h := h.2
                                    refine va_sld hx hb hX hbl hbA G.2 hi162 dL_law_1015 ?_
                                    refine e_callVi (As := [.int (xs (x4 + (1 : Int32)).toNatClampNeg)]) (rest := [.int (r161)]) ⟨hx, hb, hml, hown, hts⟩ K G 97 (by decide) gl_97 rfl (c_X11_bears h) (cwV 1 hts gw_101 rfl rfl rfl (by decide +kernel) ⟨Nat.le_of_ble_eq_true rfl, Nat.le_of_ble_eq_true rfl⟩) rfl hl.1 rfl (Nat.le_of_ble_eq_true rfl) dL_law_1016 hcs.le (fun r164 σ163 H locs h G => ?_)
                                    refine lv_icmp_eq (tgt := 2415) hx hb dL_law_1019 (by decide) (fun c165 => ?_) (fun c165 => ?_)
                                    · have h := h.1 c165
                                      exact l_L_law_2415 (fu := n) C K hX hbl hbA hb0 hfl V hp (hK23 := ih) σ163 x4 _ _ _ _ _ hcs.dec  h G (lv_sub hl [0, 1, 2, 3, 4] rfl)
                                    · have h := h.2 c165
                                      refine lv_iconst (v := (0 : Int32)) hx hb dL_law_1022 (by decide) ?_
                                      exact le_ret hx hb hr hlocks hcs hb0 G (hp _ _ h) dL_law_1023
                                  · have h := h.2 c158
                                    by_cases c166 : v3 = (15 : Int32)
                                    · have h := h.1 c166
                                      refine lv_tableIn (tgt := 1024) hx hb dL_law_40 (by rw [c166]; decide) (by rw [c166]; decide) (by rw [c166]; rfl) (by decide) ?_
                                      refine lv_aload_n hx hb dL_law_1024 rfl (lv_at hl 1 rfl) ?_
                                      refine lv_aload_n hx hb dL_law_1025 rfl (lv_at hl 0 rfl) ?_
                                      refine lv_iload hx hb dL_law_1026 (lv_at hl 4 rfl) ?_
                                      refine lv_iconst (v := (1 : Int32)) hx hb dL_law_1028 (by decide) ?_
                                      refine lv_iadd hx hb dL_law_1029 ?_
                                      have hi167 := h.1
                                      have h := h.2
                                      refine va_sld hx hb hX hbl hbA G.2 hi167 dL_law_1030 ?_
                                      refine lv_aload_n hx hb dL_law_1031 rfl (lv_at hl 0 rfl) ?_
                                      refine lv_iload hx hb dL_law_1032 (lv_at hl 4 rfl) ?_
                                      refine lv_iconst (v := (2 : Int32)) hx hb dL_law_1034 (by decide) ?_
                                      refine lv_iadd hx hb dL_law_1035 ?_
                                      have hi168 := h.1
                                      have h := h.2
                                      refine va_sld hx hb hX hbl hbA G.2 hi168 dL_law_1036 ?_
                                      refine lv_aload_n hx hb dL_law_1037 rfl (lv_at hl 0 rfl) ?_
                                      refine lv_iload hx hb dL_law_1038 (lv_at hl 4 rfl) ?_
                                      refine lv_iconst (v := (3 : Int32)) hx hb dL_law_1040 (by decide) ?_
                                      refine lv_iadd hx hb dL_law_1041 ?_
                                      have hi169 := h.1
                                      have h := h.2
                                      refine va_sld hx hb hX hbl hbA G.2 hi169 dL_law_1042 ?_
                                      refine lv_i2l hx hb dL_law_1043 rfl ?_
                                      refine lv_bipush (v := (32 : Int32)) hx hb dL_law_1044 (by decide) ?_
                                      refine lv_lshl hx hb dL_law_1046 rfl ?_
                                      refine lv_aload_n hx hb dL_law_1047 rfl (lv_at hl 0 rfl) ?_
                                      refine lv_iload hx hb dL_law_1048 (lv_at hl 4 rfl) ?_
                                      refine lv_iconst (v := (4 : Int32)) hx hb dL_law_1050 (by decide) ?_
                                      refine lv_iadd hx hb dL_law_1051 ?_
                                      have hi170 := h.1
                                      have h := h.2
                                      refine va_sld hx hb hX hbl hbA G.2 hi170 dL_law_1052 ?_
                                      refine lv_i2l hx hb dL_law_1053 rfl ?_
                                      refine lv_ldc2 (v := (4294967295 : Int64)) hx hb hown (hts (.constantLong RL 64 (4294967295)) tw_1245) dL_law_1054 ?_
                                      refine lv_land hx hb dL_law_1057 ?_
                                      refine lv_lor hx hb dL_law_1058 ?_
                                      refine e_callVl (As := [.int (xs (x4 + (1 : Int32)).toNatClampNeg), .int (xs (x4 + (2 : Int32)).toNatClampNeg), .long ((((xs (x4 + (3 : Int32)).toNatClampNeg).toInt64) <<< (((32 : Int32)).toInt64 &&& 63)) ||| (((xs (x4 + (4 : Int32)).toNatClampNeg).toInt64) &&& (4294967295 : Int64)))]) (rest := []) ⟨hx, hb, hml, hown, hts⟩ K G 0 (by decide) gl_0 rfl (c_X10_often h) (cwV 3 hts gw_102 rfl rfl rfl (by decide +kernel) ⟨Nat.le_of_ble_eq_true rfl, Nat.le_of_ble_eq_true rfl⟩) rfl hl.1 rfl (Nat.le_of_ble_eq_true rfl) dL_law_1059 hcs.le (fun r172 σ171 H locs h G => ?_)
                                      refine lv_aload_n hx hb dL_law_1062 rfl (lv_at hl 2 rfl) ?_
                                      refine lv_aload_n hx hb dL_law_1063 rfl (lv_at hl 0 rfl) ?_
                                      refine lv_iload hx hb dL_law_1064 (lv_at hl 4 rfl) ?_
                                      refine lv_iconst (v := (1 : Int32)) hx hb dL_law_1066 (by decide) ?_
                                      refine lv_iadd hx hb dL_law_1067 ?_
                                      have hi173 := h.1
                                      have h := h.2
                                      refine va_sld hx hb hX hbl hbA G.2 hi173 dL_law_1068 ?_
                                      refine lv_aload_n hx hb dL_law_1069 rfl (lv_at hl 0 rfl) ?_
                                      refine lv_iload hx hb dL_law_1070 (lv_at hl 4 rfl) ?_
                                      refine lv_iconst (v := (2 : Int32)) hx hb dL_law_1072 (by decide) ?_
                                      refine lv_iadd hx hb dL_law_1073 ?_
                                      have hi174 := h.1
                                      have h := h.2
                                      refine va_sld hx hb hX hbl hbA G.2 hi174 dL_law_1074 ?_
                                      refine lv_aload_n hx hb dL_law_1075 rfl (lv_at hl 0 rfl) ?_
                                      refine lv_iload hx hb dL_law_1076 (lv_at hl 4 rfl) ?_
                                      refine lv_iconst (v := (3 : Int32)) hx hb dL_law_1078 (by decide) ?_
                                      refine lv_iadd hx hb dL_law_1079 ?_
                                      have hi175 := h.1
                                      have h := h.2
                                      refine va_sld hx hb hX hbl hbA G.2 hi175 dL_law_1080 ?_
                                      refine lv_i2l hx hb dL_law_1081 rfl ?_
                                      refine lv_bipush (v := (32 : Int32)) hx hb dL_law_1082 (by decide) ?_
                                      refine lv_lshl hx hb dL_law_1084 rfl ?_
                                      refine lv_aload_n hx hb dL_law_1085 rfl (lv_at hl 0 rfl) ?_
                                      refine lv_iload hx hb dL_law_1086 (lv_at hl 4 rfl) ?_
                                      refine lv_iconst (v := (4 : Int32)) hx hb dL_law_1088 (by decide) ?_
                                      refine lv_iadd hx hb dL_law_1089 ?_
                                      have hi176 := h.1
                                      have h := h.2
                                      refine va_sld hx hb hX hbl hbA G.2 hi176 dL_law_1090 ?_
                                      refine lv_i2l hx hb dL_law_1091 rfl ?_
                                      refine lv_ldc2 (v := (4294967295 : Int64)) hx hb hown (hts (.constantLong RL 64 (4294967295)) tw_1245) dL_law_1092 ?_
                                      refine lv_land hx hb dL_law_1095 ?_
                                      refine lv_lor hx hb dL_law_1096 ?_
                                      refine e_callVl (As := [.int (xs (x4 + (1 : Int32)).toNatClampNeg), .int (xs (x4 + (2 : Int32)).toNatClampNeg), .long ((((xs (x4 + (3 : Int32)).toNatClampNeg).toInt64) <<< (((32 : Int32)).toInt64 &&& 63)) ||| (((xs (x4 + (4 : Int32)).toNatClampNeg).toInt64) &&& (4294967295 : Int64)))]) (rest := [.long (r172)]) ⟨hx, hb, hml, hown, hts⟩ K G 97 (by decide) gl_97 rfl (c_X11_often h) (cwV 3 hts gw_105 rfl rfl rfl (by decide +kernel) ⟨Nat.le_of_ble_eq_true rfl, Nat.le_of_ble_eq_true rfl⟩) rfl hl.1 rfl (Nat.le_of_ble_eq_true rfl) dL_law_1097 hcs.le (fun r178 σ177 H locs h G => ?_)
                                      refine W.lcmp hx hb dL_law_1100 ?_
                                      refine lv_if_eq (tgt := 2415) hx hb dL_law_1101 (by decide) (fun c179 => ?_) (fun c179 => ?_)
                                      · have h := h.1 c179
                                        exact l_L_law_2415 (fu := n) C K hX hbl hbA hb0 hfl V hp (hK23 := ih) σ177 x4 _ _ _ _ _ hcs.dec  h G (lv_sub hl [0, 1, 2, 3, 4] rfl)
                                      · have h := h.2 c179
                                        refine lv_iconst (v := (0 : Int32)) hx hb dL_law_1104 (by decide) ?_
                                        exact le_ret hx hb hr hlocks hcs hb0 G (hp _ _ h) dL_law_1105
                                    · have h := h.2 c166
                                      by_cases c180 : v3 = (16 : Int32)
                                      · have h := h.1 c180
                                        refine lv_tableIn (tgt := 1106) hx hb dL_law_40 (by rw [c180]; decide) (by rw [c180]; decide) (by rw [c180]; rfl) (by decide) ?_
                                        refine lv_aload_n hx hb dL_law_1106 rfl (lv_at hl 1 rfl) ?_
                                        refine e_callVi (As := []) (rest := []) ⟨hx, hb, hml, hown, hts⟩ K G 0 (by decide) gl_0 rfl (c_X10_quiet h) (cwV 0 hts gw_106 rfl rfl rfl (by decide +kernel) ⟨Nat.le_of_ble_eq_true rfl, Nat.le_of_ble_eq_true rfl⟩) rfl hl.1 rfl (Nat.le_of_ble_eq_true rfl) dL_law_1107 hcs.le (fun r182 σ181 H locs h G => ?_)
                                        refine lv_aload_n hx hb dL_law_1110 rfl (lv_at hl 2 rfl) ?_
                                        refine e_callVi (As := []) (rest := [.int (r182)]) ⟨hx, hb, hml, hown, hts⟩ K G 97 (by decide) gl_97 rfl (c_X11_quiet h) (cwV 0 hts gw_109 rfl rfl rfl (by decide +kernel) ⟨Nat.le_of_ble_eq_true rfl, Nat.le_of_ble_eq_true rfl⟩) rfl hl.1 rfl (Nat.le_of_ble_eq_true rfl) dL_law_1111 hcs.le (fun r184 σ183 H locs h G => ?_)
                                        refine lv_icmp_eq (tgt := 2415) hx hb dL_law_1114 (by decide) (fun c185 => ?_) (fun c185 => ?_)
                                        · have h := h.1 c185
                                          exact l_L_law_2415 (fu := n) C K hX hbl hbA hb0 hfl V hp (hK23 := ih) σ183 x4 _ _ _ _ _ hcs.dec  h G (lv_sub hl [0, 1, 2, 3, 4] rfl)
                                        · have h := h.2 c185
                                          refine lv_iconst (v := (0 : Int32)) hx hb dL_law_1117 (by decide) ?_
                                          exact le_ret hx hb hr hlocks hcs hb0 G (hp _ _ h) dL_law_1118
                                      · have h := h.2 c180
                                        by_cases c186 : v3 = (17 : Int32)
                                        · have h := h.1 c186
                                          refine lv_tableIn (tgt := 1119) hx hb dL_law_40 (by rw [c186]; decide) (by rw [c186]; decide) (by rw [c186]; rfl) (by decide) ?_
                                          refine lv_aload_n hx hb dL_law_1119 rfl (lv_at hl 1 rfl) ?_
                                          refine lv_aload_n hx hb dL_law_1120 rfl (lv_at hl 0 rfl) ?_
                                          refine lv_iload hx hb dL_law_1121 (lv_at hl 4 rfl) ?_
                                          refine lv_iconst (v := (1 : Int32)) hx hb dL_law_1123 (by decide) ?_
                                          refine lv_iadd hx hb dL_law_1124 ?_
                                          have hi187 := h.1
                                          have h := h.2
                                          refine va_sld hx hb hX hbl hbA G.2 hi187 dL_law_1125 ?_
                                          refine lv_aload_n hx hb dL_law_1126 rfl (lv_at hl 0 rfl) ?_
                                          refine lv_iload hx hb dL_law_1127 (lv_at hl 4 rfl) ?_
                                          refine lv_iconst (v := (2 : Int32)) hx hb dL_law_1129 (by decide) ?_
                                          refine lv_iadd hx hb dL_law_1130 ?_
                                          have hi188 := h.1
                                          have h := h.2
                                          refine va_sld hx hb hX hbl hbA G.2 hi188 dL_law_1131 ?_
                                          refine lv_i2l hx hb dL_law_1132 rfl ?_
                                          refine lv_bipush (v := (32 : Int32)) hx hb dL_law_1133 (by decide) ?_
                                          refine lv_lshl hx hb dL_law_1135 rfl ?_
                                          refine lv_aload_n hx hb dL_law_1136 rfl (lv_at hl 0 rfl) ?_
                                          refine lv_iload hx hb dL_law_1137 (lv_at hl 4 rfl) ?_
                                          refine lv_iconst (v := (3 : Int32)) hx hb dL_law_1139 (by decide) ?_
                                          refine lv_iadd hx hb dL_law_1140 ?_
                                          have hi189 := h.1
                                          have h := h.2
                                          refine va_sld hx hb hX hbl hbA G.2 hi189 dL_law_1141 ?_
                                          refine lv_i2l hx hb dL_law_1142 rfl ?_
                                          refine lv_ldc2 (v := (4294967295 : Int64)) hx hb hown (hts (.constantLong RL 64 (4294967295)) tw_1245) dL_law_1143 ?_
                                          refine lv_land hx hb dL_law_1146 ?_
                                          refine lv_lor hx hb dL_law_1147 ?_
                                          refine e_callVi (As := [.int (xs (x4 + (1 : Int32)).toNatClampNeg), .long ((((xs (x4 + (2 : Int32)).toNatClampNeg).toInt64) <<< (((32 : Int32)).toInt64 &&& 63)) ||| (((xs (x4 + (3 : Int32)).toNatClampNeg).toInt64) &&& (4294967295 : Int64)))]) (rest := []) ⟨hx, hb, hml, hown, hts⟩ K G 0 (by decide) gl_0 rfl (c_X10_letter h) (cwV 2 hts gw_110 rfl rfl rfl (by decide +kernel) ⟨Nat.le_of_ble_eq_true rfl, Nat.le_of_ble_eq_true rfl⟩) rfl hl.1 rfl (Nat.le_of_ble_eq_true rfl) dL_law_1148 hcs.le (fun r191 σ190 H locs h G => ?_)
                                          refine lv_aload_n hx hb dL_law_1151 rfl (lv_at hl 2 rfl) ?_
                                          refine lv_aload_n hx hb dL_law_1152 rfl (lv_at hl 0 rfl) ?_
                                          refine lv_iload hx hb dL_law_1153 (lv_at hl 4 rfl) ?_
                                          refine lv_iconst (v := (1 : Int32)) hx hb dL_law_1155 (by decide) ?_
                                          refine lv_iadd hx hb dL_law_1156 ?_
                                          have hi192 := h.1
                                          have h := h.2
                                          refine va_sld hx hb hX hbl hbA G.2 hi192 dL_law_1157 ?_
                                          refine lv_aload_n hx hb dL_law_1158 rfl (lv_at hl 0 rfl) ?_
                                          refine lv_iload hx hb dL_law_1159 (lv_at hl 4 rfl) ?_
                                          refine lv_iconst (v := (2 : Int32)) hx hb dL_law_1161 (by decide) ?_
                                          refine lv_iadd hx hb dL_law_1162 ?_
                                          have hi193 := h.1
                                          have h := h.2
                                          refine va_sld hx hb hX hbl hbA G.2 hi193 dL_law_1163 ?_
                                          refine lv_i2l hx hb dL_law_1164 rfl ?_
                                          refine lv_bipush (v := (32 : Int32)) hx hb dL_law_1165 (by decide) ?_
                                          refine lv_lshl hx hb dL_law_1167 rfl ?_
                                          refine lv_aload_n hx hb dL_law_1168 rfl (lv_at hl 0 rfl) ?_
                                          refine lv_iload hx hb dL_law_1169 (lv_at hl 4 rfl) ?_
                                          refine lv_iconst (v := (3 : Int32)) hx hb dL_law_1171 (by decide) ?_
                                          refine lv_iadd hx hb dL_law_1172 ?_
                                          have hi194 := h.1
                                          have h := h.2
                                          refine va_sld hx hb hX hbl hbA G.2 hi194 dL_law_1173 ?_
                                          refine lv_i2l hx hb dL_law_1174 rfl ?_
                                          refine lv_ldc2 (v := (4294967295 : Int64)) hx hb hown (hts (.constantLong RL 64 (4294967295)) tw_1245) dL_law_1175 ?_
                                          refine lv_land hx hb dL_law_1178 ?_
                                          refine lv_lor hx hb dL_law_1179 ?_
                                          refine e_callVi (As := [.int (xs (x4 + (1 : Int32)).toNatClampNeg), .long ((((xs (x4 + (2 : Int32)).toNatClampNeg).toInt64) <<< (((32 : Int32)).toInt64 &&& 63)) ||| (((xs (x4 + (3 : Int32)).toNatClampNeg).toInt64) &&& (4294967295 : Int64)))]) (rest := [.int (r191)]) ⟨hx, hb, hml, hown, hts⟩ K G 97 (by decide) gl_97 rfl (c_X11_letter h) (cwV 2 hts gw_113 rfl rfl rfl (by decide +kernel) ⟨Nat.le_of_ble_eq_true rfl, Nat.le_of_ble_eq_true rfl⟩) rfl hl.1 rfl (Nat.le_of_ble_eq_true rfl) dL_law_1180 hcs.le (fun r196 σ195 H locs h G => ?_)
                                          refine lv_icmp_eq (tgt := 2415) hx hb dL_law_1183 (by decide) (fun c197 => ?_) (fun c197 => ?_)
                                          · have h := h.1 c197
                                            exact l_L_law_2415 (fu := n) C K hX hbl hbA hb0 hfl V hp (hK23 := ih) σ195 x4 _ _ _ _ _ hcs.dec  h G (lv_sub hl [0, 1, 2, 3, 4] rfl)
                                          · have h := h.2 c197
                                            refine lv_iconst (v := (0 : Int32)) hx hb dL_law_1186 (by decide) ?_
                                            exact le_ret hx hb hr hlocks hcs hb0 G (hp _ _ h) dL_law_1187
                                        · have h := h.2 c186
                                          by_cases c198 : v3 = (18 : Int32)
                                          · have h := h.1 c198
                                            refine lv_tableIn (tgt := 1188) hx hb dL_law_40 (by rw [c198]; decide) (by rw [c198]; decide) (by rw [c198]; rfl) (by decide) ?_
                                            refine lv_aload_n hx hb dL_law_1188 rfl (lv_at hl 1 rfl) ?_
                                            refine lv_aload_n hx hb dL_law_1189 rfl (lv_at hl 0 rfl) ?_
                                            refine lv_iload hx hb dL_law_1190 (lv_at hl 4 rfl) ?_
                                            refine lv_iconst (v := (1 : Int32)) hx hb dL_law_1192 (by decide) ?_
                                            refine lv_iadd hx hb dL_law_1193 ?_
                                            have hi199 := h.1
                                            have h := h.2
                                            refine va_sld hx hb hX hbl hbA G.2 hi199 dL_law_1194 ?_
                                            refine e_callVi (As := [.int (xs (x4 + (1 : Int32)).toNatClampNeg)]) (rest := []) ⟨hx, hb, hml, hown, hts⟩ K G 0 (by decide) gl_0 rfl (c_X10_home h) (cwV 1 hts gw_114 rfl rfl rfl (by decide +kernel) ⟨Nat.le_of_ble_eq_true rfl, Nat.le_of_ble_eq_true rfl⟩) rfl hl.1 rfl (Nat.le_of_ble_eq_true rfl) dL_law_1195 hcs.le (fun r201 σ200 H locs h G => ?_)
                                            refine lv_aload_n hx hb dL_law_1198 rfl (lv_at hl 2 rfl) ?_
                                            refine lv_aload_n hx hb dL_law_1199 rfl (lv_at hl 0 rfl) ?_
                                            refine lv_iload hx hb dL_law_1200 (lv_at hl 4 rfl) ?_
                                            refine lv_iconst (v := (1 : Int32)) hx hb dL_law_1202 (by decide) ?_
                                            refine lv_iadd hx hb dL_law_1203 ?_
                                            have hi202 := h.1
                                            have h := h.2
                                            refine va_sld hx hb hX hbl hbA G.2 hi202 dL_law_1204 ?_
                                            refine e_callVi (As := [.int (xs (x4 + (1 : Int32)).toNatClampNeg)]) (rest := [.int (r201)]) ⟨hx, hb, hml, hown, hts⟩ K G 97 (by decide) gl_97 rfl (c_X11_home h) (cwV 1 hts gw_117 rfl rfl rfl (by decide +kernel) ⟨Nat.le_of_ble_eq_true rfl, Nat.le_of_ble_eq_true rfl⟩) rfl hl.1 rfl (Nat.le_of_ble_eq_true rfl) dL_law_1205 hcs.le (fun r204 σ203 H locs h G => ?_)
                                            refine lv_icmp_eq (tgt := 2415) hx hb dL_law_1208 (by decide) (fun c205 => ?_) (fun c205 => ?_)
                                            · have h := h.1 c205
                                              exact l_L_law_2415 (fu := n) C K hX hbl hbA hb0 hfl V hp (hK23 := ih) σ203 x4 _ _ _ _ _ hcs.dec  h G (lv_sub hl [0, 1, 2, 3, 4] rfl)
                                            · have h := h.2 c205
                                              refine lv_iconst (v := (0 : Int32)) hx hb dL_law_1211 (by decide) ?_
                                              exact le_ret hx hb hr hlocks hcs hb0 G (hp _ _ h) dL_law_1212
                                          · have h := h.2 c198
                                            by_cases c206 : v3 = (19 : Int32)
                                            · have h := h.1 c206
                                              refine lv_tableIn (tgt := 1213) hx hb dL_law_40 (by rw [c206]; decide) (by rw [c206]; decide) (by rw [c206]; rfl) (by decide) ?_
                                              refine lv_aload_n hx hb dL_law_1213 rfl (lv_at hl 1 rfl) ?_
                                              refine lv_aload_n hx hb dL_law_1214 rfl (lv_at hl 0 rfl) ?_
                                              refine lv_iload hx hb dL_law_1215 (lv_at hl 4 rfl) ?_
                                              refine lv_iconst (v := (1 : Int32)) hx hb dL_law_1217 (by decide) ?_
                                              refine lv_iadd hx hb dL_law_1218 ?_
                                              have hi207 := h.1
                                              have h := h.2
                                              refine va_sld hx hb hX hbl hbA G.2 hi207 dL_law_1219 ?_
                                              refine lv_aload_n hx hb dL_law_1220 rfl (lv_at hl 0 rfl) ?_
                                              refine lv_iload hx hb dL_law_1221 (lv_at hl 4 rfl) ?_
                                              refine lv_iconst (v := (2 : Int32)) hx hb dL_law_1223 (by decide) ?_
                                              refine lv_iadd hx hb dL_law_1224 ?_
                                              have hi208 := h.1
                                              have h := h.2
                                              refine va_sld hx hb hX hbl hbA G.2 hi208 dL_law_1225 ?_
                                              refine lv_i2l hx hb dL_law_1226 rfl ?_
                                              refine lv_bipush (v := (32 : Int32)) hx hb dL_law_1227 (by decide) ?_
                                              refine lv_lshl hx hb dL_law_1229 rfl ?_
                                              refine lv_aload_n hx hb dL_law_1230 rfl (lv_at hl 0 rfl) ?_
                                              refine lv_iload hx hb dL_law_1231 (lv_at hl 4 rfl) ?_
                                              refine lv_iconst (v := (3 : Int32)) hx hb dL_law_1233 (by decide) ?_
                                              refine lv_iadd hx hb dL_law_1234 ?_
                                              have hi209 := h.1
                                              have h := h.2
                                              refine va_sld hx hb hX hbl hbA G.2 hi209 dL_law_1235 ?_
                                              refine lv_i2l hx hb dL_law_1236 rfl ?_
                                              refine lv_ldc2 (v := (4294967295 : Int64)) hx hb hown (hts (.constantLong RL 64 (4294967295)) tw_1245) dL_law_1237 ?_
                                              refine lv_land hx hb dL_law_1240 ?_
                                              refine lv_lor hx hb dL_law_1241 ?_
                                              refine lv_aload_n hx hb dL_law_1242 rfl (lv_at hl 0 rfl) ?_
                                              refine lv_iload hx hb dL_law_1243 (lv_at hl 4 rfl) ?_
                                              refine lv_iconst (v := (4 : Int32)) hx hb dL_law_1245 (by decide) ?_
                                              refine lv_iadd hx hb dL_law_1246 ?_
                                              have hi210 := h.1
                                              have h := h.2
                                              refine va_sld hx hb hX hbl hbA G.2 hi210 dL_law_1247 ?_
                                              refine lv_i2l hx hb dL_law_1248 rfl ?_
                                              refine lv_bipush (v := (32 : Int32)) hx hb dL_law_1249 (by decide) ?_
                                              refine lv_lshl hx hb dL_law_1251 rfl ?_
                                              refine lv_aload_n hx hb dL_law_1252 rfl (lv_at hl 0 rfl) ?_
                                              refine lv_iload hx hb dL_law_1253 (lv_at hl 4 rfl) ?_
                                              refine lv_iconst (v := (5 : Int32)) hx hb dL_law_1255 (by decide) ?_
                                              refine lv_iadd hx hb dL_law_1256 ?_
                                              have hi211 := h.1
                                              have h := h.2
                                              refine va_sld hx hb hX hbl hbA G.2 hi211 dL_law_1257 ?_
                                              refine lv_i2l hx hb dL_law_1258 rfl ?_
                                              refine lv_ldc2 (v := (4294967295 : Int64)) hx hb hown (hts (.constantLong RL 64 (4294967295)) tw_1245) dL_law_1259 ?_
                                              refine lv_land hx hb dL_law_1262 ?_
                                              refine lv_lor hx hb dL_law_1263 ?_
                                              refine e_callVi (As := [.int (xs (x4 + (1 : Int32)).toNatClampNeg), .long ((((xs (x4 + (2 : Int32)).toNatClampNeg).toInt64) <<< (((32 : Int32)).toInt64 &&& 63)) ||| (((xs (x4 + (3 : Int32)).toNatClampNeg).toInt64) &&& (4294967295 : Int64))), .long ((((xs (x4 + (4 : Int32)).toNatClampNeg).toInt64) <<< (((32 : Int32)).toInt64 &&& 63)) ||| (((xs (x4 + (5 : Int32)).toNatClampNeg).toInt64) &&& (4294967295 : Int64)))]) (rest := []) ⟨hx, hb, hml, hown, hts⟩ K G 0 (by decide) gl_0 rfl (c_X10_means h) (cwV 3 hts gw_118 rfl rfl rfl (by decide +kernel) ⟨Nat.le_of_ble_eq_true rfl, Nat.le_of_ble_eq_true rfl⟩) rfl hl.1 rfl (Nat.le_of_ble_eq_true rfl) dL_law_1264 hcs.le (fun r213 σ212 H locs h G => ?_)
                                              refine lv_aload_n hx hb dL_law_1267 rfl (lv_at hl 2 rfl) ?_
                                              refine lv_aload_n hx hb dL_law_1268 rfl (lv_at hl 0 rfl) ?_
                                              refine lv_iload hx hb dL_law_1269 (lv_at hl 4 rfl) ?_
                                              refine lv_iconst (v := (1 : Int32)) hx hb dL_law_1271 (by decide) ?_
                                              refine lv_iadd hx hb dL_law_1272 ?_
                                              have hi214 := h.1
                                              have h := h.2
                                              refine va_sld hx hb hX hbl hbA G.2 hi214 dL_law_1273 ?_
                                              refine lv_aload_n hx hb dL_law_1274 rfl (lv_at hl 0 rfl) ?_
                                              refine lv_iload hx hb dL_law_1275 (lv_at hl 4 rfl) ?_
                                              refine lv_iconst (v := (2 : Int32)) hx hb dL_law_1277 (by decide) ?_
                                              refine lv_iadd hx hb dL_law_1278 ?_
                                              have hi215 := h.1
                                              have h := h.2
                                              refine va_sld hx hb hX hbl hbA G.2 hi215 dL_law_1279 ?_
                                              refine lv_i2l hx hb dL_law_1280 rfl ?_
                                              refine lv_bipush (v := (32 : Int32)) hx hb dL_law_1281 (by decide) ?_
                                              refine lv_lshl hx hb dL_law_1283 rfl ?_
                                              refine lv_aload_n hx hb dL_law_1284 rfl (lv_at hl 0 rfl) ?_
                                              refine lv_iload hx hb dL_law_1285 (lv_at hl 4 rfl) ?_
                                              refine lv_iconst (v := (3 : Int32)) hx hb dL_law_1287 (by decide) ?_
                                              refine lv_iadd hx hb dL_law_1288 ?_
                                              have hi216 := h.1
                                              have h := h.2
                                              refine va_sld hx hb hX hbl hbA G.2 hi216 dL_law_1289 ?_
                                              refine lv_i2l hx hb dL_law_1290 rfl ?_
                                              refine lv_ldc2 (v := (4294967295 : Int64)) hx hb hown (hts (.constantLong RL 64 (4294967295)) tw_1245) dL_law_1291 ?_
                                              refine lv_land hx hb dL_law_1294 ?_
                                              refine lv_lor hx hb dL_law_1295 ?_
                                              refine lv_aload_n hx hb dL_law_1296 rfl (lv_at hl 0 rfl) ?_
                                              refine lv_iload hx hb dL_law_1297 (lv_at hl 4 rfl) ?_
                                              refine lv_iconst (v := (4 : Int32)) hx hb dL_law_1299 (by decide) ?_
                                              refine lv_iadd hx hb dL_law_1300 ?_
                                              have hi217 := h.1
                                              have h := h.2
                                              refine va_sld hx hb hX hbl hbA G.2 hi217 dL_law_1301 ?_
                                              refine lv_i2l hx hb dL_law_1302 rfl ?_
                                              refine lv_bipush (v := (32 : Int32)) hx hb dL_law_1303 (by decide) ?_
                                              refine lv_lshl hx hb dL_law_1305 rfl ?_
                                              refine lv_aload_n hx hb dL_law_1306 rfl (lv_at hl 0 rfl) ?_
                                              refine lv_iload hx hb dL_law_1307 (lv_at hl 4 rfl) ?_
                                              refine lv_iconst (v := (5 : Int32)) hx hb dL_law_1309 (by decide) ?_
                                              refine lv_iadd hx hb dL_law_1310 ?_
                                              have hi218 := h.1
                                              have h := h.2
                                              refine va_sld hx hb hX hbl hbA G.2 hi218 dL_law_1311 ?_
                                              refine lv_i2l hx hb dL_law_1312 rfl ?_
                                              refine lv_ldc2 (v := (4294967295 : Int64)) hx hb hown (hts (.constantLong RL 64 (4294967295)) tw_1245) dL_law_1313 ?_
                                              refine lv_land hx hb dL_law_1316 ?_
                                              refine lv_lor hx hb dL_law_1317 ?_
                                              refine e_callVi (As := [.int (xs (x4 + (1 : Int32)).toNatClampNeg), .long ((((xs (x4 + (2 : Int32)).toNatClampNeg).toInt64) <<< (((32 : Int32)).toInt64 &&& 63)) ||| (((xs (x4 + (3 : Int32)).toNatClampNeg).toInt64) &&& (4294967295 : Int64))), .long ((((xs (x4 + (4 : Int32)).toNatClampNeg).toInt64) <<< (((32 : Int32)).toInt64 &&& 63)) ||| (((xs (x4 + (5 : Int32)).toNatClampNeg).toInt64) &&& (4294967295 : Int64)))]) (rest := [.int (r213)]) ⟨hx, hb, hml, hown, hts⟩ K G 97 (by decide) gl_97 rfl (c_X11_means h) (cwV 3 hts gw_122 rfl rfl rfl (by decide +kernel) ⟨Nat.le_of_ble_eq_true rfl, Nat.le_of_ble_eq_true rfl⟩) rfl hl.1 rfl (Nat.le_of_ble_eq_true rfl) dL_law_1318 hcs.le (fun r220 σ219 H locs h G => ?_)
                                              refine lv_icmp_eq (tgt := 2415) hx hb dL_law_1321 (by decide) (fun c221 => ?_) (fun c221 => ?_)
                                              · have h := h.1 c221
                                                exact l_L_law_2415 (fu := n) C K hX hbl hbA hb0 hfl V hp (hK23 := ih) σ219 x4 _ _ _ _ _ hcs.dec  h G (lv_sub hl [0, 1, 2, 3, 4] rfl)
                                              · have h := h.2 c221
                                                refine lv_iconst (v := (0 : Int32)) hx hb dL_law_1324 (by decide) ?_
                                                exact le_ret hx hb hr hlocks hcs hb0 G (hp _ _ h) dL_law_1325
                                            · have h := h.2 c206
                                              by_cases c222 : v3 = (20 : Int32)
                                              · have h := h.1 c222
                                                refine lv_tableIn (tgt := 1326) hx hb dL_law_40 (by rw [c222]; decide) (by rw [c222]; decide) (by rw [c222]; rfl) (by decide) ?_
                                                refine lv_aload_n hx hb dL_law_1326 rfl (lv_at hl 1 rfl) ?_
                                                refine lv_aload_n hx hb dL_law_1327 rfl (lv_at hl 0 rfl) ?_
                                                refine lv_iload hx hb dL_law_1328 (lv_at hl 4 rfl) ?_
                                                refine lv_iconst (v := (1 : Int32)) hx hb dL_law_1330 (by decide) ?_
                                                refine lv_iadd hx hb dL_law_1331 ?_
                                                have hi223 := h.1
                                                have h := h.2
                                                refine va_sld hx hb hX hbl hbA G.2 hi223 dL_law_1332 ?_
                                                refine lv_aload_n hx hb dL_law_1333 rfl (lv_at hl 0 rfl) ?_
                                                refine lv_iload hx hb dL_law_1334 (lv_at hl 4 rfl) ?_
                                                refine lv_iconst (v := (2 : Int32)) hx hb dL_law_1336 (by decide) ?_
                                                refine lv_iadd hx hb dL_law_1337 ?_
                                                have hi224 := h.1
                                                have h := h.2
                                                refine va_sld hx hb hX hbl hbA G.2 hi224 dL_law_1338 ?_
                                                refine e_callVi (As := [.int (xs (x4 + (1 : Int32)).toNatClampNeg), .int (xs (x4 + (2 : Int32)).toNatClampNeg)]) (rest := []) ⟨hx, hb, hml, hown, hts⟩ K G 0 (by decide) gl_0 rfl (c_X10_smudge h) (cwV 2 hts gw_123 rfl rfl rfl (by decide +kernel) ⟨Nat.le_of_ble_eq_true rfl, Nat.le_of_ble_eq_true rfl⟩) rfl hl.1 rfl (Nat.le_of_ble_eq_true rfl) dL_law_1339 hcs.le (fun r226 σ225 H locs h G => ?_)
                                                refine lv_aload_n hx hb dL_law_1342 rfl (lv_at hl 2 rfl) ?_
                                                refine lv_aload_n hx hb dL_law_1343 rfl (lv_at hl 0 rfl) ?_
                                                refine lv_iload hx hb dL_law_1344 (lv_at hl 4 rfl) ?_
                                                refine lv_iconst (v := (1 : Int32)) hx hb dL_law_1346 (by decide) ?_
                                                refine lv_iadd hx hb dL_law_1347 ?_
                                                have hi227 := h.1
                                                have h := h.2
                                                refine va_sld hx hb hX hbl hbA G.2 hi227 dL_law_1348 ?_
                                                refine lv_aload_n hx hb dL_law_1349 rfl (lv_at hl 0 rfl) ?_
                                                refine lv_iload hx hb dL_law_1350 (lv_at hl 4 rfl) ?_
                                                refine lv_iconst (v := (2 : Int32)) hx hb dL_law_1352 (by decide) ?_
                                                refine lv_iadd hx hb dL_law_1353 ?_
                                                have hi228 := h.1
                                                have h := h.2
                                                refine va_sld hx hb hX hbl hbA G.2 hi228 dL_law_1354 ?_
                                                refine e_callVi (As := [.int (xs (x4 + (1 : Int32)).toNatClampNeg), .int (xs (x4 + (2 : Int32)).toNatClampNeg)]) (rest := [.int (r226)]) ⟨hx, hb, hml, hown, hts⟩ K G 97 (by decide) gl_97 rfl (c_X11_smudge h) (cwV 2 hts gw_126 rfl rfl rfl (by decide +kernel) ⟨Nat.le_of_ble_eq_true rfl, Nat.le_of_ble_eq_true rfl⟩) rfl hl.1 rfl (Nat.le_of_ble_eq_true rfl) dL_law_1355 hcs.le (fun r230 σ229 H locs h G => ?_)
                                                refine lv_icmp_eq (tgt := 2415) hx hb dL_law_1358 (by decide) (fun c231 => ?_) (fun c231 => ?_)
                                                · have h := h.1 c231
                                                  exact l_L_law_2415 (fu := n) C K hX hbl hbA hb0 hfl V hp (hK23 := ih) σ229 x4 _ _ _ _ _ hcs.dec  h G (lv_sub hl [0, 1, 2, 3, 4] rfl)
                                                · have h := h.2 c231
                                                  refine lv_iconst (v := (0 : Int32)) hx hb dL_law_1361 (by decide) ?_
                                                  exact le_ret hx hb hr hlocks hcs hb0 G (hp _ _ h) dL_law_1362
                                              · have h := h.2 c222
                                                by_cases c232 : v3 = (21 : Int32)
                                                · have h := h.1 c232
                                                  refine lv_tableIn (tgt := 1363) hx hb dL_law_40 (by rw [c232]; decide) (by rw [c232]; decide) (by rw [c232]; rfl) (by decide) ?_
                                                  refine lv_aload_n hx hb dL_law_1363 rfl (lv_at hl 1 rfl) ?_
                                                  refine lv_aload_n hx hb dL_law_1364 rfl (lv_at hl 0 rfl) ?_
                                                  refine lv_iload hx hb dL_law_1365 (lv_at hl 4 rfl) ?_
                                                  refine lv_iconst (v := (1 : Int32)) hx hb dL_law_1367 (by decide) ?_
                                                  refine lv_iadd hx hb dL_law_1368 ?_
                                                  have hi233 := h.1
                                                  have h := h.2
                                                  refine va_sld hx hb hX hbl hbA G.2 hi233 dL_law_1369 ?_
                                                  refine lv_aload_n hx hb dL_law_1370 rfl (lv_at hl 0 rfl) ?_
                                                  refine lv_iload hx hb dL_law_1371 (lv_at hl 4 rfl) ?_
                                                  refine lv_iconst (v := (2 : Int32)) hx hb dL_law_1373 (by decide) ?_
                                                  refine lv_iadd hx hb dL_law_1374 ?_
                                                  have hi234 := h.1
                                                  have h := h.2
                                                  refine va_sld hx hb hX hbl hbA G.2 hi234 dL_law_1375 ?_
                                                  refine e_callVi (As := [.int (xs (x4 + (1 : Int32)).toNatClampNeg), .int (xs (x4 + (2 : Int32)).toNatClampNeg)]) (rest := []) ⟨hx, hb, hml, hown, hts⟩ K G 0 (by decide) gl_0 rfl (c_X10_misread h) (cwV 2 hts gw_127 rfl rfl rfl (by decide +kernel) ⟨Nat.le_of_ble_eq_true rfl, Nat.le_of_ble_eq_true rfl⟩) rfl hl.1 rfl (Nat.le_of_ble_eq_true rfl) dL_law_1376 hcs.le (fun r236 σ235 H locs h G => ?_)
                                                  refine lv_aload_n hx hb dL_law_1379 rfl (lv_at hl 2 rfl) ?_
                                                  refine lv_aload_n hx hb dL_law_1380 rfl (lv_at hl 0 rfl) ?_
                                                  refine lv_iload hx hb dL_law_1381 (lv_at hl 4 rfl) ?_
                                                  refine lv_iconst (v := (1 : Int32)) hx hb dL_law_1383 (by decide) ?_
                                                  refine lv_iadd hx hb dL_law_1384 ?_
                                                  have hi237 := h.1
                                                  have h := h.2
                                                  refine va_sld hx hb hX hbl hbA G.2 hi237 dL_law_1385 ?_
                                                  refine lv_aload_n hx hb dL_law_1386 rfl (lv_at hl 0 rfl) ?_
                                                  refine lv_iload hx hb dL_law_1387 (lv_at hl 4 rfl) ?_
                                                  refine lv_iconst (v := (2 : Int32)) hx hb dL_law_1389 (by decide) ?_
                                                  refine lv_iadd hx hb dL_law_1390 ?_
                                                  have hi238 := h.1
                                                  have h := h.2
                                                  refine va_sld hx hb hX hbl hbA G.2 hi238 dL_law_1391 ?_
                                                  refine e_callVi (As := [.int (xs (x4 + (1 : Int32)).toNatClampNeg), .int (xs (x4 + (2 : Int32)).toNatClampNeg)]) (rest := [.int (r236)]) ⟨hx, hb, hml, hown, hts⟩ K G 97 (by decide) gl_97 rfl (c_X11_misread h) (cwV 2 hts gw_130 rfl rfl rfl (by decide +kernel) ⟨Nat.le_of_ble_eq_true rfl, Nat.le_of_ble_eq_true rfl⟩) rfl hl.1 rfl (Nat.le_of_ble_eq_true rfl) dL_law_1392 hcs.le (fun r240 σ239 H locs h G => ?_)
                                                  refine lv_icmp_eq (tgt := 2415) hx hb dL_law_1395 (by decide) (fun c241 => ?_) (fun c241 => ?_)
                                                  · have h := h.1 c241
                                                    exact l_L_law_2415 (fu := n) C K hX hbl hbA hb0 hfl V hp (hK23 := ih) σ239 x4 _ _ _ _ _ hcs.dec  h G (lv_sub hl [0, 1, 2, 3, 4] rfl)
                                                  · have h := h.2 c241
                                                    refine lv_iconst (v := (0 : Int32)) hx hb dL_law_1398 (by decide) ?_
                                                    exact le_ret hx hb hr hlocks hcs hb0 G (hp _ _ h) dL_law_1399
                                                · have h := h.2 c232
                                                  by_cases c242 : v3 = (22 : Int32)
                                                  · have h := h.1 c242
                                                    refine lv_tableIn (tgt := 1400) hx hb dL_law_40 (by rw [c242]; decide) (by rw [c242]; decide) (by rw [c242]; rfl) (by decide) ?_
                                                    refine lv_aload_n hx hb dL_law_1400 rfl (lv_at hl 1 rfl) ?_
                                                    refine lv_aload_n hx hb dL_law_1401 rfl (lv_at hl 0 rfl) ?_
                                                    refine lv_iload hx hb dL_law_1402 (lv_at hl 4 rfl) ?_
                                                    refine lv_iconst (v := (1 : Int32)) hx hb dL_law_1404 (by decide) ?_
                                                    refine lv_iadd hx hb dL_law_1405 ?_
                                                    have hi243 := h.1
                                                    have h := h.2
                                                    refine va_sld hx hb hX hbl hbA G.2 hi243 dL_law_1406 ?_
                                                    refine e_callVi (As := [.int (xs (x4 + (1 : Int32)).toNatClampNeg)]) (rest := []) ⟨hx, hb, hml, hown, hts⟩ K G 0 (by decide) gl_0 rfl (c_X10_shifts h) (cwV 1 hts gw_131 rfl rfl rfl (by decide +kernel) ⟨Nat.le_of_ble_eq_true rfl, Nat.le_of_ble_eq_true rfl⟩) rfl hl.1 rfl (Nat.le_of_ble_eq_true rfl) dL_law_1407 hcs.le (fun r245 σ244 H locs h G => ?_)
                                                    refine lv_aload_n hx hb dL_law_1410 rfl (lv_at hl 2 rfl) ?_
                                                    refine lv_aload_n hx hb dL_law_1411 rfl (lv_at hl 0 rfl) ?_
                                                    refine lv_iload hx hb dL_law_1412 (lv_at hl 4 rfl) ?_
                                                    refine lv_iconst (v := (1 : Int32)) hx hb dL_law_1414 (by decide) ?_
                                                    refine lv_iadd hx hb dL_law_1415 ?_
                                                    have hi246 := h.1
                                                    have h := h.2
                                                    refine va_sld hx hb hX hbl hbA G.2 hi246 dL_law_1416 ?_
                                                    refine e_callVi (As := [.int (xs (x4 + (1 : Int32)).toNatClampNeg)]) (rest := [.int (r245)]) ⟨hx, hb, hml, hown, hts⟩ K G 97 (by decide) gl_97 rfl (c_X11_shifts h) (cwV 1 hts gw_134 rfl rfl rfl (by decide +kernel) ⟨Nat.le_of_ble_eq_true rfl, Nat.le_of_ble_eq_true rfl⟩) rfl hl.1 rfl (Nat.le_of_ble_eq_true rfl) dL_law_1417 hcs.le (fun r248 σ247 H locs h G => ?_)
                                                    refine lv_icmp_eq (tgt := 2415) hx hb dL_law_1420 (by decide) (fun c249 => ?_) (fun c249 => ?_)
                                                    · have h := h.1 c249
                                                      exact l_L_law_2415 (fu := n) C K hX hbl hbA hb0 hfl V hp (hK23 := ih) σ247 x4 _ _ _ _ _ hcs.dec  h G (lv_sub hl [0, 1, 2, 3, 4] rfl)
                                                    · have h := h.2 c249
                                                      refine lv_iconst (v := (0 : Int32)) hx hb dL_law_1423 (by decide) ?_
                                                      exact le_ret hx hb hr hlocks hcs hb0 G (hp _ _ h) dL_law_1424
                                                  · have h := h.2 c242
                                                    by_cases c250 : v3 = (23 : Int32)
                                                    · have h := h.1 c250
                                                      refine lv_tableIn (tgt := 1425) hx hb dL_law_40 (by rw [c250]; decide) (by rw [c250]; decide) (by rw [c250]; rfl) (by decide) ?_
                                                      refine lv_aload_n hx hb dL_law_1425 rfl (lv_at hl 1 rfl) ?_
                                                      refine lv_aload_n hx hb dL_law_1426 rfl (lv_at hl 0 rfl) ?_
                                                      refine lv_iload hx hb dL_law_1427 (lv_at hl 4 rfl) ?_
                                                      refine lv_iconst (v := (1 : Int32)) hx hb dL_law_1429 (by decide) ?_
                                                      refine lv_iadd hx hb dL_law_1430 ?_
                                                      have hi251 := h.1
                                                      have h := h.2
                                                      refine va_sld hx hb hX hbl hbA G.2 hi251 dL_law_1431 ?_
                                                      refine lv_aload_n hx hb dL_law_1432 rfl (lv_at hl 0 rfl) ?_
                                                      refine lv_iload hx hb dL_law_1433 (lv_at hl 4 rfl) ?_
                                                      refine lv_iconst (v := (2 : Int32)) hx hb dL_law_1435 (by decide) ?_
                                                      refine lv_iadd hx hb dL_law_1436 ?_
                                                      have hi252 := h.1
                                                      have h := h.2
                                                      refine va_sld hx hb hX hbl hbA G.2 hi252 dL_law_1437 ?_
                                                      refine lv_i2l hx hb dL_law_1438 rfl ?_
                                                      refine lv_bipush (v := (32 : Int32)) hx hb dL_law_1439 (by decide) ?_
                                                      refine lv_lshl hx hb dL_law_1441 rfl ?_
                                                      refine lv_aload_n hx hb dL_law_1442 rfl (lv_at hl 0 rfl) ?_
                                                      refine lv_iload hx hb dL_law_1443 (lv_at hl 4 rfl) ?_
                                                      refine lv_iconst (v := (3 : Int32)) hx hb dL_law_1445 (by decide) ?_
                                                      refine lv_iadd hx hb dL_law_1446 ?_
                                                      have hi253 := h.1
                                                      have h := h.2
                                                      refine va_sld hx hb hX hbl hbA G.2 hi253 dL_law_1447 ?_
                                                      refine lv_i2l hx hb dL_law_1448 rfl ?_
                                                      refine lv_ldc2 (v := (4294967295 : Int64)) hx hb hown (hts (.constantLong RL 64 (4294967295)) tw_1245) dL_law_1449 ?_
                                                      refine lv_land hx hb dL_law_1452 ?_
                                                      refine lv_lor hx hb dL_law_1453 ?_
                                                      refine lv_aload_n hx hb dL_law_1454 rfl (lv_at hl 0 rfl) ?_
                                                      refine lv_iload hx hb dL_law_1455 (lv_at hl 4 rfl) ?_
                                                      refine lv_iconst (v := (4 : Int32)) hx hb dL_law_1457 (by decide) ?_
                                                      refine lv_iadd hx hb dL_law_1458 ?_
                                                      have hi254 := h.1
                                                      have h := h.2
                                                      refine va_sld hx hb hX hbl hbA G.2 hi254 dL_law_1459 ?_
                                                      refine lv_i2l hx hb dL_law_1460 rfl ?_
                                                      refine lv_bipush (v := (32 : Int32)) hx hb dL_law_1461 (by decide) ?_
                                                      refine lv_lshl hx hb dL_law_1463 rfl ?_
                                                      refine lv_aload_n hx hb dL_law_1464 rfl (lv_at hl 0 rfl) ?_
                                                      refine lv_iload hx hb dL_law_1465 (lv_at hl 4 rfl) ?_
                                                      refine lv_iconst (v := (5 : Int32)) hx hb dL_law_1467 (by decide) ?_
                                                      refine lv_iadd hx hb dL_law_1468 ?_
                                                      have hi255 := h.1
                                                      have h := h.2
                                                      refine va_sld hx hb hX hbl hbA G.2 hi255 dL_law_1469 ?_
                                                      refine lv_i2l hx hb dL_law_1470 rfl ?_
                                                      refine lv_ldc2 (v := (4294967295 : Int64)) hx hb hown (hts (.constantLong RL 64 (4294967295)) tw_1245) dL_law_1471 ?_
                                                      refine lv_land hx hb dL_law_1474 ?_
                                                      refine lv_lor hx hb dL_law_1475 ?_
                                                      refine e_callVi (As := [.int (xs (x4 + (1 : Int32)).toNatClampNeg), .long ((((xs (x4 + (2 : Int32)).toNatClampNeg).toInt64) <<< (((32 : Int32)).toInt64 &&& 63)) ||| (((xs (x4 + (3 : Int32)).toNatClampNeg).toInt64) &&& (4294967295 : Int64))), .long ((((xs (x4 + (4 : Int32)).toNatClampNeg).toInt64) <<< (((32 : Int32)).toInt64 &&& 63)) ||| (((xs (x4 + (5 : Int32)).toNatClampNeg).toInt64) &&& (4294967295 : Int64)))]) (rest := []) ⟨hx, hb, hml, hown, hts⟩ K G 0 (by decide) gl_0 rfl (c_X10_asks h) (cwV 3 hts gw_135 rfl rfl rfl (by decide +kernel) ⟨Nat.le_of_ble_eq_true rfl, Nat.le_of_ble_eq_true rfl⟩) rfl hl.1 rfl (Nat.le_of_ble_eq_true rfl) dL_law_1476 hcs.le (fun r257 σ256 H locs h G => ?_)
                                                      refine lv_aload_n hx hb dL_law_1479 rfl (lv_at hl 2 rfl) ?_
                                                      refine lv_aload_n hx hb dL_law_1480 rfl (lv_at hl 0 rfl) ?_
                                                      refine lv_iload hx hb dL_law_1481 (lv_at hl 4 rfl) ?_
                                                      refine lv_iconst (v := (1 : Int32)) hx hb dL_law_1483 (by decide) ?_
                                                      refine lv_iadd hx hb dL_law_1484 ?_
                                                      have hi258 := h.1
                                                      have h := h.2
                                                      refine va_sld hx hb hX hbl hbA G.2 hi258 dL_law_1485 ?_
                                                      refine lv_aload_n hx hb dL_law_1486 rfl (lv_at hl 0 rfl) ?_
                                                      refine lv_iload hx hb dL_law_1487 (lv_at hl 4 rfl) ?_
                                                      refine lv_iconst (v := (2 : Int32)) hx hb dL_law_1489 (by decide) ?_
                                                      refine lv_iadd hx hb dL_law_1490 ?_
                                                      have hi259 := h.1
                                                      have h := h.2
                                                      refine va_sld hx hb hX hbl hbA G.2 hi259 dL_law_1491 ?_
                                                      refine lv_i2l hx hb dL_law_1492 rfl ?_
                                                      refine lv_bipush (v := (32 : Int32)) hx hb dL_law_1493 (by decide) ?_
                                                      refine lv_lshl hx hb dL_law_1495 rfl ?_
                                                      refine lv_aload_n hx hb dL_law_1496 rfl (lv_at hl 0 rfl) ?_
                                                      refine lv_iload hx hb dL_law_1497 (lv_at hl 4 rfl) ?_
                                                      refine lv_iconst (v := (3 : Int32)) hx hb dL_law_1499 (by decide) ?_
                                                      refine lv_iadd hx hb dL_law_1500 ?_
                                                      have hi260 := h.1
                                                      have h := h.2
                                                      refine va_sld hx hb hX hbl hbA G.2 hi260 dL_law_1501 ?_
                                                      refine lv_i2l hx hb dL_law_1502 rfl ?_
                                                      refine lv_ldc2 (v := (4294967295 : Int64)) hx hb hown (hts (.constantLong RL 64 (4294967295)) tw_1245) dL_law_1503 ?_
                                                      refine lv_land hx hb dL_law_1506 ?_
                                                      refine lv_lor hx hb dL_law_1507 ?_
                                                      refine lv_aload_n hx hb dL_law_1508 rfl (lv_at hl 0 rfl) ?_
                                                      refine lv_iload hx hb dL_law_1509 (lv_at hl 4 rfl) ?_
                                                      refine lv_iconst (v := (4 : Int32)) hx hb dL_law_1511 (by decide) ?_
                                                      refine lv_iadd hx hb dL_law_1512 ?_
                                                      have hi261 := h.1
                                                      have h := h.2
                                                      refine va_sld hx hb hX hbl hbA G.2 hi261 dL_law_1513 ?_
                                                      refine lv_i2l hx hb dL_law_1514 rfl ?_
                                                      refine lv_bipush (v := (32 : Int32)) hx hb dL_law_1515 (by decide) ?_
                                                      refine lv_lshl hx hb dL_law_1517 rfl ?_
                                                      refine lv_aload_n hx hb dL_law_1518 rfl (lv_at hl 0 rfl) ?_
                                                      refine lv_iload hx hb dL_law_1519 (lv_at hl 4 rfl) ?_
                                                      refine lv_iconst (v := (5 : Int32)) hx hb dL_law_1521 (by decide) ?_
                                                      refine lv_iadd hx hb dL_law_1522 ?_
                                                      have hi262 := h.1
                                                      have h := h.2
                                                      refine va_sld hx hb hX hbl hbA G.2 hi262 dL_law_1523 ?_
                                                      refine lv_i2l hx hb dL_law_1524 rfl ?_
                                                      refine lv_ldc2 (v := (4294967295 : Int64)) hx hb hown (hts (.constantLong RL 64 (4294967295)) tw_1245) dL_law_1525 ?_
                                                      refine lv_land hx hb dL_law_1528 ?_
                                                      refine lv_lor hx hb dL_law_1529 ?_
                                                      refine e_callVi (As := [.int (xs (x4 + (1 : Int32)).toNatClampNeg), .long ((((xs (x4 + (2 : Int32)).toNatClampNeg).toInt64) <<< (((32 : Int32)).toInt64 &&& 63)) ||| (((xs (x4 + (3 : Int32)).toNatClampNeg).toInt64) &&& (4294967295 : Int64))), .long ((((xs (x4 + (4 : Int32)).toNatClampNeg).toInt64) <<< (((32 : Int32)).toInt64 &&& 63)) ||| (((xs (x4 + (5 : Int32)).toNatClampNeg).toInt64) &&& (4294967295 : Int64)))]) (rest := [.int (r257)]) ⟨hx, hb, hml, hown, hts⟩ K G 97 (by decide) gl_97 rfl (c_X11_asks h) (cwV 3 hts gw_138 rfl rfl rfl (by decide +kernel) ⟨Nat.le_of_ble_eq_true rfl, Nat.le_of_ble_eq_true rfl⟩) rfl hl.1 rfl (Nat.le_of_ble_eq_true rfl) dL_law_1530 hcs.le (fun r264 σ263 H locs h G => ?_)
                                                      refine lv_icmp_eq (tgt := 2415) hx hb dL_law_1533 (by decide) (fun c265 => ?_) (fun c265 => ?_)
                                                      · have h := h.1 c265
                                                        exact l_L_law_2415 (fu := n) C K hX hbl hbA hb0 hfl V hp (hK23 := ih) σ263 x4 _ _ _ _ _ hcs.dec  h G (lv_sub hl [0, 1, 2, 3, 4] rfl)
                                                      · have h := h.2 c265
                                                        refine lv_iconst (v := (0 : Int32)) hx hb dL_law_1536 (by decide) ?_
                                                        exact le_ret hx hb hr hlocks hcs hb0 G (hp _ _ h) dL_law_1537
                                                    · have h := h.2 c250
                                                      by_cases c266 : v3 = (24 : Int32)
                                                      · have h := h.1 c266
                                                        refine lv_tableIn (tgt := 1538) hx hb dL_law_40 (by rw [c266]; decide) (by rw [c266]; decide) (by rw [c266]; rfl) (by decide) ?_
                                                        refine lv_aload_n hx hb dL_law_1538 rfl (lv_at hl 1 rfl) ?_
                                                        refine lv_aload_n hx hb dL_law_1539 rfl (lv_at hl 0 rfl) ?_
                                                        refine lv_iload hx hb dL_law_1540 (lv_at hl 4 rfl) ?_
                                                        refine lv_iconst (v := (1 : Int32)) hx hb dL_law_1542 (by decide) ?_
                                                        refine lv_iadd hx hb dL_law_1543 ?_
                                                        have hi267 := h.1
                                                        have h := h.2
                                                        refine va_sld hx hb hX hbl hbA G.2 hi267 dL_law_1544 ?_
                                                        refine lv_aload_n hx hb dL_law_1545 rfl (lv_at hl 0 rfl) ?_
                                                        refine lv_iload hx hb dL_law_1546 (lv_at hl 4 rfl) ?_
                                                        refine lv_iconst (v := (2 : Int32)) hx hb dL_law_1548 (by decide) ?_
                                                        refine lv_iadd hx hb dL_law_1549 ?_
                                                        have hi268 := h.1
                                                        have h := h.2
                                                        refine va_sld hx hb hX hbl hbA G.2 hi268 dL_law_1550 ?_
                                                        refine e_callVi (As := [.int (xs (x4 + (1 : Int32)).toNatClampNeg), .int (xs (x4 + (2 : Int32)).toNatClampNeg)]) (rest := []) ⟨hx, hb, hml, hown, hts⟩ K G 0 (by decide) gl_0 rfl (c_X10_answer h) (cwV 2 hts gw_139 rfl rfl rfl (by decide +kernel) ⟨Nat.le_of_ble_eq_true rfl, Nat.le_of_ble_eq_true rfl⟩) rfl hl.1 rfl (Nat.le_of_ble_eq_true rfl) dL_law_1551 hcs.le (fun r270 σ269 H locs h G => ?_)
                                                        refine lv_aload_n hx hb dL_law_1554 rfl (lv_at hl 2 rfl) ?_
                                                        refine lv_aload_n hx hb dL_law_1555 rfl (lv_at hl 0 rfl) ?_
                                                        refine lv_iload hx hb dL_law_1556 (lv_at hl 4 rfl) ?_
                                                        refine lv_iconst (v := (1 : Int32)) hx hb dL_law_1558 (by decide) ?_
                                                        refine lv_iadd hx hb dL_law_1559 ?_
                                                        have hi271 := h.1
                                                        have h := h.2
                                                        refine va_sld hx hb hX hbl hbA G.2 hi271 dL_law_1560 ?_
                                                        refine lv_aload_n hx hb dL_law_1561 rfl (lv_at hl 0 rfl) ?_
                                                        refine lv_iload hx hb dL_law_1562 (lv_at hl 4 rfl) ?_
                                                        refine lv_iconst (v := (2 : Int32)) hx hb dL_law_1564 (by decide) ?_
                                                        refine lv_iadd hx hb dL_law_1565 ?_
                                                        have hi272 := h.1
                                                        have h := h.2
                                                        refine va_sld hx hb hX hbl hbA G.2 hi272 dL_law_1566 ?_
                                                        refine e_callVi (As := [.int (xs (x4 + (1 : Int32)).toNatClampNeg), .int (xs (x4 + (2 : Int32)).toNatClampNeg)]) (rest := [.int (r270)]) ⟨hx, hb, hml, hown, hts⟩ K G 97 (by decide) gl_97 rfl (c_X11_answer h) (cwV 2 hts gw_142 rfl rfl rfl (by decide +kernel) ⟨Nat.le_of_ble_eq_true rfl, Nat.le_of_ble_eq_true rfl⟩) rfl hl.1 rfl (Nat.le_of_ble_eq_true rfl) dL_law_1567 hcs.le (fun r274 σ273 H locs h G => ?_)
                                                        refine lv_icmp_eq (tgt := 2415) hx hb dL_law_1570 (by decide) (fun c275 => ?_) (fun c275 => ?_)
                                                        · have h := h.1 c275
                                                          exact l_L_law_2415 (fu := n) C K hX hbl hbA hb0 hfl V hp (hK23 := ih) σ273 x4 _ _ _ _ _ hcs.dec  h G (lv_sub hl [0, 1, 2, 3, 4] rfl)
                                                        · have h := h.2 c275
                                                          refine lv_iconst (v := (0 : Int32)) hx hb dL_law_1573 (by decide) ?_
                                                          exact le_ret hx hb hr hlocks hcs hb0 G (hp _ _ h) dL_law_1574
                                                      · have h := h.2 c266
                                                        by_cases c276 : v3 = (25 : Int32)
                                                        · have h := h.1 c276
                                                          refine lv_tableIn (tgt := 1575) hx hb dL_law_40 (by rw [c276]; decide) (by rw [c276]; decide) (by rw [c276]; rfl) (by decide) ?_
                                                          refine lv_aload_n hx hb dL_law_1575 rfl (lv_at hl 1 rfl) ?_
                                                          refine lv_aload_n hx hb dL_law_1576 rfl (lv_at hl 0 rfl) ?_
                                                          refine lv_iload hx hb dL_law_1577 (lv_at hl 4 rfl) ?_
                                                          refine lv_iconst (v := (1 : Int32)) hx hb dL_law_1579 (by decide) ?_
                                                          refine lv_iadd hx hb dL_law_1580 ?_
                                                          have hi277 := h.1
                                                          have h := h.2
                                                          refine va_sld hx hb hX hbl hbA G.2 hi277 dL_law_1581 ?_
                                                          refine e_callVi (As := [.int (xs (x4 + (1 : Int32)).toNatClampNeg)]) (rest := []) ⟨hx, hb, hml, hown, hts⟩ K G 0 (by decide) gl_0 rfl (c_X10_cycles h) (cwV 1 hts gw_143 rfl rfl rfl (by decide +kernel) ⟨Nat.le_of_ble_eq_true rfl, Nat.le_of_ble_eq_true rfl⟩) rfl hl.1 rfl (Nat.le_of_ble_eq_true rfl) dL_law_1582 hcs.le (fun r279 σ278 H locs h G => ?_)
                                                          refine lv_aload_n hx hb dL_law_1585 rfl (lv_at hl 2 rfl) ?_
                                                          refine lv_aload_n hx hb dL_law_1586 rfl (lv_at hl 0 rfl) ?_
                                                          refine lv_iload hx hb dL_law_1587 (lv_at hl 4 rfl) ?_
                                                          refine lv_iconst (v := (1 : Int32)) hx hb dL_law_1589 (by decide) ?_
                                                          refine lv_iadd hx hb dL_law_1590 ?_
                                                          have hi280 := h.1
                                                          have h := h.2
                                                          refine va_sld hx hb hX hbl hbA G.2 hi280 dL_law_1591 ?_
                                                          refine e_callVi (As := [.int (xs (x4 + (1 : Int32)).toNatClampNeg)]) (rest := [.int (r279)]) ⟨hx, hb, hml, hown, hts⟩ K G 97 (by decide) gl_97 rfl (c_X11_cycles h) (cwV 1 hts gw_146 rfl rfl rfl (by decide +kernel) ⟨Nat.le_of_ble_eq_true rfl, Nat.le_of_ble_eq_true rfl⟩) rfl hl.1 rfl (Nat.le_of_ble_eq_true rfl) dL_law_1592 hcs.le (fun r282 σ281 H locs h G => ?_)
                                                          refine lv_icmp_eq (tgt := 2415) hx hb dL_law_1595 (by decide) (fun c283 => ?_) (fun c283 => ?_)
                                                          · have h := h.1 c283
                                                            exact l_L_law_2415 (fu := n) C K hX hbl hbA hb0 hfl V hp (hK23 := ih) σ281 x4 _ _ _ _ _ hcs.dec  h G (lv_sub hl [0, 1, 2, 3, 4] rfl)
                                                          · have h := h.2 c283
                                                            refine lv_iconst (v := (0 : Int32)) hx hb dL_law_1598 (by decide) ?_
                                                            exact le_ret hx hb hr hlocks hcs hb0 G (hp _ _ h) dL_law_1599
                                                        · have h := h.2 c276
                                                          by_cases c284 : v3 = (26 : Int32)
                                                          · have h := h.1 c284
                                                            refine lv_tableIn (tgt := 1600) hx hb dL_law_40 (by rw [c284]; decide) (by rw [c284]; decide) (by rw [c284]; rfl) (by decide) ?_
                                                            refine lv_aload_n hx hb dL_law_1600 rfl (lv_at hl 1 rfl) ?_
                                                            refine lv_aload_n hx hb dL_law_1601 rfl (lv_at hl 0 rfl) ?_
                                                            refine lv_iload hx hb dL_law_1602 (lv_at hl 4 rfl) ?_
                                                            refine lv_iconst (v := (1 : Int32)) hx hb dL_law_1604 (by decide) ?_
                                                            refine lv_iadd hx hb dL_law_1605 ?_
                                                            have hi285 := h.1
                                                            have h := h.2
                                                            refine va_sld hx hb hX hbl hbA G.2 hi285 dL_law_1606 ?_
                                                            refine lv_aload_n hx hb dL_law_1607 rfl (lv_at hl 0 rfl) ?_
                                                            refine lv_iload hx hb dL_law_1608 (lv_at hl 4 rfl) ?_
                                                            refine lv_iconst (v := (2 : Int32)) hx hb dL_law_1610 (by decide) ?_
                                                            refine lv_iadd hx hb dL_law_1611 ?_
                                                            have hi286 := h.1
                                                            have h := h.2
                                                            refine va_sld hx hb hX hbl hbA G.2 hi286 dL_law_1612 ?_
                                                            refine e_callVi (As := [.int (xs (x4 + (1 : Int32)).toNatClampNeg), .int (xs (x4 + (2 : Int32)).toNatClampNeg)]) (rest := []) ⟨hx, hb, hml, hown, hts⟩ K G 0 (by decide) gl_0 rfl (c_X10_roots h) (cwV 2 hts gw_147 rfl rfl rfl (by decide +kernel) ⟨Nat.le_of_ble_eq_true rfl, Nat.le_of_ble_eq_true rfl⟩) rfl hl.1 rfl (Nat.le_of_ble_eq_true rfl) dL_law_1613 hcs.le (fun r288 σ287 H locs h G => ?_)
                                                            refine lv_aload_n hx hb dL_law_1616 rfl (lv_at hl 2 rfl) ?_
                                                            refine lv_aload_n hx hb dL_law_1617 rfl (lv_at hl 0 rfl) ?_
                                                            refine lv_iload hx hb dL_law_1618 (lv_at hl 4 rfl) ?_
                                                            refine lv_iconst (v := (1 : Int32)) hx hb dL_law_1620 (by decide) ?_
                                                            refine lv_iadd hx hb dL_law_1621 ?_
                                                            have hi289 := h.1
                                                            have h := h.2
                                                            refine va_sld hx hb hX hbl hbA G.2 hi289 dL_law_1622 ?_
                                                            refine lv_aload_n hx hb dL_law_1623 rfl (lv_at hl 0 rfl) ?_
                                                            refine lv_iload hx hb dL_law_1624 (lv_at hl 4 rfl) ?_
                                                            refine lv_iconst (v := (2 : Int32)) hx hb dL_law_1626 (by decide) ?_
                                                            refine lv_iadd hx hb dL_law_1627 ?_
                                                            have hi290 := h.1
                                                            have h := h.2
                                                            refine va_sld hx hb hX hbl hbA G.2 hi290 dL_law_1628 ?_
                                                            refine e_callVi (As := [.int (xs (x4 + (1 : Int32)).toNatClampNeg), .int (xs (x4 + (2 : Int32)).toNatClampNeg)]) (rest := [.int (r288)]) ⟨hx, hb, hml, hown, hts⟩ K G 97 (by decide) gl_97 rfl (c_X11_roots h) (cwV 2 hts gw_150 rfl rfl rfl (by decide +kernel) ⟨Nat.le_of_ble_eq_true rfl, Nat.le_of_ble_eq_true rfl⟩) rfl hl.1 rfl (Nat.le_of_ble_eq_true rfl) dL_law_1629 hcs.le (fun r292 σ291 H locs h G => ?_)
                                                            refine lv_icmp_eq (tgt := 2415) hx hb dL_law_1632 (by decide) (fun c293 => ?_) (fun c293 => ?_)
                                                            · have h := h.1 c293
                                                              exact l_L_law_2415 (fu := n) C K hX hbl hbA hb0 hfl V hp (hK23 := ih) σ291 x4 _ _ _ _ _ hcs.dec  h G (lv_sub hl [0, 1, 2, 3, 4] rfl)
                                                            · have h := h.2 c293
                                                              refine lv_iconst (v := (0 : Int32)) hx hb dL_law_1635 (by decide) ?_
                                                              exact le_ret hx hb hr hlocks hcs hb0 G (hp _ _ h) dL_law_1636
                                                          · have h := h.2 c284
                                                            by_cases c294 : v3 = (27 : Int32)
                                                            · have h := h.1 c294
                                                              refine lv_tableIn (tgt := 1637) hx hb dL_law_40 (by rw [c294]; decide) (by rw [c294]; decide) (by rw [c294]; rfl) (by decide) ?_
                                                              refine lv_aload_n hx hb dL_law_1637 rfl (lv_at hl 1 rfl) ?_
                                                              refine lv_aload_n hx hb dL_law_1638 rfl (lv_at hl 0 rfl) ?_
                                                              refine lv_iload hx hb dL_law_1639 (lv_at hl 4 rfl) ?_
                                                              refine lv_iconst (v := (1 : Int32)) hx hb dL_law_1641 (by decide) ?_
                                                              refine lv_iadd hx hb dL_law_1642 ?_
                                                              have hi295 := h.1
                                                              have h := h.2
                                                              refine va_sld hx hb hX hbl hbA G.2 hi295 dL_law_1643 ?_
                                                              refine lv_i2l hx hb dL_law_1644 rfl ?_
                                                              refine lv_bipush (v := (32 : Int32)) hx hb dL_law_1645 (by decide) ?_
                                                              refine lv_lshl hx hb dL_law_1647 rfl ?_
                                                              refine lv_aload_n hx hb dL_law_1648 rfl (lv_at hl 0 rfl) ?_
                                                              refine lv_iload hx hb dL_law_1649 (lv_at hl 4 rfl) ?_
                                                              refine lv_iconst (v := (2 : Int32)) hx hb dL_law_1651 (by decide) ?_
                                                              refine lv_iadd hx hb dL_law_1652 ?_
                                                              have hi296 := h.1
                                                              have h := h.2
                                                              refine va_sld hx hb hX hbl hbA G.2 hi296 dL_law_1653 ?_
                                                              refine lv_i2l hx hb dL_law_1654 rfl ?_
                                                              refine lv_ldc2 (v := (4294967295 : Int64)) hx hb hown (hts (.constantLong RL 64 (4294967295)) tw_1245) dL_law_1655 ?_
                                                              refine lv_land hx hb dL_law_1658 ?_
                                                              refine lv_lor hx hb dL_law_1659 ?_
                                                              refine e_callVi (As := [.long ((((xs (x4 + (1 : Int32)).toNatClampNeg).toInt64) <<< (((32 : Int32)).toInt64 &&& 63)) ||| (((xs (x4 + (2 : Int32)).toNatClampNeg).toInt64) &&& (4294967295 : Int64)))]) (rest := []) ⟨hx, hb, hml, hown, hts⟩ K G 0 (by decide) gl_0 rfl (c_X10_mends h) (cwV 1 hts gw_151 rfl rfl rfl (by decide +kernel) ⟨Nat.le_of_ble_eq_true rfl, Nat.le_of_ble_eq_true rfl⟩) rfl hl.1 rfl (Nat.le_of_ble_eq_true rfl) dL_law_1660 hcs.le (fun r298 σ297 H locs h G => ?_)
                                                              refine lv_aload_n hx hb dL_law_1663 rfl (lv_at hl 2 rfl) ?_
                                                              refine lv_aload_n hx hb dL_law_1664 rfl (lv_at hl 0 rfl) ?_
                                                              refine lv_iload hx hb dL_law_1665 (lv_at hl 4 rfl) ?_
                                                              refine lv_iconst (v := (1 : Int32)) hx hb dL_law_1667 (by decide) ?_
                                                              refine lv_iadd hx hb dL_law_1668 ?_
                                                              have hi299 := h.1
                                                              have h := h.2
                                                              refine va_sld hx hb hX hbl hbA G.2 hi299 dL_law_1669 ?_
                                                              refine lv_i2l hx hb dL_law_1670 rfl ?_
                                                              refine lv_bipush (v := (32 : Int32)) hx hb dL_law_1671 (by decide) ?_
                                                              refine lv_lshl hx hb dL_law_1673 rfl ?_
                                                              refine lv_aload_n hx hb dL_law_1674 rfl (lv_at hl 0 rfl) ?_
                                                              refine lv_iload hx hb dL_law_1675 (lv_at hl 4 rfl) ?_
                                                              refine lv_iconst (v := (2 : Int32)) hx hb dL_law_1677 (by decide) ?_
                                                              refine lv_iadd hx hb dL_law_1678 ?_
                                                              have hi300 := h.1
                                                              have h := h.2
                                                              refine va_sld hx hb hX hbl hbA G.2 hi300 dL_law_1679 ?_
                                                              refine lv_i2l hx hb dL_law_1680 rfl ?_
                                                              refine lv_ldc2 (v := (4294967295 : Int64)) hx hb hown (hts (.constantLong RL 64 (4294967295)) tw_1245) dL_law_1681 ?_
                                                              refine lv_land hx hb dL_law_1684 ?_
                                                              refine lv_lor hx hb dL_law_1685 ?_
                                                              refine e_callVi (As := [.long ((((xs (x4 + (1 : Int32)).toNatClampNeg).toInt64) <<< (((32 : Int32)).toInt64 &&& 63)) ||| (((xs (x4 + (2 : Int32)).toNatClampNeg).toInt64) &&& (4294967295 : Int64)))]) (rest := [.int (r298)]) ⟨hx, hb, hml, hown, hts⟩ K G 97 (by decide) gl_97 rfl (c_X11_mends h) (cwV 1 hts gw_154 rfl rfl rfl (by decide +kernel) ⟨Nat.le_of_ble_eq_true rfl, Nat.le_of_ble_eq_true rfl⟩) rfl hl.1 rfl (Nat.le_of_ble_eq_true rfl) dL_law_1686 hcs.le (fun r302 σ301 H locs h G => ?_)
                                                              refine lv_icmp_eq (tgt := 2415) hx hb dL_law_1689 (by decide) (fun c303 => ?_) (fun c303 => ?_)
                                                              · have h := h.1 c303
                                                                exact l_L_law_2415 (fu := n) C K hX hbl hbA hb0 hfl V hp (hK23 := ih) σ301 x4 _ _ _ _ _ hcs.dec  h G (lv_sub hl [0, 1, 2, 3, 4] rfl)
                                                              · have h := h.2 c303
                                                                refine lv_iconst (v := (0 : Int32)) hx hb dL_law_1692 (by decide) ?_
                                                                exact le_ret hx hb hr hlocks hcs hb0 G (hp _ _ h) dL_law_1693
                                                            · have h := h.2 c294
                                                              by_cases c304 : v3 = (28 : Int32)
                                                              · have h := h.1 c304
                                                                refine lv_tableIn (tgt := 1694) hx hb dL_law_40 (by rw [c304]; decide) (by rw [c304]; decide) (by rw [c304]; rfl) (by decide) ?_
                                                                refine lv_aload_n hx hb dL_law_1694 rfl (lv_at hl 1 rfl) ?_
                                                                refine lv_aload_n hx hb dL_law_1695 rfl (lv_at hl 0 rfl) ?_
                                                                refine lv_iload hx hb dL_law_1696 (lv_at hl 4 rfl) ?_
                                                                refine lv_iconst (v := (1 : Int32)) hx hb dL_law_1698 (by decide) ?_
                                                                refine lv_iadd hx hb dL_law_1699 ?_
                                                                have hi305 := h.1
                                                                have h := h.2
                                                                refine va_sld hx hb hX hbl hbA G.2 hi305 dL_law_1700 ?_
                                                                refine lv_aload_n hx hb dL_law_1701 rfl (lv_at hl 0 rfl) ?_
                                                                refine lv_iload hx hb dL_law_1702 (lv_at hl 4 rfl) ?_
                                                                refine lv_iconst (v := (2 : Int32)) hx hb dL_law_1704 (by decide) ?_
                                                                refine lv_iadd hx hb dL_law_1705 ?_
                                                                have hi306 := h.1
                                                                have h := h.2
                                                                refine va_sld hx hb hX hbl hbA G.2 hi306 dL_law_1706 ?_
                                                                refine e_callVi (As := [.int (xs (x4 + (1 : Int32)).toNatClampNeg), .int (xs (x4 + (2 : Int32)).toNatClampNeg)]) (rest := []) ⟨hx, hb, hml, hown, hts⟩ K G 0 (by decide) gl_0 rfl (c_X10_carries h) (cwV 2 hts gw_155 rfl rfl rfl (by decide +kernel) ⟨Nat.le_of_ble_eq_true rfl, Nat.le_of_ble_eq_true rfl⟩) rfl hl.1 rfl (Nat.le_of_ble_eq_true rfl) dL_law_1707 hcs.le (fun r308 σ307 H locs h G => ?_)
                                                                refine lv_aload_n hx hb dL_law_1710 rfl (lv_at hl 2 rfl) ?_
                                                                refine lv_aload_n hx hb dL_law_1711 rfl (lv_at hl 0 rfl) ?_
                                                                refine lv_iload hx hb dL_law_1712 (lv_at hl 4 rfl) ?_
                                                                refine lv_iconst (v := (1 : Int32)) hx hb dL_law_1714 (by decide) ?_
                                                                refine lv_iadd hx hb dL_law_1715 ?_
                                                                have hi309 := h.1
                                                                have h := h.2
                                                                refine va_sld hx hb hX hbl hbA G.2 hi309 dL_law_1716 ?_
                                                                refine lv_aload_n hx hb dL_law_1717 rfl (lv_at hl 0 rfl) ?_
                                                                refine lv_iload hx hb dL_law_1718 (lv_at hl 4 rfl) ?_
                                                                refine lv_iconst (v := (2 : Int32)) hx hb dL_law_1720 (by decide) ?_
                                                                refine lv_iadd hx hb dL_law_1721 ?_
                                                                have hi310 := h.1
                                                                have h := h.2
                                                                refine va_sld hx hb hX hbl hbA G.2 hi310 dL_law_1722 ?_
                                                                refine e_callVi (As := [.int (xs (x4 + (1 : Int32)).toNatClampNeg), .int (xs (x4 + (2 : Int32)).toNatClampNeg)]) (rest := [.int (r308)]) ⟨hx, hb, hml, hown, hts⟩ K G 97 (by decide) gl_97 rfl (c_X11_carries h) (cwV 2 hts gw_158 rfl rfl rfl (by decide +kernel) ⟨Nat.le_of_ble_eq_true rfl, Nat.le_of_ble_eq_true rfl⟩) rfl hl.1 rfl (Nat.le_of_ble_eq_true rfl) dL_law_1723 hcs.le (fun r312 σ311 H locs h G => ?_)
                                                                refine lv_icmp_eq (tgt := 2415) hx hb dL_law_1726 (by decide) (fun c313 => ?_) (fun c313 => ?_)
                                                                · have h := h.1 c313
                                                                  exact l_L_law_2415 (fu := n) C K hX hbl hbA hb0 hfl V hp (hK23 := ih) σ311 x4 _ _ _ _ _ hcs.dec  h G (lv_sub hl [0, 1, 2, 3, 4] rfl)
                                                                · have h := h.2 c313
                                                                  refine lv_iconst (v := (0 : Int32)) hx hb dL_law_1729 (by decide) ?_
                                                                  exact le_ret hx hb hr hlocks hcs hb0 G (hp _ _ h) dL_law_1730
                                                              · have h := h.2 c304
                                                                by_cases c314 : v3 = (29 : Int32)
                                                                · have h := h.1 c314
                                                                  refine lv_tableIn (tgt := 1731) hx hb dL_law_40 (by rw [c314]; decide) (by rw [c314]; decide) (by rw [c314]; rfl) (by decide) ?_
                                                                  refine lv_aload_n hx hb dL_law_1731 rfl (lv_at hl 1 rfl) ?_
                                                                  refine lv_aload_n hx hb dL_law_1732 rfl (lv_at hl 0 rfl) ?_
                                                                  refine lv_iload hx hb dL_law_1733 (lv_at hl 4 rfl) ?_
                                                                  refine lv_iconst (v := (1 : Int32)) hx hb dL_law_1735 (by decide) ?_
                                                                  refine lv_iadd hx hb dL_law_1736 ?_
                                                                  have hi315 := h.1
                                                                  have h := h.2
                                                                  refine va_sld hx hb hX hbl hbA G.2 hi315 dL_law_1737 ?_
                                                                  refine e_callVi (As := [.int (xs (x4 + (1 : Int32)).toNatClampNeg)]) (rest := []) ⟨hx, hb, hml, hown, hts⟩ K G 0 (by decide) gl_0 rfl (c_X10_best h) (cwV 1 hts gw_159 rfl rfl rfl (by decide +kernel) ⟨Nat.le_of_ble_eq_true rfl, Nat.le_of_ble_eq_true rfl⟩) rfl hl.1 rfl (Nat.le_of_ble_eq_true rfl) dL_law_1738 hcs.le (fun r317 σ316 H locs h G => ?_)
                                                                  refine lv_aload_n hx hb dL_law_1741 rfl (lv_at hl 2 rfl) ?_
                                                                  refine lv_aload_n hx hb dL_law_1742 rfl (lv_at hl 0 rfl) ?_
                                                                  refine lv_iload hx hb dL_law_1743 (lv_at hl 4 rfl) ?_
                                                                  refine lv_iconst (v := (1 : Int32)) hx hb dL_law_1745 (by decide) ?_
                                                                  refine lv_iadd hx hb dL_law_1746 ?_
                                                                  have hi318 := h.1
                                                                  have h := h.2
                                                                  refine va_sld hx hb hX hbl hbA G.2 hi318 dL_law_1747 ?_
                                                                  refine e_callVi (As := [.int (xs (x4 + (1 : Int32)).toNatClampNeg)]) (rest := [.int (r317)]) ⟨hx, hb, hml, hown, hts⟩ K G 97 (by decide) gl_97 rfl (c_X11_best h) (cwV 1 hts gw_162 rfl rfl rfl (by decide +kernel) ⟨Nat.le_of_ble_eq_true rfl, Nat.le_of_ble_eq_true rfl⟩) rfl hl.1 rfl (Nat.le_of_ble_eq_true rfl) dL_law_1748 hcs.le (fun r320 σ319 H locs h G => ?_)
                                                                  refine lv_icmp_eq (tgt := 2415) hx hb dL_law_1751 (by decide) (fun c321 => ?_) (fun c321 => ?_)
                                                                  · have h := h.1 c321
                                                                    exact l_L_law_2415 (fu := n) C K hX hbl hbA hb0 hfl V hp (hK23 := ih) σ319 x4 _ _ _ _ _ hcs.dec  h G (lv_sub hl [0, 1, 2, 3, 4] rfl)
                                                                  · have h := h.2 c321
                                                                    refine lv_iconst (v := (0 : Int32)) hx hb dL_law_1754 (by decide) ?_
                                                                    exact le_ret hx hb hr hlocks hcs hb0 G (hp _ _ h) dL_law_1755
                                                                · have h := h.2 c314
                                                                  by_cases c322 : v3 = (30 : Int32)
                                                                  · have h := h.1 c322
                                                                    refine lv_tableIn (tgt := 1756) hx hb dL_law_40 (by rw [c322]; decide) (by rw [c322]; decide) (by rw [c322]; rfl) (by decide) ?_
                                                                    refine lv_aload_n hx hb dL_law_1756 rfl (lv_at hl 1 rfl) ?_
                                                                    refine lv_aload_n hx hb dL_law_1757 rfl (lv_at hl 0 rfl) ?_
                                                                    refine lv_iload hx hb dL_law_1758 (lv_at hl 4 rfl) ?_
                                                                    refine lv_iconst (v := (1 : Int32)) hx hb dL_law_1760 (by decide) ?_
                                                                    refine lv_iadd hx hb dL_law_1761 ?_
                                                                    have hi323 := h.1
                                                                    have h := h.2
                                                                    refine va_sld hx hb hX hbl hbA G.2 hi323 dL_law_1762 ?_
                                                                    refine lv_aload_n hx hb dL_law_1763 rfl (lv_at hl 0 rfl) ?_
                                                                    refine lv_iload hx hb dL_law_1764 (lv_at hl 4 rfl) ?_
                                                                    refine lv_iconst (v := (2 : Int32)) hx hb dL_law_1766 (by decide) ?_
                                                                    refine lv_iadd hx hb dL_law_1767 ?_
                                                                    have hi324 := h.1
                                                                    have h := h.2
                                                                    refine va_sld hx hb hX hbl hbA G.2 hi324 dL_law_1768 ?_
                                                                    refine lv_aload_n hx hb dL_law_1769 rfl (lv_at hl 0 rfl) ?_
                                                                    refine lv_iload hx hb dL_law_1770 (lv_at hl 4 rfl) ?_
                                                                    refine lv_iconst (v := (3 : Int32)) hx hb dL_law_1772 (by decide) ?_
                                                                    refine lv_iadd hx hb dL_law_1773 ?_
                                                                    have hi325 := h.1
                                                                    have h := h.2
                                                                    refine va_sld hx hb hX hbl hbA G.2 hi325 dL_law_1774 ?_
                                                                    refine e_callVi (As := [.int (xs (x4 + (1 : Int32)).toNatClampNeg), .int (xs (x4 + (2 : Int32)).toNatClampNeg), .int (xs (x4 + (3 : Int32)).toNatClampNeg)]) (rest := []) ⟨hx, hb, hml, hown, hts⟩ K G 0 (by decide) gl_0 rfl (c_X10_days h) (cwV 3 hts gw_163 rfl rfl rfl (by decide +kernel) ⟨Nat.le_of_ble_eq_true rfl, Nat.le_of_ble_eq_true rfl⟩) rfl hl.1 rfl (Nat.le_of_ble_eq_true rfl) dL_law_1775 hcs.le (fun r327 σ326 H locs h G => ?_)
                                                                    refine lv_aload_n hx hb dL_law_1778 rfl (lv_at hl 2 rfl) ?_
                                                                    refine lv_aload_n hx hb dL_law_1779 rfl (lv_at hl 0 rfl) ?_
                                                                    refine lv_iload hx hb dL_law_1780 (lv_at hl 4 rfl) ?_
                                                                    refine lv_iconst (v := (1 : Int32)) hx hb dL_law_1782 (by decide) ?_
                                                                    refine lv_iadd hx hb dL_law_1783 ?_
                                                                    have hi328 := h.1
                                                                    have h := h.2
                                                                    refine va_sld hx hb hX hbl hbA G.2 hi328 dL_law_1784 ?_
                                                                    refine lv_aload_n hx hb dL_law_1785 rfl (lv_at hl 0 rfl) ?_
                                                                    refine lv_iload hx hb dL_law_1786 (lv_at hl 4 rfl) ?_
                                                                    refine lv_iconst (v := (2 : Int32)) hx hb dL_law_1788 (by decide) ?_
                                                                    refine lv_iadd hx hb dL_law_1789 ?_
                                                                    have hi329 := h.1
                                                                    have h := h.2
                                                                    refine va_sld hx hb hX hbl hbA G.2 hi329 dL_law_1790 ?_
                                                                    refine lv_aload_n hx hb dL_law_1791 rfl (lv_at hl 0 rfl) ?_
                                                                    refine lv_iload hx hb dL_law_1792 (lv_at hl 4 rfl) ?_
                                                                    refine lv_iconst (v := (3 : Int32)) hx hb dL_law_1794 (by decide) ?_
                                                                    refine lv_iadd hx hb dL_law_1795 ?_
                                                                    have hi330 := h.1
                                                                    have h := h.2
                                                                    refine va_sld hx hb hX hbl hbA G.2 hi330 dL_law_1796 ?_
                                                                    refine e_callVi (As := [.int (xs (x4 + (1 : Int32)).toNatClampNeg), .int (xs (x4 + (2 : Int32)).toNatClampNeg), .int (xs (x4 + (3 : Int32)).toNatClampNeg)]) (rest := [.int (r327)]) ⟨hx, hb, hml, hown, hts⟩ K G 97 (by decide) gl_97 rfl (c_X11_days h) (cwV 3 hts gw_166 rfl rfl rfl (by decide +kernel) ⟨Nat.le_of_ble_eq_true rfl, Nat.le_of_ble_eq_true rfl⟩) rfl hl.1 rfl (Nat.le_of_ble_eq_true rfl) dL_law_1797 hcs.le (fun r332 σ331 H locs h G => ?_)
                                                                    refine lv_icmp_eq (tgt := 2415) hx hb dL_law_1800 (by decide) (fun c333 => ?_) (fun c333 => ?_)
                                                                    · have h := h.1 c333
                                                                      exact l_L_law_2415 (fu := n) C K hX hbl hbA hb0 hfl V hp (hK23 := ih) σ331 x4 _ _ _ _ _ hcs.dec  h G (lv_sub hl [0, 1, 2, 3, 4] rfl)
                                                                    · have h := h.2 c333
                                                                      refine lv_iconst (v := (0 : Int32)) hx hb dL_law_1803 (by decide) ?_
                                                                      exact le_ret hx hb hr hlocks hcs hb0 G (hp _ _ h) dL_law_1804
                                                                  · have h := h.2 c322
                                                                    by_cases c334 : v3 = (31 : Int32)
                                                                    · have h := h.1 c334
                                                                      refine lv_tableIn (tgt := 1805) hx hb dL_law_40 (by rw [c334]; decide) (by rw [c334]; decide) (by rw [c334]; rfl) (by decide) ?_
                                                                      refine lv_aload_n hx hb dL_law_1805 rfl (lv_at hl 1 rfl) ?_
                                                                      refine lv_aload_n hx hb dL_law_1806 rfl (lv_at hl 0 rfl) ?_
                                                                      refine lv_iload hx hb dL_law_1807 (lv_at hl 4 rfl) ?_
                                                                      refine lv_iconst (v := (1 : Int32)) hx hb dL_law_1809 (by decide) ?_
                                                                      refine lv_iadd hx hb dL_law_1810 ?_
                                                                      have hi335 := h.1
                                                                      have h := h.2
                                                                      refine va_sld hx hb hX hbl hbA G.2 hi335 dL_law_1811 ?_
                                                                      refine e_callVi (As := [.int (xs (x4 + (1 : Int32)).toNatClampNeg)]) (rest := []) ⟨hx, hb, hml, hown, hts⟩ K G 0 (by decide) gl_0 rfl (c_X10_postman h) (cwV 1 hts gw_167 rfl rfl rfl (by decide +kernel) ⟨Nat.le_of_ble_eq_true rfl, Nat.le_of_ble_eq_true rfl⟩) rfl hl.1 rfl (Nat.le_of_ble_eq_true rfl) dL_law_1812 hcs.le (fun r337 σ336 H locs h G => ?_)
                                                                      refine lv_aload_n hx hb dL_law_1815 rfl (lv_at hl 2 rfl) ?_
                                                                      refine lv_aload_n hx hb dL_law_1816 rfl (lv_at hl 0 rfl) ?_
                                                                      refine lv_iload hx hb dL_law_1817 (lv_at hl 4 rfl) ?_
                                                                      refine lv_iconst (v := (1 : Int32)) hx hb dL_law_1819 (by decide) ?_
                                                                      refine lv_iadd hx hb dL_law_1820 ?_
                                                                      have hi338 := h.1
                                                                      have h := h.2
                                                                      refine va_sld hx hb hX hbl hbA G.2 hi338 dL_law_1821 ?_
                                                                      refine e_callVi (As := [.int (xs (x4 + (1 : Int32)).toNatClampNeg)]) (rest := [.int (r337)]) ⟨hx, hb, hml, hown, hts⟩ K G 97 (by decide) gl_97 rfl (c_X11_postman h) (cwV 1 hts gw_170 rfl rfl rfl (by decide +kernel) ⟨Nat.le_of_ble_eq_true rfl, Nat.le_of_ble_eq_true rfl⟩) rfl hl.1 rfl (Nat.le_of_ble_eq_true rfl) dL_law_1822 hcs.le (fun r340 σ339 H locs h G => ?_)
                                                                      refine lv_icmp_eq (tgt := 2415) hx hb dL_law_1825 (by decide) (fun c341 => ?_) (fun c341 => ?_)
                                                                      · have h := h.1 c341
                                                                        exact l_L_law_2415 (fu := n) C K hX hbl hbA hb0 hfl V hp (hK23 := ih) σ339 x4 _ _ _ _ _ hcs.dec  h G (lv_sub hl [0, 1, 2, 3, 4] rfl)
                                                                      · have h := h.2 c341
                                                                        refine lv_iconst (v := (0 : Int32)) hx hb dL_law_1828 (by decide) ?_
                                                                        exact le_ret hx hb hr hlocks hcs hb0 G (hp _ _ h) dL_law_1829
                                                                    · have h := h.2 c334
                                                                      by_cases c342 : v3 = (32 : Int32)
                                                                      · have h := h.1 c342
                                                                        refine lv_tableIn (tgt := 1830) hx hb dL_law_40 (by rw [c342]; decide) (by rw [c342]; decide) (by rw [c342]; rfl) (by decide) ?_
                                                                        refine lv_aload_n hx hb dL_law_1830 rfl (lv_at hl 1 rfl) ?_
                                                                        refine lv_aload_n hx hb dL_law_1831 rfl (lv_at hl 0 rfl) ?_
                                                                        refine lv_iload hx hb dL_law_1832 (lv_at hl 4 rfl) ?_
                                                                        refine lv_iconst (v := (1 : Int32)) hx hb dL_law_1834 (by decide) ?_
                                                                        refine lv_iadd hx hb dL_law_1835 ?_
                                                                        have hi343 := h.1
                                                                        have h := h.2
                                                                        refine va_sld hx hb hX hbl hbA G.2 hi343 dL_law_1836 ?_
                                                                        refine lv_aload_n hx hb dL_law_1837 rfl (lv_at hl 0 rfl) ?_
                                                                        refine lv_iload hx hb dL_law_1838 (lv_at hl 4 rfl) ?_
                                                                        refine lv_iconst (v := (2 : Int32)) hx hb dL_law_1840 (by decide) ?_
                                                                        refine lv_iadd hx hb dL_law_1841 ?_
                                                                        have hi344 := h.1
                                                                        have h := h.2
                                                                        refine va_sld hx hb hX hbl hbA G.2 hi344 dL_law_1842 ?_
                                                                        refine e_callVi (As := [.int (xs (x4 + (1 : Int32)).toNatClampNeg), .int (xs (x4 + (2 : Int32)).toNatClampNeg)]) (rest := []) ⟨hx, hb, hml, hown, hts⟩ K G 0 (by decide) gl_0 rfl (c_X10_travels h) (cwV 2 hts gw_171 rfl rfl rfl (by decide +kernel) ⟨Nat.le_of_ble_eq_true rfl, Nat.le_of_ble_eq_true rfl⟩) rfl hl.1 rfl (Nat.le_of_ble_eq_true rfl) dL_law_1843 hcs.le (fun r346 σ345 H locs h G => ?_)
                                                                        refine lv_aload_n hx hb dL_law_1846 rfl (lv_at hl 2 rfl) ?_
                                                                        refine lv_aload_n hx hb dL_law_1847 rfl (lv_at hl 0 rfl) ?_
                                                                        refine lv_iload hx hb dL_law_1848 (lv_at hl 4 rfl) ?_
                                                                        refine lv_iconst (v := (1 : Int32)) hx hb dL_law_1850 (by decide) ?_
                                                                        refine lv_iadd hx hb dL_law_1851 ?_
                                                                        have hi347 := h.1
                                                                        have h := h.2
                                                                        refine va_sld hx hb hX hbl hbA G.2 hi347 dL_law_1852 ?_
                                                                        refine lv_aload_n hx hb dL_law_1853 rfl (lv_at hl 0 rfl) ?_
                                                                        refine lv_iload hx hb dL_law_1854 (lv_at hl 4 rfl) ?_
                                                                        refine lv_iconst (v := (2 : Int32)) hx hb dL_law_1856 (by decide) ?_
                                                                        refine lv_iadd hx hb dL_law_1857 ?_
                                                                        have hi348 := h.1
                                                                        have h := h.2
                                                                        refine va_sld hx hb hX hbl hbA G.2 hi348 dL_law_1858 ?_
                                                                        refine e_callVi (As := [.int (xs (x4 + (1 : Int32)).toNatClampNeg), .int (xs (x4 + (2 : Int32)).toNatClampNeg)]) (rest := [.int (r346)]) ⟨hx, hb, hml, hown, hts⟩ K G 97 (by decide) gl_97 rfl (c_X11_travels h) (cwV 2 hts gw_174 rfl rfl rfl (by decide +kernel) ⟨Nat.le_of_ble_eq_true rfl, Nat.le_of_ble_eq_true rfl⟩) rfl hl.1 rfl (Nat.le_of_ble_eq_true rfl) dL_law_1859 hcs.le (fun r350 σ349 H locs h G => ?_)
                                                                        refine lv_icmp_eq (tgt := 2415) hx hb dL_law_1862 (by decide) (fun c351 => ?_) (fun c351 => ?_)
                                                                        · have h := h.1 c351
                                                                          exact l_L_law_2415 (fu := n) C K hX hbl hbA hb0 hfl V hp (hK23 := ih) σ349 x4 _ _ _ _ _ hcs.dec  h G (lv_sub hl [0, 1, 2, 3, 4] rfl)
                                                                        · have h := h.2 c351
                                                                          refine lv_iconst (v := (0 : Int32)) hx hb dL_law_1865 (by decide) ?_
                                                                          exact le_ret hx hb hr hlocks hcs hb0 G (hp _ _ h) dL_law_1866
                                                                      · have h := h.2 c342
                                                                        by_cases c352 : v3 = (33 : Int32)
                                                                        · have h := h.1 c352
                                                                          refine lv_tableIn (tgt := 1867) hx hb dL_law_40 (by rw [c352]; decide) (by rw [c352]; decide) (by rw [c352]; rfl) (by decide) ?_
                                                                          refine lv_aload_n hx hb dL_law_1867 rfl (lv_at hl 1 rfl) ?_
                                                                          refine lv_aload_n hx hb dL_law_1868 rfl (lv_at hl 0 rfl) ?_
                                                                          refine lv_iload hx hb dL_law_1869 (lv_at hl 4 rfl) ?_
                                                                          refine lv_iconst (v := (1 : Int32)) hx hb dL_law_1871 (by decide) ?_
                                                                          refine lv_iadd hx hb dL_law_1872 ?_
                                                                          have hi353 := h.1
                                                                          have h := h.2
                                                                          refine va_sld hx hb hX hbl hbA G.2 hi353 dL_law_1873 ?_
                                                                          refine lv_aload_n hx hb dL_law_1874 rfl (lv_at hl 0 rfl) ?_
                                                                          refine lv_iload hx hb dL_law_1875 (lv_at hl 4 rfl) ?_
                                                                          refine lv_iconst (v := (2 : Int32)) hx hb dL_law_1877 (by decide) ?_
                                                                          refine lv_iadd hx hb dL_law_1878 ?_
                                                                          have hi354 := h.1
                                                                          have h := h.2
                                                                          refine va_sld hx hb hX hbl hbA G.2 hi354 dL_law_1879 ?_
                                                                          refine lv_aload_n hx hb dL_law_1880 rfl (lv_at hl 0 rfl) ?_
                                                                          refine lv_iload hx hb dL_law_1881 (lv_at hl 4 rfl) ?_
                                                                          refine lv_iconst (v := (3 : Int32)) hx hb dL_law_1883 (by decide) ?_
                                                                          refine lv_iadd hx hb dL_law_1884 ?_
                                                                          have hi355 := h.1
                                                                          have h := h.2
                                                                          refine va_sld hx hb hX hbl hbA G.2 hi355 dL_law_1885 ?_
                                                                          refine e_callVi (As := [.int (xs (x4 + (1 : Int32)).toNatClampNeg), .int (xs (x4 + (2 : Int32)).toNatClampNeg), .int (xs (x4 + (3 : Int32)).toNatClampNeg)]) (rest := []) ⟨hx, hb, hml, hown, hts⟩ K G 0 (by decide) gl_0 rfl (c_X10_round h) (cwV 3 hts gw_175 rfl rfl rfl (by decide +kernel) ⟨Nat.le_of_ble_eq_true rfl, Nat.le_of_ble_eq_true rfl⟩) rfl hl.1 rfl (Nat.le_of_ble_eq_true rfl) dL_law_1886 hcs.le (fun r357 σ356 H locs h G => ?_)
                                                                          refine lv_aload_n hx hb dL_law_1889 rfl (lv_at hl 2 rfl) ?_
                                                                          refine lv_aload_n hx hb dL_law_1890 rfl (lv_at hl 0 rfl) ?_
                                                                          refine lv_iload hx hb dL_law_1891 (lv_at hl 4 rfl) ?_
                                                                          refine lv_iconst (v := (1 : Int32)) hx hb dL_law_1893 (by decide) ?_
                                                                          refine lv_iadd hx hb dL_law_1894 ?_
                                                                          have hi358 := h.1
                                                                          have h := h.2
                                                                          refine va_sld hx hb hX hbl hbA G.2 hi358 dL_law_1895 ?_
                                                                          refine lv_aload_n hx hb dL_law_1896 rfl (lv_at hl 0 rfl) ?_
                                                                          refine lv_iload hx hb dL_law_1897 (lv_at hl 4 rfl) ?_
                                                                          refine lv_iconst (v := (2 : Int32)) hx hb dL_law_1899 (by decide) ?_
                                                                          refine lv_iadd hx hb dL_law_1900 ?_
                                                                          have hi359 := h.1
                                                                          have h := h.2
                                                                          refine va_sld hx hb hX hbl hbA G.2 hi359 dL_law_1901 ?_
                                                                          refine lv_aload_n hx hb dL_law_1902 rfl (lv_at hl 0 rfl) ?_
                                                                          refine lv_iload hx hb dL_law_1903 (lv_at hl 4 rfl) ?_
                                                                          refine lv_iconst (v := (3 : Int32)) hx hb dL_law_1905 (by decide) ?_
                                                                          refine lv_iadd hx hb dL_law_1906 ?_
                                                                          have hi360 := h.1
                                                                          have h := h.2
                                                                          refine va_sld hx hb hX hbl hbA G.2 hi360 dL_law_1907 ?_
                                                                          refine e_callVi (As := [.int (xs (x4 + (1 : Int32)).toNatClampNeg), .int (xs (x4 + (2 : Int32)).toNatClampNeg), .int (xs (x4 + (3 : Int32)).toNatClampNeg)]) (rest := [.int (r357)]) ⟨hx, hb, hml, hown, hts⟩ K G 97 (by decide) gl_97 rfl (c_X11_round h) (cwV 3 hts gw_178 rfl rfl rfl (by decide +kernel) ⟨Nat.le_of_ble_eq_true rfl, Nat.le_of_ble_eq_true rfl⟩) rfl hl.1 rfl (Nat.le_of_ble_eq_true rfl) dL_law_1908 hcs.le (fun r362 σ361 H locs h G => ?_)
                                                                          refine lv_icmp_eq (tgt := 2415) hx hb dL_law_1911 (by decide) (fun c363 => ?_) (fun c363 => ?_)
                                                                          · have h := h.1 c363
                                                                            exact l_L_law_2415 (fu := n) C K hX hbl hbA hb0 hfl V hp (hK23 := ih) σ361 x4 _ _ _ _ _ hcs.dec  h G (lv_sub hl [0, 1, 2, 3, 4] rfl)
                                                                          · have h := h.2 c363
                                                                            refine lv_iconst (v := (0 : Int32)) hx hb dL_law_1914 (by decide) ?_
                                                                            exact le_ret hx hb hr hlocks hcs hb0 G (hp _ _ h) dL_law_1915
                                                                        · have h := h.2 c352
                                                                          by_cases c364 : v3 = (34 : Int32)
                                                                          · have h := h.1 c364
                                                                            refine lv_tableIn (tgt := 1916) hx hb dL_law_40 (by rw [c364]; decide) (by rw [c364]; decide) (by rw [c364]; rfl) (by decide) ?_
                                                                            refine lv_aload_n hx hb dL_law_1916 rfl (lv_at hl 1 rfl) ?_
                                                                            refine e_callVi (As := []) (rest := []) ⟨hx, hb, hml, hown, hts⟩ K G 0 (by decide) gl_0 rfl (c_X10_rule h) (cwV 0 hts gw_179 rfl rfl rfl (by decide +kernel) ⟨Nat.le_of_ble_eq_true rfl, Nat.le_of_ble_eq_true rfl⟩) rfl hl.1 rfl (Nat.le_of_ble_eq_true rfl) dL_law_1917 hcs.le (fun r366 σ365 H locs h G => ?_)
                                                                            refine lv_aload_n hx hb dL_law_1920 rfl (lv_at hl 2 rfl) ?_
                                                                            refine e_callVi (As := []) (rest := [.int (r366)]) ⟨hx, hb, hml, hown, hts⟩ K G 97 (by decide) gl_97 rfl (c_X11_rule h) (cwV 0 hts gw_182 rfl rfl rfl (by decide +kernel) ⟨Nat.le_of_ble_eq_true rfl, Nat.le_of_ble_eq_true rfl⟩) rfl hl.1 rfl (Nat.le_of_ble_eq_true rfl) dL_law_1921 hcs.le (fun r368 σ367 H locs h G => ?_)
                                                                            refine lv_icmp_eq (tgt := 2415) hx hb dL_law_1924 (by decide) (fun c369 => ?_) (fun c369 => ?_)
                                                                            · have h := h.1 c369
                                                                              exact l_L_law_2415 (fu := n) C K hX hbl hbA hb0 hfl V hp (hK23 := ih) σ367 x4 _ _ _ _ _ hcs.dec  h G (lv_sub hl [0, 1, 2, 3, 4] rfl)
                                                                            · have h := h.2 c369
                                                                              refine lv_iconst (v := (0 : Int32)) hx hb dL_law_1927 (by decide) ?_
                                                                              exact le_ret hx hb hr hlocks hcs hb0 G (hp _ _ h) dL_law_1928
                                                                          · have h := h.2 c364
                                                                            by_cases c370 : v3 = (35 : Int32)
                                                                            · have h := h.1 c370
                                                                              refine lv_tableIn (tgt := 1929) hx hb dL_law_40 (by rw [c370]; decide) (by rw [c370]; decide) (by rw [c370]; rfl) (by decide) ?_
                                                                              refine lv_aload_n hx hb dL_law_1929 rfl (lv_at hl 1 rfl) ?_
                                                                              refine lv_aload_n hx hb dL_law_1930 rfl (lv_at hl 0 rfl) ?_
                                                                              refine lv_iload hx hb dL_law_1931 (lv_at hl 4 rfl) ?_
                                                                              refine lv_iconst (v := (1 : Int32)) hx hb dL_law_1933 (by decide) ?_
                                                                              refine lv_iadd hx hb dL_law_1934 ?_
                                                                              have hi371 := h.1
                                                                              have h := h.2
                                                                              refine va_sld hx hb hX hbl hbA G.2 hi371 dL_law_1935 ?_
                                                                              refine lv_aload_n hx hb dL_law_1936 rfl (lv_at hl 0 rfl) ?_
                                                                              refine lv_iload hx hb dL_law_1937 (lv_at hl 4 rfl) ?_
                                                                              refine lv_iconst (v := (2 : Int32)) hx hb dL_law_1939 (by decide) ?_
                                                                              refine lv_iadd hx hb dL_law_1940 ?_
                                                                              have hi372 := h.1
                                                                              have h := h.2
                                                                              refine va_sld hx hb hX hbl hbA G.2 hi372 dL_law_1941 ?_
                                                                              refine lv_aload_n hx hb dL_law_1942 rfl (lv_at hl 0 rfl) ?_
                                                                              refine lv_iload hx hb dL_law_1943 (lv_at hl 4 rfl) ?_
                                                                              refine lv_iconst (v := (3 : Int32)) hx hb dL_law_1945 (by decide) ?_
                                                                              refine lv_iadd hx hb dL_law_1946 ?_
                                                                              have hi373 := h.1
                                                                              have h := h.2
                                                                              refine va_sld hx hb hX hbl hbA G.2 hi373 dL_law_1947 ?_
                                                                              refine lv_aload_n hx hb dL_law_1948 rfl (lv_at hl 3 rfl) ?_
                                                                              refine e_callSX (As := [.ref (ρ (0)), .int (xs (x4 + (1 : Int32)).toNatClampNeg), .int (xs (x4 + (2 : Int32)).toNatClampNeg), .int (xs (x4 + (3 : Int32)).toNatClampNeg), .ref (ρ (125))]) (rest := []) ⟨hx, hb, hml, hown, hts⟩ K V G (c_L_late hfl h) (vx_cwSW 5 hts gw_183 rfl rfl rfl (by decide +kernel) ⟨Nat.le_of_ble_eq_true rfl, Nat.le_of_ble_eq_true rfl⟩) rfl hl.1 rfl (Nat.le_of_ble_eq_true rfl) dL_law_1949 hcs.room (fun r375 σ374 H locs h G => ?_)
                                                                              have hcs := hcs.thr
                                                                              refine lv_istore (lv' := [(5, .int (r375)), (0, .ref b), (1, .ref (ρ (0))), (2, .ref (ρ (97))), (3, .ref (ρ (125))), (4, .int (x4))]) hx hb dL_law_1952 hl (by decide) rfl (fun ls hl => ?_)
                                                                              refine lv_aload_n hx hb dL_law_1954 rfl (lv_at hl 3 rfl) ?_
                                                                              refine lv_aload_n hx hb dL_law_1955 rfl (lv_at hl 1 rfl) ?_
                                                                              refine lv_iload hx hb dL_law_1956 (lv_at hl 5 rfl) ?_
                                                                              refine lv_iconst (v := (1 : Int32)) hx hb dL_law_1958 (by decide) ?_
                                                                              refine lv_iadd hx hb dL_law_1959 ?_
                                                                              have hi376 := h.1
                                                                              have h := h.2
                                                                              refine va_sld hx hb hX hbl hbA G.2 hi376 dL_law_1960 ?_
                                                                              refine lv_aload_n hx hb dL_law_1961 rfl (lv_at hl 1 rfl) ?_
                                                                              refine lv_iload hx hb dL_law_1962 (lv_at hl 5 rfl) ?_
                                                                              refine lv_iconst (v := (2 : Int32)) hx hb dL_law_1964 (by decide) ?_
                                                                              refine lv_iadd hx hb dL_law_1965 ?_
                                                                              have hi377 := h.1
                                                                              have h := h.2
                                                                              refine va_sld hx hb hX hbl hbA G.2 hi377 dL_law_1966 ?_
                                                                              refine lv_aload_n hx hb dL_law_1967 rfl (lv_at hl 1 rfl) ?_
                                                                              refine lv_iload hx hb dL_law_1968 (lv_at hl 5 rfl) ?_
                                                                              refine lv_iconst (v := (3 : Int32)) hx hb dL_law_1970 (by decide) ?_
                                                                              refine lv_iadd hx hb dL_law_1971 ?_
                                                                              have hi378 := h.1
                                                                              have h := h.2
                                                                              refine va_sld hx hb hX hbl hbA G.2 hi378 dL_law_1972 ?_
                                                                              refine e_callVi (As := [.int (xs (x4 + (1 : Int32)).toNatClampNeg), .int (xs (x4 + (2 : Int32)).toNatClampNeg), .int (xs (x4 + (3 : Int32)).toNatClampNeg)]) (rest := []) ⟨hx, hb, hml, hown, hts⟩ K G 97 (by decide) gl_97 rfl (c_X11_late h) (cwV 3 hts gw_186 rfl rfl rfl (by decide +kernel) ⟨Nat.le_of_ble_eq_true rfl, Nat.le_of_ble_eq_true rfl⟩) rfl hl.1 rfl (Nat.le_of_ble_eq_true rfl) dL_law_1973 hcs.le (fun r380 σ379 H locs h G => ?_)
                                                                              refine lv_istore (lv' := [(6, .int (r380)), (5, .int (r375)), (0, .ref b), (1, .ref (ρ (0))), (2, .ref (ρ (97))), (3, .ref (ρ (125))), (4, .int (x4))]) hx hb dL_law_1976 hl (by decide) rfl (fun ls hl => ?_)
                                                                              refine lv_aload_n hx hb dL_law_1978 rfl (lv_at hl 4 rfl) ?_
                                                                              refine e_callVi (As := []) (rest := []) ⟨hx, hb, hml, hown, hts⟩ K G 97 (by decide) gl_97 rfl (c_X11_thrown h) (cwV 0 hts gw_48 rfl rfl rfl (by decide +kernel) ⟨Nat.le_of_ble_eq_true rfl, Nat.le_of_ble_eq_true rfl⟩) rfl hl.1 rfl (Nat.le_of_ble_eq_true rfl) dL_law_1979 hcs.le (fun r382 σ381 H locs h G => ?_)
                                                                              refine lv_iload hx hb dL_law_1982 (lv_at hl 1 rfl) ?_
                                                                              refine lv_icmp_eq (tgt := 1989) hx hb dL_law_1984 (by decide) (fun c383 => ?_) (fun c383 => ?_)
                                                                              · have h := h.1 c383
                                                                                refine lv_iload hx hb dL_law_1989 (lv_at hl 1 rfl) ?_
                                                                                refine lv_if_ne (tgt := 2006) hx hb dL_law_1991 (by decide) (fun c384 => ?_) (fun c384 => ?_)
                                                                                · have h := h.1 c384
                                                                                  refine lv_goto (tgt := 2415) hx hb dL_law_2006 (by decide) ?_
                                                                                  exact l_L_law_2415 (fu := n) C K hX hbl hbA hb0 hfl V hp (hK23 := ih) σ381 x4 _ _ _ _ _ hcs  h G (lv_sub hl [2, 3, 4, 5, 6] rfl)
                                                                                · have h := h.2 c384
                                                                                  refine lv_aload_n hx hb dL_law_1994 rfl (lv_at hl 5 rfl) ?_
                                                                                  refine lv_iconst (v := (0 : Int32)) hx hb dL_law_1995 (by decide) ?_
                                                                                  have hi385 := h.1
                                                                                  have h := h.2
                                                                                  refine e_lald hx hb K G 125 1 1 1 (by decide) gl_125 rfl hi385 dL_law_1996 ?_
                                                                                  refine lv_iload hx hb dL_law_1997 (lv_at hl 0 rfl) ?_
                                                                                  refine lv_i2l hx hb dL_law_1999 rfl ?_
                                                                                  refine W.lcmp hx hb dL_law_2000 ?_
                                                                                  refine lv_if_eq (tgt := 2006) hx hb dL_law_2001 (by decide) (fun c386 => ?_) (fun c386 => ?_)
                                                                                  · have h := h.1 c386
                                                                                    refine lv_goto (tgt := 2415) hx hb dL_law_2006 (by decide) ?_
                                                                                    exact l_L_law_2415 (fu := n) C K hX hbl hbA hb0 hfl V hp (hK23 := ih) σ381 x4 _ _ _ _ _ hcs  h G (lv_sub hl [2, 3, 4, 5, 6] rfl)
                                                                                  · have h := h.2 c386
                                                                                    refine lv_iconst (v := (0 : Int32)) hx hb dL_law_2004 (by decide) ?_
                                                                                    exact le_ret hx hb hr hlocks hcs hb0 G (hp _ _ h) dL_law_2005
                                                                              · have h := h.2 c383
                                                                                refine lv_iconst (v := (0 : Int32)) hx hb dL_law_1987 (by decide) ?_
                                                                                exact le_ret hx hb hr hlocks hcs hb0 G (hp _ _ h) dL_law_1988
                                                                            · have h := h.2 c370
                                                                              by_cases c387 : v3 = (36 : Int32)
                                                                              · have h := h.1 c387
                                                                                refine lv_tableIn (tgt := 2009) hx hb dL_law_40 (by rw [c387]; decide) (by rw [c387]; decide) (by rw [c387]; rfl) (by decide) ?_
                                                                                refine lv_aload_n hx hb dL_law_2009 rfl (lv_at hl 1 rfl) ?_
                                                                                refine lv_aload_n hx hb dL_law_2010 rfl (lv_at hl 0 rfl) ?_
                                                                                refine lv_iload hx hb dL_law_2011 (lv_at hl 4 rfl) ?_
                                                                                refine lv_iconst (v := (1 : Int32)) hx hb dL_law_2013 (by decide) ?_
                                                                                refine lv_iadd hx hb dL_law_2014 ?_
                                                                                have hi388 := h.1
                                                                                have h := h.2
                                                                                refine va_sld hx hb hX hbl hbA G.2 hi388 dL_law_2015 ?_
                                                                                refine e_callVi (As := [.int (xs (x4 + (1 : Int32)).toNatClampNeg)]) (rest := []) ⟨hx, hb, hml, hown, hts⟩ K G 0 (by decide) gl_0 rfl (c_X10_sends h) (cwV 1 hts gw_187 rfl rfl rfl (by decide +kernel) ⟨Nat.le_of_ble_eq_true rfl, Nat.le_of_ble_eq_true rfl⟩) rfl hl.1 rfl (Nat.le_of_ble_eq_true rfl) dL_law_2016 hcs.le (fun r390 σ389 H locs h G => ?_)
                                                                                refine lv_aload_n hx hb dL_law_2019 rfl (lv_at hl 2 rfl) ?_
                                                                                refine lv_aload_n hx hb dL_law_2020 rfl (lv_at hl 0 rfl) ?_
                                                                                refine lv_iload hx hb dL_law_2021 (lv_at hl 4 rfl) ?_
                                                                                refine lv_iconst (v := (1 : Int32)) hx hb dL_law_2023 (by decide) ?_
                                                                                refine lv_iadd hx hb dL_law_2024 ?_
                                                                                have hi391 := h.1
                                                                                have h := h.2
                                                                                refine va_sld hx hb hX hbl hbA G.2 hi391 dL_law_2025 ?_
                                                                                refine e_callVi (As := [.int (xs (x4 + (1 : Int32)).toNatClampNeg)]) (rest := [.int (r390)]) ⟨hx, hb, hml, hown, hts⟩ K G 97 (by decide) gl_97 rfl (c_X11_sends h) (cwV 1 hts gw_190 rfl rfl rfl (by decide +kernel) ⟨Nat.le_of_ble_eq_true rfl, Nat.le_of_ble_eq_true rfl⟩) rfl hl.1 rfl (Nat.le_of_ble_eq_true rfl) dL_law_2026 hcs.le (fun r393 σ392 H locs h G => ?_)
                                                                                refine lv_icmp_eq (tgt := 2415) hx hb dL_law_2029 (by decide) (fun c394 => ?_) (fun c394 => ?_)
                                                                                · have h := h.1 c394
                                                                                  exact l_L_law_2415 (fu := n) C K hX hbl hbA hb0 hfl V hp (hK23 := ih) σ392 x4 _ _ _ _ _ hcs.dec  h G (lv_sub hl [0, 1, 2, 3, 4] rfl)
                                                                                · have h := h.2 c394
                                                                                  refine lv_iconst (v := (0 : Int32)) hx hb dL_law_2032 (by decide) ?_
                                                                                  exact le_ret hx hb hr hlocks hcs hb0 G (hp _ _ h) dL_law_2033
                                                                              · have h := h.2 c387
                                                                                by_cases c395 : v3 = (37 : Int32)
                                                                                · have h := h.1 c395
                                                                                  refine lv_tableIn (tgt := 2034) hx hb dL_law_40 (by rw [c395]; decide) (by rw [c395]; decide) (by rw [c395]; rfl) (by decide) ?_
                                                                                  refine lv_aload_n hx hb dL_law_2034 rfl (lv_at hl 1 rfl) ?_
                                                                                  refine lv_aload_n hx hb dL_law_2035 rfl (lv_at hl 0 rfl) ?_
                                                                                  refine lv_iload hx hb dL_law_2036 (lv_at hl 4 rfl) ?_
                                                                                  refine lv_iconst (v := (1 : Int32)) hx hb dL_law_2038 (by decide) ?_
                                                                                  refine lv_iadd hx hb dL_law_2039 ?_
                                                                                  have hi396 := h.1
                                                                                  have h := h.2
                                                                                  refine va_sld hx hb hX hbl hbA G.2 hi396 dL_law_2040 ?_
                                                                                  refine lv_aload_n hx hb dL_law_2041 rfl (lv_at hl 0 rfl) ?_
                                                                                  refine lv_iload hx hb dL_law_2042 (lv_at hl 4 rfl) ?_
                                                                                  refine lv_iconst (v := (2 : Int32)) hx hb dL_law_2044 (by decide) ?_
                                                                                  refine lv_iadd hx hb dL_law_2045 ?_
                                                                                  have hi397 := h.1
                                                                                  have h := h.2
                                                                                  refine va_sld hx hb hX hbl hbA G.2 hi397 dL_law_2046 ?_
                                                                                  refine e_callVi (As := [.int (xs (x4 + (1 : Int32)).toNatClampNeg), .int (xs (x4 + (2 : Int32)).toNatClampNeg)]) (rest := []) ⟨hx, hb, hml, hown, hts⟩ K G 0 (by decide) gl_0 rfl (c_X10_walk h) (cwV 2 hts gw_191 rfl rfl rfl (by decide +kernel) ⟨Nat.le_of_ble_eq_true rfl, Nat.le_of_ble_eq_true rfl⟩) rfl hl.1 rfl (Nat.le_of_ble_eq_true rfl) dL_law_2047 hcs.le (fun r399 σ398 H locs h G => ?_)
                                                                                  refine lv_aload_n hx hb dL_law_2050 rfl (lv_at hl 2 rfl) ?_
                                                                                  refine lv_aload_n hx hb dL_law_2051 rfl (lv_at hl 0 rfl) ?_
                                                                                  refine lv_iload hx hb dL_law_2052 (lv_at hl 4 rfl) ?_
                                                                                  refine lv_iconst (v := (1 : Int32)) hx hb dL_law_2054 (by decide) ?_
                                                                                  refine lv_iadd hx hb dL_law_2055 ?_
                                                                                  have hi400 := h.1
                                                                                  have h := h.2
                                                                                  refine va_sld hx hb hX hbl hbA G.2 hi400 dL_law_2056 ?_
                                                                                  refine lv_aload_n hx hb dL_law_2057 rfl (lv_at hl 0 rfl) ?_
                                                                                  refine lv_iload hx hb dL_law_2058 (lv_at hl 4 rfl) ?_
                                                                                  refine lv_iconst (v := (2 : Int32)) hx hb dL_law_2060 (by decide) ?_
                                                                                  refine lv_iadd hx hb dL_law_2061 ?_
                                                                                  have hi401 := h.1
                                                                                  have h := h.2
                                                                                  refine va_sld hx hb hX hbl hbA G.2 hi401 dL_law_2062 ?_
                                                                                  refine e_callVi (As := [.int (xs (x4 + (1 : Int32)).toNatClampNeg), .int (xs (x4 + (2 : Int32)).toNatClampNeg)]) (rest := [.int (r399)]) ⟨hx, hb, hml, hown, hts⟩ K G 97 (by decide) gl_97 rfl (c_X11_walk h) (cwV 2 hts gw_194 rfl rfl rfl (by decide +kernel) ⟨Nat.le_of_ble_eq_true rfl, Nat.le_of_ble_eq_true rfl⟩) rfl hl.1 rfl (Nat.le_of_ble_eq_true rfl) dL_law_2063 hcs.le (fun r403 σ402 H locs h G => ?_)
                                                                                  refine lv_icmp_eq (tgt := 2415) hx hb dL_law_2066 (by decide) (fun c404 => ?_) (fun c404 => ?_)
                                                                                  · have h := h.1 c404
                                                                                    exact l_L_law_2415 (fu := n) C K hX hbl hbA hb0 hfl V hp (hK23 := ih) σ402 x4 _ _ _ _ _ hcs.dec  h G (lv_sub hl [0, 1, 2, 3, 4] rfl)
                                                                                  · have h := h.2 c404
                                                                                    refine lv_iconst (v := (0 : Int32)) hx hb dL_law_2069 (by decide) ?_
                                                                                    exact le_ret hx hb hr hlocks hcs hb0 G (hp _ _ h) dL_law_2070
                                                                                · have h := h.2 c395
                                                                                  by_cases c405 : v3 = (38 : Int32)
                                                                                  · have h := h.1 c405
                                                                                    refine lv_tableIn (tgt := 2071) hx hb dL_law_40 (by rw [c405]; decide) (by rw [c405]; decide) (by rw [c405]; rfl) (by decide) ?_
                                                                                    refine lv_aload_n hx hb dL_law_2071 rfl (lv_at hl 1 rfl) ?_
                                                                                    refine lv_aload_n hx hb dL_law_2072 rfl (lv_at hl 0 rfl) ?_
                                                                                    refine lv_iload hx hb dL_law_2073 (lv_at hl 4 rfl) ?_
                                                                                    refine lv_iconst (v := (1 : Int32)) hx hb dL_law_2075 (by decide) ?_
                                                                                    refine lv_iadd hx hb dL_law_2076 ?_
                                                                                    have hi406 := h.1
                                                                                    have h := h.2
                                                                                    refine va_sld hx hb hX hbl hbA G.2 hi406 dL_law_2077 ?_
                                                                                    refine e_callVi (As := [.int (xs (x4 + (1 : Int32)).toNatClampNeg)]) (rest := []) ⟨hx, hb, hml, hown, hts⟩ K G 0 (by decide) gl_0 rfl (c_X10_meet h) (cwV 1 hts gw_195 rfl rfl rfl (by decide +kernel) ⟨Nat.le_of_ble_eq_true rfl, Nat.le_of_ble_eq_true rfl⟩) rfl hl.1 rfl (Nat.le_of_ble_eq_true rfl) dL_law_2078 hcs.le (fun r408 σ407 H locs h G => ?_)
                                                                                    refine lv_aload_n hx hb dL_law_2081 rfl (lv_at hl 2 rfl) ?_
                                                                                    refine lv_aload_n hx hb dL_law_2082 rfl (lv_at hl 0 rfl) ?_
                                                                                    refine lv_iload hx hb dL_law_2083 (lv_at hl 4 rfl) ?_
                                                                                    refine lv_iconst (v := (1 : Int32)) hx hb dL_law_2085 (by decide) ?_
                                                                                    refine lv_iadd hx hb dL_law_2086 ?_
                                                                                    have hi409 := h.1
                                                                                    have h := h.2
                                                                                    refine va_sld hx hb hX hbl hbA G.2 hi409 dL_law_2087 ?_
                                                                                    refine e_callVi (As := [.int (xs (x4 + (1 : Int32)).toNatClampNeg)]) (rest := [.int (r408)]) ⟨hx, hb, hml, hown, hts⟩ K G 97 (by decide) gl_97 rfl (c_X11_meet h) (cwV 1 hts gw_198 rfl rfl rfl (by decide +kernel) ⟨Nat.le_of_ble_eq_true rfl, Nat.le_of_ble_eq_true rfl⟩) rfl hl.1 rfl (Nat.le_of_ble_eq_true rfl) dL_law_2088 hcs.le (fun r411 σ410 H locs h G => ?_)
                                                                                    refine lv_icmp_eq (tgt := 2415) hx hb dL_law_2091 (by decide) (fun c412 => ?_) (fun c412 => ?_)
                                                                                    · have h := h.1 c412
                                                                                      exact l_L_law_2415 (fu := n) C K hX hbl hbA hb0 hfl V hp (hK23 := ih) σ410 x4 _ _ _ _ _ hcs.dec  h G (lv_sub hl [0, 1, 2, 3, 4] rfl)
                                                                                    · have h := h.2 c412
                                                                                      refine lv_iconst (v := (0 : Int32)) hx hb dL_law_2094 (by decide) ?_
                                                                                      exact le_ret hx hb hr hlocks hcs hb0 G (hp _ _ h) dL_law_2095
                                                                                  · have h := h.2 c405
                                                                                    by_cases c413 : v3 = (39 : Int32)
                                                                                    · have h := h.1 c413
                                                                                      refine lv_tableIn (tgt := 2096) hx hb dL_law_40 (by rw [c413]; decide) (by rw [c413]; decide) (by rw [c413]; rfl) (by decide) ?_
                                                                                      refine lv_aload_n hx hb dL_law_2096 rfl (lv_at hl 1 rfl) ?_
                                                                                      refine lv_aload_n hx hb dL_law_2097 rfl (lv_at hl 0 rfl) ?_
                                                                                      refine lv_iload hx hb dL_law_2098 (lv_at hl 4 rfl) ?_
                                                                                      refine lv_iconst (v := (1 : Int32)) hx hb dL_law_2100 (by decide) ?_
                                                                                      refine lv_iadd hx hb dL_law_2101 ?_
                                                                                      have hi414 := h.1
                                                                                      have h := h.2
                                                                                      refine va_sld hx hb hX hbl hbA G.2 hi414 dL_law_2102 ?_
                                                                                      refine lv_aload_n hx hb dL_law_2103 rfl (lv_at hl 0 rfl) ?_
                                                                                      refine lv_iload hx hb dL_law_2104 (lv_at hl 4 rfl) ?_
                                                                                      refine lv_iconst (v := (2 : Int32)) hx hb dL_law_2106 (by decide) ?_
                                                                                      refine lv_iadd hx hb dL_law_2107 ?_
                                                                                      have hi415 := h.1
                                                                                      have h := h.2
                                                                                      refine va_sld hx hb hX hbl hbA G.2 hi415 dL_law_2108 ?_
                                                                                      refine lv_aload_n hx hb dL_law_2109 rfl (lv_at hl 0 rfl) ?_
                                                                                      refine lv_iload hx hb dL_law_2110 (lv_at hl 4 rfl) ?_
                                                                                      refine lv_iconst (v := (3 : Int32)) hx hb dL_law_2112 (by decide) ?_
                                                                                      refine lv_iadd hx hb dL_law_2113 ?_
                                                                                      have hi416 := h.1
                                                                                      have h := h.2
                                                                                      refine va_sld hx hb hX hbl hbA G.2 hi416 dL_law_2114 ?_
                                                                                      refine e_callVi (As := [.int (xs (x4 + (1 : Int32)).toNatClampNeg), .int (xs (x4 + (2 : Int32)).toNatClampNeg), .int (xs (x4 + (3 : Int32)).toNatClampNeg)]) (rest := []) ⟨hx, hb, hml, hown, hts⟩ K G 0 (by decide) gl_0 rfl (c_X10_wish h) (cwV 3 hts gw_199 rfl rfl rfl (by decide +kernel) ⟨Nat.le_of_ble_eq_true rfl, Nat.le_of_ble_eq_true rfl⟩) rfl hl.1 rfl (Nat.le_of_ble_eq_true rfl) dL_law_2115 hcs.le (fun r418 σ417 H locs h G => ?_)
                                                                                      refine lv_aload_n hx hb dL_law_2118 rfl (lv_at hl 2 rfl) ?_
                                                                                      refine lv_aload_n hx hb dL_law_2119 rfl (lv_at hl 0 rfl) ?_
                                                                                      refine lv_iload hx hb dL_law_2120 (lv_at hl 4 rfl) ?_
                                                                                      refine lv_iconst (v := (1 : Int32)) hx hb dL_law_2122 (by decide) ?_
                                                                                      refine lv_iadd hx hb dL_law_2123 ?_
                                                                                      have hi419 := h.1
                                                                                      have h := h.2
                                                                                      refine va_sld hx hb hX hbl hbA G.2 hi419 dL_law_2124 ?_
                                                                                      refine lv_aload_n hx hb dL_law_2125 rfl (lv_at hl 0 rfl) ?_
                                                                                      refine lv_iload hx hb dL_law_2126 (lv_at hl 4 rfl) ?_
                                                                                      refine lv_iconst (v := (2 : Int32)) hx hb dL_law_2128 (by decide) ?_
                                                                                      refine lv_iadd hx hb dL_law_2129 ?_
                                                                                      have hi420 := h.1
                                                                                      have h := h.2
                                                                                      refine va_sld hx hb hX hbl hbA G.2 hi420 dL_law_2130 ?_
                                                                                      refine lv_aload_n hx hb dL_law_2131 rfl (lv_at hl 0 rfl) ?_
                                                                                      refine lv_iload hx hb dL_law_2132 (lv_at hl 4 rfl) ?_
                                                                                      refine lv_iconst (v := (3 : Int32)) hx hb dL_law_2134 (by decide) ?_
                                                                                      refine lv_iadd hx hb dL_law_2135 ?_
                                                                                      have hi421 := h.1
                                                                                      have h := h.2
                                                                                      refine va_sld hx hb hX hbl hbA G.2 hi421 dL_law_2136 ?_
                                                                                      refine e_callVi (As := [.int (xs (x4 + (1 : Int32)).toNatClampNeg), .int (xs (x4 + (2 : Int32)).toNatClampNeg), .int (xs (x4 + (3 : Int32)).toNatClampNeg)]) (rest := [.int (r418)]) ⟨hx, hb, hml, hown, hts⟩ K G 97 (by decide) gl_97 rfl (c_X11_wish h) (cwV 3 hts gw_202 rfl rfl rfl (by decide +kernel) ⟨Nat.le_of_ble_eq_true rfl, Nat.le_of_ble_eq_true rfl⟩) rfl hl.1 rfl (Nat.le_of_ble_eq_true rfl) dL_law_2137 hcs.le (fun r423 σ422 H locs h G => ?_)
                                                                                      refine lv_icmp_eq (tgt := 2415) hx hb dL_law_2140 (by decide) (fun c424 => ?_) (fun c424 => ?_)
                                                                                      · have h := h.1 c424
                                                                                        exact l_L_law_2415 (fu := n) C K hX hbl hbA hb0 hfl V hp (hK23 := ih) σ422 x4 _ _ _ _ _ hcs.dec  h G (lv_sub hl [0, 1, 2, 3, 4] rfl)
                                                                                      · have h := h.2 c424
                                                                                        refine lv_iconst (v := (0 : Int32)) hx hb dL_law_2143 (by decide) ?_
                                                                                        exact le_ret hx hb hr hlocks hcs hb0 G (hp _ _ h) dL_law_2144
                                                                                    · have h := h.2 c413
                                                                                      by_cases c425 : v3 = (40 : Int32)
                                                                                      · have h := h.1 c425
                                                                                        refine lv_tableIn (tgt := 2145) hx hb dL_law_40 (by rw [c425]; decide) (by rw [c425]; decide) (by rw [c425]; rfl) (by decide) ?_
                                                                                        refine lv_aload_n hx hb dL_law_2145 rfl (lv_at hl 1 rfl) ?_
                                                                                        refine e_callVi (As := []) (rest := []) ⟨hx, hb, hml, hown, hts⟩ K G 0 (by decide) gl_0 rfl (c_X10_kept h) (cwV 0 hts gw_203 rfl rfl rfl (by decide +kernel) ⟨Nat.le_of_ble_eq_true rfl, Nat.le_of_ble_eq_true rfl⟩) rfl hl.1 rfl (Nat.le_of_ble_eq_true rfl) dL_law_2146 hcs.le (fun r427 σ426 H locs h G => ?_)
                                                                                        refine lv_aload_n hx hb dL_law_2149 rfl (lv_at hl 2 rfl) ?_
                                                                                        refine e_callVi (As := []) (rest := [.int (r427)]) ⟨hx, hb, hml, hown, hts⟩ K G 97 (by decide) gl_97 rfl (c_X11_kept h) (cwV 0 hts gw_206 rfl rfl rfl (by decide +kernel) ⟨Nat.le_of_ble_eq_true rfl, Nat.le_of_ble_eq_true rfl⟩) rfl hl.1 rfl (Nat.le_of_ble_eq_true rfl) dL_law_2150 hcs.le (fun r429 σ428 H locs h G => ?_)
                                                                                        refine lv_icmp_eq (tgt := 2415) hx hb dL_law_2153 (by decide) (fun c430 => ?_) (fun c430 => ?_)
                                                                                        · have h := h.1 c430
                                                                                          exact l_L_law_2415 (fu := n) C K hX hbl hbA hb0 hfl V hp (hK23 := ih) σ428 x4 _ _ _ _ _ hcs.dec  h G (lv_sub hl [0, 1, 2, 3, 4] rfl)
                                                                                        · have h := h.2 c430
                                                                                          refine lv_iconst (v := (0 : Int32)) hx hb dL_law_2156 (by decide) ?_
                                                                                          exact le_ret hx hb hr hlocks hcs hb0 G (hp _ _ h) dL_law_2157
                                                                                      · have h := h.2 c425
                                                                                        by_cases c431 : v3 = (41 : Int32)
                                                                                        · have h := h.1 c431
                                                                                          refine lv_tableIn (tgt := 2158) hx hb dL_law_40 (by rw [c431]; decide) (by rw [c431]; decide) (by rw [c431]; rfl) (by decide) ?_
                                                                                          refine lv_aload_n hx hb dL_law_2158 rfl (lv_at hl 1 rfl) ?_
                                                                                          refine lv_aload_n hx hb dL_law_2159 rfl (lv_at hl 0 rfl) ?_
                                                                                          refine lv_iload hx hb dL_law_2160 (lv_at hl 4 rfl) ?_
                                                                                          refine lv_iconst (v := (1 : Int32)) hx hb dL_law_2162 (by decide) ?_
                                                                                          refine lv_iadd hx hb dL_law_2163 ?_
                                                                                          have hi432 := h.1
                                                                                          have h := h.2
                                                                                          refine va_sld hx hb hX hbl hbA G.2 hi432 dL_law_2164 ?_
                                                                                          refine e_callVi (As := [.int (xs (x4 + (1 : Int32)).toNatClampNeg)]) (rest := []) ⟨hx, hb, hml, hown, hts⟩ K G 0 (by decide) gl_0 rfl (c_X10_choose h) (cwV 1 hts gw_207 rfl rfl rfl (by decide +kernel) ⟨Nat.le_of_ble_eq_true rfl, Nat.le_of_ble_eq_true rfl⟩) rfl hl.1 rfl (Nat.le_of_ble_eq_true rfl) dL_law_2165 hcs.le (fun r434 σ433 H locs h G => ?_)
                                                                                          refine lv_aload_n hx hb dL_law_2168 rfl (lv_at hl 2 rfl) ?_
                                                                                          refine lv_aload_n hx hb dL_law_2169 rfl (lv_at hl 0 rfl) ?_
                                                                                          refine lv_iload hx hb dL_law_2170 (lv_at hl 4 rfl) ?_
                                                                                          refine lv_iconst (v := (1 : Int32)) hx hb dL_law_2172 (by decide) ?_
                                                                                          refine lv_iadd hx hb dL_law_2173 ?_
                                                                                          have hi435 := h.1
                                                                                          have h := h.2
                                                                                          refine va_sld hx hb hX hbl hbA G.2 hi435 dL_law_2174 ?_
                                                                                          refine e_callVi (As := [.int (xs (x4 + (1 : Int32)).toNatClampNeg)]) (rest := [.int (r434)]) ⟨hx, hb, hml, hown, hts⟩ K G 97 (by decide) gl_97 rfl (c_X11_choose h) (cwV 1 hts gw_210 rfl rfl rfl (by decide +kernel) ⟨Nat.le_of_ble_eq_true rfl, Nat.le_of_ble_eq_true rfl⟩) rfl hl.1 rfl (Nat.le_of_ble_eq_true rfl) dL_law_2175 hcs.le (fun r437 σ436 H locs h G => ?_)
                                                                                          refine lv_icmp_eq (tgt := 2415) hx hb dL_law_2178 (by decide) (fun c438 => ?_) (fun c438 => ?_)
                                                                                          · have h := h.1 c438
                                                                                            exact l_L_law_2415 (fu := n) C K hX hbl hbA hb0 hfl V hp (hK23 := ih) σ436 x4 _ _ _ _ _ hcs.dec  h G (lv_sub hl [0, 1, 2, 3, 4] rfl)
                                                                                          · have h := h.2 c438
                                                                                            refine lv_iconst (v := (0 : Int32)) hx hb dL_law_2181 (by decide) ?_
                                                                                            exact le_ret hx hb hr hlocks hcs hb0 G (hp _ _ h) dL_law_2182
                                                                                        · have h := h.2 c431
                                                                                          by_cases c439 : v3 = (42 : Int32)
                                                                                          · have h := h.1 c439
                                                                                            refine lv_tableIn (tgt := 2183) hx hb dL_law_40 (by rw [c439]; decide) (by rw [c439]; decide) (by rw [c439]; rfl) (by decide) ?_
                                                                                            refine lv_aload_n hx hb dL_law_2183 rfl (lv_at hl 1 rfl) ?_
                                                                                            refine e_callVi (As := []) (rest := []) ⟨hx, hb, hml, hown, hts⟩ K G 0 (by decide) gl_0 rfl (c_X10_proof h) (cwV 0 hts gw_211 rfl rfl rfl (by decide +kernel) ⟨Nat.le_of_ble_eq_true rfl, Nat.le_of_ble_eq_true rfl⟩) rfl hl.1 rfl (Nat.le_of_ble_eq_true rfl) dL_law_2184 hcs.le (fun r441 σ440 H locs h G => ?_)
                                                                                            refine lv_aload_n hx hb dL_law_2187 rfl (lv_at hl 2 rfl) ?_
                                                                                            refine e_callVi (As := []) (rest := [.int (r441)]) ⟨hx, hb, hml, hown, hts⟩ K G 97 (by decide) gl_97 rfl (c_X11_proof h) (cwV 0 hts gw_214 rfl rfl rfl (by decide +kernel) ⟨Nat.le_of_ble_eq_true rfl, Nat.le_of_ble_eq_true rfl⟩) rfl hl.1 rfl (Nat.le_of_ble_eq_true rfl) dL_law_2188 hcs.le (fun r443 σ442 H locs h G => ?_)
                                                                                            refine lv_icmp_eq (tgt := 2415) hx hb dL_law_2191 (by decide) (fun c444 => ?_) (fun c444 => ?_)
                                                                                            · have h := h.1 c444
                                                                                              exact l_L_law_2415 (fu := n) C K hX hbl hbA hb0 hfl V hp (hK23 := ih) σ442 x4 _ _ _ _ _ hcs.dec  h G (lv_sub hl [0, 1, 2, 3, 4] rfl)
                                                                                            · have h := h.2 c444
                                                                                              refine lv_iconst (v := (0 : Int32)) hx hb dL_law_2194 (by decide) ?_
                                                                                              exact le_ret hx hb hr hlocks hcs hb0 G (hp _ _ h) dL_law_2195
                                                                                          · have h := h.2 c439
                                                                                            by_cases c445 : v3 = (43 : Int32)
                                                                                            · have h := h.1 c445
                                                                                              refine lv_tableIn (tgt := 2196) hx hb dL_law_40 (by rw [c445]; decide) (by rw [c445]; decide) (by rw [c445]; rfl) (by decide) ?_
                                                                                              refine lv_aload_n hx hb dL_law_2196 rfl (lv_at hl 1 rfl) ?_
                                                                                              refine lv_aload_n hx hb dL_law_2197 rfl (lv_at hl 0 rfl) ?_
                                                                                              refine lv_iload hx hb dL_law_2198 (lv_at hl 4 rfl) ?_
                                                                                              refine lv_iconst (v := (1 : Int32)) hx hb dL_law_2200 (by decide) ?_
                                                                                              refine lv_iadd hx hb dL_law_2201 ?_
                                                                                              have hi446 := h.1
                                                                                              have h := h.2
                                                                                              refine va_sld hx hb hX hbl hbA G.2 hi446 dL_law_2202 ?_
                                                                                              refine e_callVi (As := [.int (xs (x4 + (1 : Int32)).toNatClampNeg)]) (rest := []) ⟨hx, hb, hml, hown, hts⟩ K G 0 (by decide) gl_0 rfl (c_X10_decree h) (cwV 1 hts gw_215 rfl rfl rfl (by decide +kernel) ⟨Nat.le_of_ble_eq_true rfl, Nat.le_of_ble_eq_true rfl⟩) rfl hl.1 rfl (Nat.le_of_ble_eq_true rfl) dL_law_2203 hcs.le (fun r448 σ447 H locs h G => ?_)
                                                                                              refine lv_aload_n hx hb dL_law_2206 rfl (lv_at hl 2 rfl) ?_
                                                                                              refine lv_aload_n hx hb dL_law_2207 rfl (lv_at hl 0 rfl) ?_
                                                                                              refine lv_iload hx hb dL_law_2208 (lv_at hl 4 rfl) ?_
                                                                                              refine lv_iconst (v := (1 : Int32)) hx hb dL_law_2210 (by decide) ?_
                                                                                              refine lv_iadd hx hb dL_law_2211 ?_
                                                                                              have hi449 := h.1
                                                                                              have h := h.2
                                                                                              refine va_sld hx hb hX hbl hbA G.2 hi449 dL_law_2212 ?_
                                                                                              refine e_callVi (As := [.int (xs (x4 + (1 : Int32)).toNatClampNeg)]) (rest := [.int (r448)]) ⟨hx, hb, hml, hown, hts⟩ K G 97 (by decide) gl_97 rfl (c_X11_decree h) (cwV 1 hts gw_218 rfl rfl rfl (by decide +kernel) ⟨Nat.le_of_ble_eq_true rfl, Nat.le_of_ble_eq_true rfl⟩) rfl hl.1 rfl (Nat.le_of_ble_eq_true rfl) dL_law_2213 hcs.le (fun r451 σ450 H locs h G => ?_)
                                                                                              refine lv_icmp_eq (tgt := 2415) hx hb dL_law_2216 (by decide) (fun c452 => ?_) (fun c452 => ?_)
                                                                                              · have h := h.1 c452
                                                                                                exact l_L_law_2415 (fu := n) C K hX hbl hbA hb0 hfl V hp (hK23 := ih) σ450 x4 _ _ _ _ _ hcs.dec  h G (lv_sub hl [0, 1, 2, 3, 4] rfl)
                                                                                              · have h := h.2 c452
                                                                                                refine lv_iconst (v := (0 : Int32)) hx hb dL_law_2219 (by decide) ?_
                                                                                                exact le_ret hx hb hr hlocks hcs hb0 G (hp _ _ h) dL_law_2220
                                                                                            · have h := h.2 c445
                                                                                              by_cases c453 : v3 = (44 : Int32)
                                                                                              · have h := h.1 c453
                                                                                                refine lv_tableIn (tgt := 2221) hx hb dL_law_40 (by rw [c453]; decide) (by rw [c453]; decide) (by rw [c453]; rfl) (by decide) ?_
                                                                                                refine lv_aload_n hx hb dL_law_2221 rfl (lv_at hl 1 rfl) ?_
                                                                                                refine lv_aload_n hx hb dL_law_2222 rfl (lv_at hl 0 rfl) ?_
                                                                                                refine lv_iload hx hb dL_law_2223 (lv_at hl 4 rfl) ?_
                                                                                                refine lv_iconst (v := (1 : Int32)) hx hb dL_law_2225 (by decide) ?_
                                                                                                refine lv_iadd hx hb dL_law_2226 ?_
                                                                                                have hi454 := h.1
                                                                                                have h := h.2
                                                                                                refine va_sld hx hb hX hbl hbA G.2 hi454 dL_law_2227 ?_
                                                                                                refine lv_aload_n hx hb dL_law_2228 rfl (lv_at hl 0 rfl) ?_
                                                                                                refine lv_iload hx hb dL_law_2229 (lv_at hl 4 rfl) ?_
                                                                                                refine lv_iconst (v := (2 : Int32)) hx hb dL_law_2231 (by decide) ?_
                                                                                                refine lv_iadd hx hb dL_law_2232 ?_
                                                                                                have hi455 := h.1
                                                                                                have h := h.2
                                                                                                refine va_sld hx hb hX hbl hbA G.2 hi455 dL_law_2233 ?_
                                                                                                refine e_callVi (As := [.int (xs (x4 + (1 : Int32)).toNatClampNeg), .int (xs (x4 + (2 : Int32)).toNatClampNeg)]) (rest := []) ⟨hx, hb, hml, hown, hts⟩ K G 0 (by decide) gl_0 rfl (c_X10_swap h) (cwV 2 hts gw_219 rfl rfl rfl (by decide +kernel) ⟨Nat.le_of_ble_eq_true rfl, Nat.le_of_ble_eq_true rfl⟩) rfl hl.1 rfl (Nat.le_of_ble_eq_true rfl) dL_law_2234 hcs.le (fun r457 σ456 H locs h G => ?_)
                                                                                                refine lv_aload_n hx hb dL_law_2237 rfl (lv_at hl 2 rfl) ?_
                                                                                                refine lv_aload_n hx hb dL_law_2238 rfl (lv_at hl 0 rfl) ?_
                                                                                                refine lv_iload hx hb dL_law_2239 (lv_at hl 4 rfl) ?_
                                                                                                refine lv_iconst (v := (1 : Int32)) hx hb dL_law_2241 (by decide) ?_
                                                                                                refine lv_iadd hx hb dL_law_2242 ?_
                                                                                                have hi458 := h.1
                                                                                                have h := h.2
                                                                                                refine va_sld hx hb hX hbl hbA G.2 hi458 dL_law_2243 ?_
                                                                                                refine lv_aload_n hx hb dL_law_2244 rfl (lv_at hl 0 rfl) ?_
                                                                                                refine lv_iload hx hb dL_law_2245 (lv_at hl 4 rfl) ?_
                                                                                                refine lv_iconst (v := (2 : Int32)) hx hb dL_law_2247 (by decide) ?_
                                                                                                refine lv_iadd hx hb dL_law_2248 ?_
                                                                                                have hi459 := h.1
                                                                                                have h := h.2
                                                                                                refine va_sld hx hb hX hbl hbA G.2 hi459 dL_law_2249 ?_
                                                                                                refine e_callVi (As := [.int (xs (x4 + (1 : Int32)).toNatClampNeg), .int (xs (x4 + (2 : Int32)).toNatClampNeg)]) (rest := [.int (r457)]) ⟨hx, hb, hml, hown, hts⟩ K G 97 (by decide) gl_97 rfl (c_X11_swap h) (cwV 2 hts gw_223 rfl rfl rfl (by decide +kernel) ⟨Nat.le_of_ble_eq_true rfl, Nat.le_of_ble_eq_true rfl⟩) rfl hl.1 rfl (Nat.le_of_ble_eq_true rfl) dL_law_2250 hcs.le (fun r461 σ460 H locs h G => ?_)
                                                                                                refine lv_icmp_eq (tgt := 2415) hx hb dL_law_2253 (by decide) (fun c462 => ?_) (fun c462 => ?_)
                                                                                                · have h := h.1 c462
                                                                                                  exact l_L_law_2415 (fu := n) C K hX hbl hbA hb0 hfl V hp (hK23 := ih) σ460 x4 _ _ _ _ _ hcs.dec  h G (lv_sub hl [0, 1, 2, 3, 4] rfl)
                                                                                                · have h := h.2 c462
                                                                                                  refine lv_iconst (v := (0 : Int32)) hx hb dL_law_2256 (by decide) ?_
                                                                                                  exact le_ret hx hb hr hlocks hcs hb0 G (hp _ _ h) dL_law_2257
                                                                                              · have h := h.2 c453
                                                                                                by_cases c463 : v3 = (45 : Int32)
                                                                                                · have h := h.1 c463
                                                                                                  refine lv_tableIn (tgt := 2258) hx hb dL_law_40 (by rw [c463]; decide) (by rw [c463]; decide) (by rw [c463]; rfl) (by decide) ?_
                                                                                                  refine lv_aload_n hx hb dL_law_2258 rfl (lv_at hl 1 rfl) ?_
                                                                                                  refine e_callVi (As := []) (rest := []) ⟨hx, hb, hml, hown, hts⟩ K G 0 (by decide) gl_0 rfl (c_X10_soonest h) (cwV 0 hts gw_224 rfl rfl rfl (by decide +kernel) ⟨Nat.le_of_ble_eq_true rfl, Nat.le_of_ble_eq_true rfl⟩) rfl hl.1 rfl (Nat.le_of_ble_eq_true rfl) dL_law_2259 hcs.le (fun r465 σ464 H locs h G => ?_)
                                                                                                  refine lv_aload_n hx hb dL_law_2262 rfl (lv_at hl 2 rfl) ?_
                                                                                                  refine e_callVi (As := []) (rest := [.int (r465)]) ⟨hx, hb, hml, hown, hts⟩ K G 97 (by decide) gl_97 rfl (c_X11_soonest h) (cwV 0 hts gw_227 rfl rfl rfl (by decide +kernel) ⟨Nat.le_of_ble_eq_true rfl, Nat.le_of_ble_eq_true rfl⟩) rfl hl.1 rfl (Nat.le_of_ble_eq_true rfl) dL_law_2263 hcs.le (fun r467 σ466 H locs h G => ?_)
                                                                                                  refine lv_icmp_eq (tgt := 2415) hx hb dL_law_2266 (by decide) (fun c468 => ?_) (fun c468 => ?_)
                                                                                                  · have h := h.1 c468
                                                                                                    exact l_L_law_2415 (fu := n) C K hX hbl hbA hb0 hfl V hp (hK23 := ih) σ466 x4 _ _ _ _ _ hcs.dec  h G (lv_sub hl [0, 1, 2, 3, 4] rfl)
                                                                                                  · have h := h.2 c468
                                                                                                    refine lv_iconst (v := (0 : Int32)) hx hb dL_law_2269 (by decide) ?_
                                                                                                    exact le_ret hx hb hr hlocks hcs hb0 G (hp _ _ h) dL_law_2270
                                                                                                · have h := h.2 c463
                                                                                                  by_cases c469 : v3 = (46 : Int32)
                                                                                                  · have h := h.1 c469
                                                                                                    refine lv_tableIn (tgt := 2271) hx hb dL_law_40 (by rw [c469]; decide) (by rw [c469]; decide) (by rw [c469]; rfl) (by decide) ?_
                                                                                                    refine lv_aload_n hx hb dL_law_2271 rfl (lv_at hl 1 rfl) ?_
                                                                                                    refine lv_aload_n hx hb dL_law_2272 rfl (lv_at hl 0 rfl) ?_
                                                                                                    refine lv_iload hx hb dL_law_2273 (lv_at hl 4 rfl) ?_
                                                                                                    refine lv_iconst (v := (1 : Int32)) hx hb dL_law_2275 (by decide) ?_
                                                                                                    refine lv_iadd hx hb dL_law_2276 ?_
                                                                                                    have hi470 := h.1
                                                                                                    have h := h.2
                                                                                                    refine va_sld hx hb hX hbl hbA G.2 hi470 dL_law_2277 ?_
                                                                                                    refine e_callVi (As := [.int (xs (x4 + (1 : Int32)).toNatClampNeg)]) (rest := []) ⟨hx, hb, hml, hown, hts⟩ K G 0 (by decide) gl_0 rfl (c_X10_keep h) (cwV 1 hts gw_228 rfl rfl rfl (by decide +kernel) ⟨Nat.le_of_ble_eq_true rfl, Nat.le_of_ble_eq_true rfl⟩) rfl hl.1 rfl (Nat.le_of_ble_eq_true rfl) dL_law_2278 hcs.le (fun r472 σ471 H locs h G => ?_)
                                                                                                    refine lv_aload_n hx hb dL_law_2281 rfl (lv_at hl 2 rfl) ?_
                                                                                                    refine lv_aload_n hx hb dL_law_2282 rfl (lv_at hl 0 rfl) ?_
                                                                                                    refine lv_iload hx hb dL_law_2283 (lv_at hl 4 rfl) ?_
                                                                                                    refine lv_iconst (v := (1 : Int32)) hx hb dL_law_2285 (by decide) ?_
                                                                                                    refine lv_iadd hx hb dL_law_2286 ?_
                                                                                                    have hi473 := h.1
                                                                                                    have h := h.2
                                                                                                    refine va_sld hx hb hX hbl hbA G.2 hi473 dL_law_2287 ?_
                                                                                                    refine e_callVi (As := [.int (xs (x4 + (1 : Int32)).toNatClampNeg)]) (rest := [.int (r472)]) ⟨hx, hb, hml, hown, hts⟩ K G 97 (by decide) gl_97 rfl (c_X11_keep h) (cwV 1 hts gw_231 rfl rfl rfl (by decide +kernel) ⟨Nat.le_of_ble_eq_true rfl, Nat.le_of_ble_eq_true rfl⟩) rfl hl.1 rfl (Nat.le_of_ble_eq_true rfl) dL_law_2288 hcs.le (fun r475 σ474 H locs h G => ?_)
                                                                                                    refine lv_icmp_eq (tgt := 2415) hx hb dL_law_2291 (by decide) (fun c476 => ?_) (fun c476 => ?_)
                                                                                                    · have h := h.1 c476
                                                                                                      exact l_L_law_2415 (fu := n) C K hX hbl hbA hb0 hfl V hp (hK23 := ih) σ474 x4 _ _ _ _ _ hcs.dec  h G (lv_sub hl [0, 1, 2, 3, 4] rfl)
                                                                                                    · have h := h.2 c476
                                                                                                      refine lv_iconst (v := (0 : Int32)) hx hb dL_law_2294 (by decide) ?_
                                                                                                      exact le_ret hx hb hr hlocks hcs hb0 G (hp _ _ h) dL_law_2295
                                                                                                  · have h := h.2 c469
                                                                                                    by_cases c477 : v3 = (47 : Int32)
                                                                                                    · have h := h.1 c477
                                                                                                      refine lv_tableIn (tgt := 2296) hx hb dL_law_40 (by rw [c477]; decide) (by rw [c477]; decide) (by rw [c477]; rfl) (by decide) ?_
                                                                                                      refine lv_aload_n hx hb dL_law_2296 rfl (lv_at hl 1 rfl) ?_
                                                                                                      refine lv_aload_n hx hb dL_law_2297 rfl (lv_at hl 0 rfl) ?_
                                                                                                      refine lv_iload hx hb dL_law_2298 (lv_at hl 4 rfl) ?_
                                                                                                      refine lv_iconst (v := (1 : Int32)) hx hb dL_law_2300 (by decide) ?_
                                                                                                      refine lv_iadd hx hb dL_law_2301 ?_
                                                                                                      have hi478 := h.1
                                                                                                      have h := h.2
                                                                                                      refine va_sld hx hb hX hbl hbA G.2 hi478 dL_law_2302 ?_
                                                                                                      refine e_callVi (As := [.int (xs (x4 + (1 : Int32)).toNatClampNeg)]) (rest := []) ⟨hx, hb, hml, hown, hts⟩ K G 0 (by decide) gl_0 rfl (c_X10_again h) (cwV 1 hts gw_232 rfl rfl rfl (by decide +kernel) ⟨Nat.le_of_ble_eq_true rfl, Nat.le_of_ble_eq_true rfl⟩) rfl hl.1 rfl (Nat.le_of_ble_eq_true rfl) dL_law_2303 hcs.le (fun r480 σ479 H locs h G => ?_)
                                                                                                      refine lv_aload_n hx hb dL_law_2306 rfl (lv_at hl 2 rfl) ?_
                                                                                                      refine lv_aload_n hx hb dL_law_2307 rfl (lv_at hl 0 rfl) ?_
                                                                                                      refine lv_iload hx hb dL_law_2308 (lv_at hl 4 rfl) ?_
                                                                                                      refine lv_iconst (v := (1 : Int32)) hx hb dL_law_2310 (by decide) ?_
                                                                                                      refine lv_iadd hx hb dL_law_2311 ?_
                                                                                                      have hi481 := h.1
                                                                                                      have h := h.2
                                                                                                      refine va_sld hx hb hX hbl hbA G.2 hi481 dL_law_2312 ?_
                                                                                                      refine e_callVi (As := [.int (xs (x4 + (1 : Int32)).toNatClampNeg)]) (rest := [.int (r480)]) ⟨hx, hb, hml, hown, hts⟩ K G 97 (by decide) gl_97 rfl (c_X11_again h) (cwV 1 hts gw_235 rfl rfl rfl (by decide +kernel) ⟨Nat.le_of_ble_eq_true rfl, Nat.le_of_ble_eq_true rfl⟩) rfl hl.1 rfl (Nat.le_of_ble_eq_true rfl) dL_law_2313 hcs.le (fun r483 σ482 H locs h G => ?_)
                                                                                                      refine lv_icmp_eq (tgt := 2415) hx hb dL_law_2316 (by decide) (fun c484 => ?_) (fun c484 => ?_)
                                                                                                      · have h := h.1 c484
                                                                                                        exact l_L_law_2415 (fu := n) C K hX hbl hbA hb0 hfl V hp (hK23 := ih) σ482 x4 _ _ _ _ _ hcs.dec  h G (lv_sub hl [0, 1, 2, 3, 4] rfl)
                                                                                                      · have h := h.2 c484
                                                                                                        refine lv_iconst (v := (0 : Int32)) hx hb dL_law_2319 (by decide) ?_
                                                                                                        exact le_ret hx hb hr hlocks hcs hb0 G (hp _ _ h) dL_law_2320
                                                                                                    · have h := h.2 c477
                                                                                                      by_cases c485 : v3 = (48 : Int32)
                                                                                                      · have h := h.1 c485
                                                                                                        refine lv_tableIn (tgt := 2321) hx hb dL_law_40 (by rw [c485]; decide) (by rw [c485]; decide) (by rw [c485]; rfl) (by decide) ?_
                                                                                                        refine lv_aload_n hx hb dL_law_2321 rfl (lv_at hl 1 rfl) ?_
                                                                                                        refine lv_aload_n hx hb dL_law_2322 rfl (lv_at hl 0 rfl) ?_
                                                                                                        refine lv_iload hx hb dL_law_2323 (lv_at hl 4 rfl) ?_
                                                                                                        refine lv_iconst (v := (1 : Int32)) hx hb dL_law_2325 (by decide) ?_
                                                                                                        refine lv_iadd hx hb dL_law_2326 ?_
                                                                                                        have hi486 := h.1
                                                                                                        have h := h.2
                                                                                                        refine va_sld hx hb hX hbl hbA G.2 hi486 dL_law_2327 ?_
                                                                                                        refine e_callVi (As := [.int (xs (x4 + (1 : Int32)).toNatClampNeg)]) (rest := []) ⟨hx, hb, hml, hown, hts⟩ K G 0 (by decide) gl_0 rfl (c_X10_count h) (cwV 1 hts gw_236 rfl rfl rfl (by decide +kernel) ⟨Nat.le_of_ble_eq_true rfl, Nat.le_of_ble_eq_true rfl⟩) rfl hl.1 rfl (Nat.le_of_ble_eq_true rfl) dL_law_2328 hcs.le (fun r488 σ487 H locs h G => ?_)
                                                                                                        refine lv_aload_n hx hb dL_law_2331 rfl (lv_at hl 2 rfl) ?_
                                                                                                        refine lv_aload_n hx hb dL_law_2332 rfl (lv_at hl 0 rfl) ?_
                                                                                                        refine lv_iload hx hb dL_law_2333 (lv_at hl 4 rfl) ?_
                                                                                                        refine lv_iconst (v := (1 : Int32)) hx hb dL_law_2335 (by decide) ?_
                                                                                                        refine lv_iadd hx hb dL_law_2336 ?_
                                                                                                        have hi489 := h.1
                                                                                                        have h := h.2
                                                                                                        refine va_sld hx hb hX hbl hbA G.2 hi489 dL_law_2337 ?_
                                                                                                        refine e_callVi (As := [.int (xs (x4 + (1 : Int32)).toNatClampNeg)]) (rest := [.int (r488)]) ⟨hx, hb, hml, hown, hts⟩ K G 97 (by decide) gl_97 rfl (c_X11_count h) (cwV 1 hts gw_239 rfl rfl rfl (by decide +kernel) ⟨Nat.le_of_ble_eq_true rfl, Nat.le_of_ble_eq_true rfl⟩) rfl hl.1 rfl (Nat.le_of_ble_eq_true rfl) dL_law_2338 hcs.le (fun r491 σ490 H locs h G => ?_)
                                                                                                        refine lv_icmp_eq (tgt := 2415) hx hb dL_law_2341 (by decide) (fun c492 => ?_) (fun c492 => ?_)
                                                                                                        · have h := h.1 c492
                                                                                                          exact l_L_law_2415 (fu := n) C K hX hbl hbA hb0 hfl V hp (hK23 := ih) σ490 x4 _ _ _ _ _ hcs.dec  h G (lv_sub hl [0, 1, 2, 3, 4] rfl)
                                                                                                        · have h := h.2 c492
                                                                                                          refine lv_iconst (v := (0 : Int32)) hx hb dL_law_2344 (by decide) ?_
                                                                                                          exact le_ret hx hb hr hlocks hcs hb0 G (hp _ _ h) dL_law_2345
                                                                                                      · have h := h.2 c485
                                                                                                        by_cases c493 : v3 = (49 : Int32)
                                                                                                        · have h := h.1 c493
                                                                                                          refine lv_tableIn (tgt := 2346) hx hb dL_law_40 (by rw [c493]; decide) (by rw [c493]; decide) (by rw [c493]; rfl) (by decide) ?_
                                                                                                          refine lv_aload_n hx hb dL_law_2346 rfl (lv_at hl 1 rfl) ?_
                                                                                                          refine e_callVl (As := []) (rest := []) ⟨hx, hb, hml, hown, hts⟩ K G 0 (by decide) gl_0 rfl (c_X10_today h) (cwV 0 hts gw_240 rfl rfl rfl (by decide +kernel) ⟨Nat.le_of_ble_eq_true rfl, Nat.le_of_ble_eq_true rfl⟩) rfl hl.1 rfl (Nat.le_of_ble_eq_true rfl) dL_law_2347 hcs.le (fun r495 σ494 H locs h G => ?_)
                                                                                                          refine lv_aload_n hx hb dL_law_2350 rfl (lv_at hl 2 rfl) ?_
                                                                                                          refine e_callVl (As := []) (rest := [.long (r495)]) ⟨hx, hb, hml, hown, hts⟩ K G 97 (by decide) gl_97 rfl (c_X11_today h) (cwV 0 hts gw_244 rfl rfl rfl (by decide +kernel) ⟨Nat.le_of_ble_eq_true rfl, Nat.le_of_ble_eq_true rfl⟩) rfl hl.1 rfl (Nat.le_of_ble_eq_true rfl) dL_law_2351 hcs.le (fun r497 σ496 H locs h G => ?_)
                                                                                                          refine W.lcmp hx hb dL_law_2354 ?_
                                                                                                          refine lv_if_eq (tgt := 2415) hx hb dL_law_2355 (by decide) (fun c498 => ?_) (fun c498 => ?_)
                                                                                                          · have h := h.1 c498
                                                                                                            exact l_L_law_2415 (fu := n) C K hX hbl hbA hb0 hfl V hp (hK23 := ih) σ496 x4 _ _ _ _ _ hcs.dec  h G (lv_sub hl [0, 1, 2, 3, 4] rfl)
                                                                                                          · have h := h.2 c498
                                                                                                            refine lv_iconst (v := (0 : Int32)) hx hb dL_law_2358 (by decide) ?_
                                                                                                            exact le_ret hx hb hr hlocks hcs hb0 G (hp _ _ h) dL_law_2359
                                                                                                        · have h := h.2 c493
                                                                                                          by_cases c499 : v3 = (50 : Int32)
                                                                                                          · have h := h.1 c499
                                                                                                            refine lv_tableIn (tgt := 2360) hx hb dL_law_40 (by rw [c499]; decide) (by rw [c499]; decide) (by rw [c499]; rfl) (by decide) ?_
                                                                                                            refine lv_aload_n hx hb dL_law_2360 rfl (lv_at hl 1 rfl) ?_
                                                                                                            refine lv_aload_n hx hb dL_law_2361 rfl (lv_at hl 0 rfl) ?_
                                                                                                            refine lv_iload hx hb dL_law_2362 (lv_at hl 4 rfl) ?_
                                                                                                            refine lv_iconst (v := (1 : Int32)) hx hb dL_law_2364 (by decide) ?_
                                                                                                            refine lv_iadd hx hb dL_law_2365 ?_
                                                                                                            have hi500 := h.1
                                                                                                            have h := h.2
                                                                                                            refine va_sld hx hb hX hbl hbA G.2 hi500 dL_law_2366 ?_
                                                                                                            refine lv_aload_n hx hb dL_law_2367 rfl (lv_at hl 3 rfl) ?_
                                                                                                            refine e_callSX (As := [.ref (ρ (0)), .int (xs (x4 + (1 : Int32)).toNatClampNeg), .ref (ρ (125))]) (rest := []) ⟨hx, hb, hml, hown, hts⟩ K V G (c_L_row hfl h) (vx_cwSW 3 hts gw_245 rfl rfl rfl (by decide +kernel) ⟨Nat.le_of_ble_eq_true rfl, Nat.le_of_ble_eq_true rfl⟩) rfl hl.1 rfl (Nat.le_of_ble_eq_true rfl) dL_law_2368 hcs.room (fun r502 σ501 H locs h G => ?_)
                                                                                                            have hcs := hcs.thr
                                                                                                            refine lv_istore (lv' := [(5, .int (r502)), (0, .ref b), (1, .ref (ρ (0))), (2, .ref (ρ (97))), (3, .ref (ρ (125))), (4, .int (x4))]) hx hb dL_law_2371 hl (by decide) rfl (fun ls hl => ?_)
                                                                                                            refine lv_aload_n hx hb dL_law_2373 rfl (lv_at hl 3 rfl) ?_
                                                                                                            refine lv_aload_n hx hb dL_law_2374 rfl (lv_at hl 1 rfl) ?_
                                                                                                            refine lv_iload hx hb dL_law_2375 (lv_at hl 5 rfl) ?_
                                                                                                            refine lv_iconst (v := (1 : Int32)) hx hb dL_law_2377 (by decide) ?_
                                                                                                            refine lv_iadd hx hb dL_law_2378 ?_
                                                                                                            have hi503 := h.1
                                                                                                            have h := h.2
                                                                                                            refine va_sld hx hb hX hbl hbA G.2 hi503 dL_law_2379 ?_
                                                                                                            refine e_callVl (As := [.int (xs (x4 + (1 : Int32)).toNatClampNeg)]) (rest := []) ⟨hx, hb, hml, hown, hts⟩ K G 97 (by decide) gl_97 rfl (c_X11_row h) (cwV 1 hts gw_248 rfl rfl rfl (by decide +kernel) ⟨Nat.le_of_ble_eq_true rfl, Nat.le_of_ble_eq_true rfl⟩) rfl hl.1 rfl (Nat.le_of_ble_eq_true rfl) dL_law_2380 hcs.le (fun r505 σ504 H locs h G => ?_)
                                                                                                            refine lv_lstore (lv' := [(6, .long (r505)), (5, .int (r502)), (0, .ref b), (1, .ref (ρ (0))), (2, .ref (ρ (97))), (3, .ref (ρ (125))), (4, .int (x4))]) hx hb dL_law_2383 hl (by decide) rfl (fun ls hl => ?_)
                                                                                                            refine lv_aload_n hx hb dL_law_2385 rfl (lv_at hl 4 rfl) ?_
                                                                                                            refine e_callVi (As := []) (rest := []) ⟨hx, hb, hml, hown, hts⟩ K G 97 (by decide) gl_97 rfl (c_X11_thrown h) (cwV 0 hts gw_48 rfl rfl rfl (by decide +kernel) ⟨Nat.le_of_ble_eq_true rfl, Nat.le_of_ble_eq_true rfl⟩) rfl hl.1 rfl (Nat.le_of_ble_eq_true rfl) dL_law_2386 hcs.le (fun r507 σ506 H locs h G => ?_)
                                                                                                            refine lv_iload hx hb dL_law_2389 (lv_at hl 1 rfl) ?_
                                                                                                            refine lv_icmp_eq (tgt := 2396) hx hb dL_law_2391 (by decide) (fun c508 => ?_) (fun c508 => ?_)
                                                                                                            · have h := h.1 c508
                                                                                                              refine lv_iload hx hb dL_law_2396 (lv_at hl 1 rfl) ?_
                                                                                                              refine lv_if_ne (tgt := 2412) hx hb dL_law_2398 (by decide) (fun c509 => ?_) (fun c509 => ?_)
                                                                                                              · have h := h.1 c509
                                                                                                                refine lv_goto (tgt := 2415) hx hb dL_law_2412 (by decide) ?_
                                                                                                                exact l_L_law_2415 (fu := n) C K hX hbl hbA hb0 hfl V hp (hK23 := ih) σ506 x4 _ _ _ _ _ hcs  h G (lv_sub hl [2, 3, 4, 5, 6] rfl)
                                                                                                              · have h := h.2 c509
                                                                                                                refine lv_aload_n hx hb dL_law_2401 rfl (lv_at hl 5 rfl) ?_
                                                                                                                refine lv_iconst (v := (0 : Int32)) hx hb dL_law_2402 (by decide) ?_
                                                                                                                have hi510 := h.1
                                                                                                                have h := h.2
                                                                                                                refine e_lald hx hb K G 125 1 1 1 (by decide) gl_125 rfl hi510 dL_law_2403 ?_
                                                                                                                refine lv_lload hx hb dL_law_2404 (lv_at hl 0 rfl) ?_
                                                                                                                refine W.lcmp hx hb dL_law_2406 ?_
                                                                                                                refine lv_if_eq (tgt := 2412) hx hb dL_law_2407 (by decide) (fun c511 => ?_) (fun c511 => ?_)
                                                                                                                · have h := h.1 c511
                                                                                                                  refine lv_goto (tgt := 2415) hx hb dL_law_2412 (by decide) ?_
                                                                                                                  exact l_L_law_2415 (fu := n) C K hX hbl hbA hb0 hfl V hp (hK23 := ih) σ506 x4 _ _ _ _ _ hcs  h G (lv_sub hl [2, 3, 4, 5, 6] rfl)
                                                                                                                · have h := h.2 c511
                                                                                                                  refine lv_iconst (v := (0 : Int32)) hx hb dL_law_2410 (by decide) ?_
                                                                                                                  exact le_ret hx hb hr hlocks hcs hb0 G (hp _ _ h) dL_law_2411
                                                                                                            · have h := h.2 c508
                                                                                                              refine lv_iconst (v := (0 : Int32)) hx hb dL_law_2394 (by decide) ?_
                                                                                                              exact le_ret hx hb hr hlocks hcs hb0 G (hp _ _ h) dL_law_2395
                                                                                                          · have h := h.2 c499
                                                                                                            refine lv_tableOut (tgt := 2415) hx hb dL_law_40 (by have := e_ne c4; have := e_ne c13; have := e_ne c21; have := e_ne c27; have := e_ne c42; have := e_ne c52; have := e_ne c66; have := e_ne c76; have := e_ne c86; have := e_ne c98; have := e_ne c110; have := e_ne c124; have := e_ne c130; have := e_ne c144; have := e_ne c158; have := e_ne c166; have := e_ne c180; have := e_ne c186; have := e_ne c198; have := e_ne c206; have := e_ne c222; have := e_ne c232; have := e_ne c242; have := e_ne c250; have := e_ne c266; have := e_ne c276; have := e_ne c284; have := e_ne c294; have := e_ne c304; have := e_ne c314; have := e_ne c322; have := e_ne c334; have := e_ne c342; have := e_ne c352; have := e_ne c364; have := e_ne c370; have := e_ne c387; have := e_ne c395; have := e_ne c405; have := e_ne c413; have := e_ne c425; have := e_ne c431; have := e_ne c439; have := e_ne c445; have := e_ne c453; have := e_ne c463; have := e_ne c469; have := e_ne c477; have := e_ne c485; have := e_ne c493; have := e_ne c499; have : ∀ n : Int32, n.toInt = n.toInt := fun _ => rfl; simp only [Int32.reduceToInt] at *; omega) (by decide) ?_
                                                                                                            exact l_L_law_2415 (fu := n) C K hX hbl hbA hb0 hfl V hp (hK23 := ih) σ x4 _ _ _ _ _ hcs.dec  h G (lv_sub hl [0, 1, 2, 3, 4] rfl)
