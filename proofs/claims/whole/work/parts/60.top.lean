def rm_isName : Room := { frames := 0, cells := 0, slots := 0, locals := 0 }
set_option maxHeartbeats 4000000 in
set_option maxRecDepth 100000 in
/-- isName -/
theorem c_isName (l : Launch) (D : va_G) (c : Nat → ClassId) (y : Int) (hy : -2147483648 ≤ y ∧ y < 2147483648) : Met l y_To_isName w_To_isName rm_isName (va_Pc [.int (zI y)] (fun U => va_P D vwCl [] U.heap ∧ zK D c U)) (vp_Si (fun r => r = (zB (decide (1 ≤ y ∧ y ≤ 1000))))) 0 0 (fun _ => False) := by
  refine Met.ofW (cc := b_To_isName) (maxL := 1) (ret := (some .boolean)) (by decide) rfl ?_
  intro p e s m args below meth c0 s₁ B hml hv
  obtain ⟨rfl, hP, hKN⟩ := hv
  have hK := hKN.1
  have hN := hKN.2
  have hx := B.exec
  have hb := B.bytes
  have hr := B.returns
  have hts := atoms_spec (ws := w_To_isName) B.pre
  have hw : ∀ {w : Cond}, w ∈ ALLW → w.before _ s = true := fun h => hts _ (List.mem_cons_of_mem _ h)
  have hown : s.vm.findClass R_To = some m.cls := findClass_of_methodNamed B.named
  have hlocks := B.notSynchronized
  have hl := lv_entry ([.int (zI y)]) (n := 1) (Nat.le_of_ble_eq_true rfl)
  rw [lg_entry_eq]
  generalize (lg_sl ([.int (zI y)]) ++ List.replicate (1 - (lg_sl ([.int (zI y)])).length) Slot.unset).toArray = ls at hl ⊢
  have hl : lv_has ls 1 [(0, .int (zI y))] := hl
  generalize hQ : MQ below _ _ _ _ _ _ = Q
  refine lv_iload_n hx hb d_To_isName_0 rfl (lv_at hl 0 rfl) ?_
  refine lv_iconst (v := zI 1) hx hb d_To_isName_1 (by decide) ?_
  refine z_icmp_lt (tgt := 16) hx hb (by omega) d_To_isName_2 (by decide) (fun hc_2 => ?_) (fun hc_2 => ?_)
  · refine lv_iconst (v := zI 0) hx hb d_To_isName_16 (by decide) ?_
    subst hQ
    exact W.zret (ty := .boolean) (v := (zI 0)) hx hb hr (by decide) (fun t9 ht hW => ⟨_, rfl, (by rw [decide_eq_false (by omega)]; decide), ht⟩) (fun q hq => absurd hq List.not_mem_nil) d_To_isName_17
  · refine lv_iload_n hx hb d_To_isName_5 rfl (lv_at hl 0 rfl) ?_
    refine lv_sipush (v := zI 1000) hx hb d_To_isName_6 (by decide) ?_
    refine z_icmp_gt (tgt := 16) hx hb (by omega) d_To_isName_9 (by decide) (fun hc_9 => ?_) (fun hc_9 => ?_)
    · refine lv_iconst (v := zI 0) hx hb d_To_isName_16 (by decide) ?_
      subst hQ
      exact W.zret (ty := .boolean) (v := (zI 0)) hx hb hr (by decide) (fun t9 ht hW => ⟨_, rfl, (by rw [decide_eq_false (by omega)]; decide), ht⟩) (fun q hq => absurd hq List.not_mem_nil) d_To_isName_17
    · refine lv_iconst (v := zI 1) hx hb d_To_isName_12 (by decide) ?_
      refine lv_goto (tgt := 17) hx hb d_To_isName_13 (by decide) ?_
      subst hQ
      exact W.zret (ty := .boolean) (v := (zI 1)) hx hb hr (by decide) (fun t9 ht hW => ⟨_, rfl, (by rw [decide_eq_true (by omega)]; decide), ht⟩) (fun q hq => absurd hq List.not_mem_nil) d_To_isName_17

def rm_name_bad : Room := { frames := 1, cells := 0, slots := 0, locals := 20 }
set_option maxHeartbeats 4000000 in
set_option maxRecDepth 100000 in
/-- name, no name -/
theorem c_name_bad (l : Launch) (D : va_G) (c : Nat → ClassId) (x : Nat) (xm : Nat) (d : Nat) (rd : Nat) (mg : Nat → Option Nat) (mk : Nat) (y : Int) (hy : -2147483648 ≤ y ∧ y < 2147483648) (hb_ : ¬ (1 ≤ y ∧ y ≤ 1000)) : Met l y_To_name w_To_name rm_name_bad (va_Pc [.ref x, .int (zI y)] (fun U => va_P D vwCl [(x, .inr (4, [.ref d, .ref xm, .ref rd, .int (zI ((mk : Nat) : Int))]))] U.heap ∧ zK D c U)) (vp_Si (fun r => r = (zI (-1)))) 0 0 (fun _ => False) := by
  refine Met.ofW (cc := b_To_name) (maxL := 2) (ret := (some .int)) (by decide) rfl ?_
  intro p e s m args below meth c0 s₁ B hml hv
  obtain ⟨rfl, hP, hKN⟩ := hv
  have hK := hKN.1
  have hN := hKN.2
  have hx := B.exec
  have hb := B.bytes
  have hr := B.returns
  have hts := atoms_spec (ws := w_To_name) B.pre
  have hw : ∀ {w : Cond}, w ∈ ALLW → w.before _ s = true := fun h => hts _ (List.mem_cons_of_mem _ h)
  have hown : s.vm.findClass R_To = some m.cls := findClass_of_methodNamed B.named
  have hlocks := B.notSynchronized
  have hl := lv_entry ([.ref x, .int (zI y)]) (n := 2) (Nat.le_of_ble_eq_true rfl)
  rw [lg_entry_eq]
  generalize (lg_sl ([.ref x, .int (zI y)]) ++ List.replicate (2 - (lg_sl ([.ref x, .int (zI y)])).length) Slot.unset).toArray = ls at hl ⊢
  have hl : lv_has ls 2 [(0, .ref x), (1, .int (zI y))] := hl
  generalize hQ : MQ below _ _ _ _ _ _ = Q
  refine lv_iload_n hx hb d_To_name_0 rfl (lv_at hl 1 rfl) ?_
  have hPc : va_P D vwCl [] s.heap := hP.sub (ws' := []) [] rfl
  refine vp_callSi (va_runS (rm := rm_isName) (As := [.int (zI y)]) (rest := []) ⟨hx, hb, hml, hown, hts⟩ (c_isName l D c y (by omega)) (va_cwS 1 hts (gWS k_To_m33 k_s_To_isName k_n_To k_c_To_isName) rfl rfl rfl (by decide +kernel) ⟨Nat.le_of_ble_eq_true rfl, Nat.le_of_ble_eq_true rfl⟩) ⟨zblind, fun U hU hW => ⟨rfl, by rw [hU]; exact hPc, hKN.moved hW⟩⟩ rfl rfl hl.1 rfl (lv_room (Nat.le_of_ble_eq_true rfl)) d_To_name_1 ⟨Nat.zero_le _, Nat.zero_le _⟩).run (fun r hr_1 => ?_)
  subst hr_1
  refine z_ifeq_B (tgt := 28) hx hb d_To_name_4 (by decide) (fun hc_4 => ?_) (fun hc_4 => (absurd hc_4 (by rw [decide_eq_false (by omega)]; decide)))
  refine lv_iconst (v := zI (-1)) hx hb d_To_name_28 (by decide) ?_
  subst hQ
  exact W.iret (v := (zI (-1))) hx hb hr (fun t9 ht hW => ⟨_, rfl, rfl, ht⟩) (fun q hq => absurd hq List.not_mem_nil) d_To_name_29

def rm_name_no : Room := { frames := 1, cells := 0, slots := 0, locals := 23 }
set_option maxHeartbeats 4000000 in
set_option maxRecDepth 100000 in
/-- name, refused -/
theorem c_name_no (l : Launch) (D : va_G) (c : Nat → ClassId) (x : Nat) (xm : Nat) (rd : Nat) (d : Nat) (dn : Nat) (df : Nat) (dfw : Nat) (di : Nat) (diw : Nat) (dl : Nat) (dlw : Nat) (dm : Nat) (mg : Nat → Option Nat) (mk : Nat) (nm : Nat → Nat) (fw : Nat → Int64) (iw : Nat → Int64) (lw : Nat → Int64) (mb : Nat → Bool) (nc : Nat) (pp : Nat) (n : Nat) (hn_ : 1 ≤ n ∧ n ≤ 1000) (hp : pp ≤ 40) (hc : nc ≤ 255) (hno : pp = 40 ∨ nc = 255) : Met l y_To_name w_To_name rm_name_no (va_Pc [.ref x, .int (zI ((n : Nat) : Int))] (fun U => va_P D vwCl [(x, .inr (4, [.ref d, .ref xm, .ref rd, .int (zI ((mk : Nat) : Int))])), (d, .inr (0, [.ref dn, .ref df, .ref di, .ref dl, .ref dm, .int (zI ((nc : Nat) : Int)), .int (zI ((pp : Nat) : Int))])), (dn, .inl (c 0, 255, .inl (fun j => zI ((nm j : Nat) : Int)))), (dm, .inl (c 1, 40, .inl (fun j => zB (mb j))))] U.heap ∧ zK D c U)) (vp_Si (fun r => r = (zI (-1)))) 0 0 (fun _ => False) := by
  refine Met.ofW (cc := b_To_name) (maxL := 2) (ret := (some .int)) (by decide) rfl ?_
  intro p e s m args below meth c0 s₁ B hml hv
  obtain ⟨rfl, hP, hKN⟩ := hv
  have hK := hKN.1
  have hN := hKN.2
  have hx := B.exec
  have hb := B.bytes
  have hr := B.returns
  have hts := atoms_spec (ws := w_To_name) B.pre
  have hw : ∀ {w : Cond}, w ∈ ALLW → w.before _ s = true := fun h => hts _ (List.mem_cons_of_mem _ h)
  have hown : s.vm.findClass R_To = some m.cls := findClass_of_methodNamed B.named
  have hlocks := B.notSynchronized
  have hl := lv_entry ([.ref x, .int (zI ((n : Nat) : Int))]) (n := 2) (Nat.le_of_ble_eq_true rfl)
  rw [lg_entry_eq]
  generalize (lg_sl ([.ref x, .int (zI ((n : Nat) : Int))]) ++ List.replicate (2 - (lg_sl ([.ref x, .int (zI ((n : Nat) : Int))])).length) Slot.unset).toArray = ls at hl ⊢
  have hl : lv_has ls 2 [(0, .ref x), (1, .int (zI ((n : Nat) : Int)))] := hl
  generalize hQ : MQ below _ _ _ _ _ _ = Q
  refine lv_iload_n hx hb d_To_name_0 rfl (lv_at hl 1 rfl) ?_
  have hPc : va_P D vwCl [] s.heap := hP.sub (ws' := []) [] rfl
  refine vp_callSi (va_runS (rm := rm_isName) (As := [.int (zI ((n : Nat) : Int))]) (rest := []) ⟨hx, hb, hml, hown, hts⟩ (c_isName l D c ((n : Nat) : Int) (by omega)) (va_cwS 1 hts (gWS k_To_m33 k_s_To_isName k_n_To k_c_To_isName) rfl rfl rfl (by decide +kernel) ⟨Nat.le_of_ble_eq_true rfl, Nat.le_of_ble_eq_true rfl⟩) ⟨zblind, fun U hU hW => ⟨rfl, by rw [hU]; exact hPc, hKN.moved hW⟩⟩ rfl rfl hl.1 rfl (lv_room (Nat.le_of_ble_eq_true rfl)) d_To_name_1 ⟨Nat.zero_le _, Nat.zero_le _⟩).run (fun r hr_1 => ?_)
  subst hr_1
  refine z_ifeq_B (tgt := 28) hx hb d_To_name_4 (by decide) (fun hc_4 => (absurd hc_4 (by rw [decide_eq_true (by omega)]; decide))) (fun hc_4 => ?_)
  refine lv_aload_n hx hb d_To_name_7 rfl (lv_at hl 0 rfl) ?_
  refine va_get (D := D) (ci := 4) (v := .ref d) (C := R_To) (T := T_To) (N := 4) hx hb hts (fun w h => List.mem_cons_of_mem _ (inA_To w h)) hown hK hP 0 rfl rfl 0 (by decide) (hw k_To_f12) (fun _ h9 => h9) rfl d_To_name_8 ?_
  refine lv_iload_n hx hb d_To_name_11 rfl (lv_at hl 1 rfl) ?_
  have hPc : va_P D vwCl [(d, .inr (0, [.ref dn, .ref df, .ref di, .ref dl, .ref dm, .int (zI ((nc : Nat) : Int)), .int (zI ((pp : Nat) : Int))])), (dn, .inl (c 0, 255, .inl (fun j => zI ((nm j : Nat) : Int)))), (dm, .inl (c 1, 40, .inl (fun j => zB (mb j))))] s.heap := hP.sub (ws' := [(d, .inr (0, [.ref dn, .ref df, .ref di, .ref dl, .ref dm, .int (zI ((nc : Nat) : Int)), .int (zI ((pp : Nat) : Int))])), (dn, .inl (c 0, 255, .inl (fun j => zI ((nm j : Nat) : Int)))), (dm, .inl (c 1, 40, .inl (fun j => zB (mb j))))]) [1, 2, 3] rfl
  refine vp_callSi (va_runV (rm := rm_addName_no) (As := [.int (zI ((n : Nat) : Int))]) (rest := []) ⟨hx, hb, hml, hown, hts⟩ (c_addName_no l D c d dn df dfw di diw dl dlw dm nm fw iw lw mb nc pp n (by omega) (by omega) hno) (cwV 1 hts (gWV k_To_m37 k_i_Dr_addName k_v_Dr_addName k_n_Dr k_c_Dr_addName) rfl rfl rfl (by decide +kernel) ⟨Nat.le_of_ble_eq_true rfl, Nat.le_of_ble_eq_true rfl⟩) ⟨zblind, va_recv hK hPc (ci := 0) (q0 := 0) rfl rfl, fun U hU hW => ⟨rfl, by rw [hU]; exact hPc, hKN.moved hW⟩⟩ rfl rfl hl.1 rfl (lv_room (Nat.le_of_ble_eq_true rfl)) d_To_name_12 ⟨Nat.zero_le _, Nat.zero_le _⟩).run (fun r hr_2 => ?_)
  subst hr_2
  refine z_ifeq_B (tgt := 28) hx hb d_To_name_15 (by decide) (fun hc_15 => ?_) (fun hc_15 => (absurd hc_15 (by decide)))
  refine lv_iconst (v := zI (-1)) hx hb d_To_name_28 (by decide) ?_
  subst hQ
  exact W.iret (v := (zI (-1))) hx hb hr (fun t9 ht hW => ⟨_, rfl, rfl, ht⟩) (fun q hq => absurd hq List.not_mem_nil) d_To_name_29

def rm_name : Room := { frames := 4, cells := 0, slots := 0, locals := 88 }
set_option maxHeartbeats 4000000 in
set_option maxRecDepth 100000 in
/-- name -/
theorem c_name (l : Launch) (D : va_G) (c : Nat → ClassId) (x : Nat) (xm : Nat) (rd : Nat) (d : Nat) (dn : Nat) (df : Nat) (dfw : Nat) (di : Nat) (diw : Nat) (dl : Nat) (dlw : Nat) (dm : Nat) (mg : Nat → Option Nat) (mk : Nat) (nm : Nat → Nat) (fw : Nat → Int64) (iw : Nat → Int64) (lw : Nat → Int64) (mb : Nat → Bool) (nc : Nat) (pp : Nat) (n : Nat) (hn_ : 1 ≤ n ∧ n ≤ 1000) (hp : pp < 40) (hc : nc < 255) : Met l y_To_name w_To_name rm_name (va_Pc [.ref x, .int (zI ((n : Nat) : Int))] (fun U => (va_P D vwCl [(x, .inr (4, [.ref d, .ref xm, .ref rd, .int (zI ((mk : Nat) : Int))])), (d, .inr (0, [.ref dn, .ref df, .ref di, .ref dl, .ref dm, .int (zI ((nc : Nat) : Int)), .int (zI ((pp : Nat) : Int))])), (dn, .inl (c 0, 255, .inl (fun j => zI ((nm j : Nat) : Int)))), (df, .inr (3, [.ref dfw])), (dfw, .inl (c 2, 4 * 255, .inr (.inl fw))), (di, .inr (3, [.ref diw])), (diw, .inl (c 2, 4 * 40, .inr (.inl iw))), (dl, .inr (3, [.ref dlw])), (dlw, .inl (c 2, 4 * 40, .inr (.inl lw))), (dm, .inl (c 1, 40, .inl (fun j => zB (mb j))))] U.heap ∧ va_D (fun _ => True) [(x, .inr (4, [.ref d, .ref xm, .ref rd, .int (zI ((mk : Nat) : Int))])), (d, .inr (0, [.ref dn, .ref df, .ref di, .ref dl, .ref dm, .int (zI ((nc : Nat) : Int)), .int (zI ((pp : Nat) : Int))])), (dn, .inl (c 0, 255, .inl (fun j => zI ((nm j : Nat) : Int)))), (df, .inr (3, [.ref dfw])), (dfw, .inl (c 2, 4 * 255, .inr (.inl fw))), (di, .inr (3, [.ref diw])), (diw, .inl (c 2, 4 * 40, .inr (.inl iw))), (dl, .inr (3, [.ref dlw])), (dlw, .inl (c 2, 4 * 40, .inr (.inl lw))), (dm, .inl (c 1, 40, .inl (fun j => zB (mb j))))]) ∧ zK D c U)) (va_Qi (fun (r : Int32) (u : Unit) => r = (zI ((pp + 1 : Nat) : Int)) ∧ True) (fun (u : Unit) t9 => va_P D vwCl [(x, .inr (4, [.ref d, .ref xm, .ref rd, .int (zI ((mk : Nat) : Int))])), (d, .inr (0, [.ref dn, .ref df, .ref di, .ref dl, .ref dm, .int (zI ((nc + 1 : Nat) : Int)), .int (zI ((pp + 1 : Nat) : Int))])), (dn, .inl (c 0, 255, .inl (fun j => zI (((va_up nm nc n) j : Nat) : Int)))), (df, .inr (3, [.ref dfw])), (dfw, .inl (c 2, 4 * 255, .inr (.inl (zclr fw nc)))), (di, .inr (3, [.ref diw])), (diw, .inl (c 2, 4 * 40, .inr (.inl (zadd (zclr iw pp) pp nc)))), (dl, .inr (3, [.ref dlw])), (dlw, .inl (c 2, 4 * 40, .inr (.inl (zadd (zclr lw pp) pp nc)))), (dm, .inl (c 1, 40, .inl (fun j => zB ((va_up mb pp false) j))))] t9.heap) (zA [(x, .inr (4, [.ref d, .ref xm, .ref rd, .int (zI ((mk : Nat) : Int))])), (d, .inr (0, [.ref dn, .ref df, .ref di, .ref dl, .ref dm, .int (zI ((nc : Nat) : Int)), .int (zI ((pp : Nat) : Int))])), (dn, .inl (c 0, 255, .inl (fun j => zI ((nm j : Nat) : Int)))), (df, .inr (3, [.ref dfw])), (dfw, .inl (c 2, 4 * 255, .inr (.inl fw))), (di, .inr (3, [.ref diw])), (diw, .inl (c 2, 4 * 40, .inr (.inl iw))), (dl, .inr (3, [.ref dlw])), (dlw, .inl (c 2, 4 * 40, .inr (.inl lw))), (dm, .inl (c 1, 40, .inl (fun j => zB (mb j))))])) 0 0 (zA [(x, .inr (4, [.ref d, .ref xm, .ref rd, .int (zI ((mk : Nat) : Int))])), (d, .inr (0, [.ref dn, .ref df, .ref di, .ref dl, .ref dm, .int (zI ((nc : Nat) : Int)), .int (zI ((pp : Nat) : Int))])), (dn, .inl (c 0, 255, .inl (fun j => zI ((nm j : Nat) : Int)))), (df, .inr (3, [.ref dfw])), (dfw, .inl (c 2, 4 * 255, .inr (.inl fw))), (di, .inr (3, [.ref diw])), (diw, .inl (c 2, 4 * 40, .inr (.inl iw))), (dl, .inr (3, [.ref dlw])), (dlw, .inl (c 2, 4 * 40, .inr (.inl lw))), (dm, .inl (c 1, 40, .inl (fun j => zB (mb j))))]) := by
  refine Met.ofW (cc := b_To_name) (maxL := 2) (ret := (some .int)) (by decide) rfl ?_
  intro p e s m args below meth c0 s₁ B hml hv
  obtain ⟨rfl, ⟨hP, hD0⟩, hKN⟩ := hv
  have hK := hKN.1
  have hN := hKN.2
  have hx := B.exec
  have hb := B.bytes
  have hr := B.returns
  have hts := atoms_spec (ws := w_To_name) B.pre
  have hw : ∀ {w : Cond}, w ∈ ALLW → w.before _ s = true := fun h => hts _ (List.mem_cons_of_mem _ h)
  have hown : s.vm.findClass R_To = some m.cls := findClass_of_methodNamed B.named
  have hlocks := B.notSynchronized
  have hD : va_D (zA [(x, .inr (4, [.ref d, .ref xm, .ref rd, .int (zI ((mk : Nat) : Int))])), (d, .inr (0, [.ref dn, .ref df, .ref di, .ref dl, .ref dm, .int (zI ((nc : Nat) : Int)), .int (zI ((pp : Nat) : Int))])), (dn, .inl (c 0, 255, .inl (fun j => zI ((nm j : Nat) : Int)))), (df, .inr (3, [.ref dfw])), (dfw, .inl (c 2, 4 * 255, .inr (.inl fw))), (di, .inr (3, [.ref diw])), (diw, .inl (c 2, 4 * 40, .inr (.inl iw))), (dl, .inr (3, [.ref dlw])), (dlw, .inl (c 2, 4 * 40, .inr (.inl lw))), (dm, .inl (c 1, 40, .inl (fun j => zB (mb j))))]) [(x, .inr (4, [.ref d, .ref xm, .ref rd, .int (zI ((mk : Nat) : Int))])), (d, .inr (0, [.ref dn, .ref df, .ref di, .ref dl, .ref dm, .int (zI ((nc : Nat) : Int)), .int (zI ((pp : Nat) : Int))])), (dn, .inl (c 0, 255, .inl (fun j => zI ((nm j : Nat) : Int)))), (df, .inr (3, [.ref dfw])), (dfw, .inl (c 2, 4 * 255, .inr (.inl fw))), (di, .inr (3, [.ref diw])), (diw, .inl (c 2, 4 * 40, .inr (.inl iw))), (dl, .inr (3, [.ref dlw])), (dlw, .inl (c 2, 4 * 40, .inr (.inl lw))), (dm, .inl (c 1, 40, .inl (fun j => zB (mb j))))] := ⟨hD0.1, fun k q h => List.mem_map.mpr ⟨q, List.mem_of_getElem? h, rfl⟩⟩
  generalize hAe : zA [(x, .inr (4, [.ref d, .ref xm, .ref rd, .int (zI ((mk : Nat) : Int))])), (d, .inr (0, [.ref dn, .ref df, .ref di, .ref dl, .ref dm, .int (zI ((nc : Nat) : Int)), .int (zI ((pp : Nat) : Int))])), (dn, .inl (c 0, 255, .inl (fun j => zI ((nm j : Nat) : Int)))), (df, .inr (3, [.ref dfw])), (dfw, .inl (c 2, 4 * 255, .inr (.inl fw))), (di, .inr (3, [.ref diw])), (diw, .inl (c 2, 4 * 40, .inr (.inl iw))), (dl, .inr (3, [.ref dlw])), (dlw, .inl (c 2, 4 * 40, .inr (.inl lw))), (dm, .inl (c 1, 40, .inl (fun j => zB (mb j))))] = A at hD ⊢
  have hS : va_S A s.heap s.heap [] := va_S.rf
  have hP : va_P D vwCl [(x, .inr (4, [.ref d, .ref xm, .ref rd, .int (zI ((mk : Nat) : Int))])), (d, .inr (0, [.ref dn, .ref df, .ref di, .ref dl, .ref dm, .int (zI ((nc : Nat) : Int)), .int (zI ((pp : Nat) : Int))])), (dn, .inl (c 0, 255, .inl (fun j => zI ((nm j : Nat) : Int)))), (df, .inr (3, [.ref dfw])), (dfw, .inl (c 2, 4 * 255, .inr (.inl fw))), (di, .inr (3, [.ref diw])), (diw, .inl (c 2, 4 * 40, .inr (.inl iw))), (dl, .inr (3, [.ref dlw])), (dlw, .inl (c 2, 4 * 40, .inr (.inl lw))), (dm, .inl (c 1, 40, .inl (fun j => zB (mb j))))] s.heap := hP
  have hl := lv_entry ([.ref x, .int (zI ((n : Nat) : Int))]) (n := 2) (Nat.le_of_ble_eq_true rfl)
  rw [lg_entry_eq]
  generalize (lg_sl ([.ref x, .int (zI ((n : Nat) : Int))]) ++ List.replicate (2 - (lg_sl ([.ref x, .int (zI ((n : Nat) : Int))])).length) Slot.unset).toArray = ls at hl ⊢
  have hl : lv_has ls 2 [(0, .ref x), (1, .int (zI ((n : Nat) : Int)))] := hl
  generalize hQ : MQ below _ _ _ _ _ _ = Q
  refine lv_iload_n hx hb d_To_name_0 rfl (lv_at hl 1 rfl) ?_
  have hPc : va_P D vwCl [] s.heap := hP.sub (ws' := []) [] rfl
  refine vp_callSi (va_runS (rm := rm_isName) (As := [.int (zI ((n : Nat) : Int))]) (rest := []) ⟨hx, hb, hml, hown, hts⟩ (c_isName l D c ((n : Nat) : Int) (by omega)) (va_cwS 1 hts (gWS k_To_m33 k_s_To_isName k_n_To k_c_To_isName) rfl rfl rfl (by decide +kernel) ⟨Nat.le_of_ble_eq_true rfl, Nat.le_of_ble_eq_true rfl⟩) ⟨zblind, fun U hU hW => ⟨rfl, by rw [hU]; exact hPc, hKN.moved hW⟩⟩ rfl rfl hl.1 rfl (lv_room (Nat.le_of_ble_eq_true rfl)) d_To_name_1 ⟨Nat.zero_le _, Nat.zero_le _⟩).run (fun r hr_1 => ?_)
  subst hr_1
  refine z_ifeq_B (tgt := 28) hx hb d_To_name_4 (by decide) (fun hc_4 => (absurd hc_4 (by rw [decide_eq_true (by omega)]; decide))) (fun hc_4 => ?_)
  refine lv_aload_n hx hb d_To_name_7 rfl (lv_at hl 0 rfl) ?_
  refine va_get (D := D) (ci := 4) (v := .ref d) (C := R_To) (T := T_To) (N := 4) hx hb hts (fun w h => List.mem_cons_of_mem _ (inA_To w h)) hown hK hP 0 rfl rfl 0 (by decide) (hw k_To_f12) (fun _ h9 => h9) rfl d_To_name_8 ?_
  refine lv_iload_n hx hb d_To_name_11 rfl (lv_at hl 1 rfl) ?_
  have hPc : va_P D vwCl [(d, .inr (0, [.ref dn, .ref df, .ref di, .ref dl, .ref dm, .int (zI ((nc : Nat) : Int)), .int (zI ((pp : Nat) : Int))])), (dn, .inl (c 0, 255, .inl (fun j => zI ((nm j : Nat) : Int)))), (df, .inr (3, [.ref dfw])), (dfw, .inl (c 2, 4 * 255, .inr (.inl fw))), (di, .inr (3, [.ref diw])), (diw, .inl (c 2, 4 * 40, .inr (.inl iw))), (dl, .inr (3, [.ref dlw])), (dlw, .inl (c 2, 4 * 40, .inr (.inl lw))), (dm, .inl (c 1, 40, .inl (fun j => zB (mb j))))] s.heap := hP.sub (ws' := [(d, .inr (0, [.ref dn, .ref df, .ref di, .ref dl, .ref dm, .int (zI ((nc : Nat) : Int)), .int (zI ((pp : Nat) : Int))])), (dn, .inl (c 0, 255, .inl (fun j => zI ((nm j : Nat) : Int)))), (df, .inr (3, [.ref dfw])), (dfw, .inl (c 2, 4 * 255, .inr (.inl fw))), (di, .inr (3, [.ref diw])), (diw, .inl (c 2, 4 * 40, .inr (.inl iw))), (dl, .inr (3, [.ref dlw])), (dlw, .inl (c 2, 4 * 40, .inr (.inl lw))), (dm, .inl (c 1, 40, .inl (fun j => zB (mb j))))]) [1, 2, 3, 4, 5, 6, 7, 8, 9] rfl
  have hDc : va_D A [(d, .inr (0, [.ref dn, .ref df, .ref di, .ref dl, .ref dm, .int (zI ((nc : Nat) : Int)), .int (zI ((pp : Nat) : Int))])), (dn, .inl (c 0, 255, .inl (fun j => zI ((nm j : Nat) : Int)))), (df, .inr (3, [.ref dfw])), (dfw, .inl (c 2, 4 * 255, .inr (.inl fw))), (di, .inr (3, [.ref diw])), (diw, .inl (c 2, 4 * 40, .inr (.inl iw))), (dl, .inr (3, [.ref dlw])), (dlw, .inl (c 2, 4 * 40, .inr (.inl lw))), (dm, .inl (c 1, 40, .inl (fun j => zB (mb j))))] := hD.sub (ws' := [(d, .inr (0, [.ref dn, .ref df, .ref di, .ref dl, .ref dm, .int (zI ((nc : Nat) : Int)), .int (zI ((pp : Nat) : Int))])), (dn, .inl (c 0, 255, .inl (fun j => zI ((nm j : Nat) : Int)))), (df, .inr (3, [.ref dfw])), (dfw, .inl (c 2, 4 * 255, .inr (.inl fw))), (di, .inr (3, [.ref diw])), (diw, .inl (c 2, 4 * 40, .inr (.inl iw))), (dl, .inr (3, [.ref dlw])), (dlw, .inl (c 2, 4 * 40, .inr (.inl lw))), (dm, .inl (c 1, 40, .inl (fun j => zB (mb j))))]) [1, 2, 3, 4, 5, 6, 7, 8, 9] (by decide) rfl
  have hDt : va_D (fun _ => True) [(d, .inr (0, [.ref dn, .ref df, .ref di, .ref dl, .ref dm, .int (zI ((nc : Nat) : Int)), .int (zI ((pp : Nat) : Int))])), (dn, .inl (c 0, 255, .inl (fun j => zI ((nm j : Nat) : Int)))), (df, .inr (3, [.ref dfw])), (dfw, .inl (c 2, 4 * 255, .inr (.inl fw))), (di, .inr (3, [.ref diw])), (diw, .inl (c 2, 4 * 40, .inr (.inl iw))), (dl, .inr (3, [.ref dlw])), (dlw, .inl (c 2, 4 * 40, .inr (.inl lw))), (dm, .inl (c 1, 40, .inl (fun j => zB (mb j))))] := hDc.weaken (fun _ _ _ _ => trivial)
  refine z_calli (S := Unit) (w1 := fun u => [(d, .inr (0, [.ref dn, .ref df, .ref di, .ref dl, .ref dm, .int (zI ((nc + 1 : Nat) : Int)), .int (zI ((pp + 1 : Nat) : Int))])), (dn, .inl (c 0, 255, .inl (fun j => zI (((va_up nm nc n) j : Nat) : Int)))), (df, .inr (3, [.ref dfw])), (dfw, .inl (c 2, 4 * 255, .inr (.inl (zclr fw nc)))), (di, .inr (3, [.ref diw])), (diw, .inl (c 2, 4 * 40, .inr (.inl (zadd (zclr iw pp) pp nc)))), (dl, .inr (3, [.ref dlw])), (dlw, .inl (c 2, 4 * 40, .inr (.inl (zadd (zclr lw pp) pp nc)))), (dm, .inl (c 1, 40, .inl (fun j => zB ((va_up mb pp false) j))))]) (post := fun r u => r = (zB true) ∧ True) (wc := [(d, .inr (0, [.ref dn, .ref df, .ref di, .ref dl, .ref dm, .int (zI ((nc : Nat) : Int)), .int (zI ((pp : Nat) : Int))])), (dn, .inl (c 0, 255, .inl (fun j => zI ((nm j : Nat) : Int)))), (df, .inr (3, [.ref dfw])), (dfw, .inl (c 2, 4 * 255, .inr (.inl fw))), (di, .inr (3, [.ref diw])), (diw, .inl (c 2, 4 * 40, .inr (.inl iw))), (dl, .inr (3, [.ref dlw])), (dlw, .inl (c 2, 4 * 40, .inr (.inl lw))), (dm, .inl (c 1, 40, .inl (fun j => zB (mb j))))]) [1, 2, 3, 4, 5, 6, 7, 8, 9] rfl (fun _ => rfl) hP hD hS (va_runV (rm := rm_addName) (As := [.int (zI ((n : Nat) : Int))]) (rest := []) ⟨hx, hb, hml, hown, hts⟩ (c_addName l D c d dn df dfw di diw dl dlw dm nm fw iw lw mb nc pp n (by omega) (by omega)) (cwV 1 hts (gWV k_To_m37 k_i_Dr_addName k_v_Dr_addName k_n_Dr k_c_Dr_addName) rfl rfl rfl (by decide +kernel) ⟨Nat.le_of_ble_eq_true rfl, Nat.le_of_ble_eq_true rfl⟩) ⟨zblindW, va_recv hK hPc (ci := 0) (q0 := 0) rfl rfl, fun U hU hW => ⟨rfl, ⟨by rw [hU]; exact hPc, hDt⟩, hKN.moved hW⟩⟩ rfl rfl hl.1 rfl (lv_room (Nat.le_of_ble_eq_true rfl)) d_To_name_12 ⟨Nat.zero_le _, Nat.zero_le _⟩) (fun r u H locs hp_2 hP hD hS => ?_)
  obtain ⟨hr_2, hp_2⟩ := hp_2
  subst hr_2
  have hP : va_P D vwCl [(x, .inr (4, [.ref d, .ref xm, .ref rd, .int (zI ((mk : Nat) : Int))])), (d, .inr (0, [.ref dn, .ref df, .ref di, .ref dl, .ref dm, .int (zI ((nc + 1 : Nat) : Int)), .int (zI ((pp + 1 : Nat) : Int))])), (dn, .inl (c 0, 255, .inl (fun j => zI (((va_up nm nc n) j : Nat) : Int)))), (df, .inr (3, [.ref dfw])), (dfw, .inl (c 2, 4 * 255, .inr (.inl (zclr fw nc)))), (di, .inr (3, [.ref diw])), (diw, .inl (c 2, 4 * 40, .inr (.inl (zadd (zclr iw pp) pp nc)))), (dl, .inr (3, [.ref dlw])), (dlw, .inl (c 2, 4 * 40, .inr (.inl (zadd (zclr lw pp) pp nc)))), (dm, .inl (c 1, 40, .inl (fun j => zB ((va_up mb pp false) j))))] H := hP
  have hD : va_D A [(x, .inr (4, [.ref d, .ref xm, .ref rd, .int (zI ((mk : Nat) : Int))])), (d, .inr (0, [.ref dn, .ref df, .ref di, .ref dl, .ref dm, .int (zI ((nc + 1 : Nat) : Int)), .int (zI ((pp + 1 : Nat) : Int))])), (dn, .inl (c 0, 255, .inl (fun j => zI (((va_up nm nc n) j : Nat) : Int)))), (df, .inr (3, [.ref dfw])), (dfw, .inl (c 2, 4 * 255, .inr (.inl (zclr fw nc)))), (di, .inr (3, [.ref diw])), (diw, .inl (c 2, 4 * 40, .inr (.inl (zadd (zclr iw pp) pp nc)))), (dl, .inr (3, [.ref dlw])), (dlw, .inl (c 2, 4 * 40, .inr (.inl (zadd (zclr lw pp) pp nc)))), (dm, .inl (c 1, 40, .inl (fun j => zB ((va_up mb pp false) j))))] := hD
  refine z_ifeq_B (tgt := 28) hx hb d_To_name_15 (by decide) (fun hc_15 => (absurd hc_15 (by decide))) (fun hc_15 => ?_)
  refine lv_aload_n hx hb d_To_name_18 rfl (lv_at hl 0 rfl) ?_
  refine va_get (D := D) (ci := 4) (v := .ref d) (C := R_To) (T := T_To) (N := 4) hx hb hts (fun w h => List.mem_cons_of_mem _ (inA_To w h)) hown hK hP 0 rfl rfl 0 (by decide) (hw k_To_f12) (fun _ h9 => h9) rfl d_To_name_19 ?_
  refine va_getN (D := D) (ci := 0) (v := .int (zI ((pp + 1 : Nat) : Int))) (C := R_Dr) (T := T_Dr) (N := 7) hx hb hts (fun w h => List.mem_cons_of_mem _ (inA_Dr w h)) hown hK hP 1 rfl rfl 6 (by decide) (va_Nw.use rfl hN.2.1) (fun _ h9 => h9) rfl d_To_name_22 ?_
  refine lv_goto (tgt := 29) hx hb d_To_name_25 (by decide) ?_
  subst hQ
  exact W.iret (v := (zI ((pp + 1 : Nat) : Int))) hx hb hr (fun t9 ht hW => ⟨⟨_, (), rfl, ⟨rfl, trivial⟩, by show va_P _ _ _ t9.heap; rw [ht]; exact hP⟩, hS.F ht⟩) hS.2.2 d_To_name_29

def rm_row_no : Room := { frames := 2, cells := 0, slots := 0, locals := 43 }
set_option maxHeartbeats 4000000 in
set_option maxRecDepth 100000 in
/-- row, refused -/
theorem c_row_no (l : Launch) (D : va_G) (c : Nat → ClassId) (x : Nat) (xm : Nat) (rd : Nat) (d : Nat) (dn : Nat) (df : Nat) (dfw : Nat) (di : Nat) (diw : Nat) (dl : Nat) (dlw : Nat) (dm : Nat) (mg : Nat → Option Nat) (mk : Nat) (nm : Nat → Nat) (fw : Nat → Int64) (iw : Nat → Int64) (lw : Nat → Int64) (mb : Nat → Bool) (nc : Nat) (pp : Nat) (hp : pp < 2) : Met l y_To_row w_To_row rm_row_no (va_Pc [.ref x] (fun U => va_P D vwCl [(x, .inr (4, [.ref d, .ref xm, .ref rd, .int (zI ((mk : Nat) : Int))])), (d, .inr (0, [.ref dn, .ref df, .ref di, .ref dl, .ref dm, .int (zI ((nc : Nat) : Int)), .int (zI ((pp : Nat) : Int))])), (dm, .inl (c 1, 40, .inl (fun j => zB (mb j))))] U.heap ∧ zK D c U)) (vp_Si (fun r => r = (zI (-1)))) 0 0 (fun _ => False) := by
  refine Met.ofW (cc := b_To_row) (maxL := 1) (ret := (some .int)) (by decide) rfl ?_
  intro p e s m args below meth c0 s₁ B hml hv
  obtain ⟨rfl, hP, hKN⟩ := hv
  have hK := hKN.1
  have hN := hKN.2
  have hx := B.exec
  have hb := B.bytes
  have hr := B.returns
  have hts := atoms_spec (ws := w_To_row) B.pre
  have hw : ∀ {w : Cond}, w ∈ ALLW → w.before _ s = true := fun h => hts _ (List.mem_cons_of_mem _ h)
  have hown : s.vm.findClass R_To = some m.cls := findClass_of_methodNamed B.named
  have hlocks := B.notSynchronized
  have hl := lv_entry ([.ref x]) (n := 1) (Nat.le_of_ble_eq_true rfl)
  rw [lg_entry_eq]
  generalize (lg_sl ([.ref x]) ++ List.replicate (1 - (lg_sl ([.ref x])).length) Slot.unset).toArray = ls at hl ⊢
  have hl : lv_has ls 1 [(0, .ref x)] := hl
  generalize hQ : MQ below _ _ _ _ _ _ = Q
  refine lv_aload_n hx hb d_To_row_0 rfl (lv_at hl 0 rfl) ?_
  refine va_get (D := D) (ci := 4) (v := .ref d) (C := R_To) (T := T_To) (N := 4) hx hb hts (fun w h => List.mem_cons_of_mem _ (inA_To w h)) hown hK hP 0 rfl rfl 0 (by decide) (hw k_To_f12) (fun _ h9 => h9) rfl d_To_row_1 ?_
  have hPc : va_P D vwCl [(d, .inr (0, [.ref dn, .ref df, .ref di, .ref dl, .ref dm, .int (zI ((nc : Nat) : Int)), .int (zI ((pp : Nat) : Int))])), (dm, .inl (c 1, 40, .inl (fun j => zB (mb j))))] s.heap := hP.sub (ws' := [(d, .inr (0, [.ref dn, .ref df, .ref di, .ref dl, .ref dm, .int (zI ((nc : Nat) : Int)), .int (zI ((pp : Nat) : Int))])), (dm, .inl (c 1, 40, .inl (fun j => zB (mb j))))]) [1, 2] rfl
  refine vp_callSi (va_runV (rm := rm_joinToRow_no) (As := []) (rest := []) ⟨hx, hb, hml, hown, hts⟩ (c_joinToRow_no l D c d dn df dfw di diw dl dlw dm nm fw iw lw mb nc pp (by omega)) (cwV 0 hts (gWV k_To_m43 k_i_Dr_joinToRow k_v_Dr_joinToRow k_n_Dr k_c_Dr_joinToRow) rfl rfl rfl (by decide +kernel) ⟨Nat.le_of_ble_eq_true rfl, Nat.le_of_ble_eq_true rfl⟩) ⟨zblind, va_recv hK hPc (ci := 0) (q0 := 0) rfl rfl, fun U hU hW => ⟨rfl, by rw [hU]; exact hPc, hKN.moved hW⟩⟩ rfl rfl hl.1 rfl (lv_room (Nat.le_of_ble_eq_true rfl)) d_To_row_4 ⟨Nat.zero_le _, Nat.zero_le _⟩).run (fun r hr_1 => ?_)
  subst hr_1
  refine z_ifeq_B (tgt := 20) hx hb d_To_row_7 (by decide) (fun hc_7 => ?_) (fun hc_7 => (absurd hc_7 (by decide)))
  refine lv_iconst (v := zI (-1)) hx hb d_To_row_20 (by decide) ?_
  subst hQ
  exact W.iret (v := (zI (-1))) hx hb hr (fun t9 ht hW => ⟨_, rfl, rfl, ht⟩) (fun q hq => absurd hq List.not_mem_nil) d_To_row_21

def rm_row : Room := { frames := 5, cells := 0, slots := 0, locals := 110 }
set_option maxHeartbeats 4000000 in
set_option maxRecDepth 100000 in
/-- row -/
theorem c_row (l : Launch) (D : va_G) (c : Nat → ClassId) (x : Nat) (xm : Nat) (rd : Nat) (d : Nat) (dn : Nat) (df : Nat) (dfw : Nat) (di : Nat) (diw : Nat) (dl : Nat) (dlw : Nat) (dm : Nat) (mg : Nat → Option Nat) (mk : Nat) (nm : Nat → Nat) (fw : Nat → Int64) (iw : Nat → Int64) (lw : Nat → Int64) (mb : Nat → Bool) (nc : Nat) (q : Nat) (hp : q + 2 ≤ 40) (hc : nc ≤ 255) : Met l y_To_row w_To_row rm_row (va_Pc [.ref x] (fun U => (va_P D vwCl [(x, .inr (4, [.ref d, .ref xm, .ref rd, .int (zI ((mk : Nat) : Int))])), (d, .inr (0, [.ref dn, .ref df, .ref di, .ref dl, .ref dm, .int (zI ((nc : Nat) : Int)), .int (zI ((q + 2 : Nat) : Int))])), (df, .inr (3, [.ref dfw])), (dfw, .inl (c 2, 4 * 255, .inr (.inl fw))), (di, .inr (3, [.ref diw])), (diw, .inl (c 2, 4 * 40, .inr (.inl iw))), (dl, .inr (3, [.ref dlw])), (dlw, .inl (c 2, 4 * 40, .inr (.inl lw))), (dm, .inl (c 1, 40, .inl (fun j => zB (mb j))))] U.heap ∧ va_D (fun _ => True) [(x, .inr (4, [.ref d, .ref xm, .ref rd, .int (zI ((mk : Nat) : Int))])), (d, .inr (0, [.ref dn, .ref df, .ref di, .ref dl, .ref dm, .int (zI ((nc : Nat) : Int)), .int (zI ((q + 2 : Nat) : Int))])), (df, .inr (3, [.ref dfw])), (dfw, .inl (c 2, 4 * 255, .inr (.inl fw))), (di, .inr (3, [.ref diw])), (diw, .inl (c 2, 4 * 40, .inr (.inl iw))), (dl, .inr (3, [.ref dlw])), (dlw, .inl (c 2, 4 * 40, .inr (.inl lw))), (dm, .inl (c 1, 40, .inl (fun j => zB (mb j))))]) ∧ zK D c U)) (va_Qi (fun (r : Int32) (u : Unit) => r = (zI ((q + 1 : Nat) : Int)) ∧ True) (fun (u : Unit) t9 => va_P D vwCl [(x, .inr (4, [.ref d, .ref xm, .ref rd, .int (zI ((mk : Nat) : Int))])), (d, .inr (0, [.ref dn, .ref df, .ref di, .ref dl, .ref dm, .int (zI ((nc : Nat) : Int)), .int (zI ((q + 1 : Nat) : Int))])), (df, .inr (3, [.ref dfw])), (dfw, .inl (c 2, 4 * 255, .inr (.inl (lfw fw iw lw q (q + 1) nc)))), (di, .inr (3, [.ref diw])), (diw, .inl (c 2, 4 * 40, .inr (.inl (jrI iw mb q)))), (dl, .inr (3, [.ref dlw])), (dlw, .inl (c 2, 4 * 40, .inr (.inl (zor (jrL0 lw mb q) q (jrL0 lw mb q) (q + 1))))), (dm, .inl (c 1, 40, .inl (fun j => zB ((va_up mb q (mb q && mb (q + 1))) j))))] t9.heap) (zA [(x, .inr (4, [.ref d, .ref xm, .ref rd, .int (zI ((mk : Nat) : Int))])), (d, .inr (0, [.ref dn, .ref df, .ref di, .ref dl, .ref dm, .int (zI ((nc : Nat) : Int)), .int (zI ((q + 2 : Nat) : Int))])), (df, .inr (3, [.ref dfw])), (dfw, .inl (c 2, 4 * 255, .inr (.inl fw))), (di, .inr (3, [.ref diw])), (diw, .inl (c 2, 4 * 40, .inr (.inl iw))), (dl, .inr (3, [.ref dlw])), (dlw, .inl (c 2, 4 * 40, .inr (.inl lw))), (dm, .inl (c 1, 40, .inl (fun j => zB (mb j))))])) 0 0 (zA [(x, .inr (4, [.ref d, .ref xm, .ref rd, .int (zI ((mk : Nat) : Int))])), (d, .inr (0, [.ref dn, .ref df, .ref di, .ref dl, .ref dm, .int (zI ((nc : Nat) : Int)), .int (zI ((q + 2 : Nat) : Int))])), (df, .inr (3, [.ref dfw])), (dfw, .inl (c 2, 4 * 255, .inr (.inl fw))), (di, .inr (3, [.ref diw])), (diw, .inl (c 2, 4 * 40, .inr (.inl iw))), (dl, .inr (3, [.ref dlw])), (dlw, .inl (c 2, 4 * 40, .inr (.inl lw))), (dm, .inl (c 1, 40, .inl (fun j => zB (mb j))))]) := by
  refine Met.ofW (cc := b_To_row) (maxL := 1) (ret := (some .int)) (by decide) rfl ?_
  intro p e s m args below meth c0 s₁ B hml hv
  obtain ⟨rfl, ⟨hP, hD0⟩, hKN⟩ := hv
  have hK := hKN.1
  have hN := hKN.2
  have hx := B.exec
  have hb := B.bytes
  have hr := B.returns
  have hts := atoms_spec (ws := w_To_row) B.pre
  have hw : ∀ {w : Cond}, w ∈ ALLW → w.before _ s = true := fun h => hts _ (List.mem_cons_of_mem _ h)
  have hown : s.vm.findClass R_To = some m.cls := findClass_of_methodNamed B.named
  have hlocks := B.notSynchronized
  have hD : va_D (zA [(x, .inr (4, [.ref d, .ref xm, .ref rd, .int (zI ((mk : Nat) : Int))])), (d, .inr (0, [.ref dn, .ref df, .ref di, .ref dl, .ref dm, .int (zI ((nc : Nat) : Int)), .int (zI ((q + 2 : Nat) : Int))])), (df, .inr (3, [.ref dfw])), (dfw, .inl (c 2, 4 * 255, .inr (.inl fw))), (di, .inr (3, [.ref diw])), (diw, .inl (c 2, 4 * 40, .inr (.inl iw))), (dl, .inr (3, [.ref dlw])), (dlw, .inl (c 2, 4 * 40, .inr (.inl lw))), (dm, .inl (c 1, 40, .inl (fun j => zB (mb j))))]) [(x, .inr (4, [.ref d, .ref xm, .ref rd, .int (zI ((mk : Nat) : Int))])), (d, .inr (0, [.ref dn, .ref df, .ref di, .ref dl, .ref dm, .int (zI ((nc : Nat) : Int)), .int (zI ((q + 2 : Nat) : Int))])), (df, .inr (3, [.ref dfw])), (dfw, .inl (c 2, 4 * 255, .inr (.inl fw))), (di, .inr (3, [.ref diw])), (diw, .inl (c 2, 4 * 40, .inr (.inl iw))), (dl, .inr (3, [.ref dlw])), (dlw, .inl (c 2, 4 * 40, .inr (.inl lw))), (dm, .inl (c 1, 40, .inl (fun j => zB (mb j))))] := ⟨hD0.1, fun k q h => List.mem_map.mpr ⟨q, List.mem_of_getElem? h, rfl⟩⟩
  generalize hAe : zA [(x, .inr (4, [.ref d, .ref xm, .ref rd, .int (zI ((mk : Nat) : Int))])), (d, .inr (0, [.ref dn, .ref df, .ref di, .ref dl, .ref dm, .int (zI ((nc : Nat) : Int)), .int (zI ((q + 2 : Nat) : Int))])), (df, .inr (3, [.ref dfw])), (dfw, .inl (c 2, 4 * 255, .inr (.inl fw))), (di, .inr (3, [.ref diw])), (diw, .inl (c 2, 4 * 40, .inr (.inl iw))), (dl, .inr (3, [.ref dlw])), (dlw, .inl (c 2, 4 * 40, .inr (.inl lw))), (dm, .inl (c 1, 40, .inl (fun j => zB (mb j))))] = A at hD ⊢
  have hS : va_S A s.heap s.heap [] := va_S.rf
  have hP : va_P D vwCl [(x, .inr (4, [.ref d, .ref xm, .ref rd, .int (zI ((mk : Nat) : Int))])), (d, .inr (0, [.ref dn, .ref df, .ref di, .ref dl, .ref dm, .int (zI ((nc : Nat) : Int)), .int (zI ((q + 2 : Nat) : Int))])), (df, .inr (3, [.ref dfw])), (dfw, .inl (c 2, 4 * 255, .inr (.inl fw))), (di, .inr (3, [.ref diw])), (diw, .inl (c 2, 4 * 40, .inr (.inl iw))), (dl, .inr (3, [.ref dlw])), (dlw, .inl (c 2, 4 * 40, .inr (.inl lw))), (dm, .inl (c 1, 40, .inl (fun j => zB (mb j))))] s.heap := hP
  have hl := lv_entry ([.ref x]) (n := 1) (Nat.le_of_ble_eq_true rfl)
  rw [lg_entry_eq]
  generalize (lg_sl ([.ref x]) ++ List.replicate (1 - (lg_sl ([.ref x])).length) Slot.unset).toArray = ls at hl ⊢
  have hl : lv_has ls 1 [(0, .ref x)] := hl
  generalize hQ : MQ below _ _ _ _ _ _ = Q
  refine lv_aload_n hx hb d_To_row_0 rfl (lv_at hl 0 rfl) ?_
  refine va_get (D := D) (ci := 4) (v := .ref d) (C := R_To) (T := T_To) (N := 4) hx hb hts (fun w h => List.mem_cons_of_mem _ (inA_To w h)) hown hK hP 0 rfl rfl 0 (by decide) (hw k_To_f12) (fun _ h9 => h9) rfl d_To_row_1 ?_
  have hPc : va_P D vwCl [(d, .inr (0, [.ref dn, .ref df, .ref di, .ref dl, .ref dm, .int (zI ((nc : Nat) : Int)), .int (zI ((q + 2 : Nat) : Int))])), (df, .inr (3, [.ref dfw])), (dfw, .inl (c 2, 4 * 255, .inr (.inl fw))), (di, .inr (3, [.ref diw])), (diw, .inl (c 2, 4 * 40, .inr (.inl iw))), (dl, .inr (3, [.ref dlw])), (dlw, .inl (c 2, 4 * 40, .inr (.inl lw))), (dm, .inl (c 1, 40, .inl (fun j => zB (mb j))))] s.heap := hP.sub (ws' := [(d, .inr (0, [.ref dn, .ref df, .ref di, .ref dl, .ref dm, .int (zI ((nc : Nat) : Int)), .int (zI ((q + 2 : Nat) : Int))])), (df, .inr (3, [.ref dfw])), (dfw, .inl (c 2, 4 * 255, .inr (.inl fw))), (di, .inr (3, [.ref diw])), (diw, .inl (c 2, 4 * 40, .inr (.inl iw))), (dl, .inr (3, [.ref dlw])), (dlw, .inl (c 2, 4 * 40, .inr (.inl lw))), (dm, .inl (c 1, 40, .inl (fun j => zB (mb j))))]) [1, 2, 3, 4, 5, 6, 7, 8] rfl
  have hDc : va_D A [(d, .inr (0, [.ref dn, .ref df, .ref di, .ref dl, .ref dm, .int (zI ((nc : Nat) : Int)), .int (zI ((q + 2 : Nat) : Int))])), (df, .inr (3, [.ref dfw])), (dfw, .inl (c 2, 4 * 255, .inr (.inl fw))), (di, .inr (3, [.ref diw])), (diw, .inl (c 2, 4 * 40, .inr (.inl iw))), (dl, .inr (3, [.ref dlw])), (dlw, .inl (c 2, 4 * 40, .inr (.inl lw))), (dm, .inl (c 1, 40, .inl (fun j => zB (mb j))))] := hD.sub (ws' := [(d, .inr (0, [.ref dn, .ref df, .ref di, .ref dl, .ref dm, .int (zI ((nc : Nat) : Int)), .int (zI ((q + 2 : Nat) : Int))])), (df, .inr (3, [.ref dfw])), (dfw, .inl (c 2, 4 * 255, .inr (.inl fw))), (di, .inr (3, [.ref diw])), (diw, .inl (c 2, 4 * 40, .inr (.inl iw))), (dl, .inr (3, [.ref dlw])), (dlw, .inl (c 2, 4 * 40, .inr (.inl lw))), (dm, .inl (c 1, 40, .inl (fun j => zB (mb j))))]) [1, 2, 3, 4, 5, 6, 7, 8] (by decide) rfl
  have hDt : va_D (fun _ => True) [(d, .inr (0, [.ref dn, .ref df, .ref di, .ref dl, .ref dm, .int (zI ((nc : Nat) : Int)), .int (zI ((q + 2 : Nat) : Int))])), (df, .inr (3, [.ref dfw])), (dfw, .inl (c 2, 4 * 255, .inr (.inl fw))), (di, .inr (3, [.ref diw])), (diw, .inl (c 2, 4 * 40, .inr (.inl iw))), (dl, .inr (3, [.ref dlw])), (dlw, .inl (c 2, 4 * 40, .inr (.inl lw))), (dm, .inl (c 1, 40, .inl (fun j => zB (mb j))))] := hDc.weaken (fun _ _ _ _ => trivial)
  refine z_calli (S := Unit) (w1 := fun u => [(d, .inr (0, [.ref dn, .ref df, .ref di, .ref dl, .ref dm, .int (zI ((nc : Nat) : Int)), .int (zI ((q + 1 : Nat) : Int))])), (df, .inr (3, [.ref dfw])), (dfw, .inl (c 2, 4 * 255, .inr (.inl (lfw fw iw lw q (q + 1) nc)))), (di, .inr (3, [.ref diw])), (diw, .inl (c 2, 4 * 40, .inr (.inl (jrI iw mb q)))), (dl, .inr (3, [.ref dlw])), (dlw, .inl (c 2, 4 * 40, .inr (.inl (zor (jrL0 lw mb q) q (jrL0 lw mb q) (q + 1))))), (dm, .inl (c 1, 40, .inl (fun j => zB ((va_up mb q (mb q && mb (q + 1))) j))))]) (post := fun r u => r = (zB true) ∧ True) (wc := [(d, .inr (0, [.ref dn, .ref df, .ref di, .ref dl, .ref dm, .int (zI ((nc : Nat) : Int)), .int (zI ((q + 2 : Nat) : Int))])), (df, .inr (3, [.ref dfw])), (dfw, .inl (c 2, 4 * 255, .inr (.inl fw))), (di, .inr (3, [.ref diw])), (diw, .inl (c 2, 4 * 40, .inr (.inl iw))), (dl, .inr (3, [.ref dlw])), (dlw, .inl (c 2, 4 * 40, .inr (.inl lw))), (dm, .inl (c 1, 40, .inl (fun j => zB (mb j))))]) [1, 2, 3, 4, 5, 6, 7, 8] rfl (fun _ => rfl) hP hD hS (va_runV (rm := rm_joinToRow) (As := []) (rest := []) ⟨hx, hb, hml, hown, hts⟩ (c_joinToRow l D c d dn df dfw di diw dl dlw dm nm fw iw lw mb nc q (by omega) (by omega)) (cwV 0 hts (gWV k_To_m43 k_i_Dr_joinToRow k_v_Dr_joinToRow k_n_Dr k_c_Dr_joinToRow) rfl rfl rfl (by decide +kernel) ⟨Nat.le_of_ble_eq_true rfl, Nat.le_of_ble_eq_true rfl⟩) ⟨zblindW, va_recv hK hPc (ci := 0) (q0 := 0) rfl rfl, fun U hU hW => ⟨rfl, ⟨by rw [hU]; exact hPc, hDt⟩, hKN.moved hW⟩⟩ rfl rfl hl.1 rfl (lv_room (Nat.le_of_ble_eq_true rfl)) d_To_row_4 ⟨Nat.zero_le _, Nat.zero_le _⟩) (fun r u H locs hp_1 hP hD hS => ?_)
  obtain ⟨hr_1, hp_1⟩ := hp_1
  subst hr_1
  have hP : va_P D vwCl [(x, .inr (4, [.ref d, .ref xm, .ref rd, .int (zI ((mk : Nat) : Int))])), (d, .inr (0, [.ref dn, .ref df, .ref di, .ref dl, .ref dm, .int (zI ((nc : Nat) : Int)), .int (zI ((q + 1 : Nat) : Int))])), (df, .inr (3, [.ref dfw])), (dfw, .inl (c 2, 4 * 255, .inr (.inl (lfw fw iw lw q (q + 1) nc)))), (di, .inr (3, [.ref diw])), (diw, .inl (c 2, 4 * 40, .inr (.inl (jrI iw mb q)))), (dl, .inr (3, [.ref dlw])), (dlw, .inl (c 2, 4 * 40, .inr (.inl (zor (jrL0 lw mb q) q (jrL0 lw mb q) (q + 1))))), (dm, .inl (c 1, 40, .inl (fun j => zB ((va_up mb q (mb q && mb (q + 1))) j))))] H := hP
  have hD : va_D A [(x, .inr (4, [.ref d, .ref xm, .ref rd, .int (zI ((mk : Nat) : Int))])), (d, .inr (0, [.ref dn, .ref df, .ref di, .ref dl, .ref dm, .int (zI ((nc : Nat) : Int)), .int (zI ((q + 1 : Nat) : Int))])), (df, .inr (3, [.ref dfw])), (dfw, .inl (c 2, 4 * 255, .inr (.inl (lfw fw iw lw q (q + 1) nc)))), (di, .inr (3, [.ref diw])), (diw, .inl (c 2, 4 * 40, .inr (.inl (jrI iw mb q)))), (dl, .inr (3, [.ref dlw])), (dlw, .inl (c 2, 4 * 40, .inr (.inl (zor (jrL0 lw mb q) q (jrL0 lw mb q) (q + 1))))), (dm, .inl (c 1, 40, .inl (fun j => zB ((va_up mb q (mb q && mb (q + 1))) j))))] := hD
  refine z_ifeq_B (tgt := 20) hx hb d_To_row_7 (by decide) (fun hc_7 => (absurd hc_7 (by decide))) (fun hc_7 => ?_)
  refine lv_aload_n hx hb d_To_row_10 rfl (lv_at hl 0 rfl) ?_
  refine va_get (D := D) (ci := 4) (v := .ref d) (C := R_To) (T := T_To) (N := 4) hx hb hts (fun w h => List.mem_cons_of_mem _ (inA_To w h)) hown hK hP 0 rfl rfl 0 (by decide) (hw k_To_f12) (fun _ h9 => h9) rfl d_To_row_11 ?_
  refine va_getN (D := D) (ci := 0) (v := .int (zI ((q + 1 : Nat) : Int))) (C := R_Dr) (T := T_Dr) (N := 7) hx hb hts (fun w h => List.mem_cons_of_mem _ (inA_Dr w h)) hown hK hP 1 rfl rfl 6 (by decide) (va_Nw.use rfl hN.2.1) (fun _ h9 => h9) rfl d_To_row_14 ?_
  refine lv_goto (tgt := 21) hx hb d_To_row_17 (by decide) ?_
  subst hQ
  exact W.iret (v := (zI ((q + 1 : Nat) : Int))) hx hb hr (fun t9 ht hW => ⟨⟨_, (), rfl, ⟨rfl, trivial⟩, by show va_P _ _ _ t9.heap; rw [ht]; exact hP⟩, hS.F ht⟩) hS.2.2 d_To_row_21

def rm_choice_no : Room := { frames := 2, cells := 0, slots := 0, locals := 43 }
set_option maxHeartbeats 4000000 in
set_option maxRecDepth 100000 in
/-- choice, refused -/
theorem c_choice_no (l : Launch) (D : va_G) (c : Nat → ClassId) (x : Nat) (xm : Nat) (rd : Nat) (d : Nat) (dn : Nat) (df : Nat) (dfw : Nat) (di : Nat) (diw : Nat) (dl : Nat) (dlw : Nat) (dm : Nat) (mg : Nat → Option Nat) (mk : Nat) (nm : Nat → Nat) (fw : Nat → Int64) (iw : Nat → Int64) (lw : Nat → Int64) (mb : Nat → Bool) (nc : Nat) (pp : Nat) (hp : pp < 2) : Met l y_To_choice w_To_choice rm_choice_no (va_Pc [.ref x] (fun U => va_P D vwCl [(x, .inr (4, [.ref d, .ref xm, .ref rd, .int (zI ((mk : Nat) : Int))])), (d, .inr (0, [.ref dn, .ref df, .ref di, .ref dl, .ref dm, .int (zI ((nc : Nat) : Int)), .int (zI ((pp : Nat) : Int))])), (dm, .inl (c 1, 40, .inl (fun j => zB (mb j))))] U.heap ∧ zK D c U)) (vp_Si (fun r => r = (zI (-1)))) 0 0 (fun _ => False) := by
  refine Met.ofW (cc := b_To_choice) (maxL := 1) (ret := (some .int)) (by decide) rfl ?_
  intro p e s m args below meth c0 s₁ B hml hv
  obtain ⟨rfl, hP, hKN⟩ := hv
  have hK := hKN.1
  have hN := hKN.2
  have hx := B.exec
  have hb := B.bytes
  have hr := B.returns
  have hts := atoms_spec (ws := w_To_choice) B.pre
  have hw : ∀ {w : Cond}, w ∈ ALLW → w.before _ s = true := fun h => hts _ (List.mem_cons_of_mem _ h)
  have hown : s.vm.findClass R_To = some m.cls := findClass_of_methodNamed B.named
  have hlocks := B.notSynchronized
  have hl := lv_entry ([.ref x]) (n := 1) (Nat.le_of_ble_eq_true rfl)
  rw [lg_entry_eq]
  generalize (lg_sl ([.ref x]) ++ List.replicate (1 - (lg_sl ([.ref x])).length) Slot.unset).toArray = ls at hl ⊢
  have hl : lv_has ls 1 [(0, .ref x)] := hl
  generalize hQ : MQ below _ _ _ _ _ _ = Q
  refine lv_aload_n hx hb d_To_choice_0 rfl (lv_at hl 0 rfl) ?_
  refine va_get (D := D) (ci := 4) (v := .ref d) (C := R_To) (T := T_To) (N := 4) hx hb hts (fun w h => List.mem_cons_of_mem _ (inA_To w h)) hown hK hP 0 rfl rfl 0 (by decide) (hw k_To_f12) (fun _ h9 => h9) rfl d_To_choice_1 ?_
  have hPc : va_P D vwCl [(d, .inr (0, [.ref dn, .ref df, .ref di, .ref dl, .ref dm, .int (zI ((nc : Nat) : Int)), .int (zI ((pp : Nat) : Int))])), (dm, .inl (c 1, 40, .inl (fun j => zB (mb j))))] s.heap := hP.sub (ws' := [(d, .inr (0, [.ref dn, .ref df, .ref di, .ref dl, .ref dm, .int (zI ((nc : Nat) : Int)), .int (zI ((pp : Nat) : Int))])), (dm, .inl (c 1, 40, .inl (fun j => zB (mb j))))]) [1, 2] rfl
  refine vp_callSi (va_runV (rm := rm_joinToChoice_no) (As := []) (rest := []) ⟨hx, hb, hml, hown, hts⟩ (c_joinToChoice_no l D c d dn df dfw di diw dl dlw dm nm fw iw lw mb nc pp (by omega)) (cwV 0 hts (gWV k_To_m47 k_i_Dr_joinToChoice k_v_Dr_joinToChoice k_n_Dr k_c_Dr_joinToChoice) rfl rfl rfl (by decide +kernel) ⟨Nat.le_of_ble_eq_true rfl, Nat.le_of_ble_eq_true rfl⟩) ⟨zblind, va_recv hK hPc (ci := 0) (q0 := 0) rfl rfl, fun U hU hW => ⟨rfl, by rw [hU]; exact hPc, hKN.moved hW⟩⟩ rfl rfl hl.1 rfl (lv_room (Nat.le_of_ble_eq_true rfl)) d_To_choice_4 ⟨Nat.zero_le _, Nat.zero_le _⟩).run (fun r hr_1 => ?_)
  subst hr_1
  refine z_ifeq_B (tgt := 20) hx hb d_To_choice_7 (by decide) (fun hc_7 => ?_) (fun hc_7 => (absurd hc_7 (by decide)))
  refine lv_iconst (v := zI (-1)) hx hb d_To_choice_20 (by decide) ?_
  subst hQ
  exact W.iret (v := (zI (-1))) hx hb hr (fun t9 ht hW => ⟨_, rfl, rfl, ht⟩) (fun q hq => absurd hq List.not_mem_nil) d_To_choice_21

def rm_choice : Room := { frames := 3, cells := 0, slots := 0, locals := 67 }
set_option maxHeartbeats 4000000 in
set_option maxRecDepth 100000 in
/-- choice -/
theorem c_choice (l : Launch) (D : va_G) (c : Nat → ClassId) (x : Nat) (xm : Nat) (rd : Nat) (d : Nat) (dn : Nat) (df : Nat) (dfw : Nat) (di : Nat) (diw : Nat) (dl : Nat) (dlw : Nat) (dm : Nat) (mg : Nat → Option Nat) (mk : Nat) (nm : Nat → Nat) (fw : Nat → Int64) (iw : Nat → Int64) (lw : Nat → Int64) (mb : Nat → Bool) (nc : Nat) (q : Nat) (hp : q + 2 ≤ 40) : Met l y_To_choice w_To_choice rm_choice (va_Pc [.ref x] (fun U => (va_P D vwCl [(x, .inr (4, [.ref d, .ref xm, .ref rd, .int (zI ((mk : Nat) : Int))])), (d, .inr (0, [.ref dn, .ref df, .ref di, .ref dl, .ref dm, .int (zI ((nc : Nat) : Int)), .int (zI ((q + 2 : Nat) : Int))])), (di, .inr (3, [.ref diw])), (diw, .inl (c 2, 4 * 40, .inr (.inl iw))), (dl, .inr (3, [.ref dlw])), (dlw, .inl (c 2, 4 * 40, .inr (.inl lw))), (dm, .inl (c 1, 40, .inl (fun j => zB (mb j))))] U.heap ∧ va_D (fun _ => True) [(x, .inr (4, [.ref d, .ref xm, .ref rd, .int (zI ((mk : Nat) : Int))])), (d, .inr (0, [.ref dn, .ref df, .ref di, .ref dl, .ref dm, .int (zI ((nc : Nat) : Int)), .int (zI ((q + 2 : Nat) : Int))])), (di, .inr (3, [.ref diw])), (diw, .inl (c 2, 4 * 40, .inr (.inl iw))), (dl, .inr (3, [.ref dlw])), (dlw, .inl (c 2, 4 * 40, .inr (.inl lw))), (dm, .inl (c 1, 40, .inl (fun j => zB (mb j))))]) ∧ zK D c U)) (va_Qi (fun (r : Int32) (u : Unit) => r = (zI ((q + 1 : Nat) : Int)) ∧ True) (fun (u : Unit) t9 => va_P D vwCl [(x, .inr (4, [.ref d, .ref xm, .ref rd, .int (zI ((mk : Nat) : Int))])), (d, .inr (0, [.ref dn, .ref df, .ref di, .ref dl, .ref dm, .int (zI ((nc : Nat) : Int)), .int (zI ((q + 1 : Nat) : Int))])), (di, .inr (3, [.ref diw])), (diw, .inl (c 2, 4 * 40, .inr (.inl (zor iw q iw (q + 1))))), (dl, .inr (3, [.ref dlw])), (dlw, .inl (c 2, 4 * 40, .inr (.inl (zor lw q lw (q + 1))))), (dm, .inl (c 1, 40, .inl (fun j => zB ((va_up mb q (mb q || mb (q + 1))) j))))] t9.heap) (zA [(x, .inr (4, [.ref d, .ref xm, .ref rd, .int (zI ((mk : Nat) : Int))])), (d, .inr (0, [.ref dn, .ref df, .ref di, .ref dl, .ref dm, .int (zI ((nc : Nat) : Int)), .int (zI ((q + 2 : Nat) : Int))])), (di, .inr (3, [.ref diw])), (diw, .inl (c 2, 4 * 40, .inr (.inl iw))), (dl, .inr (3, [.ref dlw])), (dlw, .inl (c 2, 4 * 40, .inr (.inl lw))), (dm, .inl (c 1, 40, .inl (fun j => zB (mb j))))])) 0 0 (zA [(x, .inr (4, [.ref d, .ref xm, .ref rd, .int (zI ((mk : Nat) : Int))])), (d, .inr (0, [.ref dn, .ref df, .ref di, .ref dl, .ref dm, .int (zI ((nc : Nat) : Int)), .int (zI ((q + 2 : Nat) : Int))])), (di, .inr (3, [.ref diw])), (diw, .inl (c 2, 4 * 40, .inr (.inl iw))), (dl, .inr (3, [.ref dlw])), (dlw, .inl (c 2, 4 * 40, .inr (.inl lw))), (dm, .inl (c 1, 40, .inl (fun j => zB (mb j))))]) := by
  refine Met.ofW (cc := b_To_choice) (maxL := 1) (ret := (some .int)) (by decide) rfl ?_
  intro p e s m args below meth c0 s₁ B hml hv
  obtain ⟨rfl, ⟨hP, hD0⟩, hKN⟩ := hv
  have hK := hKN.1
  have hN := hKN.2
  have hx := B.exec
  have hb := B.bytes
  have hr := B.returns
  have hts := atoms_spec (ws := w_To_choice) B.pre
  have hw : ∀ {w : Cond}, w ∈ ALLW → w.before _ s = true := fun h => hts _ (List.mem_cons_of_mem _ h)
  have hown : s.vm.findClass R_To = some m.cls := findClass_of_methodNamed B.named
  have hlocks := B.notSynchronized
  have hD : va_D (zA [(x, .inr (4, [.ref d, .ref xm, .ref rd, .int (zI ((mk : Nat) : Int))])), (d, .inr (0, [.ref dn, .ref df, .ref di, .ref dl, .ref dm, .int (zI ((nc : Nat) : Int)), .int (zI ((q + 2 : Nat) : Int))])), (di, .inr (3, [.ref diw])), (diw, .inl (c 2, 4 * 40, .inr (.inl iw))), (dl, .inr (3, [.ref dlw])), (dlw, .inl (c 2, 4 * 40, .inr (.inl lw))), (dm, .inl (c 1, 40, .inl (fun j => zB (mb j))))]) [(x, .inr (4, [.ref d, .ref xm, .ref rd, .int (zI ((mk : Nat) : Int))])), (d, .inr (0, [.ref dn, .ref df, .ref di, .ref dl, .ref dm, .int (zI ((nc : Nat) : Int)), .int (zI ((q + 2 : Nat) : Int))])), (di, .inr (3, [.ref diw])), (diw, .inl (c 2, 4 * 40, .inr (.inl iw))), (dl, .inr (3, [.ref dlw])), (dlw, .inl (c 2, 4 * 40, .inr (.inl lw))), (dm, .inl (c 1, 40, .inl (fun j => zB (mb j))))] := ⟨hD0.1, fun k q h => List.mem_map.mpr ⟨q, List.mem_of_getElem? h, rfl⟩⟩
  generalize hAe : zA [(x, .inr (4, [.ref d, .ref xm, .ref rd, .int (zI ((mk : Nat) : Int))])), (d, .inr (0, [.ref dn, .ref df, .ref di, .ref dl, .ref dm, .int (zI ((nc : Nat) : Int)), .int (zI ((q + 2 : Nat) : Int))])), (di, .inr (3, [.ref diw])), (diw, .inl (c 2, 4 * 40, .inr (.inl iw))), (dl, .inr (3, [.ref dlw])), (dlw, .inl (c 2, 4 * 40, .inr (.inl lw))), (dm, .inl (c 1, 40, .inl (fun j => zB (mb j))))] = A at hD ⊢
  have hS : va_S A s.heap s.heap [] := va_S.rf
  have hP : va_P D vwCl [(x, .inr (4, [.ref d, .ref xm, .ref rd, .int (zI ((mk : Nat) : Int))])), (d, .inr (0, [.ref dn, .ref df, .ref di, .ref dl, .ref dm, .int (zI ((nc : Nat) : Int)), .int (zI ((q + 2 : Nat) : Int))])), (di, .inr (3, [.ref diw])), (diw, .inl (c 2, 4 * 40, .inr (.inl iw))), (dl, .inr (3, [.ref dlw])), (dlw, .inl (c 2, 4 * 40, .inr (.inl lw))), (dm, .inl (c 1, 40, .inl (fun j => zB (mb j))))] s.heap := hP
  have hl := lv_entry ([.ref x]) (n := 1) (Nat.le_of_ble_eq_true rfl)
  rw [lg_entry_eq]
  generalize (lg_sl ([.ref x]) ++ List.replicate (1 - (lg_sl ([.ref x])).length) Slot.unset).toArray = ls at hl ⊢
  have hl : lv_has ls 1 [(0, .ref x)] := hl
  generalize hQ : MQ below _ _ _ _ _ _ = Q
  refine lv_aload_n hx hb d_To_choice_0 rfl (lv_at hl 0 rfl) ?_
  refine va_get (D := D) (ci := 4) (v := .ref d) (C := R_To) (T := T_To) (N := 4) hx hb hts (fun w h => List.mem_cons_of_mem _ (inA_To w h)) hown hK hP 0 rfl rfl 0 (by decide) (hw k_To_f12) (fun _ h9 => h9) rfl d_To_choice_1 ?_
  have hPc : va_P D vwCl [(d, .inr (0, [.ref dn, .ref df, .ref di, .ref dl, .ref dm, .int (zI ((nc : Nat) : Int)), .int (zI ((q + 2 : Nat) : Int))])), (di, .inr (3, [.ref diw])), (diw, .inl (c 2, 4 * 40, .inr (.inl iw))), (dl, .inr (3, [.ref dlw])), (dlw, .inl (c 2, 4 * 40, .inr (.inl lw))), (dm, .inl (c 1, 40, .inl (fun j => zB (mb j))))] s.heap := hP.sub (ws' := [(d, .inr (0, [.ref dn, .ref df, .ref di, .ref dl, .ref dm, .int (zI ((nc : Nat) : Int)), .int (zI ((q + 2 : Nat) : Int))])), (di, .inr (3, [.ref diw])), (diw, .inl (c 2, 4 * 40, .inr (.inl iw))), (dl, .inr (3, [.ref dlw])), (dlw, .inl (c 2, 4 * 40, .inr (.inl lw))), (dm, .inl (c 1, 40, .inl (fun j => zB (mb j))))]) [1, 2, 3, 4, 5, 6] rfl
  have hDc : va_D A [(d, .inr (0, [.ref dn, .ref df, .ref di, .ref dl, .ref dm, .int (zI ((nc : Nat) : Int)), .int (zI ((q + 2 : Nat) : Int))])), (di, .inr (3, [.ref diw])), (diw, .inl (c 2, 4 * 40, .inr (.inl iw))), (dl, .inr (3, [.ref dlw])), (dlw, .inl (c 2, 4 * 40, .inr (.inl lw))), (dm, .inl (c 1, 40, .inl (fun j => zB (mb j))))] := hD.sub (ws' := [(d, .inr (0, [.ref dn, .ref df, .ref di, .ref dl, .ref dm, .int (zI ((nc : Nat) : Int)), .int (zI ((q + 2 : Nat) : Int))])), (di, .inr (3, [.ref diw])), (diw, .inl (c 2, 4 * 40, .inr (.inl iw))), (dl, .inr (3, [.ref dlw])), (dlw, .inl (c 2, 4 * 40, .inr (.inl lw))), (dm, .inl (c 1, 40, .inl (fun j => zB (mb j))))]) [1, 2, 3, 4, 5, 6] (by decide) rfl
  have hDt : va_D (fun _ => True) [(d, .inr (0, [.ref dn, .ref df, .ref di, .ref dl, .ref dm, .int (zI ((nc : Nat) : Int)), .int (zI ((q + 2 : Nat) : Int))])), (di, .inr (3, [.ref diw])), (diw, .inl (c 2, 4 * 40, .inr (.inl iw))), (dl, .inr (3, [.ref dlw])), (dlw, .inl (c 2, 4 * 40, .inr (.inl lw))), (dm, .inl (c 1, 40, .inl (fun j => zB (mb j))))] := hDc.weaken (fun _ _ _ _ => trivial)
  refine z_calli (S := Unit) (w1 := fun u => [(d, .inr (0, [.ref dn, .ref df, .ref di, .ref dl, .ref dm, .int (zI ((nc : Nat) : Int)), .int (zI ((q + 1 : Nat) : Int))])), (di, .inr (3, [.ref diw])), (diw, .inl (c 2, 4 * 40, .inr (.inl (zor iw q iw (q + 1))))), (dl, .inr (3, [.ref dlw])), (dlw, .inl (c 2, 4 * 40, .inr (.inl (zor lw q lw (q + 1))))), (dm, .inl (c 1, 40, .inl (fun j => zB ((va_up mb q (mb q || mb (q + 1))) j))))]) (post := fun r u => r = (zB true) ∧ True) (wc := [(d, .inr (0, [.ref dn, .ref df, .ref di, .ref dl, .ref dm, .int (zI ((nc : Nat) : Int)), .int (zI ((q + 2 : Nat) : Int))])), (di, .inr (3, [.ref diw])), (diw, .inl (c 2, 4 * 40, .inr (.inl iw))), (dl, .inr (3, [.ref dlw])), (dlw, .inl (c 2, 4 * 40, .inr (.inl lw))), (dm, .inl (c 1, 40, .inl (fun j => zB (mb j))))]) [1, 2, 3, 4, 5, 6] rfl (fun _ => rfl) hP hD hS (va_runV (rm := rm_joinToChoice) (As := []) (rest := []) ⟨hx, hb, hml, hown, hts⟩ (c_joinToChoice l D c d dn df dfw di diw dl dlw dm nm fw iw lw mb nc q (by omega)) (cwV 0 hts (gWV k_To_m47 k_i_Dr_joinToChoice k_v_Dr_joinToChoice k_n_Dr k_c_Dr_joinToChoice) rfl rfl rfl (by decide +kernel) ⟨Nat.le_of_ble_eq_true rfl, Nat.le_of_ble_eq_true rfl⟩) ⟨zblindW, va_recv hK hPc (ci := 0) (q0 := 0) rfl rfl, fun U hU hW => ⟨rfl, ⟨by rw [hU]; exact hPc, hDt⟩, hKN.moved hW⟩⟩ rfl rfl hl.1 rfl (lv_room (Nat.le_of_ble_eq_true rfl)) d_To_choice_4 ⟨Nat.zero_le _, Nat.zero_le _⟩) (fun r u H locs hp_1 hP hD hS => ?_)
  obtain ⟨hr_1, hp_1⟩ := hp_1
  subst hr_1
  have hP : va_P D vwCl [(x, .inr (4, [.ref d, .ref xm, .ref rd, .int (zI ((mk : Nat) : Int))])), (d, .inr (0, [.ref dn, .ref df, .ref di, .ref dl, .ref dm, .int (zI ((nc : Nat) : Int)), .int (zI ((q + 1 : Nat) : Int))])), (di, .inr (3, [.ref diw])), (diw, .inl (c 2, 4 * 40, .inr (.inl (zor iw q iw (q + 1))))), (dl, .inr (3, [.ref dlw])), (dlw, .inl (c 2, 4 * 40, .inr (.inl (zor lw q lw (q + 1))))), (dm, .inl (c 1, 40, .inl (fun j => zB ((va_up mb q (mb q || mb (q + 1))) j))))] H := hP
  have hD : va_D A [(x, .inr (4, [.ref d, .ref xm, .ref rd, .int (zI ((mk : Nat) : Int))])), (d, .inr (0, [.ref dn, .ref df, .ref di, .ref dl, .ref dm, .int (zI ((nc : Nat) : Int)), .int (zI ((q + 1 : Nat) : Int))])), (di, .inr (3, [.ref diw])), (diw, .inl (c 2, 4 * 40, .inr (.inl (zor iw q iw (q + 1))))), (dl, .inr (3, [.ref dlw])), (dlw, .inl (c 2, 4 * 40, .inr (.inl (zor lw q lw (q + 1))))), (dm, .inl (c 1, 40, .inl (fun j => zB ((va_up mb q (mb q || mb (q + 1))) j))))] := hD
  refine z_ifeq_B (tgt := 20) hx hb d_To_choice_7 (by decide) (fun hc_7 => (absurd hc_7 (by decide))) (fun hc_7 => ?_)
  refine lv_aload_n hx hb d_To_choice_10 rfl (lv_at hl 0 rfl) ?_
  refine va_get (D := D) (ci := 4) (v := .ref d) (C := R_To) (T := T_To) (N := 4) hx hb hts (fun w h => List.mem_cons_of_mem _ (inA_To w h)) hown hK hP 0 rfl rfl 0 (by decide) (hw k_To_f12) (fun _ h9 => h9) rfl d_To_choice_11 ?_
  refine va_getN (D := D) (ci := 0) (v := .int (zI ((q + 1 : Nat) : Int))) (C := R_Dr) (T := T_Dr) (N := 7) hx hb hts (fun w h => List.mem_cons_of_mem _ (inA_Dr w h)) hown hK hP 1 rfl rfl 6 (by decide) (va_Nw.use rfl hN.2.1) (fun _ h9 => h9) rfl d_To_choice_14 ?_
  refine lv_goto (tgt := 21) hx hb d_To_choice_17 (by decide) ?_
  subst hQ
  exact W.iret (v := (zI ((q + 1 : Nat) : Int))) hx hb hr (fun t9 ht hW => ⟨⟨_, (), rfl, ⟨rfl, trivial⟩, by show va_P _ _ _ t9.heap; rw [ht]; exact hP⟩, hS.F ht⟩) hS.2.2 d_To_choice_21

def rm_often_no : Room := { frames := 2, cells := 0, slots := 0, locals := 43 }
set_option maxHeartbeats 4000000 in
set_option maxRecDepth 100000 in
/-- often, refused -/
theorem c_often_no (l : Launch) (D : va_G) (c : Nat → ClassId) (x : Nat) (xm : Nat) (rd : Nat) (d : Nat) (dn : Nat) (df : Nat) (dfw : Nat) (di : Nat) (diw : Nat) (dl : Nat) (dlw : Nat) (dm : Nat) (mg : Nat → Option Nat) (mk : Nat) (nm : Nat → Nat) (fw : Nat → Int64) (iw : Nat → Int64) (lw : Nat → Int64) (mb : Nat → Bool) (nc : Nat) (pp : Nat) (y : Int) (hp : pp ≤ 40) (hy : -2147483648 ≤ y ∧ y < 2147483648) (hno : pp = 0 ∨ y < 1 ∨ 3 < y) : Met l y_To_often w_To_often rm_often_no (va_Pc [.ref x, .int (zI y)] (fun U => va_P D vwCl [(x, .inr (4, [.ref d, .ref xm, .ref rd, .int (zI ((mk : Nat) : Int))])), (d, .inr (0, [.ref dn, .ref df, .ref di, .ref dl, .ref dm, .int (zI ((nc : Nat) : Int)), .int (zI ((pp : Nat) : Int))])), (dm, .inl (c 1, 40, .inl (fun j => zB (mb j))))] U.heap ∧ zK D c U)) (vp_Si (fun r => r = (zB false))) 0 0 (fun _ => False) := by
  refine Met.ofW (cc := b_To_often) (maxL := 2) (ret := (some .boolean)) (by decide) rfl ?_
  intro p e s m args below meth c0 s₁ B hml hv
  obtain ⟨rfl, hP, hKN⟩ := hv
  have hK := hKN.1
  have hN := hKN.2
  have hx := B.exec
  have hb := B.bytes
  have hr := B.returns
  have hts := atoms_spec (ws := w_To_often) B.pre
  have hw : ∀ {w : Cond}, w ∈ ALLW → w.before _ s = true := fun h => hts _ (List.mem_cons_of_mem _ h)
  have hown : s.vm.findClass R_To = some m.cls := findClass_of_methodNamed B.named
  have hlocks := B.notSynchronized
  have hl := lv_entry ([.ref x, .int (zI y)]) (n := 2) (Nat.le_of_ble_eq_true rfl)
  rw [lg_entry_eq]
  generalize (lg_sl ([.ref x, .int (zI y)]) ++ List.replicate (2 - (lg_sl ([.ref x, .int (zI y)])).length) Slot.unset).toArray = ls at hl ⊢
  have hl : lv_has ls 2 [(0, .ref x), (1, .int (zI y))] := hl
  generalize hQ : MQ below _ _ _ _ _ _ = Q
  refine lv_aload_n hx hb d_To_often_0 rfl (lv_at hl 0 rfl) ?_
  refine va_get (D := D) (ci := 4) (v := .ref d) (C := R_To) (T := T_To) (N := 4) hx hb hts (fun w h => List.mem_cons_of_mem _ (inA_To w h)) hown hK hP 0 rfl rfl 0 (by decide) (hw k_To_f12) (fun _ h9 => h9) rfl d_To_often_1 ?_
  refine lv_iload_n hx hb d_To_often_4 rfl (lv_at hl 1 rfl) ?_
  have hPc : va_P D vwCl [(d, .inr (0, [.ref dn, .ref df, .ref di, .ref dl, .ref dm, .int (zI ((nc : Nat) : Int)), .int (zI ((pp : Nat) : Int))])), (dm, .inl (c 1, 40, .inl (fun j => zB (mb j))))] s.heap := hP.sub (ws' := [(d, .inr (0, [.ref dn, .ref df, .ref di, .ref dl, .ref dm, .int (zI ((nc : Nat) : Int)), .int (zI ((pp : Nat) : Int))])), (dm, .inl (c 1, 40, .inl (fun j => zB (mb j))))]) [1, 2] rfl
  refine vp_callSi (va_runV (rm := rm_repeatLast_no) (As := [.int (zI y)]) (rest := []) ⟨hx, hb, hml, hown, hts⟩ (c_repeatLast_no l D c d dn df dfw di diw dl dlw dm nm fw iw lw mb nc pp y (by omega) (by omega) (by omega)) (cwV 1 hts (gWV k_To_m50 k_i_Dr_repeatLast k_v_Dr_repeatLast k_n_Dr k_c_Dr_repeatLast) rfl rfl rfl (by decide +kernel) ⟨Nat.le_of_ble_eq_true rfl, Nat.le_of_ble_eq_true rfl⟩) ⟨zblind, va_recv hK hPc (ci := 0) (q0 := 0) rfl rfl, fun U hU hW => ⟨rfl, by rw [hU]; exact hPc, hKN.moved hW⟩⟩ rfl rfl hl.1 rfl (lv_room (Nat.le_of_ble_eq_true rfl)) d_To_often_5 ⟨Nat.zero_le _, Nat.zero_le _⟩).run (fun r hr_1 => ?_)
  subst hr_1
  subst hQ
  exact W.zret (ty := .boolean) (v := (zB false)) hx hb hr (z_narB _) (fun t9 ht hW => ⟨_, rfl, rfl, ht⟩) (fun q hq => absurd hq List.not_mem_nil) d_To_often_8

def rm_often1 : Room := { frames := 2, cells := 0, slots := 0, locals := 43 }
set_option maxHeartbeats 4000000 in
set_option maxRecDepth 100000 in
/-- often(1) -/
theorem c_often1 (l : Launch) (D : va_G) (c : Nat → ClassId) (x : Nat) (xm : Nat) (rd : Nat) (d : Nat) (dn : Nat) (df : Nat) (dfw : Nat) (di : Nat) (diw : Nat) (dl : Nat) (dlw : Nat) (dm : Nat) (mg : Nat → Option Nat) (mk : Nat) (nm : Nat → Nat) (fw : Nat → Int64) (iw : Nat → Int64) (lw : Nat → Int64) (mb : Nat → Bool) (nc : Nat) (q : Nat) (hp : q + 1 ≤ 40) (hc : nc ≤ 255) : Met l y_To_often w_To_often rm_often1 (va_Pc [.ref x, .int (zI 1)] (fun U => (va_P D vwCl [(x, .inr (4, [.ref d, .ref xm, .ref rd, .int (zI ((mk : Nat) : Int))])), (d, .inr (0, [.ref dn, .ref df, .ref di, .ref dl, .ref dm, .int (zI ((nc : Nat) : Int)), .int (zI ((q + 1 : Nat) : Int))])), (df, .inr (3, [.ref dfw])), (dfw, .inl (c 2, 4 * 255, .inr (.inl fw))), (di, .inr (3, [.ref diw])), (diw, .inl (c 2, 4 * 40, .inr (.inl iw))), (dl, .inr (3, [.ref dlw])), (dlw, .inl (c 2, 4 * 40, .inr (.inl lw))), (dm, .inl (c 1, 40, .inl (fun j => zB (mb j))))] U.heap ∧ va_D (fun _ => True) [(x, .inr (4, [.ref d, .ref xm, .ref rd, .int (zI ((mk : Nat) : Int))])), (d, .inr (0, [.ref dn, .ref df, .ref di, .ref dl, .ref dm, .int (zI ((nc : Nat) : Int)), .int (zI ((q + 1 : Nat) : Int))])), (df, .inr (3, [.ref dfw])), (dfw, .inl (c 2, 4 * 255, .inr (.inl fw))), (di, .inr (3, [.ref diw])), (diw, .inl (c 2, 4 * 40, .inr (.inl iw))), (dl, .inr (3, [.ref dlw])), (dlw, .inl (c 2, 4 * 40, .inr (.inl lw))), (dm, .inl (c 1, 40, .inl (fun j => zB (mb j))))]) ∧ zK D c U)) (va_Qi (fun (r : Int32) (u : Unit) => r = (zB true) ∧ True) (fun (u : Unit) t9 => va_P D vwCl [(x, .inr (4, [.ref d, .ref xm, .ref rd, .int (zI ((mk : Nat) : Int))])), (d, .inr (0, [.ref dn, .ref df, .ref di, .ref dl, .ref dm, .int (zI ((nc : Nat) : Int)), .int (zI ((q + 1 : Nat) : Int))])), (df, .inr (3, [.ref dfw])), (dfw, .inl (c 2, 4 * 255, .inr (.inl fw))), (di, .inr (3, [.ref diw])), (diw, .inl (c 2, 4 * 40, .inr (.inl iw))), (dl, .inr (3, [.ref dlw])), (dlw, .inl (c 2, 4 * 40, .inr (.inl lw))), (dm, .inl (c 1, 40, .inl (fun j => zB ((va_up mb q true) j))))] t9.heap) (zA [(x, .inr (4, [.ref d, .ref xm, .ref rd, .int (zI ((mk : Nat) : Int))])), (d, .inr (0, [.ref dn, .ref df, .ref di, .ref dl, .ref dm, .int (zI ((nc : Nat) : Int)), .int (zI ((q + 1 : Nat) : Int))])), (df, .inr (3, [.ref dfw])), (dfw, .inl (c 2, 4 * 255, .inr (.inl fw))), (di, .inr (3, [.ref diw])), (diw, .inl (c 2, 4 * 40, .inr (.inl iw))), (dl, .inr (3, [.ref dlw])), (dlw, .inl (c 2, 4 * 40, .inr (.inl lw))), (dm, .inl (c 1, 40, .inl (fun j => zB (mb j))))])) 0 0 (zA [(x, .inr (4, [.ref d, .ref xm, .ref rd, .int (zI ((mk : Nat) : Int))])), (d, .inr (0, [.ref dn, .ref df, .ref di, .ref dl, .ref dm, .int (zI ((nc : Nat) : Int)), .int (zI ((q + 1 : Nat) : Int))])), (df, .inr (3, [.ref dfw])), (dfw, .inl (c 2, 4 * 255, .inr (.inl fw))), (di, .inr (3, [.ref diw])), (diw, .inl (c 2, 4 * 40, .inr (.inl iw))), (dl, .inr (3, [.ref dlw])), (dlw, .inl (c 2, 4 * 40, .inr (.inl lw))), (dm, .inl (c 1, 40, .inl (fun j => zB (mb j))))]) := by
  refine Met.ofW (cc := b_To_often) (maxL := 2) (ret := (some .boolean)) (by decide) rfl ?_
  intro p e s m args below meth c0 s₁ B hml hv
  obtain ⟨rfl, ⟨hP, hD0⟩, hKN⟩ := hv
  have hK := hKN.1
  have hN := hKN.2
  have hx := B.exec
  have hb := B.bytes
  have hr := B.returns
  have hts := atoms_spec (ws := w_To_often) B.pre
  have hw : ∀ {w : Cond}, w ∈ ALLW → w.before _ s = true := fun h => hts _ (List.mem_cons_of_mem _ h)
  have hown : s.vm.findClass R_To = some m.cls := findClass_of_methodNamed B.named
  have hlocks := B.notSynchronized
  have hD : va_D (zA [(x, .inr (4, [.ref d, .ref xm, .ref rd, .int (zI ((mk : Nat) : Int))])), (d, .inr (0, [.ref dn, .ref df, .ref di, .ref dl, .ref dm, .int (zI ((nc : Nat) : Int)), .int (zI ((q + 1 : Nat) : Int))])), (df, .inr (3, [.ref dfw])), (dfw, .inl (c 2, 4 * 255, .inr (.inl fw))), (di, .inr (3, [.ref diw])), (diw, .inl (c 2, 4 * 40, .inr (.inl iw))), (dl, .inr (3, [.ref dlw])), (dlw, .inl (c 2, 4 * 40, .inr (.inl lw))), (dm, .inl (c 1, 40, .inl (fun j => zB (mb j))))]) [(x, .inr (4, [.ref d, .ref xm, .ref rd, .int (zI ((mk : Nat) : Int))])), (d, .inr (0, [.ref dn, .ref df, .ref di, .ref dl, .ref dm, .int (zI ((nc : Nat) : Int)), .int (zI ((q + 1 : Nat) : Int))])), (df, .inr (3, [.ref dfw])), (dfw, .inl (c 2, 4 * 255, .inr (.inl fw))), (di, .inr (3, [.ref diw])), (diw, .inl (c 2, 4 * 40, .inr (.inl iw))), (dl, .inr (3, [.ref dlw])), (dlw, .inl (c 2, 4 * 40, .inr (.inl lw))), (dm, .inl (c 1, 40, .inl (fun j => zB (mb j))))] := ⟨hD0.1, fun k q h => List.mem_map.mpr ⟨q, List.mem_of_getElem? h, rfl⟩⟩
  generalize hAe : zA [(x, .inr (4, [.ref d, .ref xm, .ref rd, .int (zI ((mk : Nat) : Int))])), (d, .inr (0, [.ref dn, .ref df, .ref di, .ref dl, .ref dm, .int (zI ((nc : Nat) : Int)), .int (zI ((q + 1 : Nat) : Int))])), (df, .inr (3, [.ref dfw])), (dfw, .inl (c 2, 4 * 255, .inr (.inl fw))), (di, .inr (3, [.ref diw])), (diw, .inl (c 2, 4 * 40, .inr (.inl iw))), (dl, .inr (3, [.ref dlw])), (dlw, .inl (c 2, 4 * 40, .inr (.inl lw))), (dm, .inl (c 1, 40, .inl (fun j => zB (mb j))))] = A at hD ⊢
  have hS : va_S A s.heap s.heap [] := va_S.rf
  have hP : va_P D vwCl [(x, .inr (4, [.ref d, .ref xm, .ref rd, .int (zI ((mk : Nat) : Int))])), (d, .inr (0, [.ref dn, .ref df, .ref di, .ref dl, .ref dm, .int (zI ((nc : Nat) : Int)), .int (zI ((q + 1 : Nat) : Int))])), (df, .inr (3, [.ref dfw])), (dfw, .inl (c 2, 4 * 255, .inr (.inl fw))), (di, .inr (3, [.ref diw])), (diw, .inl (c 2, 4 * 40, .inr (.inl iw))), (dl, .inr (3, [.ref dlw])), (dlw, .inl (c 2, 4 * 40, .inr (.inl lw))), (dm, .inl (c 1, 40, .inl (fun j => zB (mb j))))] s.heap := hP
  have hl := lv_entry ([.ref x, .int (zI 1)]) (n := 2) (Nat.le_of_ble_eq_true rfl)
  rw [lg_entry_eq]
  generalize (lg_sl ([.ref x, .int (zI 1)]) ++ List.replicate (2 - (lg_sl ([.ref x, .int (zI 1)])).length) Slot.unset).toArray = ls at hl ⊢
  have hl : lv_has ls 2 [(0, .ref x), (1, .int (zI 1))] := hl
  generalize hQ : MQ below _ _ _ _ _ _ = Q
  refine lv_aload_n hx hb d_To_often_0 rfl (lv_at hl 0 rfl) ?_
  refine va_get (D := D) (ci := 4) (v := .ref d) (C := R_To) (T := T_To) (N := 4) hx hb hts (fun w h => List.mem_cons_of_mem _ (inA_To w h)) hown hK hP 0 rfl rfl 0 (by decide) (hw k_To_f12) (fun _ h9 => h9) rfl d_To_often_1 ?_
  refine lv_iload_n hx hb d_To_often_4 rfl (lv_at hl 1 rfl) ?_
  have hPc : va_P D vwCl [(d, .inr (0, [.ref dn, .ref df, .ref di, .ref dl, .ref dm, .int (zI ((nc : Nat) : Int)), .int (zI ((q + 1 : Nat) : Int))])), (df, .inr (3, [.ref dfw])), (dfw, .inl (c 2, 4 * 255, .inr (.inl fw))), (di, .inr (3, [.ref diw])), (diw, .inl (c 2, 4 * 40, .inr (.inl iw))), (dl, .inr (3, [.ref dlw])), (dlw, .inl (c 2, 4 * 40, .inr (.inl lw))), (dm, .inl (c 1, 40, .inl (fun j => zB (mb j))))] s.heap := hP.sub (ws' := [(d, .inr (0, [.ref dn, .ref df, .ref di, .ref dl, .ref dm, .int (zI ((nc : Nat) : Int)), .int (zI ((q + 1 : Nat) : Int))])), (df, .inr (3, [.ref dfw])), (dfw, .inl (c 2, 4 * 255, .inr (.inl fw))), (di, .inr (3, [.ref diw])), (diw, .inl (c 2, 4 * 40, .inr (.inl iw))), (dl, .inr (3, [.ref dlw])), (dlw, .inl (c 2, 4 * 40, .inr (.inl lw))), (dm, .inl (c 1, 40, .inl (fun j => zB (mb j))))]) [1, 2, 3, 4, 5, 6, 7, 8] rfl
  have hDc : va_D A [(d, .inr (0, [.ref dn, .ref df, .ref di, .ref dl, .ref dm, .int (zI ((nc : Nat) : Int)), .int (zI ((q + 1 : Nat) : Int))])), (df, .inr (3, [.ref dfw])), (dfw, .inl (c 2, 4 * 255, .inr (.inl fw))), (di, .inr (3, [.ref diw])), (diw, .inl (c 2, 4 * 40, .inr (.inl iw))), (dl, .inr (3, [.ref dlw])), (dlw, .inl (c 2, 4 * 40, .inr (.inl lw))), (dm, .inl (c 1, 40, .inl (fun j => zB (mb j))))] := hD.sub (ws' := [(d, .inr (0, [.ref dn, .ref df, .ref di, .ref dl, .ref dm, .int (zI ((nc : Nat) : Int)), .int (zI ((q + 1 : Nat) : Int))])), (df, .inr (3, [.ref dfw])), (dfw, .inl (c 2, 4 * 255, .inr (.inl fw))), (di, .inr (3, [.ref diw])), (diw, .inl (c 2, 4 * 40, .inr (.inl iw))), (dl, .inr (3, [.ref dlw])), (dlw, .inl (c 2, 4 * 40, .inr (.inl lw))), (dm, .inl (c 1, 40, .inl (fun j => zB (mb j))))]) [1, 2, 3, 4, 5, 6, 7, 8] (by decide) rfl
  have hDt : va_D (fun _ => True) [(d, .inr (0, [.ref dn, .ref df, .ref di, .ref dl, .ref dm, .int (zI ((nc : Nat) : Int)), .int (zI ((q + 1 : Nat) : Int))])), (df, .inr (3, [.ref dfw])), (dfw, .inl (c 2, 4 * 255, .inr (.inl fw))), (di, .inr (3, [.ref diw])), (diw, .inl (c 2, 4 * 40, .inr (.inl iw))), (dl, .inr (3, [.ref dlw])), (dlw, .inl (c 2, 4 * 40, .inr (.inl lw))), (dm, .inl (c 1, 40, .inl (fun j => zB (mb j))))] := hDc.weaken (fun _ _ _ _ => trivial)
  refine z_calli (S := Unit) (w1 := fun u => [(d, .inr (0, [.ref dn, .ref df, .ref di, .ref dl, .ref dm, .int (zI ((nc : Nat) : Int)), .int (zI ((q + 1 : Nat) : Int))])), (df, .inr (3, [.ref dfw])), (dfw, .inl (c 2, 4 * 255, .inr (.inl fw))), (di, .inr (3, [.ref diw])), (diw, .inl (c 2, 4 * 40, .inr (.inl iw))), (dl, .inr (3, [.ref dlw])), (dlw, .inl (c 2, 4 * 40, .inr (.inl lw))), (dm, .inl (c 1, 40, .inl (fun j => zB ((va_up mb q true) j))))]) (post := fun r u => r = (zB true) ∧ True) (wc := [(d, .inr (0, [.ref dn, .ref df, .ref di, .ref dl, .ref dm, .int (zI ((nc : Nat) : Int)), .int (zI ((q + 1 : Nat) : Int))])), (df, .inr (3, [.ref dfw])), (dfw, .inl (c 2, 4 * 255, .inr (.inl fw))), (di, .inr (3, [.ref diw])), (diw, .inl (c 2, 4 * 40, .inr (.inl iw))), (dl, .inr (3, [.ref dlw])), (dlw, .inl (c 2, 4 * 40, .inr (.inl lw))), (dm, .inl (c 1, 40, .inl (fun j => zB (mb j))))]) [1, 2, 3, 4, 5, 6, 7, 8] rfl (fun _ => rfl) hP hD hS (va_runV (rm := rm_repeatLast1) (As := [.int (zI 1)]) (rest := []) ⟨hx, hb, hml, hown, hts⟩ (c_repeatLast1 l D c d dn df dfw di diw dl dlw dm nm fw iw lw mb nc q (by omega) (by omega)) (cwV 1 hts (gWV k_To_m50 k_i_Dr_repeatLast k_v_Dr_repeatLast k_n_Dr k_c_Dr_repeatLast) rfl rfl rfl (by decide +kernel) ⟨Nat.le_of_ble_eq_true rfl, Nat.le_of_ble_eq_true rfl⟩) ⟨zblindW, va_recv hK hPc (ci := 0) (q0 := 0) rfl rfl, fun U hU hW => ⟨rfl, ⟨by rw [hU]; exact hPc, hDt⟩, hKN.moved hW⟩⟩ rfl rfl hl.1 rfl (lv_room (Nat.le_of_ble_eq_true rfl)) d_To_often_5 ⟨Nat.zero_le _, Nat.zero_le _⟩) (fun r u H locs hp_1 hP hD hS => ?_)
  obtain ⟨hr_1, hp_1⟩ := hp_1
  subst hr_1
  have hP : va_P D vwCl [(x, .inr (4, [.ref d, .ref xm, .ref rd, .int (zI ((mk : Nat) : Int))])), (d, .inr (0, [.ref dn, .ref df, .ref di, .ref dl, .ref dm, .int (zI ((nc : Nat) : Int)), .int (zI ((q + 1 : Nat) : Int))])), (df, .inr (3, [.ref dfw])), (dfw, .inl (c 2, 4 * 255, .inr (.inl fw))), (di, .inr (3, [.ref diw])), (diw, .inl (c 2, 4 * 40, .inr (.inl iw))), (dl, .inr (3, [.ref dlw])), (dlw, .inl (c 2, 4 * 40, .inr (.inl lw))), (dm, .inl (c 1, 40, .inl (fun j => zB ((va_up mb q true) j))))] H := hP
  have hD : va_D A [(x, .inr (4, [.ref d, .ref xm, .ref rd, .int (zI ((mk : Nat) : Int))])), (d, .inr (0, [.ref dn, .ref df, .ref di, .ref dl, .ref dm, .int (zI ((nc : Nat) : Int)), .int (zI ((q + 1 : Nat) : Int))])), (df, .inr (3, [.ref dfw])), (dfw, .inl (c 2, 4 * 255, .inr (.inl fw))), (di, .inr (3, [.ref diw])), (diw, .inl (c 2, 4 * 40, .inr (.inl iw))), (dl, .inr (3, [.ref dlw])), (dlw, .inl (c 2, 4 * 40, .inr (.inl lw))), (dm, .inl (c 1, 40, .inl (fun j => zB ((va_up mb q true) j))))] := hD
  subst hQ
  exact W.zret (ty := .boolean) (v := (zB true)) hx hb hr (z_narB _) (fun t9 ht hW => ⟨⟨_, (), rfl, ⟨rfl, trivial⟩, by show va_P _ _ _ t9.heap; rw [ht]; exact hP⟩, hS.F ht⟩) hS.2.2 d_To_often_8

def rm_often2 : Room := { frames := 5, cells := 0, slots := 0, locals := 110 }
set_option maxHeartbeats 4000000 in
set_option maxRecDepth 100000 in
/-- often(2) -/
theorem c_often2 (l : Launch) (D : va_G) (c : Nat → ClassId) (x : Nat) (xm : Nat) (rd : Nat) (d : Nat) (dn : Nat) (df : Nat) (dfw : Nat) (di : Nat) (diw : Nat) (dl : Nat) (dlw : Nat) (dm : Nat) (mg : Nat → Option Nat) (mk : Nat) (nm : Nat → Nat) (fw : Nat → Int64) (iw : Nat → Int64) (lw : Nat → Int64) (mb : Nat → Bool) (nc : Nat) (q : Nat) (hp : q + 1 ≤ 40) (hc : nc ≤ 255) : Met l y_To_often w_To_often rm_often2 (va_Pc [.ref x, .int (zI 2)] (fun U => (va_P D vwCl [(x, .inr (4, [.ref d, .ref xm, .ref rd, .int (zI ((mk : Nat) : Int))])), (d, .inr (0, [.ref dn, .ref df, .ref di, .ref dl, .ref dm, .int (zI ((nc : Nat) : Int)), .int (zI ((q + 1 : Nat) : Int))])), (df, .inr (3, [.ref dfw])), (dfw, .inl (c 2, 4 * 255, .inr (.inl fw))), (di, .inr (3, [.ref diw])), (diw, .inl (c 2, 4 * 40, .inr (.inl iw))), (dl, .inr (3, [.ref dlw])), (dlw, .inl (c 2, 4 * 40, .inr (.inl lw))), (dm, .inl (c 1, 40, .inl (fun j => zB (mb j))))] U.heap ∧ va_D (fun _ => True) [(x, .inr (4, [.ref d, .ref xm, .ref rd, .int (zI ((mk : Nat) : Int))])), (d, .inr (0, [.ref dn, .ref df, .ref di, .ref dl, .ref dm, .int (zI ((nc : Nat) : Int)), .int (zI ((q + 1 : Nat) : Int))])), (df, .inr (3, [.ref dfw])), (dfw, .inl (c 2, 4 * 255, .inr (.inl fw))), (di, .inr (3, [.ref diw])), (diw, .inl (c 2, 4 * 40, .inr (.inl iw))), (dl, .inr (3, [.ref dlw])), (dlw, .inl (c 2, 4 * 40, .inr (.inl lw))), (dm, .inl (c 1, 40, .inl (fun j => zB (mb j))))]) ∧ zK D c U)) (va_Qi (fun (r : Int32) (u : Unit) => r = (zB true) ∧ True) (fun (u : Unit) t9 => va_P D vwCl [(x, .inr (4, [.ref d, .ref xm, .ref rd, .int (zI ((mk : Nat) : Int))])), (d, .inr (0, [.ref dn, .ref df, .ref di, .ref dl, .ref dm, .int (zI ((nc : Nat) : Int)), .int (zI ((q + 1 : Nat) : Int))])), (df, .inr (3, [.ref dfw])), (dfw, .inl (c 2, 4 * 255, .inr (.inl (lfw fw iw lw q q nc)))), (di, .inr (3, [.ref diw])), (diw, .inl (c 2, 4 * 40, .inr (.inl iw))), (dl, .inr (3, [.ref dlw])), (dlw, .inl (c 2, 4 * 40, .inr (.inl lw))), (dm, .inl (c 1, 40, .inl (fun j => zB ((va_up mb q true) j))))] t9.heap) (zA [(x, .inr (4, [.ref d, .ref xm, .ref rd, .int (zI ((mk : Nat) : Int))])), (d, .inr (0, [.ref dn, .ref df, .ref di, .ref dl, .ref dm, .int (zI ((nc : Nat) : Int)), .int (zI ((q + 1 : Nat) : Int))])), (df, .inr (3, [.ref dfw])), (dfw, .inl (c 2, 4 * 255, .inr (.inl fw))), (di, .inr (3, [.ref diw])), (diw, .inl (c 2, 4 * 40, .inr (.inl iw))), (dl, .inr (3, [.ref dlw])), (dlw, .inl (c 2, 4 * 40, .inr (.inl lw))), (dm, .inl (c 1, 40, .inl (fun j => zB (mb j))))])) 0 0 (zA [(x, .inr (4, [.ref d, .ref xm, .ref rd, .int (zI ((mk : Nat) : Int))])), (d, .inr (0, [.ref dn, .ref df, .ref di, .ref dl, .ref dm, .int (zI ((nc : Nat) : Int)), .int (zI ((q + 1 : Nat) : Int))])), (df, .inr (3, [.ref dfw])), (dfw, .inl (c 2, 4 * 255, .inr (.inl fw))), (di, .inr (3, [.ref diw])), (diw, .inl (c 2, 4 * 40, .inr (.inl iw))), (dl, .inr (3, [.ref dlw])), (dlw, .inl (c 2, 4 * 40, .inr (.inl lw))), (dm, .inl (c 1, 40, .inl (fun j => zB (mb j))))]) := by
  refine Met.ofW (cc := b_To_often) (maxL := 2) (ret := (some .boolean)) (by decide) rfl ?_
  intro p e s m args below meth c0 s₁ B hml hv
  obtain ⟨rfl, ⟨hP, hD0⟩, hKN⟩ := hv
  have hK := hKN.1
  have hN := hKN.2
  have hx := B.exec
  have hb := B.bytes
  have hr := B.returns
  have hts := atoms_spec (ws := w_To_often) B.pre
  have hw : ∀ {w : Cond}, w ∈ ALLW → w.before _ s = true := fun h => hts _ (List.mem_cons_of_mem _ h)
  have hown : s.vm.findClass R_To = some m.cls := findClass_of_methodNamed B.named
  have hlocks := B.notSynchronized
  have hD : va_D (zA [(x, .inr (4, [.ref d, .ref xm, .ref rd, .int (zI ((mk : Nat) : Int))])), (d, .inr (0, [.ref dn, .ref df, .ref di, .ref dl, .ref dm, .int (zI ((nc : Nat) : Int)), .int (zI ((q + 1 : Nat) : Int))])), (df, .inr (3, [.ref dfw])), (dfw, .inl (c 2, 4 * 255, .inr (.inl fw))), (di, .inr (3, [.ref diw])), (diw, .inl (c 2, 4 * 40, .inr (.inl iw))), (dl, .inr (3, [.ref dlw])), (dlw, .inl (c 2, 4 * 40, .inr (.inl lw))), (dm, .inl (c 1, 40, .inl (fun j => zB (mb j))))]) [(x, .inr (4, [.ref d, .ref xm, .ref rd, .int (zI ((mk : Nat) : Int))])), (d, .inr (0, [.ref dn, .ref df, .ref di, .ref dl, .ref dm, .int (zI ((nc : Nat) : Int)), .int (zI ((q + 1 : Nat) : Int))])), (df, .inr (3, [.ref dfw])), (dfw, .inl (c 2, 4 * 255, .inr (.inl fw))), (di, .inr (3, [.ref diw])), (diw, .inl (c 2, 4 * 40, .inr (.inl iw))), (dl, .inr (3, [.ref dlw])), (dlw, .inl (c 2, 4 * 40, .inr (.inl lw))), (dm, .inl (c 1, 40, .inl (fun j => zB (mb j))))] := ⟨hD0.1, fun k q h => List.mem_map.mpr ⟨q, List.mem_of_getElem? h, rfl⟩⟩
  generalize hAe : zA [(x, .inr (4, [.ref d, .ref xm, .ref rd, .int (zI ((mk : Nat) : Int))])), (d, .inr (0, [.ref dn, .ref df, .ref di, .ref dl, .ref dm, .int (zI ((nc : Nat) : Int)), .int (zI ((q + 1 : Nat) : Int))])), (df, .inr (3, [.ref dfw])), (dfw, .inl (c 2, 4 * 255, .inr (.inl fw))), (di, .inr (3, [.ref diw])), (diw, .inl (c 2, 4 * 40, .inr (.inl iw))), (dl, .inr (3, [.ref dlw])), (dlw, .inl (c 2, 4 * 40, .inr (.inl lw))), (dm, .inl (c 1, 40, .inl (fun j => zB (mb j))))] = A at hD ⊢
  have hS : va_S A s.heap s.heap [] := va_S.rf
  have hP : va_P D vwCl [(x, .inr (4, [.ref d, .ref xm, .ref rd, .int (zI ((mk : Nat) : Int))])), (d, .inr (0, [.ref dn, .ref df, .ref di, .ref dl, .ref dm, .int (zI ((nc : Nat) : Int)), .int (zI ((q + 1 : Nat) : Int))])), (df, .inr (3, [.ref dfw])), (dfw, .inl (c 2, 4 * 255, .inr (.inl fw))), (di, .inr (3, [.ref diw])), (diw, .inl (c 2, 4 * 40, .inr (.inl iw))), (dl, .inr (3, [.ref dlw])), (dlw, .inl (c 2, 4 * 40, .inr (.inl lw))), (dm, .inl (c 1, 40, .inl (fun j => zB (mb j))))] s.heap := hP
  have hl := lv_entry ([.ref x, .int (zI 2)]) (n := 2) (Nat.le_of_ble_eq_true rfl)
  rw [lg_entry_eq]
  generalize (lg_sl ([.ref x, .int (zI 2)]) ++ List.replicate (2 - (lg_sl ([.ref x, .int (zI 2)])).length) Slot.unset).toArray = ls at hl ⊢
  have hl : lv_has ls 2 [(0, .ref x), (1, .int (zI 2))] := hl
  generalize hQ : MQ below _ _ _ _ _ _ = Q
  refine lv_aload_n hx hb d_To_often_0 rfl (lv_at hl 0 rfl) ?_
  refine va_get (D := D) (ci := 4) (v := .ref d) (C := R_To) (T := T_To) (N := 4) hx hb hts (fun w h => List.mem_cons_of_mem _ (inA_To w h)) hown hK hP 0 rfl rfl 0 (by decide) (hw k_To_f12) (fun _ h9 => h9) rfl d_To_often_1 ?_
  refine lv_iload_n hx hb d_To_often_4 rfl (lv_at hl 1 rfl) ?_
  have hPc : va_P D vwCl [(d, .inr (0, [.ref dn, .ref df, .ref di, .ref dl, .ref dm, .int (zI ((nc : Nat) : Int)), .int (zI ((q + 1 : Nat) : Int))])), (df, .inr (3, [.ref dfw])), (dfw, .inl (c 2, 4 * 255, .inr (.inl fw))), (di, .inr (3, [.ref diw])), (diw, .inl (c 2, 4 * 40, .inr (.inl iw))), (dl, .inr (3, [.ref dlw])), (dlw, .inl (c 2, 4 * 40, .inr (.inl lw))), (dm, .inl (c 1, 40, .inl (fun j => zB (mb j))))] s.heap := hP.sub (ws' := [(d, .inr (0, [.ref dn, .ref df, .ref di, .ref dl, .ref dm, .int (zI ((nc : Nat) : Int)), .int (zI ((q + 1 : Nat) : Int))])), (df, .inr (3, [.ref dfw])), (dfw, .inl (c 2, 4 * 255, .inr (.inl fw))), (di, .inr (3, [.ref diw])), (diw, .inl (c 2, 4 * 40, .inr (.inl iw))), (dl, .inr (3, [.ref dlw])), (dlw, .inl (c 2, 4 * 40, .inr (.inl lw))), (dm, .inl (c 1, 40, .inl (fun j => zB (mb j))))]) [1, 2, 3, 4, 5, 6, 7, 8] rfl
  have hDc : va_D A [(d, .inr (0, [.ref dn, .ref df, .ref di, .ref dl, .ref dm, .int (zI ((nc : Nat) : Int)), .int (zI ((q + 1 : Nat) : Int))])), (df, .inr (3, [.ref dfw])), (dfw, .inl (c 2, 4 * 255, .inr (.inl fw))), (di, .inr (3, [.ref diw])), (diw, .inl (c 2, 4 * 40, .inr (.inl iw))), (dl, .inr (3, [.ref dlw])), (dlw, .inl (c 2, 4 * 40, .inr (.inl lw))), (dm, .inl (c 1, 40, .inl (fun j => zB (mb j))))] := hD.sub (ws' := [(d, .inr (0, [.ref dn, .ref df, .ref di, .ref dl, .ref dm, .int (zI ((nc : Nat) : Int)), .int (zI ((q + 1 : Nat) : Int))])), (df, .inr (3, [.ref dfw])), (dfw, .inl (c 2, 4 * 255, .inr (.inl fw))), (di, .inr (3, [.ref diw])), (diw, .inl (c 2, 4 * 40, .inr (.inl iw))), (dl, .inr (3, [.ref dlw])), (dlw, .inl (c 2, 4 * 40, .inr (.inl lw))), (dm, .inl (c 1, 40, .inl (fun j => zB (mb j))))]) [1, 2, 3, 4, 5, 6, 7, 8] (by decide) rfl
  have hDt : va_D (fun _ => True) [(d, .inr (0, [.ref dn, .ref df, .ref di, .ref dl, .ref dm, .int (zI ((nc : Nat) : Int)), .int (zI ((q + 1 : Nat) : Int))])), (df, .inr (3, [.ref dfw])), (dfw, .inl (c 2, 4 * 255, .inr (.inl fw))), (di, .inr (3, [.ref diw])), (diw, .inl (c 2, 4 * 40, .inr (.inl iw))), (dl, .inr (3, [.ref dlw])), (dlw, .inl (c 2, 4 * 40, .inr (.inl lw))), (dm, .inl (c 1, 40, .inl (fun j => zB (mb j))))] := hDc.weaken (fun _ _ _ _ => trivial)
  refine z_calli (S := Unit) (w1 := fun u => [(d, .inr (0, [.ref dn, .ref df, .ref di, .ref dl, .ref dm, .int (zI ((nc : Nat) : Int)), .int (zI ((q + 1 : Nat) : Int))])), (df, .inr (3, [.ref dfw])), (dfw, .inl (c 2, 4 * 255, .inr (.inl (lfw fw iw lw q q nc)))), (di, .inr (3, [.ref diw])), (diw, .inl (c 2, 4 * 40, .inr (.inl iw))), (dl, .inr (3, [.ref dlw])), (dlw, .inl (c 2, 4 * 40, .inr (.inl lw))), (dm, .inl (c 1, 40, .inl (fun j => zB ((va_up mb q true) j))))]) (post := fun r u => r = (zB true) ∧ True) (wc := [(d, .inr (0, [.ref dn, .ref df, .ref di, .ref dl, .ref dm, .int (zI ((nc : Nat) : Int)), .int (zI ((q + 1 : Nat) : Int))])), (df, .inr (3, [.ref dfw])), (dfw, .inl (c 2, 4 * 255, .inr (.inl fw))), (di, .inr (3, [.ref diw])), (diw, .inl (c 2, 4 * 40, .inr (.inl iw))), (dl, .inr (3, [.ref dlw])), (dlw, .inl (c 2, 4 * 40, .inr (.inl lw))), (dm, .inl (c 1, 40, .inl (fun j => zB (mb j))))]) [1, 2, 3, 4, 5, 6, 7, 8] rfl (fun _ => rfl) hP hD hS (va_runV (rm := rm_repeatLast2) (As := [.int (zI 2)]) (rest := []) ⟨hx, hb, hml, hown, hts⟩ (c_repeatLast2 l D c d dn df dfw di diw dl dlw dm nm fw iw lw mb nc q (by omega) (by omega)) (cwV 1 hts (gWV k_To_m50 k_i_Dr_repeatLast k_v_Dr_repeatLast k_n_Dr k_c_Dr_repeatLast) rfl rfl rfl (by decide +kernel) ⟨Nat.le_of_ble_eq_true rfl, Nat.le_of_ble_eq_true rfl⟩) ⟨zblindW, va_recv hK hPc (ci := 0) (q0 := 0) rfl rfl, fun U hU hW => ⟨rfl, ⟨by rw [hU]; exact hPc, hDt⟩, hKN.moved hW⟩⟩ rfl rfl hl.1 rfl (lv_room (Nat.le_of_ble_eq_true rfl)) d_To_often_5 ⟨Nat.zero_le _, Nat.zero_le _⟩) (fun r u H locs hp_1 hP hD hS => ?_)
  obtain ⟨hr_1, hp_1⟩ := hp_1
  subst hr_1
  have hP : va_P D vwCl [(x, .inr (4, [.ref d, .ref xm, .ref rd, .int (zI ((mk : Nat) : Int))])), (d, .inr (0, [.ref dn, .ref df, .ref di, .ref dl, .ref dm, .int (zI ((nc : Nat) : Int)), .int (zI ((q + 1 : Nat) : Int))])), (df, .inr (3, [.ref dfw])), (dfw, .inl (c 2, 4 * 255, .inr (.inl (lfw fw iw lw q q nc)))), (di, .inr (3, [.ref diw])), (diw, .inl (c 2, 4 * 40, .inr (.inl iw))), (dl, .inr (3, [.ref dlw])), (dlw, .inl (c 2, 4 * 40, .inr (.inl lw))), (dm, .inl (c 1, 40, .inl (fun j => zB ((va_up mb q true) j))))] H := hP
  have hD : va_D A [(x, .inr (4, [.ref d, .ref xm, .ref rd, .int (zI ((mk : Nat) : Int))])), (d, .inr (0, [.ref dn, .ref df, .ref di, .ref dl, .ref dm, .int (zI ((nc : Nat) : Int)), .int (zI ((q + 1 : Nat) : Int))])), (df, .inr (3, [.ref dfw])), (dfw, .inl (c 2, 4 * 255, .inr (.inl (lfw fw iw lw q q nc)))), (di, .inr (3, [.ref diw])), (diw, .inl (c 2, 4 * 40, .inr (.inl iw))), (dl, .inr (3, [.ref dlw])), (dlw, .inl (c 2, 4 * 40, .inr (.inl lw))), (dm, .inl (c 1, 40, .inl (fun j => zB ((va_up mb q true) j))))] := hD
  subst hQ
  exact W.zret (ty := .boolean) (v := (zB true)) hx hb hr (z_narB _) (fun t9 ht hW => ⟨⟨_, (), rfl, ⟨rfl, trivial⟩, by show va_P _ _ _ t9.heap; rw [ht]; exact hP⟩, hS.F ht⟩) hS.2.2 d_To_often_8

def rm_often3 : Room := { frames := 5, cells := 0, slots := 0, locals := 110 }
set_option maxHeartbeats 4000000 in
set_option maxRecDepth 100000 in
/-- often(3) -/
theorem c_often3 (l : Launch) (D : va_G) (c : Nat → ClassId) (x : Nat) (xm : Nat) (rd : Nat) (d : Nat) (dn : Nat) (df : Nat) (dfw : Nat) (di : Nat) (diw : Nat) (dl : Nat) (dlw : Nat) (dm : Nat) (mg : Nat → Option Nat) (mk : Nat) (nm : Nat → Nat) (fw : Nat → Int64) (iw : Nat → Int64) (lw : Nat → Int64) (mb : Nat → Bool) (nc : Nat) (q : Nat) (hp : q + 1 ≤ 40) (hc : nc ≤ 255) : Met l y_To_often w_To_often rm_often3 (va_Pc [.ref x, .int (zI 3)] (fun U => (va_P D vwCl [(x, .inr (4, [.ref d, .ref xm, .ref rd, .int (zI ((mk : Nat) : Int))])), (d, .inr (0, [.ref dn, .ref df, .ref di, .ref dl, .ref dm, .int (zI ((nc : Nat) : Int)), .int (zI ((q + 1 : Nat) : Int))])), (df, .inr (3, [.ref dfw])), (dfw, .inl (c 2, 4 * 255, .inr (.inl fw))), (di, .inr (3, [.ref diw])), (diw, .inl (c 2, 4 * 40, .inr (.inl iw))), (dl, .inr (3, [.ref dlw])), (dlw, .inl (c 2, 4 * 40, .inr (.inl lw))), (dm, .inl (c 1, 40, .inl (fun j => zB (mb j))))] U.heap ∧ va_D (fun _ => True) [(x, .inr (4, [.ref d, .ref xm, .ref rd, .int (zI ((mk : Nat) : Int))])), (d, .inr (0, [.ref dn, .ref df, .ref di, .ref dl, .ref dm, .int (zI ((nc : Nat) : Int)), .int (zI ((q + 1 : Nat) : Int))])), (df, .inr (3, [.ref dfw])), (dfw, .inl (c 2, 4 * 255, .inr (.inl fw))), (di, .inr (3, [.ref diw])), (diw, .inl (c 2, 4 * 40, .inr (.inl iw))), (dl, .inr (3, [.ref dlw])), (dlw, .inl (c 2, 4 * 40, .inr (.inl lw))), (dm, .inl (c 1, 40, .inl (fun j => zB (mb j))))]) ∧ zK D c U)) (va_Qi (fun (r : Int32) (u : Unit) => r = (zB true) ∧ True) (fun (u : Unit) t9 => va_P D vwCl [(x, .inr (4, [.ref d, .ref xm, .ref rd, .int (zI ((mk : Nat) : Int))])), (d, .inr (0, [.ref dn, .ref df, .ref di, .ref dl, .ref dm, .int (zI ((nc : Nat) : Int)), .int (zI ((q + 1 : Nat) : Int))])), (df, .inr (3, [.ref dfw])), (dfw, .inl (c 2, 4 * 255, .inr (.inl (lfw fw iw lw q q nc)))), (di, .inr (3, [.ref diw])), (diw, .inl (c 2, 4 * 40, .inr (.inl iw))), (dl, .inr (3, [.ref dlw])), (dlw, .inl (c 2, 4 * 40, .inr (.inl lw))), (dm, .inl (c 1, 40, .inl (fun j => zB (mb j))))] t9.heap) (zA [(x, .inr (4, [.ref d, .ref xm, .ref rd, .int (zI ((mk : Nat) : Int))])), (d, .inr (0, [.ref dn, .ref df, .ref di, .ref dl, .ref dm, .int (zI ((nc : Nat) : Int)), .int (zI ((q + 1 : Nat) : Int))])), (df, .inr (3, [.ref dfw])), (dfw, .inl (c 2, 4 * 255, .inr (.inl fw))), (di, .inr (3, [.ref diw])), (diw, .inl (c 2, 4 * 40, .inr (.inl iw))), (dl, .inr (3, [.ref dlw])), (dlw, .inl (c 2, 4 * 40, .inr (.inl lw))), (dm, .inl (c 1, 40, .inl (fun j => zB (mb j))))])) 0 0 (zA [(x, .inr (4, [.ref d, .ref xm, .ref rd, .int (zI ((mk : Nat) : Int))])), (d, .inr (0, [.ref dn, .ref df, .ref di, .ref dl, .ref dm, .int (zI ((nc : Nat) : Int)), .int (zI ((q + 1 : Nat) : Int))])), (df, .inr (3, [.ref dfw])), (dfw, .inl (c 2, 4 * 255, .inr (.inl fw))), (di, .inr (3, [.ref diw])), (diw, .inl (c 2, 4 * 40, .inr (.inl iw))), (dl, .inr (3, [.ref dlw])), (dlw, .inl (c 2, 4 * 40, .inr (.inl lw))), (dm, .inl (c 1, 40, .inl (fun j => zB (mb j))))]) := by
  refine Met.ofW (cc := b_To_often) (maxL := 2) (ret := (some .boolean)) (by decide) rfl ?_
  intro p e s m args below meth c0 s₁ B hml hv
  obtain ⟨rfl, ⟨hP, hD0⟩, hKN⟩ := hv
  have hK := hKN.1
  have hN := hKN.2
  have hx := B.exec
  have hb := B.bytes
  have hr := B.returns
  have hts := atoms_spec (ws := w_To_often) B.pre
  have hw : ∀ {w : Cond}, w ∈ ALLW → w.before _ s = true := fun h => hts _ (List.mem_cons_of_mem _ h)
  have hown : s.vm.findClass R_To = some m.cls := findClass_of_methodNamed B.named
  have hlocks := B.notSynchronized
  have hD : va_D (zA [(x, .inr (4, [.ref d, .ref xm, .ref rd, .int (zI ((mk : Nat) : Int))])), (d, .inr (0, [.ref dn, .ref df, .ref di, .ref dl, .ref dm, .int (zI ((nc : Nat) : Int)), .int (zI ((q + 1 : Nat) : Int))])), (df, .inr (3, [.ref dfw])), (dfw, .inl (c 2, 4 * 255, .inr (.inl fw))), (di, .inr (3, [.ref diw])), (diw, .inl (c 2, 4 * 40, .inr (.inl iw))), (dl, .inr (3, [.ref dlw])), (dlw, .inl (c 2, 4 * 40, .inr (.inl lw))), (dm, .inl (c 1, 40, .inl (fun j => zB (mb j))))]) [(x, .inr (4, [.ref d, .ref xm, .ref rd, .int (zI ((mk : Nat) : Int))])), (d, .inr (0, [.ref dn, .ref df, .ref di, .ref dl, .ref dm, .int (zI ((nc : Nat) : Int)), .int (zI ((q + 1 : Nat) : Int))])), (df, .inr (3, [.ref dfw])), (dfw, .inl (c 2, 4 * 255, .inr (.inl fw))), (di, .inr (3, [.ref diw])), (diw, .inl (c 2, 4 * 40, .inr (.inl iw))), (dl, .inr (3, [.ref dlw])), (dlw, .inl (c 2, 4 * 40, .inr (.inl lw))), (dm, .inl (c 1, 40, .inl (fun j => zB (mb j))))] := ⟨hD0.1, fun k q h => List.mem_map.mpr ⟨q, List.mem_of_getElem? h, rfl⟩⟩
  generalize hAe : zA [(x, .inr (4, [.ref d, .ref xm, .ref rd, .int (zI ((mk : Nat) : Int))])), (d, .inr (0, [.ref dn, .ref df, .ref di, .ref dl, .ref dm, .int (zI ((nc : Nat) : Int)), .int (zI ((q + 1 : Nat) : Int))])), (df, .inr (3, [.ref dfw])), (dfw, .inl (c 2, 4 * 255, .inr (.inl fw))), (di, .inr (3, [.ref diw])), (diw, .inl (c 2, 4 * 40, .inr (.inl iw))), (dl, .inr (3, [.ref dlw])), (dlw, .inl (c 2, 4 * 40, .inr (.inl lw))), (dm, .inl (c 1, 40, .inl (fun j => zB (mb j))))] = A at hD ⊢
  have hS : va_S A s.heap s.heap [] := va_S.rf
  have hP : va_P D vwCl [(x, .inr (4, [.ref d, .ref xm, .ref rd, .int (zI ((mk : Nat) : Int))])), (d, .inr (0, [.ref dn, .ref df, .ref di, .ref dl, .ref dm, .int (zI ((nc : Nat) : Int)), .int (zI ((q + 1 : Nat) : Int))])), (df, .inr (3, [.ref dfw])), (dfw, .inl (c 2, 4 * 255, .inr (.inl fw))), (di, .inr (3, [.ref diw])), (diw, .inl (c 2, 4 * 40, .inr (.inl iw))), (dl, .inr (3, [.ref dlw])), (dlw, .inl (c 2, 4 * 40, .inr (.inl lw))), (dm, .inl (c 1, 40, .inl (fun j => zB (mb j))))] s.heap := hP
  have hl := lv_entry ([.ref x, .int (zI 3)]) (n := 2) (Nat.le_of_ble_eq_true rfl)
  rw [lg_entry_eq]
  generalize (lg_sl ([.ref x, .int (zI 3)]) ++ List.replicate (2 - (lg_sl ([.ref x, .int (zI 3)])).length) Slot.unset).toArray = ls at hl ⊢
  have hl : lv_has ls 2 [(0, .ref x), (1, .int (zI 3))] := hl
  generalize hQ : MQ below _ _ _ _ _ _ = Q
  refine lv_aload_n hx hb d_To_often_0 rfl (lv_at hl 0 rfl) ?_
  refine va_get (D := D) (ci := 4) (v := .ref d) (C := R_To) (T := T_To) (N := 4) hx hb hts (fun w h => List.mem_cons_of_mem _ (inA_To w h)) hown hK hP 0 rfl rfl 0 (by decide) (hw k_To_f12) (fun _ h9 => h9) rfl d_To_often_1 ?_
  refine lv_iload_n hx hb d_To_often_4 rfl (lv_at hl 1 rfl) ?_
  have hPc : va_P D vwCl [(d, .inr (0, [.ref dn, .ref df, .ref di, .ref dl, .ref dm, .int (zI ((nc : Nat) : Int)), .int (zI ((q + 1 : Nat) : Int))])), (df, .inr (3, [.ref dfw])), (dfw, .inl (c 2, 4 * 255, .inr (.inl fw))), (di, .inr (3, [.ref diw])), (diw, .inl (c 2, 4 * 40, .inr (.inl iw))), (dl, .inr (3, [.ref dlw])), (dlw, .inl (c 2, 4 * 40, .inr (.inl lw))), (dm, .inl (c 1, 40, .inl (fun j => zB (mb j))))] s.heap := hP.sub (ws' := [(d, .inr (0, [.ref dn, .ref df, .ref di, .ref dl, .ref dm, .int (zI ((nc : Nat) : Int)), .int (zI ((q + 1 : Nat) : Int))])), (df, .inr (3, [.ref dfw])), (dfw, .inl (c 2, 4 * 255, .inr (.inl fw))), (di, .inr (3, [.ref diw])), (diw, .inl (c 2, 4 * 40, .inr (.inl iw))), (dl, .inr (3, [.ref dlw])), (dlw, .inl (c 2, 4 * 40, .inr (.inl lw))), (dm, .inl (c 1, 40, .inl (fun j => zB (mb j))))]) [1, 2, 3, 4, 5, 6, 7, 8] rfl
  have hDc : va_D A [(d, .inr (0, [.ref dn, .ref df, .ref di, .ref dl, .ref dm, .int (zI ((nc : Nat) : Int)), .int (zI ((q + 1 : Nat) : Int))])), (df, .inr (3, [.ref dfw])), (dfw, .inl (c 2, 4 * 255, .inr (.inl fw))), (di, .inr (3, [.ref diw])), (diw, .inl (c 2, 4 * 40, .inr (.inl iw))), (dl, .inr (3, [.ref dlw])), (dlw, .inl (c 2, 4 * 40, .inr (.inl lw))), (dm, .inl (c 1, 40, .inl (fun j => zB (mb j))))] := hD.sub (ws' := [(d, .inr (0, [.ref dn, .ref df, .ref di, .ref dl, .ref dm, .int (zI ((nc : Nat) : Int)), .int (zI ((q + 1 : Nat) : Int))])), (df, .inr (3, [.ref dfw])), (dfw, .inl (c 2, 4 * 255, .inr (.inl fw))), (di, .inr (3, [.ref diw])), (diw, .inl (c 2, 4 * 40, .inr (.inl iw))), (dl, .inr (3, [.ref dlw])), (dlw, .inl (c 2, 4 * 40, .inr (.inl lw))), (dm, .inl (c 1, 40, .inl (fun j => zB (mb j))))]) [1, 2, 3, 4, 5, 6, 7, 8] (by decide) rfl
  have hDt : va_D (fun _ => True) [(d, .inr (0, [.ref dn, .ref df, .ref di, .ref dl, .ref dm, .int (zI ((nc : Nat) : Int)), .int (zI ((q + 1 : Nat) : Int))])), (df, .inr (3, [.ref dfw])), (dfw, .inl (c 2, 4 * 255, .inr (.inl fw))), (di, .inr (3, [.ref diw])), (diw, .inl (c 2, 4 * 40, .inr (.inl iw))), (dl, .inr (3, [.ref dlw])), (dlw, .inl (c 2, 4 * 40, .inr (.inl lw))), (dm, .inl (c 1, 40, .inl (fun j => zB (mb j))))] := hDc.weaken (fun _ _ _ _ => trivial)
  refine z_calli (S := Unit) (w1 := fun u => [(d, .inr (0, [.ref dn, .ref df, .ref di, .ref dl, .ref dm, .int (zI ((nc : Nat) : Int)), .int (zI ((q + 1 : Nat) : Int))])), (df, .inr (3, [.ref dfw])), (dfw, .inl (c 2, 4 * 255, .inr (.inl (lfw fw iw lw q q nc)))), (di, .inr (3, [.ref diw])), (diw, .inl (c 2, 4 * 40, .inr (.inl iw))), (dl, .inr (3, [.ref dlw])), (dlw, .inl (c 2, 4 * 40, .inr (.inl lw))), (dm, .inl (c 1, 40, .inl (fun j => zB (mb j))))]) (post := fun r u => r = (zB true) ∧ True) (wc := [(d, .inr (0, [.ref dn, .ref df, .ref di, .ref dl, .ref dm, .int (zI ((nc : Nat) : Int)), .int (zI ((q + 1 : Nat) : Int))])), (df, .inr (3, [.ref dfw])), (dfw, .inl (c 2, 4 * 255, .inr (.inl fw))), (di, .inr (3, [.ref diw])), (diw, .inl (c 2, 4 * 40, .inr (.inl iw))), (dl, .inr (3, [.ref dlw])), (dlw, .inl (c 2, 4 * 40, .inr (.inl lw))), (dm, .inl (c 1, 40, .inl (fun j => zB (mb j))))]) [1, 2, 3, 4, 5, 6, 7, 8] rfl (fun _ => rfl) hP hD hS (va_runV (rm := rm_repeatLast3) (As := [.int (zI 3)]) (rest := []) ⟨hx, hb, hml, hown, hts⟩ (c_repeatLast3 l D c d dn df dfw di diw dl dlw dm nm fw iw lw mb nc q (by omega) (by omega)) (cwV 1 hts (gWV k_To_m50 k_i_Dr_repeatLast k_v_Dr_repeatLast k_n_Dr k_c_Dr_repeatLast) rfl rfl rfl (by decide +kernel) ⟨Nat.le_of_ble_eq_true rfl, Nat.le_of_ble_eq_true rfl⟩) ⟨zblindW, va_recv hK hPc (ci := 0) (q0 := 0) rfl rfl, fun U hU hW => ⟨rfl, ⟨by rw [hU]; exact hPc, hDt⟩, hKN.moved hW⟩⟩ rfl rfl hl.1 rfl (lv_room (Nat.le_of_ble_eq_true rfl)) d_To_often_5 ⟨Nat.zero_le _, Nat.zero_le _⟩) (fun r u H locs hp_1 hP hD hS => ?_)
  obtain ⟨hr_1, hp_1⟩ := hp_1
  subst hr_1
  have hP : va_P D vwCl [(x, .inr (4, [.ref d, .ref xm, .ref rd, .int (zI ((mk : Nat) : Int))])), (d, .inr (0, [.ref dn, .ref df, .ref di, .ref dl, .ref dm, .int (zI ((nc : Nat) : Int)), .int (zI ((q + 1 : Nat) : Int))])), (df, .inr (3, [.ref dfw])), (dfw, .inl (c 2, 4 * 255, .inr (.inl (lfw fw iw lw q q nc)))), (di, .inr (3, [.ref diw])), (diw, .inl (c 2, 4 * 40, .inr (.inl iw))), (dl, .inr (3, [.ref dlw])), (dlw, .inl (c 2, 4 * 40, .inr (.inl lw))), (dm, .inl (c 1, 40, .inl (fun j => zB (mb j))))] H := hP
  have hD : va_D A [(x, .inr (4, [.ref d, .ref xm, .ref rd, .int (zI ((mk : Nat) : Int))])), (d, .inr (0, [.ref dn, .ref df, .ref di, .ref dl, .ref dm, .int (zI ((nc : Nat) : Int)), .int (zI ((q + 1 : Nat) : Int))])), (df, .inr (3, [.ref dfw])), (dfw, .inl (c 2, 4 * 255, .inr (.inl (lfw fw iw lw q q nc)))), (di, .inr (3, [.ref diw])), (diw, .inl (c 2, 4 * 40, .inr (.inl iw))), (dl, .inr (3, [.ref dlw])), (dlw, .inl (c 2, 4 * 40, .inr (.inl lw))), (dm, .inl (c 1, 40, .inl (fun j => zB (mb j))))] := hD
  subst hQ
  exact W.zret (ty := .boolean) (v := (zB true)) hx hb hr (z_narB _) (fun t9 ht hW => ⟨⟨_, (), rfl, ⟨rfl, trivial⟩, by show va_P _ _ _ t9.heap; rw [ht]; exact hP⟩, hS.F ht⟩) hS.2.2 d_To_often_8

def rm_clear : Room := { frames := 1, cells := 0, slots := 0, locals := 20 }
set_option maxHeartbeats 4000000 in
set_option maxRecDepth 100000 in
/-- clear -/
theorem c_clear (l : Launch) (D : va_G) (c : Nat → ClassId) (x : Nat) (xm : Nat) (rd : Nat) (d : Nat) (dn : Nat) (df : Nat) (dfw : Nat) (di : Nat) (diw : Nat) (dl : Nat) (dlw : Nat) (dm : Nat) (mg : Nat → Option Nat) (mk : Nat) (nm : Nat → Nat) (fw : Nat → Int64) (iw : Nat → Int64) (lw : Nat → Int64) (mb : Nat → Bool) (nc : Nat) (pp : Nat)  : Met l y_To_clear w_To_clear rm_clear (va_Pc [.ref x] (fun U => (va_P D vwCl [(x, .inr (4, [.ref d, .ref xm, .ref rd, .int (zI ((mk : Nat) : Int))])), (d, .inr (0, [.ref dn, .ref df, .ref di, .ref dl, .ref dm, .int (zI ((nc : Nat) : Int)), .int (zI ((pp : Nat) : Int))]))] U.heap ∧ va_D (fun _ => True) [(x, .inr (4, [.ref d, .ref xm, .ref rd, .int (zI ((mk : Nat) : Int))])), (d, .inr (0, [.ref dn, .ref df, .ref di, .ref dl, .ref dm, .int (zI ((nc : Nat) : Int)), .int (zI ((pp : Nat) : Int))]))]) ∧ zK D c U)) (va_Qi (fun (r : Int32) (u : Unit) => r = (zI ((pp : Nat) : Int)) ∧ True) (fun (u : Unit) t9 => va_P D vwCl [(x, .inr (4, [.ref d, .ref xm, .ref rd, .int (zI ((mk : Nat) : Int))])), (d, .inr (0, [.ref dn, .ref df, .ref di, .ref dl, .ref dm, .int (zI 0), .int (zI 0)]))] t9.heap) (zA [(x, .inr (4, [.ref d, .ref xm, .ref rd, .int (zI ((mk : Nat) : Int))])), (d, .inr (0, [.ref dn, .ref df, .ref di, .ref dl, .ref dm, .int (zI ((nc : Nat) : Int)), .int (zI ((pp : Nat) : Int))]))])) 0 0 (zA [(x, .inr (4, [.ref d, .ref xm, .ref rd, .int (zI ((mk : Nat) : Int))])), (d, .inr (0, [.ref dn, .ref df, .ref di, .ref dl, .ref dm, .int (zI ((nc : Nat) : Int)), .int (zI ((pp : Nat) : Int))]))]) := by
  refine Met.ofW (cc := b_To_clear) (maxL := 2) (ret := (some .int)) (by decide) rfl ?_
  intro p e s m args below meth c0 s₁ B hml hv
  obtain ⟨rfl, ⟨hP, hD0⟩, hKN⟩ := hv
  have hK := hKN.1
  have hN := hKN.2
  have hx := B.exec
  have hb := B.bytes
  have hr := B.returns
  have hts := atoms_spec (ws := w_To_clear) B.pre
  have hw : ∀ {w : Cond}, w ∈ ALLW → w.before _ s = true := fun h => hts _ (List.mem_cons_of_mem _ h)
  have hown : s.vm.findClass R_To = some m.cls := findClass_of_methodNamed B.named
  have hlocks := B.notSynchronized
  have hD : va_D (zA [(x, .inr (4, [.ref d, .ref xm, .ref rd, .int (zI ((mk : Nat) : Int))])), (d, .inr (0, [.ref dn, .ref df, .ref di, .ref dl, .ref dm, .int (zI ((nc : Nat) : Int)), .int (zI ((pp : Nat) : Int))]))]) [(x, .inr (4, [.ref d, .ref xm, .ref rd, .int (zI ((mk : Nat) : Int))])), (d, .inr (0, [.ref dn, .ref df, .ref di, .ref dl, .ref dm, .int (zI ((nc : Nat) : Int)), .int (zI ((pp : Nat) : Int))]))] := ⟨hD0.1, fun k q h => List.mem_map.mpr ⟨q, List.mem_of_getElem? h, rfl⟩⟩
  generalize hAe : zA [(x, .inr (4, [.ref d, .ref xm, .ref rd, .int (zI ((mk : Nat) : Int))])), (d, .inr (0, [.ref dn, .ref df, .ref di, .ref dl, .ref dm, .int (zI ((nc : Nat) : Int)), .int (zI ((pp : Nat) : Int))]))] = A at hD ⊢
  have hS : va_S A s.heap s.heap [] := va_S.rf
  have hP : va_P D vwCl [(x, .inr (4, [.ref d, .ref xm, .ref rd, .int (zI ((mk : Nat) : Int))])), (d, .inr (0, [.ref dn, .ref df, .ref di, .ref dl, .ref dm, .int (zI ((nc : Nat) : Int)), .int (zI ((pp : Nat) : Int))]))] s.heap := hP
  have hl := lv_entry ([.ref x]) (n := 2) (Nat.le_of_ble_eq_true rfl)
  rw [lg_entry_eq]
  generalize (lg_sl ([.ref x]) ++ List.replicate (2 - (lg_sl ([.ref x])).length) Slot.unset).toArray = ls at hl ⊢
  have hl : lv_has ls 2 [(0, .ref x)] := hl
  generalize hQ : MQ below _ _ _ _ _ _ = Q
  refine lv_aload_n hx hb d_To_clear_0 rfl (lv_at hl 0 rfl) ?_
  refine va_get (D := D) (ci := 4) (v := .ref d) (C := R_To) (T := T_To) (N := 4) hx hb hts (fun w h => List.mem_cons_of_mem _ (inA_To w h)) hown hK hP 0 rfl rfl 0 (by decide) (hw k_To_f12) (fun _ h9 => h9) rfl d_To_clear_1 ?_
  refine va_getN (D := D) (ci := 0) (v := .int (zI ((pp : Nat) : Int))) (C := R_Dr) (T := T_Dr) (N := 7) hx hb hts (fun w h => List.mem_cons_of_mem _ (inA_Dr w h)) hown hK hP 1 rfl rfl 6 (by decide) (va_Nw.use rfl hN.2.1) (fun _ h9 => h9) rfl d_To_clear_4 ?_
  refine lv_istore_n (lv' := [(1, .int (zI ((pp : Nat) : Int))), (0, .ref x)]) hx hb d_To_clear_7 rfl hl (by decide) rfl (fun ls hl => ?_)
  refine lv_aload_n hx hb d_To_clear_8 rfl (lv_at hl 1 rfl) ?_
  refine va_get (D := D) (ci := 4) (v := .ref d) (C := R_To) (T := T_To) (N := 4) hx hb hts (fun w h => List.mem_cons_of_mem _ (inA_To w h)) hown hK hP 0 rfl rfl 0 (by decide) (hw k_To_f12) (fun _ h9 => h9) rfl d_To_clear_9 ?_
  have hPc : va_P D vwCl [(d, .inr (0, [.ref dn, .ref df, .ref di, .ref dl, .ref dm, .int (zI ((nc : Nat) : Int)), .int (zI ((pp : Nat) : Int))]))] s.heap := hP.sub (ws' := [(d, .inr (0, [.ref dn, .ref df, .ref di, .ref dl, .ref dm, .int (zI ((nc : Nat) : Int)), .int (zI ((pp : Nat) : Int))]))]) [1] rfl
  have hDc : va_D A [(d, .inr (0, [.ref dn, .ref df, .ref di, .ref dl, .ref dm, .int (zI ((nc : Nat) : Int)), .int (zI ((pp : Nat) : Int))]))] := hD.sub (ws' := [(d, .inr (0, [.ref dn, .ref df, .ref di, .ref dl, .ref dm, .int (zI ((nc : Nat) : Int)), .int (zI ((pp : Nat) : Int))]))]) [1] (by decide) rfl
  have hDt : va_D (fun _ => True) [(d, .inr (0, [.ref dn, .ref df, .ref di, .ref dl, .ref dm, .int (zI ((nc : Nat) : Int)), .int (zI ((pp : Nat) : Int))]))] := hDc.weaken (fun _ _ _ _ => trivial)
  refine z_callv (S := Unit) (w1 := fun u => [(d, .inr (0, [.ref dn, .ref df, .ref di, .ref dl, .ref dm, .int (zI 0), .int (zI 0)]))]) (post := fun u => True) (wc := [(d, .inr (0, [.ref dn, .ref df, .ref di, .ref dl, .ref dm, .int (zI ((nc : Nat) : Int)), .int (zI ((pp : Nat) : Int))]))]) [1] rfl (fun _ => rfl) hP hD hS (va_runV (rm := rm_dropAll) (As := []) (rest := []) ⟨hx, hb, hml, hown, hts⟩ (c_dropAll l D c d dn df dfw di diw dl dlw dm nm fw iw lw mb nc pp) (cwV 0 hts (gWV k_To_m53 k_i_Dr_dropAll k_v_Dr_dropAll k_n_Dr k_c_Dr_dropAll) rfl rfl rfl (by decide +kernel) ⟨Nat.le_of_ble_eq_true rfl, Nat.le_of_ble_eq_true rfl⟩) ⟨zblindW, va_recv hK hPc (ci := 0) (q0 := 0) rfl rfl, fun U hU hW => ⟨rfl, ⟨by rw [hU]; exact hPc, hDt⟩, hKN.moved hW⟩⟩ rfl rfl hl.1 rfl (lv_room (Nat.le_of_ble_eq_true rfl)) d_To_clear_12 ⟨Nat.zero_le _, Nat.zero_le _⟩) (fun u H locs hp_1 hP hD hS => ?_)
  have hP : va_P D vwCl [(x, .inr (4, [.ref d, .ref xm, .ref rd, .int (zI ((mk : Nat) : Int))])), (d, .inr (0, [.ref dn, .ref df, .ref di, .ref dl, .ref dm, .int (zI 0), .int (zI 0)]))] H := hP
  have hD : va_D A [(x, .inr (4, [.ref d, .ref xm, .ref rd, .int (zI ((mk : Nat) : Int))])), (d, .inr (0, [.ref dn, .ref df, .ref di, .ref dl, .ref dm, .int (zI 0), .int (zI 0)]))] := hD
  refine lv_iload_n hx hb d_To_clear_15 rfl (lv_at hl 0 rfl) ?_
  subst hQ
  exact W.iret (v := (zI ((pp : Nat) : Int))) hx hb hr (fun t9 ht hW => ⟨⟨_, (), rfl, ⟨rfl, trivial⟩, by show va_P _ _ _ t9.heap; rw [ht]; exact hP⟩, hS.F ht⟩) hS.2.2 d_To_clear_16

def rm_make_no : Room := { frames := 0, cells := 0, slots := 0, locals := 0 }
set_option maxHeartbeats 4000000 in
set_option maxRecDepth 100000 in
/-- make, refused -/
theorem c_make_no (l : Launch) (D : va_G) (c : Nat → ClassId) (x : Nat) (xm : Nat) (rd : Nat) (d : Nat) (dn : Nat) (df : Nat) (dfw : Nat) (di : Nat) (diw : Nat) (dl : Nat) (dlw : Nat) (dm : Nat) (mg : Nat → Option Nat) (mk : Nat) (nm : Nat → Nat) (fw : Nat → Int64) (iw : Nat → Int64) (lw : Nat → Int64) (mb : Nat → Bool) (nc : Nat) (pp : Nat) (hp : pp ≤ 40) (hm : mk ≤ 50) (hno : ¬ pp = 1 ∨ mk = 50) : Met l y_To_make w_To_make rm_make_no (va_Pc [.ref x] (fun U => va_P D vwCl [(x, .inr (4, [.ref d, .ref xm, .ref rd, .int (zI ((mk : Nat) : Int))])), (xm, .inl (c 3, 50, .inr (.inr (.inr (.inr mg))))), (d, .inr (0, [.ref dn, .ref df, .ref di, .ref dl, .ref dm, .int (zI ((nc : Nat) : Int)), .int (zI ((pp : Nat) : Int))]))] U.heap ∧ zK D c U)) (vp_Si (fun r => r = (zI (-1)))) 0 0 (fun _ => False) := by
  refine Met.ofW (cc := b_To_make) (maxL := 2) (ret := (some .int)) (by decide) rfl ?_
  intro p e s m args below meth c0 s₁ B hml hv
  obtain ⟨rfl, hP, hKN⟩ := hv
  have hK := hKN.1
  have hN := hKN.2
  have hx := B.exec
  have hb := B.bytes
  have hr := B.returns
  have hts := atoms_spec (ws := w_To_make) B.pre
  have hw : ∀ {w : Cond}, w ∈ ALLW → w.before _ s = true := fun h => hts _ (List.mem_cons_of_mem _ h)
  have hown : s.vm.findClass R_To = some m.cls := findClass_of_methodNamed B.named
  have hlocks := B.notSynchronized
  have hl := lv_entry ([.ref x]) (n := 2) (Nat.le_of_ble_eq_true rfl)
  rw [lg_entry_eq]
  generalize (lg_sl ([.ref x]) ++ List.replicate (2 - (lg_sl ([.ref x])).length) Slot.unset).toArray = ls at hl ⊢
  have hl : lv_has ls 2 [(0, .ref x)] := hl
  generalize hQ : MQ below _ _ _ _ _ _ = Q
  refine lv_aload_n hx hb d_To_make_0 rfl (lv_at hl 0 rfl) ?_
  refine va_get (D := D) (ci := 4) (v := .int (zI ((mk : Nat) : Int))) (C := R_To) (T := T_To) (N := 4) hx hb hts (fun w h => List.mem_cons_of_mem _ (inA_To w h)) hown hK hP 0 rfl rfl 3 (by decide) (hw k_To_f29) (fun _ h9 => h9) rfl d_To_make_1 ?_
  refine lv_istore_n (lv' := [(1, .int (zI ((mk : Nat) : Int))), (0, .ref x)]) hx hb d_To_make_4 rfl hl (by decide) rfl (fun ls hl => ?_)
  refine lv_aload_n hx hb d_To_make_5 rfl (lv_at hl 1 rfl) ?_
  refine va_get (D := D) (ci := 4) (v := .ref d) (C := R_To) (T := T_To) (N := 4) hx hb hts (fun w h => List.mem_cons_of_mem _ (inA_To w h)) hown hK hP 0 rfl rfl 0 (by decide) (hw k_To_f12) (fun _ h9 => h9) rfl d_To_make_6 ?_
  refine va_getN (D := D) (ci := 0) (v := .int (zI ((pp : Nat) : Int))) (C := R_Dr) (T := T_Dr) (N := 7) hx hb hts (fun w h => List.mem_cons_of_mem _ (inA_Dr w h)) hown hK hP 2 rfl rfl 6 (by decide) (va_Nw.use rfl hN.2.1) (fun _ h9 => h9) rfl d_To_make_9 ?_
  refine lv_iconst (v := zI 1) hx hb d_To_make_12 (by decide) ?_
  refine z_icmp_ne (tgt := 29) hx hb (by omega) d_To_make_13 (by decide) (fun hc_13 => ?_) (fun hc_13 => ?_)
  · refine lv_iconst (v := zI (-1)) hx hb d_To_make_29 (by decide) ?_
    subst hQ
    exact W.iret (v := (zI (-1))) hx hb hr (fun t9 ht hW => ⟨_, rfl, rfl, ht⟩) (fun q hq => absurd hq List.not_mem_nil) d_To_make_30
  · refine lv_iload_n hx hb d_To_make_16 rfl (lv_at hl 0 rfl) ?_
    refine z_if_lt (tgt := 29) hx hb (by omega) d_To_make_17 (by decide) (fun hc_17 => absurd hc_17 (by omega)) (fun hc_17 => ?_)
    refine lv_iload_n hx hb d_To_make_20 rfl (lv_at hl 0 rfl) ?_
    refine lv_aload_n hx hb d_To_make_21 rfl (lv_at hl 1 rfl) ?_
    refine va_get (D := D) (ci := 4) (v := .ref xm) (C := R_To) (T := T_To) (N := 4) hx hb hts (fun w h => List.mem_cons_of_mem _ (inA_To w h)) hown hK hP 0 rfl rfl 1 (by decide) (hw k_To_f18) (fun _ h9 => h9) rfl d_To_make_22 ?_
    refine z_alen hx hb hK hP 1 3 rfl rfl d_To_make_25 ?_
    refine z_top (v2 := .int (zI (50 : Int))) rfl ?_
    refine z_icmp_lt (tgt := 31) hx hb (by omega) d_To_make_26 (by decide) (fun hc_26 => absurd hc_26 (by omega)) (fun hc_26 => ?_)
    refine lv_iconst (v := zI (-1)) hx hb d_To_make_29 (by decide) ?_
    subst hQ
    exact W.iret (v := (zI (-1))) hx hb hr (fun t9 ht hW => ⟨_, rfl, rfl, ht⟩) (fun q hq => absurd hq List.not_mem_nil) d_To_make_30

def rm_make : Room := { frames := 7, cells := 4, slots := 1283, locals := 156 }
set_option maxHeartbeats 4000000 in
set_option maxRecDepth 100000 in
/-- make -/
theorem c_make (l : Launch) (D : va_G) (c : Nat → ClassId) (x : Nat) (xm : Nat) (rd : Nat) (d : Nat) (dn : Nat) (df : Nat) (dfw : Nat) (di : Nat) (diw : Nat) (dl : Nat) (dlw : Nat) (dm : Nat) (mg : Nat → Option Nat) (mk : Nat) (nm : Nat → Nat) (fw : Nat → Int64) (iw : Nat → Int64) (lw : Nat → Int64) (mb : Nat → Bool) (nc : Nat) (sz : Nat) (hc : nc ≤ 255) (hnm : ∀ j, j < nc → nm j < 1001) (hm : mk < 50) : Met l y_To_make w_To_make rm_make (va_Pc [.ref x] (fun U => (U.heap.size = sz ∧ va_P D vwCl [(x, .inr (4, [.ref d, .ref xm, .ref rd, .int (zI ((mk : Nat) : Int))])), (xm, .inl (c 3, 50, .inr (.inr (.inr (.inr mg))))), (d, .inr (0, [.ref dn, .ref df, .ref di, .ref dl, .ref dm, .int (zI ((nc : Nat) : Int)), .int (zI 1)])), (dn, .inl (c 0, 255, .inl (fun j => zI ((nm j : Nat) : Int)))), (df, .inr (3, [.ref dfw])), (dfw, .inl (c 2, 4 * 255, .inr (.inl fw))), (di, .inr (3, [.ref diw])), (diw, .inl (c 2, 4 * 40, .inr (.inl iw))), (dl, .inr (3, [.ref dlw])), (dlw, .inl (c 2, 4 * 40, .inr (.inl lw))), (dm, .inl (c 1, 40, .inl (fun j => zB (mb j))))] U.heap ∧ va_D (fun _ => True) [(x, .inr (4, [.ref d, .ref xm, .ref rd, .int (zI ((mk : Nat) : Int))])), (xm, .inl (c 3, 50, .inr (.inr (.inr (.inr mg))))), (d, .inr (0, [.ref dn, .ref df, .ref di, .ref dl, .ref dm, .int (zI ((nc : Nat) : Int)), .int (zI 1)])), (dn, .inl (c 0, 255, .inl (fun j => zI ((nm j : Nat) : Int)))), (df, .inr (3, [.ref dfw])), (dfw, .inl (c 2, 4 * 255, .inr (.inl fw))), (di, .inr (3, [.ref diw])), (diw, .inl (c 2, 4 * 40, .inr (.inl iw))), (dl, .inr (3, [.ref dlw])), (dlw, .inl (c 2, 4 * 40, .inr (.inl lw))), (dm, .inl (c 1, 40, .inl (fun j => zB (mb j))))]) ∧ zK D c U)) (va_Qi (fun (r : Int32) (u : Nat × Nat × Nat × Nat × (Nat → Nat)) => r = (zI ((mk : Nat) : Int)) ∧ srt (tmN nm nc) u.2.2.2.2 nc) (fun (u : Nat × Nat × Nat × Nat × (Nat → Nat)) t9 => va_P D vwCl [(x, .inr (4, [.ref d, .ref xm, .ref rd, .int (zI ((mk + 1 : Nat) : Int))])), (xm, .inl (c 3, 50, .inr (.inr (.inr (.inr (va_up mg mk (some u.1))))))), (d, .inr (0, [.ref dn, .ref df, .ref di, .ref dl, .ref dm, .int (zI 0), .int (zI 0)])), (dn, .inl (c 0, 255, .inl (fun j => zI ((nm j : Nat) : Int)))), (df, .inr (3, [.ref dfw])), (dfw, .inl (c 2, 4 * 255, .inr (.inl fw))), (di, .inr (3, [.ref diw])), (diw, .inl (c 2, 4 * 40, .inr (.inl iw))), (dl, .inr (3, [.ref dlw])), (dlw, .inl (c 2, 4 * 40, .inr (.inl lw))), (dm, .inl (c 1, 40, .inl (fun j => zB (mb j)))), (u.1, .inr (1, [.ref u.2.1, .ref u.2.2.1, .int (zB (!twA u.2.2.2.2 (tmE fw iw lw (mb 0) nc) nc (nc + 1)))])), (u.2.1, .inl (c 0, nc, .inl (fun j => zI ((u.2.2.2.2 j : Nat) : Int)))), (u.2.2.1, .inr (3, [.ref u.2.2.2.1])), (u.2.2.2.1, .inl (c 2, 4 * (nc + 1), .inr (.inl (tmE fw iw lw (mb 0) nc))))] t9.heap ∧ va_D (va_A [(x, .inr (4, [.ref d, .ref xm, .ref rd, .int (zI ((mk : Nat) : Int))])), (xm, .inl (c 3, 50, .inr (.inr (.inr (.inr mg))))), (d, .inr (0, [.ref dn, .ref df, .ref di, .ref dl, .ref dm, .int (zI ((nc : Nat) : Int)), .int (zI 1)])), (dn, .inl (c 0, 255, .inl (fun j => zI ((nm j : Nat) : Int)))), (df, .inr (3, [.ref dfw])), (dfw, .inl (c 2, 4 * 255, .inr (.inl fw))), (di, .inr (3, [.ref diw])), (diw, .inl (c 2, 4 * 40, .inr (.inl iw))), (dl, .inr (3, [.ref dlw])), (dlw, .inl (c 2, 4 * 40, .inr (.inl lw))), (dm, .inl (c 1, 40, .inl (fun j => zB (mb j))))] sz) [(x, .inr (4, [.ref d, .ref xm, .ref rd, .int (zI ((mk + 1 : Nat) : Int))])), (xm, .inl (c 3, 50, .inr (.inr (.inr (.inr (va_up mg mk (some u.1))))))), (d, .inr (0, [.ref dn, .ref df, .ref di, .ref dl, .ref dm, .int (zI 0), .int (zI 0)])), (dn, .inl (c 0, 255, .inl (fun j => zI ((nm j : Nat) : Int)))), (df, .inr (3, [.ref dfw])), (dfw, .inl (c 2, 4 * 255, .inr (.inl fw))), (di, .inr (3, [.ref diw])), (diw, .inl (c 2, 4 * 40, .inr (.inl iw))), (dl, .inr (3, [.ref dlw])), (dlw, .inl (c 2, 4 * 40, .inr (.inl lw))), (dm, .inl (c 1, 40, .inl (fun j => zB (mb j)))), (u.1, .inr (1, [.ref u.2.1, .ref u.2.2.1, .int (zB (!twA u.2.2.2.2 (tmE fw iw lw (mb 0) nc) nc (nc + 1)))])), (u.2.1, .inl (c 0, nc, .inl (fun j => zI ((u.2.2.2.2 j : Nat) : Int)))), (u.2.2.1, .inr (3, [.ref u.2.2.2.1])), (u.2.2.2.1, .inl (c 2, 4 * (nc + 1), .inr (.inl (tmE fw iw lw (mb 0) nc))))]) (va_A [(x, .inr (4, [.ref d, .ref xm, .ref rd, .int (zI ((mk : Nat) : Int))])), (xm, .inl (c 3, 50, .inr (.inr (.inr (.inr mg))))), (d, .inr (0, [.ref dn, .ref df, .ref di, .ref dl, .ref dm, .int (zI ((nc : Nat) : Int)), .int (zI 1)])), (dn, .inl (c 0, 255, .inl (fun j => zI ((nm j : Nat) : Int)))), (df, .inr (3, [.ref dfw])), (dfw, .inl (c 2, 4 * 255, .inr (.inl fw))), (di, .inr (3, [.ref diw])), (diw, .inl (c 2, 4 * 40, .inr (.inl iw))), (dl, .inr (3, [.ref dlw])), (dlw, .inl (c 2, 4 * 40, .inr (.inl lw))), (dm, .inl (c 1, 40, .inl (fun j => zB (mb j))))] sz)) 4 1283 (va_A [(x, .inr (4, [.ref d, .ref xm, .ref rd, .int (zI ((mk : Nat) : Int))])), (xm, .inl (c 3, 50, .inr (.inr (.inr (.inr mg))))), (d, .inr (0, [.ref dn, .ref df, .ref di, .ref dl, .ref dm, .int (zI ((nc : Nat) : Int)), .int (zI 1)])), (dn, .inl (c 0, 255, .inl (fun j => zI ((nm j : Nat) : Int)))), (df, .inr (3, [.ref dfw])), (dfw, .inl (c 2, 4 * 255, .inr (.inl fw))), (di, .inr (3, [.ref diw])), (diw, .inl (c 2, 4 * 40, .inr (.inl iw))), (dl, .inr (3, [.ref dlw])), (dlw, .inl (c 2, 4 * 40, .inr (.inl lw))), (dm, .inl (c 1, 40, .inl (fun j => zB (mb j))))] sz) := by
  refine Met.ofW (cc := b_To_make) (maxL := 2) (ret := (some .int)) (by decide) rfl ?_
  intro p e s m args below meth c0 s₁ B hml hv
  obtain ⟨rfl, ⟨hsz, hP, hD0⟩, hKN⟩ := hv
  have hK := hKN.1
  have hN := hKN.2
  have hx := B.exec
  have hb := B.bytes
  have hr := B.returns
  have hts := atoms_spec (ws := w_To_make) B.pre
  have hw : ∀ {w : Cond}, w ∈ ALLW → w.before _ s = true := fun h => hts _ (List.mem_cons_of_mem _ h)
  have hown : s.vm.findClass R_To = some m.cls := findClass_of_methodNamed B.named
  have hlocks := B.notSynchronized
  subst hsz
  have hD := hD0.self (sz := s.heap.size)
  generalize hAe : va_A [(x, .inr (4, [.ref d, .ref xm, .ref rd, .int (zI ((mk : Nat) : Int))])), (xm, .inl (c 3, 50, .inr (.inr (.inr (.inr mg))))), (d, .inr (0, [.ref dn, .ref df, .ref di, .ref dl, .ref dm, .int (zI ((nc : Nat) : Int)), .int (zI 1)])), (dn, .inl (c 0, 255, .inl (fun j => zI ((nm j : Nat) : Int)))), (df, .inr (3, [.ref dfw])), (dfw, .inl (c 2, 4 * 255, .inr (.inl fw))), (di, .inr (3, [.ref diw])), (diw, .inl (c 2, 4 * 40, .inr (.inl iw))), (dl, .inr (3, [.ref dlw])), (dlw, .inl (c 2, 4 * 40, .inr (.inl lw))), (dm, .inl (c 1, 40, .inl (fun j => zB (mb j))))] s.heap.size = A at hD ⊢
  have hA : ∀ q : Nat, s.heap.size ≤ q → A q := fun q h => by rw [← hAe]; exact Or.inr h
  have hS : va_S A s.heap s.heap [] := va_S.rf
  have hP : va_P D vwCl [(x, .inr (4, [.ref d, .ref xm, .ref rd, .int (zI ((mk : Nat) : Int))])), (xm, .inl (c 3, 50, .inr (.inr (.inr (.inr mg))))), (d, .inr (0, [.ref dn, .ref df, .ref di, .ref dl, .ref dm, .int (zI ((nc : Nat) : Int)), .int (zI 1)])), (dn, .inl (c 0, 255, .inl (fun j => zI ((nm j : Nat) : Int)))), (df, .inr (3, [.ref dfw])), (dfw, .inl (c 2, 4 * 255, .inr (.inl fw))), (di, .inr (3, [.ref diw])), (diw, .inl (c 2, 4 * 40, .inr (.inl iw))), (dl, .inr (3, [.ref dlw])), (dlw, .inl (c 2, 4 * 40, .inr (.inl lw))), (dm, .inl (c 1, 40, .inl (fun j => zB (mb j))))] s.heap := hP
  have hl := lv_entry ([.ref x]) (n := 2) (Nat.le_of_ble_eq_true rfl)
  rw [lg_entry_eq]
  generalize (lg_sl ([.ref x]) ++ List.replicate (2 - (lg_sl ([.ref x])).length) Slot.unset).toArray = ls at hl ⊢
  have hl : lv_has ls 2 [(0, .ref x)] := hl
  generalize hQ : MQ below _ _ _ _ _ _ = Q
  refine lv_aload_n hx hb d_To_make_0 rfl (lv_at hl 0 rfl) ?_
  refine va_get (D := D) (ci := 4) (v := .int (zI ((mk : Nat) : Int))) (C := R_To) (T := T_To) (N := 4) hx hb hts (fun w h => List.mem_cons_of_mem _ (inA_To w h)) hown hK hP 0 rfl rfl 3 (by decide) (hw k_To_f29) (fun _ h9 => h9) rfl d_To_make_1 ?_
  refine lv_istore_n (lv' := [(1, .int (zI ((mk : Nat) : Int))), (0, .ref x)]) hx hb d_To_make_4 rfl hl (by decide) rfl (fun ls hl => ?_)
  refine lv_aload_n hx hb d_To_make_5 rfl (lv_at hl 1 rfl) ?_
  refine va_get (D := D) (ci := 4) (v := .ref d) (C := R_To) (T := T_To) (N := 4) hx hb hts (fun w h => List.mem_cons_of_mem _ (inA_To w h)) hown hK hP 0 rfl rfl 0 (by decide) (hw k_To_f12) (fun _ h9 => h9) rfl d_To_make_6 ?_
  refine va_getN (D := D) (ci := 0) (v := .int (zI 1)) (C := R_Dr) (T := T_Dr) (N := 7) hx hb hts (fun w h => List.mem_cons_of_mem _ (inA_Dr w h)) hown hK hP 2 rfl rfl 6 (by decide) (va_Nw.use rfl hN.2.1) (fun _ h9 => h9) rfl d_To_make_9 ?_
  refine lv_iconst (v := zI 1) hx hb d_To_make_12 (by decide) ?_
  refine z_icmp_ne (tgt := 29) hx hb (by omega) d_To_make_13 (by decide) (fun hc_13 => absurd hc_13 (by omega)) (fun hc_13 => ?_)
  refine lv_iload_n hx hb d_To_make_16 rfl (lv_at hl 0 rfl) ?_
  refine z_if_lt (tgt := 29) hx hb (by omega) d_To_make_17 (by decide) (fun hc_17 => absurd hc_17 (by omega)) (fun hc_17 => ?_)
  refine lv_iload_n hx hb d_To_make_20 rfl (lv_at hl 0 rfl) ?_
  refine lv_aload_n hx hb d_To_make_21 rfl (lv_at hl 1 rfl) ?_
  refine va_get (D := D) (ci := 4) (v := .ref xm) (C := R_To) (T := T_To) (N := 4) hx hb hts (fun w h => List.mem_cons_of_mem _ (inA_To w h)) hown hK hP 0 rfl rfl 1 (by decide) (hw k_To_f18) (fun _ h9 => h9) rfl d_To_make_22 ?_
  refine z_alen hx hb hK hP 1 3 rfl rfl d_To_make_25 ?_
  refine z_top (v2 := .int (zI (50 : Int))) rfl ?_
  refine z_icmp_lt (tgt := 31) hx hb (by omega) d_To_make_26 (by decide) (fun hc_26 => ?_) (fun hc_26 => absurd hc_26 (by omega))
  refine lv_aload_n hx hb d_To_make_31 rfl (lv_at hl 1 rfl) ?_
  refine va_get (D := D) (ci := 4) (v := .ref xm) (C := R_To) (T := T_To) (N := 4) hx hb hts (fun w h => List.mem_cons_of_mem _ (inA_To w h)) hown hK hP 0 rfl rfl 1 (by decide) (hw k_To_f18) (fun _ h9 => h9) rfl d_To_make_32 ?_
  refine lv_iload_n hx hb d_To_make_35 rfl (lv_at hl 0 rfl) ?_
  refine lv_aload_n hx hb d_To_make_36 rfl (lv_at hl 1 rfl) ?_
  refine va_get (D := D) (ci := 4) (v := .ref d) (C := R_To) (T := T_To) (N := 4) hx hb hts (fun w h => List.mem_cons_of_mem _ (inA_To w h)) hown hK hP 0 rfl rfl 0 (by decide) (hw k_To_f12) (fun _ h9 => h9) rfl d_To_make_37 ?_
  have hPc : va_P D vwCl [(d, .inr (0, [.ref dn, .ref df, .ref di, .ref dl, .ref dm, .int (zI ((nc : Nat) : Int)), .int (zI ((1 : Nat) : Int))])), (dn, .inl (c 0, 255, .inl (fun j => zI ((nm j : Nat) : Int)))), (df, .inr (3, [.ref dfw])), (dfw, .inl (c 2, 4 * 255, .inr (.inl fw))), (di, .inr (3, [.ref diw])), (diw, .inl (c 2, 4 * 40, .inr (.inl iw))), (dl, .inr (3, [.ref dlw])), (dlw, .inl (c 2, 4 * 40, .inr (.inl lw))), (dm, .inl (c 1, 40, .inl (fun j => zB (mb j))))] s.heap := hP.sub (ws' := [(d, .inr (0, [.ref dn, .ref df, .ref di, .ref dl, .ref dm, .int (zI ((nc : Nat) : Int)), .int (zI ((1 : Nat) : Int))])), (dn, .inl (c 0, 255, .inl (fun j => zI ((nm j : Nat) : Int)))), (df, .inr (3, [.ref dfw])), (dfw, .inl (c 2, 4 * 255, .inr (.inl fw))), (di, .inr (3, [.ref diw])), (diw, .inl (c 2, 4 * 40, .inr (.inl iw))), (dl, .inr (3, [.ref dlw])), (dlw, .inl (c 2, 4 * 40, .inr (.inl lw))), (dm, .inl (c 1, 40, .inl (fun j => zB (mb j))))]) [2, 3, 4, 5, 6, 7, 8, 9, 10] rfl
  have hDc : va_D A [(d, .inr (0, [.ref dn, .ref df, .ref di, .ref dl, .ref dm, .int (zI ((nc : Nat) : Int)), .int (zI ((1 : Nat) : Int))])), (dn, .inl (c 0, 255, .inl (fun j => zI ((nm j : Nat) : Int)))), (df, .inr (3, [.ref dfw])), (dfw, .inl (c 2, 4 * 255, .inr (.inl fw))), (di, .inr (3, [.ref diw])), (diw, .inl (c 2, 4 * 40, .inr (.inl iw))), (dl, .inr (3, [.ref dlw])), (dlw, .inl (c 2, 4 * 40, .inr (.inl lw))), (dm, .inl (c 1, 40, .inl (fun j => zB (mb j))))] := hD.sub (ws' := [(d, .inr (0, [.ref dn, .ref df, .ref di, .ref dl, .ref dm, .int (zI ((nc : Nat) : Int)), .int (zI ((1 : Nat) : Int))])), (dn, .inl (c 0, 255, .inl (fun j => zI ((nm j : Nat) : Int)))), (df, .inr (3, [.ref dfw])), (dfw, .inl (c 2, 4 * 255, .inr (.inl fw))), (di, .inr (3, [.ref diw])), (diw, .inl (c 2, 4 * 40, .inr (.inl iw))), (dl, .inr (3, [.ref dlw])), (dlw, .inl (c 2, 4 * 40, .inr (.inl lw))), (dm, .inl (c 1, 40, .inl (fun j => zB (mb j))))]) [2, 3, 4, 5, 6, 7, 8, 9, 10] (by decide) rfl
  have hDt : va_D (fun _ => True) [(d, .inr (0, [.ref dn, .ref df, .ref di, .ref dl, .ref dm, .int (zI ((nc : Nat) : Int)), .int (zI ((1 : Nat) : Int))])), (dn, .inl (c 0, 255, .inl (fun j => zI ((nm j : Nat) : Int)))), (df, .inr (3, [.ref dfw])), (dfw, .inl (c 2, 4 * 255, .inr (.inl fw))), (di, .inr (3, [.ref diw])), (diw, .inl (c 2, 4 * 40, .inr (.inl iw))), (dl, .inr (3, [.ref dlw])), (dlw, .inl (c 2, 4 * 40, .inr (.inl lw))), (dm, .inl (c 1, 40, .inl (fun j => zB (mb j))))] := hDc.weaken (fun _ _ _ _ => trivial)
  have hFc := va_free (wc := [(d, .inr (0, [.ref dn, .ref df, .ref di, .ref dl, .ref dm, .int (zI ((nc : Nat) : Int)), .int (zI ((1 : Nat) : Int))])), (dn, .inl (c 0, 255, .inl (fun j => zI ((nm j : Nat) : Int)))), (df, .inr (3, [.ref dfw])), (dfw, .inl (c 2, 4 * 255, .inr (.inl fw))), (di, .inr (3, [.ref diw])), (diw, .inl (c 2, 4 * 40, .inr (.inl iw))), (dl, .inr (3, [.ref dlw])), (dlw, .inl (c 2, 4 * 40, .inr (.inl lw))), (dm, .inl (c 1, 40, .inl (fun j => zB (mb j))))]) hD hS hA [2, 3, 4, 5, 6, 7, 8, 9, 10] rfl
  refine va_callr (va_runV (rm := rm_toModel) (As := []) (rest := [.int (zI ((mk : Nat) : Int)), .ref xm]) ⟨hx, hb, hml, hown, hts⟩ (c_toModel l D c d dn df dfw di diw dl dlw dm nm fw iw lw mb nc 1 s.heap.size (by omega) hnm) (cwV 0 hts (gWV k_To_m56 k_i_Dr_toModel k_v_Dr_toModel k_n_Dr k_c_Dr_toModel) rfl rfl rfl (by decide +kernel) ⟨Nat.le_of_ble_eq_true rfl, Nat.le_of_ble_eq_true rfl⟩) ⟨zblindA, va_recv hK hPc (ci := 0) (q0 := 0) rfl rfl, fun U hU hW => ⟨rfl, ⟨by rw [hU], by rw [hU]; exact hPc, hDt⟩, hKN.moved hW⟩⟩ rfl rfl hl.1 rfl (lv_room (Nat.le_of_ble_eq_true rfl)) d_To_make_40 ⟨Nat.le_of_ble_eq_true rfl, Nat.le_of_ble_eq_true rfl⟩) hS (fun q _ h => hFc q h) hFc (fun u mo t9 H1 locs ht hvm hso hB hz1 hk1 hS => ?_)
  obtain ⟨me, ms, msw, en2⟩ := u
  have hso : srt (tmN nm nc) en2 nc := hso
  obtain ⟨hP1, hD1⟩ := hB
  rw [ht] at hP1
  obtain ⟨hP, hD⟩ := va_join (wr := [(x, .inr (4, [.ref d, .ref xm, .ref rd, .int (zI ((mk : Nat) : Int))])), (xm, .inl (c 3, 50, .inr (.inr (.inr (.inr mg)))))]) (w1 := [(d, .inr (0, [.ref dn, .ref df, .ref di, .ref dl, .ref dm, .int (zI ((nc : Nat) : Int)), .int (zI ((1 : Nat) : Int))])), (dn, .inl (c 0, 255, .inl (fun j => zI ((nm j : Nat) : Int)))), (df, .inr (3, [.ref dfw])), (dfw, .inl (c 2, 4 * 255, .inr (.inl fw))), (di, .inr (3, [.ref diw])), (diw, .inl (c 2, 4 * 40, .inr (.inl iw))), (dl, .inr (3, [.ref dlw])), (dlw, .inl (c 2, 4 * 40, .inr (.inl lw))), (dm, .inl (c 1, 40, .inl (fun j => zB (mb j)))), (mo, .inr (1, [.ref me, .ref ms, .int (zB (!twA en2 (tmE fw iw lw (mb 0) nc) nc (nc + 1)))])), (me, .inl (c 0, nc, .inl (fun j => zI ((en2 j : Nat) : Int)))), (ms, .inr (3, [.ref msw])), (msw, .inl (c 2, 4 * (nc + 1), .inr (.inl (tmE fw iw lw (mb 0) nc))))]) hP hD [2, 3, 4, 5, 6, 7, 8, 9, 10] [0, 1] rfl rfl (by decide) (by decide) hk1 hFc hP1 hD1
  generalize H1 = H at hP hS ⊢
  have hP : va_P D vwCl [(x, .inr (4, [.ref d, .ref xm, .ref rd, .int (zI ((mk : Nat) : Int))])), (xm, .inl (c 3, 50, .inr (.inr (.inr (.inr mg))))), (d, .inr (0, [.ref dn, .ref df, .ref di, .ref dl, .ref dm, .int (zI ((nc : Nat) : Int)), .int (zI ((1 : Nat) : Int))])), (dn, .inl (c 0, 255, .inl (fun j => zI ((nm j : Nat) : Int)))), (df, .inr (3, [.ref dfw])), (dfw, .inl (c 2, 4 * 255, .inr (.inl fw))), (di, .inr (3, [.ref diw])), (diw, .inl (c 2, 4 * 40, .inr (.inl iw))), (dl, .inr (3, [.ref dlw])), (dlw, .inl (c 2, 4 * 40, .inr (.inl lw))), (dm, .inl (c 1, 40, .inl (fun j => zB (mb j)))), (mo, .inr (1, [.ref me, .ref ms, .int (zB (!twA en2 (tmE fw iw lw (mb 0) nc) nc (nc + 1)))])), (me, .inl (c 0, nc, .inl (fun j => zI ((en2 j : Nat) : Int)))), (ms, .inr (3, [.ref msw])), (msw, .inl (c 2, 4 * (nc + 1), .inr (.inl (tmE fw iw lw (mb 0) nc))))] H := hP.sub [0, 1, 2, 3, 4, 5, 6, 7, 8, 9, 10, 11, 12, 13, 14] rfl
  have hD : va_D A [(x, .inr (4, [.ref d, .ref xm, .ref rd, .int (zI ((mk : Nat) : Int))])), (xm, .inl (c 3, 50, .inr (.inr (.inr (.inr mg))))), (d, .inr (0, [.ref dn, .ref df, .ref di, .ref dl, .ref dm, .int (zI ((nc : Nat) : Int)), .int (zI ((1 : Nat) : Int))])), (dn, .inl (c 0, 255, .inl (fun j => zI ((nm j : Nat) : Int)))), (df, .inr (3, [.ref dfw])), (dfw, .inl (c 2, 4 * 255, .inr (.inl fw))), (di, .inr (3, [.ref diw])), (diw, .inl (c 2, 4 * 40, .inr (.inl iw))), (dl, .inr (3, [.ref dlw])), (dlw, .inl (c 2, 4 * 40, .inr (.inl lw))), (dm, .inl (c 1, 40, .inl (fun j => zB (mb j)))), (mo, .inr (1, [.ref me, .ref ms, .int (zB (!twA en2 (tmE fw iw lw (mb 0) nc) nc (nc + 1)))])), (me, .inl (c 0, nc, .inl (fun j => zI ((en2 j : Nat) : Int)))), (ms, .inr (3, [.ref msw])), (msw, .inl (c 2, 4 * (nc + 1), .inr (.inl (tmE fw iw lw (mb 0) nc))))] := hD.sub [0, 1, 2, 3, 4, 5, 6, 7, 8, 9, 10, 11, 12, 13, 14] (by decide) rfl
  refine W.widen (k := 4) (n := 1283) (by omega) (by omega) ?_
  refine z_aast hx hb hK hP hD hS 1 3 11 1 rfl rfl rfl rfl (mk) (by omega) (by omega) (by omega) d_To_make_43 (fun H locs hP hD hS => ?_)
  have hP : va_P D vwCl [(x, .inr (4, [.ref d, .ref xm, .ref rd, .int (zI ((mk : Nat) : Int))])), (xm, .inl (c 3, 50, .inr (.inr (.inr (.inr (va_up mg mk (some mo))))))), (d, .inr (0, [.ref dn, .ref df, .ref di, .ref dl, .ref dm, .int (zI ((nc : Nat) : Int)), .int (zI ((1 : Nat) : Int))])), (dn, .inl (c 0, 255, .inl (fun j => zI ((nm j : Nat) : Int)))), (df, .inr (3, [.ref dfw])), (dfw, .inl (c 2, 4 * 255, .inr (.inl fw))), (di, .inr (3, [.ref diw])), (diw, .inl (c 2, 4 * 40, .inr (.inl iw))), (dl, .inr (3, [.ref dlw])), (dlw, .inl (c 2, 4 * 40, .inr (.inl lw))), (dm, .inl (c 1, 40, .inl (fun j => zB (mb j)))), (mo, .inr (1, [.ref me, .ref ms, .int (zB (!twA en2 (tmE fw iw lw (mb 0) nc) nc (nc + 1)))])), (me, .inl (c 0, nc, .inl (fun j => zI ((en2 j : Nat) : Int)))), (ms, .inr (3, [.ref msw])), (msw, .inl (c 2, 4 * (nc + 1), .inr (.inl (tmE fw iw lw (mb 0) nc))))] H := hP
  have hD : va_D A [(x, .inr (4, [.ref d, .ref xm, .ref rd, .int (zI ((mk : Nat) : Int))])), (xm, .inl (c 3, 50, .inr (.inr (.inr (.inr (va_up mg mk (some mo))))))), (d, .inr (0, [.ref dn, .ref df, .ref di, .ref dl, .ref dm, .int (zI ((nc : Nat) : Int)), .int (zI ((1 : Nat) : Int))])), (dn, .inl (c 0, 255, .inl (fun j => zI ((nm j : Nat) : Int)))), (df, .inr (3, [.ref dfw])), (dfw, .inl (c 2, 4 * 255, .inr (.inl fw))), (di, .inr (3, [.ref diw])), (diw, .inl (c 2, 4 * 40, .inr (.inl iw))), (dl, .inr (3, [.ref dlw])), (dlw, .inl (c 2, 4 * 40, .inr (.inl lw))), (dm, .inl (c 1, 40, .inl (fun j => zB (mb j)))), (mo, .inr (1, [.ref me, .ref ms, .int (zB (!twA en2 (tmE fw iw lw (mb 0) nc) nc (nc + 1)))])), (me, .inl (c 0, nc, .inl (fun j => zI ((en2 j : Nat) : Int)))), (ms, .inr (3, [.ref msw])), (msw, .inl (c 2, 4 * (nc + 1), .inr (.inl (tmE fw iw lw (mb 0) nc))))] := hD
  refine lv_aload_n hx hb d_To_make_44 rfl (lv_at hl 1 rfl) ?_
  refine lv_iload_n hx hb d_To_make_45 rfl (lv_at hl 0 rfl) ?_
  refine lv_iconst (v := zI 1) hx hb d_To_make_46 (by decide) ?_
  refine z_iadd hx hb d_To_make_47 ?_
  refine z_top (v2 := .int (zI ((mk + 1 : Nat) : Int))) (congrArg Value.int (congrArg zI (by omega))) ?_
  refine va_put (D := D) (ci := 4) (v := .int (zI ((mk + 1 : Nat) : Int))) (ty := .int) (C := R_To) (T := T_To) (N := 4) hx hb hts (fun w h => List.mem_cons_of_mem _ (inA_To w h)) ty_To tyok_To nm_To hown hK hP hD hS 0 rfl rfl 3 (by decide) (hw k_To_f29) (fun _ h9 => h9) rfl (by decide +kernel) rfl rfl (Nat.le_of_ble_eq_true rfl) d_To_make_48 (fun H locs hP hD hS => ?_)
  have hP : va_P D vwCl [(x, .inr (4, [.ref d, .ref xm, .ref rd, .int (zI ((mk + 1 : Nat) : Int))])), (xm, .inl (c 3, 50, .inr (.inr (.inr (.inr (va_up mg mk (some mo))))))), (d, .inr (0, [.ref dn, .ref df, .ref di, .ref dl, .ref dm, .int (zI ((nc : Nat) : Int)), .int (zI ((1 : Nat) : Int))])), (dn, .inl (c 0, 255, .inl (fun j => zI ((nm j : Nat) : Int)))), (df, .inr (3, [.ref dfw])), (dfw, .inl (c 2, 4 * 255, .inr (.inl fw))), (di, .inr (3, [.ref diw])), (diw, .inl (c 2, 4 * 40, .inr (.inl iw))), (dl, .inr (3, [.ref dlw])), (dlw, .inl (c 2, 4 * 40, .inr (.inl lw))), (dm, .inl (c 1, 40, .inl (fun j => zB (mb j)))), (mo, .inr (1, [.ref me, .ref ms, .int (zB (!twA en2 (tmE fw iw lw (mb 0) nc) nc (nc + 1)))])), (me, .inl (c 0, nc, .inl (fun j => zI ((en2 j : Nat) : Int)))), (ms, .inr (3, [.ref msw])), (msw, .inl (c 2, 4 * (nc + 1), .inr (.inl (tmE fw iw lw (mb 0) nc))))] H := hP
  have hD : va_D A [(x, .inr (4, [.ref d, .ref xm, .ref rd, .int (zI ((mk + 1 : Nat) : Int))])), (xm, .inl (c 3, 50, .inr (.inr (.inr (.inr (va_up mg mk (some mo))))))), (d, .inr (0, [.ref dn, .ref df, .ref di, .ref dl, .ref dm, .int (zI ((nc : Nat) : Int)), .int (zI ((1 : Nat) : Int))])), (dn, .inl (c 0, 255, .inl (fun j => zI ((nm j : Nat) : Int)))), (df, .inr (3, [.ref dfw])), (dfw, .inl (c 2, 4 * 255, .inr (.inl fw))), (di, .inr (3, [.ref diw])), (diw, .inl (c 2, 4 * 40, .inr (.inl iw))), (dl, .inr (3, [.ref dlw])), (dlw, .inl (c 2, 4 * 40, .inr (.inl lw))), (dm, .inl (c 1, 40, .inl (fun j => zB (mb j)))), (mo, .inr (1, [.ref me, .ref ms, .int (zB (!twA en2 (tmE fw iw lw (mb 0) nc) nc (nc + 1)))])), (me, .inl (c 0, nc, .inl (fun j => zI ((en2 j : Nat) : Int)))), (ms, .inr (3, [.ref msw])), (msw, .inl (c 2, 4 * (nc + 1), .inr (.inl (tmE fw iw lw (mb 0) nc))))] := hD
  refine lv_aload_n hx hb d_To_make_51 rfl (lv_at hl 1 rfl) ?_
  refine va_get (D := D) (ci := 4) (v := .ref d) (C := R_To) (T := T_To) (N := 4) hx hb hts (fun w h => List.mem_cons_of_mem _ (inA_To w h)) hown hK hP 0 rfl rfl 0 (by decide) (hw k_To_f12) (fun _ h9 => h9) rfl d_To_make_52 ?_
  have hPc : va_P D vwCl [(d, .inr (0, [.ref dn, .ref df, .ref di, .ref dl, .ref dm, .int (zI ((nc : Nat) : Int)), .int (zI ((1 : Nat) : Int))]))] H := hP.sub (ws' := [(d, .inr (0, [.ref dn, .ref df, .ref di, .ref dl, .ref dm, .int (zI ((nc : Nat) : Int)), .int (zI ((1 : Nat) : Int))]))]) [2] rfl
  have hDc : va_D A [(d, .inr (0, [.ref dn, .ref df, .ref di, .ref dl, .ref dm, .int (zI ((nc : Nat) : Int)), .int (zI ((1 : Nat) : Int))]))] := hD.sub (ws' := [(d, .inr (0, [.ref dn, .ref df, .ref di, .ref dl, .ref dm, .int (zI ((nc : Nat) : Int)), .int (zI ((1 : Nat) : Int))]))]) [2] (by decide) rfl
  have hDt : va_D (fun _ => True) [(d, .inr (0, [.ref dn, .ref df, .ref di, .ref dl, .ref dm, .int (zI ((nc : Nat) : Int)), .int (zI ((1 : Nat) : Int))]))] := hDc.weaken (fun _ _ _ _ => trivial)
  refine z_callv (S := Unit) (w1 := fun u => [(d, .inr (0, [.ref dn, .ref df, .ref di, .ref dl, .ref dm, .int (zI 0), .int (zI 0)]))]) (post := fun u => True) (wc := [(d, .inr (0, [.ref dn, .ref df, .ref di, .ref dl, .ref dm, .int (zI ((nc : Nat) : Int)), .int (zI ((1 : Nat) : Int))]))]) [2] rfl (fun _ => rfl) hP hD hS (va_runV (rm := rm_dropAll) (As := []) (rest := []) ⟨hx, hb, hml, hown, hts⟩ (c_dropAll l D c d dn df dfw di diw dl dlw dm nm fw iw lw mb nc 1) (cwV 0 hts (gWV k_To_m53 k_i_Dr_dropAll k_v_Dr_dropAll k_n_Dr k_c_Dr_dropAll) rfl rfl rfl (by decide +kernel) ⟨Nat.le_of_ble_eq_true rfl, Nat.le_of_ble_eq_true rfl⟩) ⟨zblindW, va_recv hK hPc (ci := 0) (q0 := 0) rfl rfl, fun U hU hW => ⟨rfl, ⟨by rw [hU]; exact hPc, hDt⟩, hKN.moved hW⟩⟩ rfl rfl hl.1 rfl (lv_room (Nat.le_of_ble_eq_true rfl)) d_To_make_55 ⟨Nat.le_of_ble_eq_true rfl, Nat.le_of_ble_eq_true rfl⟩) (fun u H locs hp_3 hP hD hS => ?_)
  have hP : va_P D vwCl [(x, .inr (4, [.ref d, .ref xm, .ref rd, .int (zI ((mk + 1 : Nat) : Int))])), (xm, .inl (c 3, 50, .inr (.inr (.inr (.inr (va_up mg mk (some mo))))))), (d, .inr (0, [.ref dn, .ref df, .ref di, .ref dl, .ref dm, .int (zI 0), .int (zI 0)])), (dn, .inl (c 0, 255, .inl (fun j => zI ((nm j : Nat) : Int)))), (df, .inr (3, [.ref dfw])), (dfw, .inl (c 2, 4 * 255, .inr (.inl fw))), (di, .inr (3, [.ref diw])), (diw, .inl (c 2, 4 * 40, .inr (.inl iw))), (dl, .inr (3, [.ref dlw])), (dlw, .inl (c 2, 4 * 40, .inr (.inl lw))), (dm, .inl (c 1, 40, .inl (fun j => zB (mb j)))), (mo, .inr (1, [.ref me, .ref ms, .int (zB (!twA en2 (tmE fw iw lw (mb 0) nc) nc (nc + 1)))])), (me, .inl (c 0, nc, .inl (fun j => zI ((en2 j : Nat) : Int)))), (ms, .inr (3, [.ref msw])), (msw, .inl (c 2, 4 * (nc + 1), .inr (.inl (tmE fw iw lw (mb 0) nc))))] H := hP
  have hD : va_D A [(x, .inr (4, [.ref d, .ref xm, .ref rd, .int (zI ((mk + 1 : Nat) : Int))])), (xm, .inl (c 3, 50, .inr (.inr (.inr (.inr (va_up mg mk (some mo))))))), (d, .inr (0, [.ref dn, .ref df, .ref di, .ref dl, .ref dm, .int (zI 0), .int (zI 0)])), (dn, .inl (c 0, 255, .inl (fun j => zI ((nm j : Nat) : Int)))), (df, .inr (3, [.ref dfw])), (dfw, .inl (c 2, 4 * 255, .inr (.inl fw))), (di, .inr (3, [.ref diw])), (diw, .inl (c 2, 4 * 40, .inr (.inl iw))), (dl, .inr (3, [.ref dlw])), (dlw, .inl (c 2, 4 * 40, .inr (.inl lw))), (dm, .inl (c 1, 40, .inl (fun j => zB (mb j)))), (mo, .inr (1, [.ref me, .ref ms, .int (zB (!twA en2 (tmE fw iw lw (mb 0) nc) nc (nc + 1)))])), (me, .inl (c 0, nc, .inl (fun j => zI ((en2 j : Nat) : Int)))), (ms, .inr (3, [.ref msw])), (msw, .inl (c 2, 4 * (nc + 1), .inr (.inl (tmE fw iw lw (mb 0) nc))))] := hD
  refine lv_iload_n hx hb d_To_make_58 rfl (lv_at hl 0 rfl) ?_
  subst hQ
  refine W.widen (k := 4) (n := 1283) (by omega) (by omega) ?_
  exact W.iret (v := (zI ((mk : Nat) : Int))) hx hb hr (fun t9 ht hW => ⟨⟨_, (mo, me, ms, msw, en2), rfl, ⟨rfl, hso⟩, by show va_P _ _ _ t9.heap; rw [ht]; exact hP.sub [0, 1, 2, 3, 4, 5, 6, 7, 8, 9, 10, 11, 12, 13, 14] rfl, by exact hD.sub [0, 1, 2, 3, 4, 5, 6, 7, 8, 9, 10, 11, 12, 13, 14] (by decide) rfl⟩, hS.F ht⟩) hS.2.2 d_To_make_59

def rm_modelAt_no : Room := { frames := 0, cells := 0, slots := 0, locals := 0 }
set_option maxHeartbeats 4000000 in
set_option maxRecDepth 100000 in
/-- modelAt, none such -/
theorem c_modelAt_no (l : Launch) (D : va_G) (c : Nat → ClassId) (x : Nat) (xm : Nat) (d : Nat) (rd : Nat) (mg : Nat → Option Nat) (mk : Nat) (y : Int) (hy : -2147483648 ≤ y ∧ y < 2147483648) (hm : mk ≤ 50) (hno : y < 0 ∨ (mk : Int) ≤ y) : Met l y_To_modelAt w_To_modelAt rm_modelAt_no (va_Pc [.ref x, .int (zI y)] (fun U => va_P D vwCl [(x, .inr (4, [.ref d, .ref xm, .ref rd, .int (zI ((mk : Nat) : Int))])), (xm, .inl (c 3, 50, .inr (.inr (.inr (.inr mg)))))] U.heap ∧ zK D c U)) (va_Sq (fun r => r = none)) 0 0 (fun _ => False) := by
  refine Met.ofW (cc := b_To_modelAt) (maxL := 2) (ret := (some (.object "RowModels$Model"))) (by decide) rfl ?_
  intro p e s m args below meth c0 s₁ B hml hv
  obtain ⟨rfl, hP, hKN⟩ := hv
  have hK := hKN.1
  have hN := hKN.2
  have hx := B.exec
  have hb := B.bytes
  have hr := B.returns
  have hts := atoms_spec (ws := w_To_modelAt) B.pre
  have hw : ∀ {w : Cond}, w ∈ ALLW → w.before _ s = true := fun h => hts _ (List.mem_cons_of_mem _ h)
  have hown : s.vm.findClass R_To = some m.cls := findClass_of_methodNamed B.named
  have hlocks := B.notSynchronized
  have hl := lv_entry ([.ref x, .int (zI y)]) (n := 2) (Nat.le_of_ble_eq_true rfl)
  rw [lg_entry_eq]
  generalize (lg_sl ([.ref x, .int (zI y)]) ++ List.replicate (2 - (lg_sl ([.ref x, .int (zI y)])).length) Slot.unset).toArray = ls at hl ⊢
  have hl : lv_has ls 2 [(0, .ref x), (1, .int (zI y))] := hl
  generalize hQ : MQ below _ _ _ _ _ _ = Q
  refine lv_iload_n hx hb d_To_modelAt_0 rfl (lv_at hl 1 rfl) ?_
  refine z_if_lt (tgt := 30) hx hb (by omega) d_To_modelAt_1 (by decide) (fun hc_1 => ?_) (fun hc_1 => ?_)
  · refine lv_null hx hb d_To_modelAt_30 ?_
    subst hQ
    exact W.aret (v := .null) hx hb hr (Or.inl ⟨_, rfl⟩) (Or.inl rfl) (fun t9 ht hW => ⟨_, rfl, rfl, ht⟩) (fun q hq => absurd hq List.not_mem_nil) d_To_modelAt_31
  · refine lv_iload_n hx hb d_To_modelAt_4 rfl (lv_at hl 1 rfl) ?_
    refine lv_aload_n hx hb d_To_modelAt_5 rfl (lv_at hl 0 rfl) ?_
    refine va_get (D := D) (ci := 4) (v := .int (zI ((mk : Nat) : Int))) (C := R_To) (T := T_To) (N := 4) hx hb hts (fun w h => List.mem_cons_of_mem _ (inA_To w h)) hown hK hP 0 rfl rfl 3 (by decide) (hw k_To_f29) (fun _ h9 => h9) rfl d_To_modelAt_6 ?_
    refine z_icmp_ge (tgt := 30) hx hb (by omega) d_To_modelAt_9 (by decide) (fun hc_9 => ?_) (fun hc_9 => absurd hc_9 (by omega))
    refine lv_null hx hb d_To_modelAt_30 ?_
    subst hQ
    exact W.aret (v := .null) hx hb hr (Or.inl ⟨_, rfl⟩) (Or.inl rfl) (fun t9 ht hW => ⟨_, rfl, rfl, ht⟩) (fun q hq => absurd hq List.not_mem_nil) d_To_modelAt_31

def rm_modelAt : Room := { frames := 0, cells := 0, slots := 0, locals := 0 }
set_option maxHeartbeats 4000000 in
set_option maxRecDepth 100000 in
/-- modelAt -/
theorem c_modelAt (l : Launch) (D : va_G) (c : Nat → ClassId) (x : Nat) (xm : Nat) (d : Nat) (rd : Nat) (mg : Nat → Option Nat) (mk : Nat) (k : Nat) (mo : Nat) (hm : mk ≤ 50) (hk : k < mk) (hmo : mg k = some mo) : Met l y_To_modelAt w_To_modelAt rm_modelAt (va_Pc [.ref x, .int (zI ((k : Nat) : Int))] (fun U => va_P D vwCl [(x, .inr (4, [.ref d, .ref xm, .ref rd, .int (zI ((mk : Nat) : Int))])), (xm, .inl (c 3, 50, .inr (.inr (.inr (.inr mg)))))] U.heap ∧ zK D c U)) (va_Sq (fun r => r = some mo)) 0 0 (fun _ => False) := by
  refine Met.ofW (cc := b_To_modelAt) (maxL := 2) (ret := (some (.object "RowModels$Model"))) (by decide) rfl ?_
  intro p e s m args below meth c0 s₁ B hml hv
  obtain ⟨rfl, hP, hKN⟩ := hv
  have hK := hKN.1
  have hN := hKN.2
  have hx := B.exec
  have hb := B.bytes
  have hr := B.returns
  have hts := atoms_spec (ws := w_To_modelAt) B.pre
  have hw : ∀ {w : Cond}, w ∈ ALLW → w.before _ s = true := fun h => hts _ (List.mem_cons_of_mem _ h)
  have hown : s.vm.findClass R_To = some m.cls := findClass_of_methodNamed B.named
  have hlocks := B.notSynchronized
  have hl := lv_entry ([.ref x, .int (zI ((k : Nat) : Int))]) (n := 2) (Nat.le_of_ble_eq_true rfl)
  rw [lg_entry_eq]
  generalize (lg_sl ([.ref x, .int (zI ((k : Nat) : Int))]) ++ List.replicate (2 - (lg_sl ([.ref x, .int (zI ((k : Nat) : Int))])).length) Slot.unset).toArray = ls at hl ⊢
  have hl : lv_has ls 2 [(0, .ref x), (1, .int (zI ((k : Nat) : Int)))] := hl
  generalize hQ : MQ below _ _ _ _ _ _ = Q
  refine lv_iload_n hx hb d_To_modelAt_0 rfl (lv_at hl 1 rfl) ?_
  refine z_if_lt (tgt := 30) hx hb (by omega) d_To_modelAt_1 (by decide) (fun hc_1 => absurd hc_1 (by omega)) (fun hc_1 => ?_)
  refine lv_iload_n hx hb d_To_modelAt_4 rfl (lv_at hl 1 rfl) ?_
  refine lv_aload_n hx hb d_To_modelAt_5 rfl (lv_at hl 0 rfl) ?_
  refine va_get (D := D) (ci := 4) (v := .int (zI ((mk : Nat) : Int))) (C := R_To) (T := T_To) (N := 4) hx hb hts (fun w h => List.mem_cons_of_mem _ (inA_To w h)) hown hK hP 0 rfl rfl 3 (by decide) (hw k_To_f29) (fun _ h9 => h9) rfl d_To_modelAt_6 ?_
  refine z_icmp_ge (tgt := 30) hx hb (by omega) d_To_modelAt_9 (by decide) (fun hc_9 => absurd hc_9 (by omega)) (fun hc_9 => ?_)
  refine lv_iload_n hx hb d_To_modelAt_12 rfl (lv_at hl 1 rfl) ?_
  refine lv_aload_n hx hb d_To_modelAt_13 rfl (lv_at hl 0 rfl) ?_
  refine va_get (D := D) (ci := 4) (v := .ref xm) (C := R_To) (T := T_To) (N := 4) hx hb hts (fun w h => List.mem_cons_of_mem _ (inA_To w h)) hown hK hP 0 rfl rfl 1 (by decide) (hw k_To_f18) (fun _ h9 => h9) rfl d_To_modelAt_14 ?_
  refine z_alen hx hb hK hP 1 3 rfl rfl d_To_modelAt_17 ?_
  refine z_top (v2 := .int (zI (50 : Int))) rfl ?_
  refine z_icmp_ge (tgt := 30) hx hb (by omega) d_To_modelAt_18 (by decide) (fun hc_18 => absurd hc_18 (by omega)) (fun hc_18 => ?_)
  refine lv_aload_n hx hb d_To_modelAt_21 rfl (lv_at hl 0 rfl) ?_
  refine va_get (D := D) (ci := 4) (v := .ref xm) (C := R_To) (T := T_To) (N := 4) hx hb hts (fun w h => List.mem_cons_of_mem _ (inA_To w h)) hown hK hP 0 rfl rfl 1 (by decide) (hw k_To_f18) (fun _ h9 => h9) rfl d_To_modelAt_22 ?_
  refine lv_iload_n hx hb d_To_modelAt_25 rfl (lv_at hl 1 rfl) ?_
  refine z_aald hx hb hK hP 1 3 rfl rfl (k) (by omega) (by omega) (by omega) d_To_modelAt_26 ?_
  refine z_top (v2 := .ref mo) (by rw [hmo]; rfl) ?_
  refine lv_goto (tgt := 31) hx hb d_To_modelAt_27 (by decide) ?_
  subst hQ
  exact W.aret (v := .ref mo) hx hb hr (Or.inl ⟨_, rfl⟩) (Or.inr ⟨_, rfl⟩) (fun t9 ht hW => ⟨_, rfl, rfl, ht⟩) (fun q hq => absurd hq List.not_mem_nil) d_To_modelAt_31

def rm_size_no : Room := { frames := 1, cells := 0, slots := 0, locals := 21 }
set_option maxHeartbeats 4000000 in
set_option maxRecDepth 100000 in
/-- size, none such -/
theorem c_size_no (l : Launch) (D : va_G) (c : Nat → ClassId) (x : Nat) (xm : Nat) (d : Nat) (rd : Nat) (mg : Nat → Option Nat) (mk : Nat) (y : Int) (hy : -2147483648 ≤ y ∧ y < 2147483648) (hm : mk ≤ 50) (hno : y < 0 ∨ (mk : Int) ≤ y) : Met l y_To_size w_To_size rm_size_no (va_Pc [.ref x, .int (zI y)] (fun U => va_P D vwCl [(x, .inr (4, [.ref d, .ref xm, .ref rd, .int (zI ((mk : Nat) : Int))])), (xm, .inl (c 3, 50, .inr (.inr (.inr (.inr mg)))))] U.heap ∧ zK D c U)) (vp_Si (fun r => r = (zI (-1)))) 0 0 (fun _ => False) := by
  refine Met.ofW (cc := b_To_size) (maxL := 3) (ret := (some .int)) (by decide) rfl ?_
  intro p e s m args below meth c0 s₁ B hml hv
  obtain ⟨rfl, hP, hKN⟩ := hv
  have hK := hKN.1
  have hN := hKN.2
  have hx := B.exec
  have hb := B.bytes
  have hr := B.returns
  have hts := atoms_spec (ws := w_To_size) B.pre
  have hw : ∀ {w : Cond}, w ∈ ALLW → w.before _ s = true := fun h => hts _ (List.mem_cons_of_mem _ h)
  have hown : s.vm.findClass R_To = some m.cls := findClass_of_methodNamed B.named
  have hlocks := B.notSynchronized
  have hl := lv_entry ([.ref x, .int (zI y)]) (n := 3) (Nat.le_of_ble_eq_true rfl)
  rw [lg_entry_eq]
  generalize (lg_sl ([.ref x, .int (zI y)]) ++ List.replicate (3 - (lg_sl ([.ref x, .int (zI y)])).length) Slot.unset).toArray = ls at hl ⊢
  have hl : lv_has ls 3 [(0, .ref x), (1, .int (zI y))] := hl
  generalize hQ : MQ below _ _ _ _ _ _ = Q
  refine lv_aload_n hx hb d_To_size_0 rfl (lv_at hl 0 rfl) ?_
  refine lv_iload_n hx hb d_To_size_1 rfl (lv_at hl 1 rfl) ?_
  have hPc : va_P D vwCl [(x, .inr (4, [.ref d, .ref xm, .ref rd, .int (zI ((mk : Nat) : Int))])), (xm, .inl (c 3, 50, .inr (.inr (.inr (.inr mg)))))] s.heap := hP.sub (ws' := [(x, .inr (4, [.ref d, .ref xm, .ref rd, .int (zI ((mk : Nat) : Int))])), (xm, .inl (c 3, 50, .inr (.inr (.inr (.inr mg)))))]) [0, 1] rfl
  refine va_csq (va_runV (rm := rm_modelAt_no) (As := [.int (zI y)]) (rest := []) ⟨hx, hb, hml, hown, hts⟩ (c_modelAt_no l D c x xm d rd mg mk y (by omega) (by omega) hno) (cwV 1 hts (gWV k_To_m60 k_i_To_modelAt k_v_To_modelAt k_n_To k_c_To_modelAt) rfl rfl rfl (by decide +kernel) ⟨Nat.le_of_ble_eq_true rfl, Nat.le_of_ble_eq_true rfl⟩) ⟨zblind, va_recv hK hPc (ci := 4) (q0 := 0) rfl rfl, fun U hU hW => ⟨rfl, by rw [hU]; exact hPc, hKN.moved hW⟩⟩ rfl rfl hl.1 rfl (lv_room (Nat.le_of_ble_eq_true rfl)) d_To_size_2 ⟨Nat.zero_le _, Nat.zero_le _⟩).run (fun r hr_1 => ?_)
  subst hr_1
  refine z_top (v2 := .null) (rfl) ?_
  refine lv_astore_nN (lv' := [(2, .null), (0, .ref x), (1, .int (zI y))]) hx hb d_To_size_5 rfl hl (by decide) rfl (fun ls hl => ?_)
  refine lv_aload_nN hx hb d_To_size_6 rfl (lv_at hl 0 rfl) ?_
  refine lv_ifnonnullN hx hb d_To_size_7 ?_
  refine lv_iconst (v := zI (-1)) hx hb d_To_size_10 (by decide) ?_
  refine lv_goto (tgt := 19) hx hb d_To_size_11 (by decide) ?_
  subst hQ
  exact W.iret (v := (zI (-1))) hx hb hr (fun t9 ht hW => ⟨_, rfl, rfl, ht⟩) (fun q hq => absurd hq List.not_mem_nil) d_To_size_19

def rm_isDeterministic_no : Room := { frames := 1, cells := 0, slots := 0, locals := 21 }
set_option maxHeartbeats 4000000 in
set_option maxRecDepth 100000 in
/-- isDeterministic, none such -/
theorem c_isDeterministic_no (l : Launch) (D : va_G) (c : Nat → ClassId) (x : Nat) (xm : Nat) (d : Nat) (rd : Nat) (mg : Nat → Option Nat) (mk : Nat) (y : Int) (hy : -2147483648 ≤ y ∧ y < 2147483648) (hm : mk ≤ 50) (hno : y < 0 ∨ (mk : Int) ≤ y) : Met l y_To_isDeterministic w_To_isDeterministic rm_isDeterministic_no (va_Pc [.ref x, .int (zI y)] (fun U => va_P D vwCl [(x, .inr (4, [.ref d, .ref xm, .ref rd, .int (zI ((mk : Nat) : Int))])), (xm, .inl (c 3, 50, .inr (.inr (.inr (.inr mg)))))] U.heap ∧ zK D c U)) (vp_Si (fun r => r = (zB false))) 0 0 (fun _ => False) := by
  refine Met.ofW (cc := b_To_isDeterministic) (maxL := 3) (ret := (some .boolean)) (by decide) rfl ?_
  intro p e s m args below meth c0 s₁ B hml hv
  obtain ⟨rfl, hP, hKN⟩ := hv
  have hK := hKN.1
  have hN := hKN.2
  have hx := B.exec
  have hb := B.bytes
  have hr := B.returns
  have hts := atoms_spec (ws := w_To_isDeterministic) B.pre
  have hw : ∀ {w : Cond}, w ∈ ALLW → w.before _ s = true := fun h => hts _ (List.mem_cons_of_mem _ h)
  have hown : s.vm.findClass R_To = some m.cls := findClass_of_methodNamed B.named
  have hlocks := B.notSynchronized
  have hl := lv_entry ([.ref x, .int (zI y)]) (n := 3) (Nat.le_of_ble_eq_true rfl)
  rw [lg_entry_eq]
  generalize (lg_sl ([.ref x, .int (zI y)]) ++ List.replicate (3 - (lg_sl ([.ref x, .int (zI y)])).length) Slot.unset).toArray = ls at hl ⊢
  have hl : lv_has ls 3 [(0, .ref x), (1, .int (zI y))] := hl
  generalize hQ : MQ below _ _ _ _ _ _ = Q
  refine lv_aload_n hx hb d_To_isDeterministic_0 rfl (lv_at hl 0 rfl) ?_
  refine lv_iload_n hx hb d_To_isDeterministic_1 rfl (lv_at hl 1 rfl) ?_
  have hPc : va_P D vwCl [(x, .inr (4, [.ref d, .ref xm, .ref rd, .int (zI ((mk : Nat) : Int))])), (xm, .inl (c 3, 50, .inr (.inr (.inr (.inr mg)))))] s.heap := hP.sub (ws' := [(x, .inr (4, [.ref d, .ref xm, .ref rd, .int (zI ((mk : Nat) : Int))])), (xm, .inl (c 3, 50, .inr (.inr (.inr (.inr mg)))))]) [0, 1] rfl
  refine va_csq (va_runV (rm := rm_modelAt_no) (As := [.int (zI y)]) (rest := []) ⟨hx, hb, hml, hown, hts⟩ (c_modelAt_no l D c x xm d rd mg mk y (by omega) (by omega) hno) (cwV 1 hts (gWV k_To_m60 k_i_To_modelAt k_v_To_modelAt k_n_To k_c_To_modelAt) rfl rfl rfl (by decide +kernel) ⟨Nat.le_of_ble_eq_true rfl, Nat.le_of_ble_eq_true rfl⟩) ⟨zblind, va_recv hK hPc (ci := 4) (q0 := 0) rfl rfl, fun U hU hW => ⟨rfl, by rw [hU]; exact hPc, hKN.moved hW⟩⟩ rfl rfl hl.1 rfl (lv_room (Nat.le_of_ble_eq_true rfl)) d_To_isDeterministic_2 ⟨Nat.zero_le _, Nat.zero_le _⟩).run (fun r hr_1 => ?_)
  subst hr_1
  refine z_top (v2 := .null) (rfl) ?_
  refine lv_astore_nN (lv' := [(2, .null), (0, .ref x), (1, .int (zI y))]) hx hb d_To_isDeterministic_5 rfl hl (by decide) rfl (fun ls hl => ?_)
  refine lv_aload_nN hx hb d_To_isDeterministic_6 rfl (lv_at hl 0 rfl) ?_
  refine lv_ifnullN (tgt := 21) hx hb d_To_isDeterministic_7 (by decide) ?_
  refine lv_iconst (v := zI 0) hx hb d_To_isDeterministic_21 (by decide) ?_
  subst hQ
  exact W.zret (ty := .boolean) (v := (zI 0)) hx hb hr (by decide) (fun t9 ht hW => ⟨_, rfl, (by decide), ht⟩) (fun q hq => absurd hq List.not_mem_nil) d_To_isDeterministic_22

def rm_begin_no : Room := { frames := 1, cells := 0, slots := 0, locals := 21 }
set_option maxHeartbeats 4000000 in
set_option maxRecDepth 100000 in
/-- begin, none such -/
theorem c_begin_no (l : Launch) (D : va_G) (c : Nat → ClassId) (x : Nat) (xm : Nat) (d : Nat) (rd : Nat) (mg : Nat → Option Nat) (mk : Nat) (y : Int) (hy : -2147483648 ≤ y ∧ y < 2147483648) (hm : mk ≤ 50) (hno : y < 0 ∨ (mk : Int) ≤ y) : Met l y_To_begin w_To_begin rm_begin_no (va_Pc [.ref x, .int (zI y)] (fun U => va_P D vwCl [(x, .inr (4, [.ref d, .ref xm, .ref rd, .int (zI ((mk : Nat) : Int))])), (xm, .inl (c 3, 50, .inr (.inr (.inr (.inr mg)))))] U.heap ∧ zK D c U)) (vp_Si (fun r => r = (zB false))) 0 0 (fun _ => False) := by
  refine Met.ofW (cc := b_To_begin) (maxL := 3) (ret := (some .boolean)) (by decide) rfl ?_
  intro p e s m args below meth c0 s₁ B hml hv
  obtain ⟨rfl, hP, hKN⟩ := hv
  have hK := hKN.1
  have hN := hKN.2
  have hx := B.exec
  have hb := B.bytes
  have hr := B.returns
  have hts := atoms_spec (ws := w_To_begin) B.pre
  have hw : ∀ {w : Cond}, w ∈ ALLW → w.before _ s = true := fun h => hts _ (List.mem_cons_of_mem _ h)
  have hown : s.vm.findClass R_To = some m.cls := findClass_of_methodNamed B.named
  have hlocks := B.notSynchronized
  have hl := lv_entry ([.ref x, .int (zI y)]) (n := 3) (Nat.le_of_ble_eq_true rfl)
  rw [lg_entry_eq]
  generalize (lg_sl ([.ref x, .int (zI y)]) ++ List.replicate (3 - (lg_sl ([.ref x, .int (zI y)])).length) Slot.unset).toArray = ls at hl ⊢
  have hl : lv_has ls 3 [(0, .ref x), (1, .int (zI y))] := hl
  generalize hQ : MQ below _ _ _ _ _ _ = Q
  refine lv_aload_n hx hb d_To_begin_0 rfl (lv_at hl 0 rfl) ?_
  refine lv_iload_n hx hb d_To_begin_1 rfl (lv_at hl 1 rfl) ?_
  have hPc : va_P D vwCl [(x, .inr (4, [.ref d, .ref xm, .ref rd, .int (zI ((mk : Nat) : Int))])), (xm, .inl (c 3, 50, .inr (.inr (.inr (.inr mg)))))] s.heap := hP.sub (ws' := [(x, .inr (4, [.ref d, .ref xm, .ref rd, .int (zI ((mk : Nat) : Int))])), (xm, .inl (c 3, 50, .inr (.inr (.inr (.inr mg)))))]) [0, 1] rfl
  refine va_csq (va_runV (rm := rm_modelAt_no) (As := [.int (zI y)]) (rest := []) ⟨hx, hb, hml, hown, hts⟩ (c_modelAt_no l D c x xm d rd mg mk y (by omega) (by omega) hno) (cwV 1 hts (gWV k_To_m60 k_i_To_modelAt k_v_To_modelAt k_n_To k_c_To_modelAt) rfl rfl rfl (by decide +kernel) ⟨Nat.le_of_ble_eq_true rfl, Nat.le_of_ble_eq_true rfl⟩) ⟨zblind, va_recv hK hPc (ci := 4) (q0 := 0) rfl rfl, fun U hU hW => ⟨rfl, by rw [hU]; exact hPc, hKN.moved hW⟩⟩ rfl rfl hl.1 rfl (lv_room (Nat.le_of_ble_eq_true rfl)) d_To_begin_2 ⟨Nat.zero_le _, Nat.zero_le _⟩).run (fun r hr_1 => ?_)
  subst hr_1
  refine z_top (v2 := .null) (rfl) ?_
  refine lv_astore_nN (lv' := [(2, .null), (0, .ref x), (1, .int (zI y))]) hx hb d_To_begin_5 rfl hl (by decide) rfl (fun ls hl => ?_)
  refine lv_aload_nN hx hb d_To_begin_6 rfl (lv_at hl 0 rfl) ?_
  refine lv_ifnonnullN hx hb d_To_begin_7 ?_
  refine lv_iconst (v := zI 0) hx hb d_To_begin_10 (by decide) ?_
  subst hQ
  exact W.zret (ty := .boolean) (v := (zI 0)) hx hb hr (by decide) (fun t9 ht hW => ⟨_, rfl, (by decide), ht⟩) (fun q hq => absurd hq List.not_mem_nil) d_To_begin_11

def rm_size : Room := { frames := 1, cells := 0, slots := 0, locals := 21 }
set_option maxHeartbeats 4000000 in
set_option maxRecDepth 100000 in
/-- size -/
theorem c_size (l : Launch) (D : va_G) (c : Nat → ClassId) (x : Nat) (xm : Nat) (d : Nat) (rd : Nat) (mg : Nat → Option Nat) (mk : Nat) (k : Nat) (mo : Nat) (me : Nat) (ms : Nat) (msw : Nat) (en : Nat → Nat) (ne : Nat) (mf : Nat → Int64) (dt : Bool) (hm : mk ≤ 50) (hk : k < mk) (hmo : mg k = some mo) : Met l y_To_size w_To_size rm_size (va_Pc [.ref x, .int (zI ((k : Nat) : Int))] (fun U => va_P D vwCl [(x, .inr (4, [.ref d, .ref xm, .ref rd, .int (zI ((mk : Nat) : Int))])), (xm, .inl (c 3, 50, .inr (.inr (.inr (.inr mg))))), (mo, .inr (1, [.ref me, .ref ms, .int (zB dt)])), (me, .inl (c 0, ne, .inl (fun j => zI ((en j : Nat) : Int))))] U.heap ∧ zK D c U)) (vp_Si (fun r => r = (zI ((ne : Nat) : Int)))) 0 0 (fun _ => False) := by
  refine Met.ofW (cc := b_To_size) (maxL := 3) (ret := (some .int)) (by decide) rfl ?_
  intro p e s m args below meth c0 s₁ B hml hv
  obtain ⟨rfl, hP, hKN⟩ := hv
  have hK := hKN.1
  have hN := hKN.2
  have hx := B.exec
  have hb := B.bytes
  have hr := B.returns
  have hts := atoms_spec (ws := w_To_size) B.pre
  have hw : ∀ {w : Cond}, w ∈ ALLW → w.before _ s = true := fun h => hts _ (List.mem_cons_of_mem _ h)
  have hown : s.vm.findClass R_To = some m.cls := findClass_of_methodNamed B.named
  have hlocks := B.notSynchronized
  have hl := lv_entry ([.ref x, .int (zI ((k : Nat) : Int))]) (n := 3) (Nat.le_of_ble_eq_true rfl)
  rw [lg_entry_eq]
  generalize (lg_sl ([.ref x, .int (zI ((k : Nat) : Int))]) ++ List.replicate (3 - (lg_sl ([.ref x, .int (zI ((k : Nat) : Int))])).length) Slot.unset).toArray = ls at hl ⊢
  have hl : lv_has ls 3 [(0, .ref x), (1, .int (zI ((k : Nat) : Int)))] := hl
  generalize hQ : MQ below _ _ _ _ _ _ = Q
  refine lv_aload_n hx hb d_To_size_0 rfl (lv_at hl 0 rfl) ?_
  refine lv_iload_n hx hb d_To_size_1 rfl (lv_at hl 1 rfl) ?_
  have hPc : va_P D vwCl [(x, .inr (4, [.ref d, .ref xm, .ref rd, .int (zI ((mk : Nat) : Int))])), (xm, .inl (c 3, 50, .inr (.inr (.inr (.inr mg)))))] s.heap := hP.sub (ws' := [(x, .inr (4, [.ref d, .ref xm, .ref rd, .int (zI ((mk : Nat) : Int))])), (xm, .inl (c 3, 50, .inr (.inr (.inr (.inr mg)))))]) [0, 1] rfl
  refine va_csq (va_runV (rm := rm_modelAt) (As := [.int (zI ((k : Nat) : Int))]) (rest := []) ⟨hx, hb, hml, hown, hts⟩ (c_modelAt l D c x xm d rd mg mk k mo (by omega) (by omega) hmo) (cwV 1 hts (gWV k_To_m60 k_i_To_modelAt k_v_To_modelAt k_n_To k_c_To_modelAt) rfl rfl rfl (by decide +kernel) ⟨Nat.le_of_ble_eq_true rfl, Nat.le_of_ble_eq_true rfl⟩) ⟨zblind, va_recv hK hPc (ci := 4) (q0 := 0) rfl rfl, fun U hU hW => ⟨rfl, by rw [hU]; exact hPc, hKN.moved hW⟩⟩ rfl rfl hl.1 rfl (lv_room (Nat.le_of_ble_eq_true rfl)) d_To_size_2 ⟨Nat.zero_le _, Nat.zero_le _⟩).run (fun r hr_1 => ?_)
  subst hr_1
  refine z_top (v2 := .ref mo) (rfl) ?_
  refine lv_astore_n (lv' := [(2, .ref mo), (0, .ref x), (1, .int (zI ((k : Nat) : Int)))]) hx hb d_To_size_5 rfl hl (by decide) rfl (fun ls hl => ?_)
  refine lv_aload_n hx hb d_To_size_6 rfl (lv_at hl 0 rfl) ?_
  refine lv_ifnonnull (tgt := 14) hx hb d_To_size_7 (by decide) ?_
  refine lv_aload_n hx hb d_To_size_14 rfl (lv_at hl 0 rfl) ?_
  refine va_getN (D := D) (ci := 1) (v := .ref me) (C := R_Mo) (T := T_Mo) (N := 3) hx hb hts (fun w h => List.mem_cons_of_mem _ (inA_Mo w h)) hown hK hP 2 rfl rfl 0 (by decide) (va_Nw.use rfl hN.2.2.2.2.1) (fun _ h9 => h9) rfl d_To_size_15 ?_
  refine z_alen hx hb hK hP 3 0 rfl rfl d_To_size_18 ?_
  refine z_top (v2 := .int (zI ((ne : Nat) : Int))) rfl ?_
  subst hQ
  exact W.iret (v := (zI ((ne : Nat) : Int))) hx hb hr (fun t9 ht hW => ⟨_, rfl, rfl, ht⟩) (fun q hq => absurd hq List.not_mem_nil) d_To_size_19

def rm_isDeterministic : Room := { frames := 1, cells := 0, slots := 0, locals := 21 }
set_option maxHeartbeats 4000000 in
set_option maxRecDepth 100000 in
/-- isDeterministic -/
theorem c_isDeterministic (l : Launch) (D : va_G) (c : Nat → ClassId) (x : Nat) (xm : Nat) (d : Nat) (rd : Nat) (mg : Nat → Option Nat) (mk : Nat) (k : Nat) (mo : Nat) (me : Nat) (ms : Nat) (msw : Nat) (en : Nat → Nat) (ne : Nat) (mf : Nat → Int64) (dt : Bool) (hm : mk ≤ 50) (hk : k < mk) (hmo : mg k = some mo) : Met l y_To_isDeterministic w_To_isDeterministic rm_isDeterministic (va_Pc [.ref x, .int (zI ((k : Nat) : Int))] (fun U => va_P D vwCl [(x, .inr (4, [.ref d, .ref xm, .ref rd, .int (zI ((mk : Nat) : Int))])), (xm, .inl (c 3, 50, .inr (.inr (.inr (.inr mg))))), (mo, .inr (1, [.ref me, .ref ms, .int (zB dt)]))] U.heap ∧ zK D c U)) (vp_Si (fun r => r = (zB dt))) 0 0 (fun _ => False) := by
  refine Met.ofW (cc := b_To_isDeterministic) (maxL := 3) (ret := (some .boolean)) (by decide) rfl ?_
  intro p e s m args below meth c0 s₁ B hml hv
  obtain ⟨rfl, hP, hKN⟩ := hv
  have hK := hKN.1
  have hN := hKN.2
  have hx := B.exec
  have hb := B.bytes
  have hr := B.returns
  have hts := atoms_spec (ws := w_To_isDeterministic) B.pre
  have hw : ∀ {w : Cond}, w ∈ ALLW → w.before _ s = true := fun h => hts _ (List.mem_cons_of_mem _ h)
  have hown : s.vm.findClass R_To = some m.cls := findClass_of_methodNamed B.named
  have hlocks := B.notSynchronized
  have hl := lv_entry ([.ref x, .int (zI ((k : Nat) : Int))]) (n := 3) (Nat.le_of_ble_eq_true rfl)
  rw [lg_entry_eq]
  generalize (lg_sl ([.ref x, .int (zI ((k : Nat) : Int))]) ++ List.replicate (3 - (lg_sl ([.ref x, .int (zI ((k : Nat) : Int))])).length) Slot.unset).toArray = ls at hl ⊢
  have hl : lv_has ls 3 [(0, .ref x), (1, .int (zI ((k : Nat) : Int)))] := hl
  generalize hQ : MQ below _ _ _ _ _ _ = Q
  refine lv_aload_n hx hb d_To_isDeterministic_0 rfl (lv_at hl 0 rfl) ?_
  refine lv_iload_n hx hb d_To_isDeterministic_1 rfl (lv_at hl 1 rfl) ?_
  have hPc : va_P D vwCl [(x, .inr (4, [.ref d, .ref xm, .ref rd, .int (zI ((mk : Nat) : Int))])), (xm, .inl (c 3, 50, .inr (.inr (.inr (.inr mg)))))] s.heap := hP.sub (ws' := [(x, .inr (4, [.ref d, .ref xm, .ref rd, .int (zI ((mk : Nat) : Int))])), (xm, .inl (c 3, 50, .inr (.inr (.inr (.inr mg)))))]) [0, 1] rfl
  refine va_csq (va_runV (rm := rm_modelAt) (As := [.int (zI ((k : Nat) : Int))]) (rest := []) ⟨hx, hb, hml, hown, hts⟩ (c_modelAt l D c x xm d rd mg mk k mo (by omega) (by omega) hmo) (cwV 1 hts (gWV k_To_m60 k_i_To_modelAt k_v_To_modelAt k_n_To k_c_To_modelAt) rfl rfl rfl (by decide +kernel) ⟨Nat.le_of_ble_eq_true rfl, Nat.le_of_ble_eq_true rfl⟩) ⟨zblind, va_recv hK hPc (ci := 4) (q0 := 0) rfl rfl, fun U hU hW => ⟨rfl, by rw [hU]; exact hPc, hKN.moved hW⟩⟩ rfl rfl hl.1 rfl (lv_room (Nat.le_of_ble_eq_true rfl)) d_To_isDeterministic_2 ⟨Nat.zero_le _, Nat.zero_le _⟩).run (fun r hr_1 => ?_)
  subst hr_1
  refine z_top (v2 := .ref mo) (rfl) ?_
  refine lv_astore_n (lv' := [(2, .ref mo), (0, .ref x), (1, .int (zI ((k : Nat) : Int)))]) hx hb d_To_isDeterministic_5 rfl hl (by decide) rfl (fun ls hl => ?_)
  refine lv_aload_n hx hb d_To_isDeterministic_6 rfl (lv_at hl 0 rfl) ?_
  refine lv_ifnull hx hb d_To_isDeterministic_7 ?_
  refine lv_aload_n hx hb d_To_isDeterministic_10 rfl (lv_at hl 0 rfl) ?_
  refine va_getN (D := D) (ci := 1) (v := .int (zB dt)) (C := R_Mo) (T := T_Mo) (N := 3) hx hb hts (fun w h => List.mem_cons_of_mem _ (inA_Mo w h)) hown hK hP 2 rfl rfl 2 (by decide) (va_Nw.use rfl hN.2.2.2.2.2.1) (fun _ h9 => h9) rfl d_To_isDeterministic_11 ?_
  refine z_ifeq_B (tgt := 21) hx hb d_To_isDeterministic_14 (by decide) (fun hc_14 => ?_) (fun hc_14 => ?_)
  · refine lv_iconst (v := zI 0) hx hb d_To_isDeterministic_21 (by decide) ?_
    subst hQ
    exact W.zret (ty := .boolean) (v := (zI 0)) hx hb hr (by decide) (fun t9 ht hW => ⟨_, rfl, (by rw [hc_14]; decide), ht⟩) (fun q hq => absurd hq List.not_mem_nil) d_To_isDeterministic_22
  · refine lv_iconst (v := zI 1) hx hb d_To_isDeterministic_17 (by decide) ?_
    refine lv_goto (tgt := 22) hx hb d_To_isDeterministic_18 (by decide) ?_
    subst hQ
    exact W.zret (ty := .boolean) (v := (zI 1)) hx hb hr (by decide) (fun t9 ht hW => ⟨_, rfl, (by rw [hc_14]; decide), ht⟩) (fun q hq => absurd hq List.not_mem_nil) d_To_isDeterministic_22

def rm_begin : Room := { frames := 4, cells := 0, slots := 0, locals := 88 }
set_option maxHeartbeats 4000000 in
set_option maxRecDepth 100000 in
/-- begin -/
theorem c_begin (l : Launch) (D : va_G) (c : Nat → ClassId) (x : Nat) (xm : Nat) (d : Nat) (rd : Nat) (mg : Nat → Option Nat) (mk : Nat) (k : Nat) (mo : Nat) (me : Nat) (ms : Nat) (msw : Nat) (en : Nat → Nat) (ne : Nat) (mf : Nat → Int64) (dt : Bool) (rn : Nat) (rc : Nat) (rcw : Nat) (rm_ : Option Nat) (nr : Nat → Nat) (rv : Nat → Int64) (ct : Nat) (hm : mk ≤ 50) (hk : k < mk) (hmo : mg k = some mo) (hne : ne ≤ 255) (hen : ∀ j, j < ne → en j < 300000) : Met l y_To_begin w_To_begin rm_begin (va_Pc [.ref x, .int (zI ((k : Nat) : Int))] (fun U => (va_P D vwCl [(x, .inr (4, [.ref d, .ref xm, .ref rd, .int (zI ((mk : Nat) : Int))])), (xm, .inl (c 3, 50, .inr (.inr (.inr (.inr mg))))), (rd, .inr (2, [.ref rn, .ref rc, va_rf rm_, .int (zI ((ct : Nat) : Int))])), (rc, .inr (3, [.ref rcw])), (rcw, .inl (c 2, 4 * 1001, .inr (.inl rv))), (mo, .inr (1, [.ref me, .ref ms, .int (zB dt)])), (me, .inl (c 0, ne, .inl (fun j => zI ((en j : Nat) : Int)))), (ms, .inr (3, [.ref msw])), (msw, .inl (c 2, 4 * (ne + 1), .inr (.inl mf)))] U.heap ∧ va_D (fun _ => True) [(x, .inr (4, [.ref d, .ref xm, .ref rd, .int (zI ((mk : Nat) : Int))])), (xm, .inl (c 3, 50, .inr (.inr (.inr (.inr mg))))), (rd, .inr (2, [.ref rn, .ref rc, va_rf rm_, .int (zI ((ct : Nat) : Int))])), (rc, .inr (3, [.ref rcw])), (rcw, .inl (c 2, 4 * 1001, .inr (.inl rv))), (mo, .inr (1, [.ref me, .ref ms, .int (zB dt)])), (me, .inl (c 0, ne, .inl (fun j => zI ((en j : Nat) : Int)))), (ms, .inr (3, [.ref msw])), (msw, .inl (c 2, 4 * (ne + 1), .inr (.inl mf)))]) ∧ zK D c U)) (va_Qi (fun (r : Int32) (u : Unit) => r = (zB true) ∧ True) (fun (u : Unit) t9 => va_P D vwCl [(x, .inr (4, [.ref d, .ref xm, .ref rd, .int (zI ((mk : Nat) : Int))])), (xm, .inl (c 3, 50, .inr (.inr (.inr (.inr mg))))), (rd, .inr (2, [.ref rn, .ref rc, .ref mo, .int (zI 0)])), (rc, .inr (3, [.ref rcw])), (rcw, .inl (c 2, 4 * 1001, .inr (.inl (zor (zclr rv 0) 0 mf ne)))), (mo, .inr (1, [.ref me, .ref ms, .int (zB dt)])), (me, .inl (c 0, ne, .inl (fun j => zI ((en j : Nat) : Int)))), (ms, .inr (3, [.ref msw])), (msw, .inl (c 2, 4 * (ne + 1), .inr (.inl mf)))] t9.heap) (zA [(x, .inr (4, [.ref d, .ref xm, .ref rd, .int (zI ((mk : Nat) : Int))])), (xm, .inl (c 3, 50, .inr (.inr (.inr (.inr mg))))), (rd, .inr (2, [.ref rn, .ref rc, va_rf rm_, .int (zI ((ct : Nat) : Int))])), (rc, .inr (3, [.ref rcw])), (rcw, .inl (c 2, 4 * 1001, .inr (.inl rv))), (mo, .inr (1, [.ref me, .ref ms, .int (zB dt)])), (me, .inl (c 0, ne, .inl (fun j => zI ((en j : Nat) : Int)))), (ms, .inr (3, [.ref msw])), (msw, .inl (c 2, 4 * (ne + 1), .inr (.inl mf)))])) 0 0 (zA [(x, .inr (4, [.ref d, .ref xm, .ref rd, .int (zI ((mk : Nat) : Int))])), (xm, .inl (c 3, 50, .inr (.inr (.inr (.inr mg))))), (rd, .inr (2, [.ref rn, .ref rc, va_rf rm_, .int (zI ((ct : Nat) : Int))])), (rc, .inr (3, [.ref rcw])), (rcw, .inl (c 2, 4 * 1001, .inr (.inl rv))), (mo, .inr (1, [.ref me, .ref ms, .int (zB dt)])), (me, .inl (c 0, ne, .inl (fun j => zI ((en j : Nat) : Int)))), (ms, .inr (3, [.ref msw])), (msw, .inl (c 2, 4 * (ne + 1), .inr (.inl mf)))]) := by
  refine Met.ofW (cc := b_To_begin) (maxL := 3) (ret := (some .boolean)) (by decide) rfl ?_
  intro p e s m args below meth c0 s₁ B hml hv
  obtain ⟨rfl, ⟨hP, hD0⟩, hKN⟩ := hv
  have hK := hKN.1
  have hN := hKN.2
  have hx := B.exec
  have hb := B.bytes
  have hr := B.returns
  have hts := atoms_spec (ws := w_To_begin) B.pre
  have hw : ∀ {w : Cond}, w ∈ ALLW → w.before _ s = true := fun h => hts _ (List.mem_cons_of_mem _ h)
  have hown : s.vm.findClass R_To = some m.cls := findClass_of_methodNamed B.named
  have hlocks := B.notSynchronized
  have hD : va_D (zA [(x, .inr (4, [.ref d, .ref xm, .ref rd, .int (zI ((mk : Nat) : Int))])), (xm, .inl (c 3, 50, .inr (.inr (.inr (.inr mg))))), (rd, .inr (2, [.ref rn, .ref rc, va_rf rm_, .int (zI ((ct : Nat) : Int))])), (rc, .inr (3, [.ref rcw])), (rcw, .inl (c 2, 4 * 1001, .inr (.inl rv))), (mo, .inr (1, [.ref me, .ref ms, .int (zB dt)])), (me, .inl (c 0, ne, .inl (fun j => zI ((en j : Nat) : Int)))), (ms, .inr (3, [.ref msw])), (msw, .inl (c 2, 4 * (ne + 1), .inr (.inl mf)))]) [(x, .inr (4, [.ref d, .ref xm, .ref rd, .int (zI ((mk : Nat) : Int))])), (xm, .inl (c 3, 50, .inr (.inr (.inr (.inr mg))))), (rd, .inr (2, [.ref rn, .ref rc, va_rf rm_, .int (zI ((ct : Nat) : Int))])), (rc, .inr (3, [.ref rcw])), (rcw, .inl (c 2, 4 * 1001, .inr (.inl rv))), (mo, .inr (1, [.ref me, .ref ms, .int (zB dt)])), (me, .inl (c 0, ne, .inl (fun j => zI ((en j : Nat) : Int)))), (ms, .inr (3, [.ref msw])), (msw, .inl (c 2, 4 * (ne + 1), .inr (.inl mf)))] := ⟨hD0.1, fun k q h => List.mem_map.mpr ⟨q, List.mem_of_getElem? h, rfl⟩⟩
  generalize hAe : zA [(x, .inr (4, [.ref d, .ref xm, .ref rd, .int (zI ((mk : Nat) : Int))])), (xm, .inl (c 3, 50, .inr (.inr (.inr (.inr mg))))), (rd, .inr (2, [.ref rn, .ref rc, va_rf rm_, .int (zI ((ct : Nat) : Int))])), (rc, .inr (3, [.ref rcw])), (rcw, .inl (c 2, 4 * 1001, .inr (.inl rv))), (mo, .inr (1, [.ref me, .ref ms, .int (zB dt)])), (me, .inl (c 0, ne, .inl (fun j => zI ((en j : Nat) : Int)))), (ms, .inr (3, [.ref msw])), (msw, .inl (c 2, 4 * (ne + 1), .inr (.inl mf)))] = A at hD ⊢
  have hS : va_S A s.heap s.heap [] := va_S.rf
  have hP : va_P D vwCl [(x, .inr (4, [.ref d, .ref xm, .ref rd, .int (zI ((mk : Nat) : Int))])), (xm, .inl (c 3, 50, .inr (.inr (.inr (.inr mg))))), (rd, .inr (2, [.ref rn, .ref rc, va_rf rm_, .int (zI ((ct : Nat) : Int))])), (rc, .inr (3, [.ref rcw])), (rcw, .inl (c 2, 4 * 1001, .inr (.inl rv))), (mo, .inr (1, [.ref me, .ref ms, .int (zB dt)])), (me, .inl (c 0, ne, .inl (fun j => zI ((en j : Nat) : Int)))), (ms, .inr (3, [.ref msw])), (msw, .inl (c 2, 4 * (ne + 1), .inr (.inl mf)))] s.heap := hP
  have hl := lv_entry ([.ref x, .int (zI ((k : Nat) : Int))]) (n := 3) (Nat.le_of_ble_eq_true rfl)
  rw [lg_entry_eq]
  generalize (lg_sl ([.ref x, .int (zI ((k : Nat) : Int))]) ++ List.replicate (3 - (lg_sl ([.ref x, .int (zI ((k : Nat) : Int))])).length) Slot.unset).toArray = ls at hl ⊢
  have hl : lv_has ls 3 [(0, .ref x), (1, .int (zI ((k : Nat) : Int)))] := hl
  generalize hQ : MQ below _ _ _ _ _ _ = Q
  refine lv_aload_n hx hb d_To_begin_0 rfl (lv_at hl 0 rfl) ?_
  refine lv_iload_n hx hb d_To_begin_1 rfl (lv_at hl 1 rfl) ?_
  have hPc : va_P D vwCl [(x, .inr (4, [.ref d, .ref xm, .ref rd, .int (zI ((mk : Nat) : Int))])), (xm, .inl (c 3, 50, .inr (.inr (.inr (.inr mg)))))] s.heap := hP.sub (ws' := [(x, .inr (4, [.ref d, .ref xm, .ref rd, .int (zI ((mk : Nat) : Int))])), (xm, .inl (c 3, 50, .inr (.inr (.inr (.inr mg)))))]) [0, 1] rfl
  refine va_csq (va_runV (rm := rm_modelAt) (As := [.int (zI ((k : Nat) : Int))]) (rest := []) ⟨hx, hb, hml, hown, hts⟩ (c_modelAt l D c x xm d rd mg mk k mo (by omega) (by omega) hmo) (cwV 1 hts (gWV k_To_m60 k_i_To_modelAt k_v_To_modelAt k_n_To k_c_To_modelAt) rfl rfl rfl (by decide +kernel) ⟨Nat.le_of_ble_eq_true rfl, Nat.le_of_ble_eq_true rfl⟩) ⟨zblind, va_recv hK hPc (ci := 4) (q0 := 0) rfl rfl, fun U hU hW => ⟨rfl, by rw [hU]; exact hPc, hKN.moved hW⟩⟩ rfl rfl hl.1 rfl (lv_room (Nat.le_of_ble_eq_true rfl)) d_To_begin_2 ⟨Nat.zero_le _, Nat.zero_le _⟩).run (fun r hr_1 => ?_)
  subst hr_1
  refine z_top (v2 := .ref mo) (rfl) ?_
  refine lv_astore_n (lv' := [(2, .ref mo), (0, .ref x), (1, .int (zI ((k : Nat) : Int)))]) hx hb d_To_begin_5 rfl hl (by decide) rfl (fun ls hl => ?_)
  refine lv_aload_n hx hb d_To_begin_6 rfl (lv_at hl 0 rfl) ?_
  refine lv_ifnonnull (tgt := 12) hx hb d_To_begin_7 (by decide) ?_
  refine lv_aload_n hx hb d_To_begin_12 rfl (lv_at hl 1 rfl) ?_
  refine va_get (D := D) (ci := 4) (v := .ref rd) (C := R_To) (T := T_To) (N := 4) hx hb hts (fun w h => List.mem_cons_of_mem _ (inA_To w h)) hown hK hP 0 rfl rfl 2 (by decide) (hw k_To_f25) (fun _ h9 => h9) rfl d_To_begin_13 ?_
  refine lv_aload_n hx hb d_To_begin_16 rfl (lv_at hl 0 rfl) ?_
  have hPc : va_P D vwCl [(rd, .inr (2, [.ref rn, .ref rc, va_rf rm_, .int (zI ((ct : Nat) : Int))])), (rc, .inr (3, [.ref rcw])), (rcw, .inl (c 2, 4 * 1001, .inr (.inl rv))), (mo, .inr (1, [.ref me, .ref ms, .int (zB dt)])), (me, .inl (c 0, ne, .inl (fun j => zI ((en j : Nat) : Int)))), (ms, .inr (3, [.ref msw])), (msw, .inl (c 2, 4 * (ne + 1), .inr (.inl mf)))] s.heap := hP.sub (ws' := [(rd, .inr (2, [.ref rn, .ref rc, va_rf rm_, .int (zI ((ct : Nat) : Int))])), (rc, .inr (3, [.ref rcw])), (rcw, .inl (c 2, 4 * 1001, .inr (.inl rv))), (mo, .inr (1, [.ref me, .ref ms, .int (zB dt)])), (me, .inl (c 0, ne, .inl (fun j => zI ((en j : Nat) : Int)))), (ms, .inr (3, [.ref msw])), (msw, .inl (c 2, 4 * (ne + 1), .inr (.inl mf)))]) [2, 3, 4, 5, 6, 7, 8] rfl
  have hDc : va_D A [(rd, .inr (2, [.ref rn, .ref rc, va_rf rm_, .int (zI ((ct : Nat) : Int))])), (rc, .inr (3, [.ref rcw])), (rcw, .inl (c 2, 4 * 1001, .inr (.inl rv))), (mo, .inr (1, [.ref me, .ref ms, .int (zB dt)])), (me, .inl (c 0, ne, .inl (fun j => zI ((en j : Nat) : Int)))), (ms, .inr (3, [.ref msw])), (msw, .inl (c 2, 4 * (ne + 1), .inr (.inl mf)))] := hD.sub (ws' := [(rd, .inr (2, [.ref rn, .ref rc, va_rf rm_, .int (zI ((ct : Nat) : Int))])), (rc, .inr (3, [.ref rcw])), (rcw, .inl (c 2, 4 * 1001, .inr (.inl rv))), (mo, .inr (1, [.ref me, .ref ms, .int (zB dt)])), (me, .inl (c 0, ne, .inl (fun j => zI ((en j : Nat) : Int)))), (ms, .inr (3, [.ref msw])), (msw, .inl (c 2, 4 * (ne + 1), .inr (.inl mf)))]) [2, 3, 4, 5, 6, 7, 8] (by decide) rfl
  have hDt : va_D (fun _ => True) [(rd, .inr (2, [.ref rn, .ref rc, va_rf rm_, .int (zI ((ct : Nat) : Int))])), (rc, .inr (3, [.ref rcw])), (rcw, .inl (c 2, 4 * 1001, .inr (.inl rv))), (mo, .inr (1, [.ref me, .ref ms, .int (zB dt)])), (me, .inl (c 0, ne, .inl (fun j => zI ((en j : Nat) : Int)))), (ms, .inr (3, [.ref msw])), (msw, .inl (c 2, 4 * (ne + 1), .inr (.inl mf)))] := hDc.weaken (fun _ _ _ _ => trivial)
  refine z_callv (S := Unit) (w1 := fun u => [(rd, .inr (2, [.ref rn, .ref rc, .ref mo, .int (zI 0)])), (rc, .inr (3, [.ref rcw])), (rcw, .inl (c 2, 4 * 1001, .inr (.inl (zor (zclr rv 0) 0 mf ne)))), (mo, .inr (1, [.ref me, .ref ms, .int (zB dt)])), (me, .inl (c 0, ne, .inl (fun j => zI ((en j : Nat) : Int)))), (ms, .inr (3, [.ref msw])), (msw, .inl (c 2, 4 * (ne + 1), .inr (.inl mf)))]) (post := fun u => True) (wc := [(rd, .inr (2, [.ref rn, .ref rc, va_rf rm_, .int (zI ((ct : Nat) : Int))])), (rc, .inr (3, [.ref rcw])), (rcw, .inl (c 2, 4 * 1001, .inr (.inl rv))), (mo, .inr (1, [.ref me, .ref ms, .int (zB dt)])), (me, .inl (c 0, ne, .inl (fun j => zI ((en j : Nat) : Int)))), (ms, .inr (3, [.ref msw])), (msw, .inl (c 2, 4 * (ne + 1), .inr (.inl mf)))]) [2, 3, 4, 5, 6, 7, 8] rfl (fun _ => rfl) hP hD hS (va_runV (rm := rm_startWith) (As := [.ref mo]) (rest := []) ⟨hx, hb, hml, hown, hts⟩ (c_startWith l D c rd rn rc rcw rm_ nr rv ct mo me ms msw en ne mf dt (by omega) hen) (cwV 1 hts (gWV k_To_m72 k_i_Re_startWith k_v_Re_startWith k_n_Re k_c_Re_startWith) rfl rfl rfl (by decide +kernel) ⟨Nat.le_of_ble_eq_true rfl, Nat.le_of_ble_eq_true rfl⟩) ⟨zblindW, va_recv hK hPc (ci := 2) (q0 := 0) rfl rfl, fun U hU hW => ⟨rfl, ⟨by rw [hU]; exact hPc, hDt⟩, hKN.moved hW⟩⟩ rfl rfl hl.1 rfl (lv_room (Nat.le_of_ble_eq_true rfl)) d_To_begin_17 ⟨Nat.zero_le _, Nat.zero_le _⟩) (fun u H locs hp_2 hP hD hS => ?_)
  have hP : va_P D vwCl [(x, .inr (4, [.ref d, .ref xm, .ref rd, .int (zI ((mk : Nat) : Int))])), (xm, .inl (c 3, 50, .inr (.inr (.inr (.inr mg))))), (rd, .inr (2, [.ref rn, .ref rc, .ref mo, .int (zI 0)])), (rc, .inr (3, [.ref rcw])), (rcw, .inl (c 2, 4 * 1001, .inr (.inl (zor (zclr rv 0) 0 mf ne)))), (mo, .inr (1, [.ref me, .ref ms, .int (zB dt)])), (me, .inl (c 0, ne, .inl (fun j => zI ((en j : Nat) : Int)))), (ms, .inr (3, [.ref msw])), (msw, .inl (c 2, 4 * (ne + 1), .inr (.inl mf)))] H := hP
  have hD : va_D A [(x, .inr (4, [.ref d, .ref xm, .ref rd, .int (zI ((mk : Nat) : Int))])), (xm, .inl (c 3, 50, .inr (.inr (.inr (.inr mg))))), (rd, .inr (2, [.ref rn, .ref rc, .ref mo, .int (zI 0)])), (rc, .inr (3, [.ref rcw])), (rcw, .inl (c 2, 4 * 1001, .inr (.inl (zor (zclr rv 0) 0 mf ne)))), (mo, .inr (1, [.ref me, .ref ms, .int (zB dt)])), (me, .inl (c 0, ne, .inl (fun j => zI ((en j : Nat) : Int)))), (ms, .inr (3, [.ref msw])), (msw, .inl (c 2, 4 * (ne + 1), .inr (.inl mf)))] := hD
  refine lv_iconst (v := zI 1) hx hb d_To_begin_20 (by decide) ?_
  subst hQ
  exact W.zret (ty := .boolean) (v := (zI 1)) hx hb hr (by decide) (fun t9 ht hW => ⟨⟨_, (), rfl, ⟨(by decide), trivial⟩, by show va_P _ _ _ t9.heap; rw [ht]; exact hP⟩, hS.F ht⟩) hS.2.2 d_To_begin_21

def rm_read_bad : Room := { frames := 1, cells := 0, slots := 0, locals := 20 }
set_option maxHeartbeats 4000000 in
set_option maxRecDepth 100000 in
/-- read, no name -/
theorem c_read_bad (l : Launch) (D : va_G) (c : Nat → ClassId) (x : Nat) (xm : Nat) (d : Nat) (rd : Nat) (mg : Nat → Option Nat) (mk : Nat) (y : Int) (hy : -2147483648 ≤ y ∧ y < 2147483648) (hb_ : ¬ (1 ≤ y ∧ y ≤ 1000)) : Met l y_To_read w_To_read rm_read_bad (va_Pc [.ref x, .int (zI y)] (fun U => va_P D vwCl [(x, .inr (4, [.ref d, .ref xm, .ref rd, .int (zI ((mk : Nat) : Int))]))] U.heap ∧ zK D c U)) (vp_Si (fun r => r = (zI (-1)))) 0 0 (fun _ => False) := by
  refine Met.ofW (cc := b_To_read) (maxL := 2) (ret := (some .int)) (by decide) rfl ?_
  intro p e s m args below meth c0 s₁ B hml hv
  obtain ⟨rfl, hP, hKN⟩ := hv
  have hK := hKN.1
  have hN := hKN.2
  have hx := B.exec
  have hb := B.bytes
  have hr := B.returns
  have hts := atoms_spec (ws := w_To_read) B.pre
  have hw : ∀ {w : Cond}, w ∈ ALLW → w.before _ s = true := fun h => hts _ (List.mem_cons_of_mem _ h)
  have hown : s.vm.findClass R_To = some m.cls := findClass_of_methodNamed B.named
  have hlocks := B.notSynchronized
  have hl := lv_entry ([.ref x, .int (zI y)]) (n := 2) (Nat.le_of_ble_eq_true rfl)
  rw [lg_entry_eq]
  generalize (lg_sl ([.ref x, .int (zI y)]) ++ List.replicate (2 - (lg_sl ([.ref x, .int (zI y)])).length) Slot.unset).toArray = ls at hl ⊢
  have hl : lv_has ls 2 [(0, .ref x), (1, .int (zI y))] := hl
  generalize hQ : MQ below _ _ _ _ _ _ = Q
  refine lv_iload_n hx hb d_To_read_0 rfl (lv_at hl 1 rfl) ?_
  have hPc : va_P D vwCl [] s.heap := hP.sub (ws' := []) [] rfl
  refine vp_callSi (va_runS (rm := rm_isName) (As := [.int (zI y)]) (rest := []) ⟨hx, hb, hml, hown, hts⟩ (c_isName l D c y (by omega)) (va_cwS 1 hts (gWS k_To_m33 k_s_To_isName k_n_To k_c_To_isName) rfl rfl rfl (by decide +kernel) ⟨Nat.le_of_ble_eq_true rfl, Nat.le_of_ble_eq_true rfl⟩) ⟨zblind, fun U hU hW => ⟨rfl, by rw [hU]; exact hPc, hKN.moved hW⟩⟩ rfl rfl hl.1 rfl (lv_room (Nat.le_of_ble_eq_true rfl)) d_To_read_1 ⟨Nat.zero_le _, Nat.zero_le _⟩).run (fun r hr_1 => ?_)
  subst hr_1
  refine z_ifeq_B (tgt := 28) hx hb d_To_read_4 (by decide) (fun hc_4 => ?_) (fun hc_4 => (absurd hc_4 (by rw [decide_eq_false (by omega)]; decide)))
  refine lv_iconst (v := zI (-1)) hx hb d_To_read_28 (by decide) ?_
  subst hQ
  exact W.iret (v := (zI (-1))) hx hb hr (fun t9 ht hW => ⟨_, rfl, rfl, ht⟩) (fun q hq => absurd hq List.not_mem_nil) d_To_read_29

def rm_read_null : Room := { frames := 1, cells := 0, slots := 0, locals := 21 }
set_option maxHeartbeats 4000000 in
set_option maxRecDepth 100000 in
/-- read, nothing begun -/
theorem c_read_null (l : Launch) (D : va_G) (c : Nat → ClassId) (x : Nat) (xm : Nat) (d : Nat) (rd : Nat) (mg : Nat → Option Nat) (mk : Nat) (rn : Nat) (rc : Nat) (rcw : Nat) (nr : Nat → Nat) (rv : Nat → Int64) (ct : Nat) (n : Nat) (hn_ : 1 ≤ n ∧ n ≤ 1000) : Met l y_To_read w_To_read rm_read_null (va_Pc [.ref x, .int (zI ((n : Nat) : Int))] (fun U => va_P D vwCl [(x, .inr (4, [.ref d, .ref xm, .ref rd, .int (zI ((mk : Nat) : Int))])), (rd, .inr (2, [.ref rn, .ref rc, .null, .int (zI ((ct : Nat) : Int))]))] U.heap ∧ zK D c U)) (vp_Si (fun r => r = (zI (-1)))) 0 0 (fun _ => False) := by
  refine Met.ofW (cc := b_To_read) (maxL := 2) (ret := (some .int)) (by decide) rfl ?_
  intro p e s m args below meth c0 s₁ B hml hv
  obtain ⟨rfl, hP, hKN⟩ := hv
  have hK := hKN.1
  have hN := hKN.2
  have hx := B.exec
  have hb := B.bytes
  have hr := B.returns
  have hts := atoms_spec (ws := w_To_read) B.pre
  have hw : ∀ {w : Cond}, w ∈ ALLW → w.before _ s = true := fun h => hts _ (List.mem_cons_of_mem _ h)
  have hown : s.vm.findClass R_To = some m.cls := findClass_of_methodNamed B.named
  have hlocks := B.notSynchronized
  have hl := lv_entry ([.ref x, .int (zI ((n : Nat) : Int))]) (n := 2) (Nat.le_of_ble_eq_true rfl)
  rw [lg_entry_eq]
  generalize (lg_sl ([.ref x, .int (zI ((n : Nat) : Int))]) ++ List.replicate (2 - (lg_sl ([.ref x, .int (zI ((n : Nat) : Int))])).length) Slot.unset).toArray = ls at hl ⊢
  have hl : lv_has ls 2 [(0, .ref x), (1, .int (zI ((n : Nat) : Int)))] := hl
  generalize hQ : MQ below _ _ _ _ _ _ = Q
  refine lv_iload_n hx hb d_To_read_0 rfl (lv_at hl 1 rfl) ?_
  have hPc : va_P D vwCl [] s.heap := hP.sub (ws' := []) [] rfl
  refine vp_callSi (va_runS (rm := rm_isName) (As := [.int (zI ((n : Nat) : Int))]) (rest := []) ⟨hx, hb, hml, hown, hts⟩ (c_isName l D c ((n : Nat) : Int) (by omega)) (va_cwS 1 hts (gWS k_To_m33 k_s_To_isName k_n_To k_c_To_isName) rfl rfl rfl (by decide +kernel) ⟨Nat.le_of_ble_eq_true rfl, Nat.le_of_ble_eq_true rfl⟩) ⟨zblind, fun U hU hW => ⟨rfl, by rw [hU]; exact hPc, hKN.moved hW⟩⟩ rfl rfl hl.1 rfl (lv_room (Nat.le_of_ble_eq_true rfl)) d_To_read_1 ⟨Nat.zero_le _, Nat.zero_le _⟩).run (fun r hr_1 => ?_)
  subst hr_1
  refine z_ifeq_B (tgt := 28) hx hb d_To_read_4 (by decide) (fun hc_4 => (absurd hc_4 (by rw [decide_eq_true (by omega)]; decide))) (fun hc_4 => ?_)
  refine lv_aload_n hx hb d_To_read_7 rfl (lv_at hl 0 rfl) ?_
  refine va_get (D := D) (ci := 4) (v := .ref rd) (C := R_To) (T := T_To) (N := 4) hx hb hts (fun w h => List.mem_cons_of_mem _ (inA_To w h)) hown hK hP 0 rfl rfl 2 (by decide) (hw k_To_f25) (fun _ h9 => h9) rfl d_To_read_8 ?_
  refine lv_iload_n hx hb d_To_read_11 rfl (lv_at hl 1 rfl) ?_
  have hPc : va_P D vwCl [(rd, .inr (2, [.ref rn, .ref rc, .null, .int (zI ((ct : Nat) : Int))]))] s.heap := hP.sub (ws' := [(rd, .inr (2, [.ref rn, .ref rc, .null, .int (zI ((ct : Nat) : Int))]))]) [1] rfl
  refine vp_callSi (va_runV (rm := rm_take_null) (As := [.int (zI ((n : Nat) : Int))]) (rest := []) ⟨hx, hb, hml, hown, hts⟩ (c_take_null l D c rd rn rc rcw nr rv ct n) (cwV 1 hts (gWV k_To_m76 k_i_Re_take k_v_Re_take k_n_Re k_c_Re_take) rfl rfl rfl (by decide +kernel) ⟨Nat.le_of_ble_eq_true rfl, Nat.le_of_ble_eq_true rfl⟩) ⟨zblind, va_recv hK hPc (ci := 2) (q0 := 0) rfl rfl, fun U hU hW => ⟨rfl, by rw [hU]; exact hPc, hKN.moved hW⟩⟩ rfl rfl hl.1 rfl (lv_room (Nat.le_of_ble_eq_true rfl)) d_To_read_12 ⟨Nat.zero_le _, Nat.zero_le _⟩).run (fun r hr_2 => ?_)
  subst hr_2
  refine z_ifeq_B (tgt := 28) hx hb d_To_read_15 (by decide) (fun hc_15 => ?_) (fun hc_15 => (absurd hc_15 (by decide)))
  refine lv_iconst (v := zI (-1)) hx hb d_To_read_28 (by decide) ?_
  subst hQ
  exact W.iret (v := (zI (-1))) hx hb hr (fun t9 ht hW => ⟨_, rfl, rfl, ht⟩) (fun q hq => absurd hq List.not_mem_nil) d_To_read_29

def rm_read_full : Room := { frames := 1, cells := 0, slots := 0, locals := 21 }
set_option maxHeartbeats 4000000 in
set_option maxRecDepth 100000 in
/-- read, 1000 were read -/
theorem c_read_full (l : Launch) (D : va_G) (c : Nat → ClassId) (x : Nat) (xm : Nat) (d : Nat) (rd : Nat) (mg : Nat → Option Nat) (mk : Nat) (rn : Nat) (rc : Nat) (rcw : Nat) (nr : Nat → Nat) (rv : Nat → Int64) (mo : Nat) (n : Nat) (hn_ : 1 ≤ n ∧ n ≤ 1000) : Met l y_To_read w_To_read rm_read_full (va_Pc [.ref x, .int (zI ((n : Nat) : Int))] (fun U => va_P D vwCl [(x, .inr (4, [.ref d, .ref xm, .ref rd, .int (zI ((mk : Nat) : Int))])), (rd, .inr (2, [.ref rn, .ref rc, .ref mo, .int (zI ((1000 : Nat) : Int))])), (rn, .inl (c 0, 1000, .inl (fun j => zI ((nr j : Nat) : Int))))] U.heap ∧ zK D c U)) (vp_Si (fun r => r = (zI (-1)))) 0 0 (fun _ => False) := by
  refine Met.ofW (cc := b_To_read) (maxL := 2) (ret := (some .int)) (by decide) rfl ?_
  intro p e s m args below meth c0 s₁ B hml hv
  obtain ⟨rfl, hP, hKN⟩ := hv
  have hK := hKN.1
  have hN := hKN.2
  have hx := B.exec
  have hb := B.bytes
  have hr := B.returns
  have hts := atoms_spec (ws := w_To_read) B.pre
  have hw : ∀ {w : Cond}, w ∈ ALLW → w.before _ s = true := fun h => hts _ (List.mem_cons_of_mem _ h)
  have hown : s.vm.findClass R_To = some m.cls := findClass_of_methodNamed B.named
  have hlocks := B.notSynchronized
  have hl := lv_entry ([.ref x, .int (zI ((n : Nat) : Int))]) (n := 2) (Nat.le_of_ble_eq_true rfl)
  rw [lg_entry_eq]
  generalize (lg_sl ([.ref x, .int (zI ((n : Nat) : Int))]) ++ List.replicate (2 - (lg_sl ([.ref x, .int (zI ((n : Nat) : Int))])).length) Slot.unset).toArray = ls at hl ⊢
  have hl : lv_has ls 2 [(0, .ref x), (1, .int (zI ((n : Nat) : Int)))] := hl
  generalize hQ : MQ below _ _ _ _ _ _ = Q
  refine lv_iload_n hx hb d_To_read_0 rfl (lv_at hl 1 rfl) ?_
  have hPc : va_P D vwCl [] s.heap := hP.sub (ws' := []) [] rfl
  refine vp_callSi (va_runS (rm := rm_isName) (As := [.int (zI ((n : Nat) : Int))]) (rest := []) ⟨hx, hb, hml, hown, hts⟩ (c_isName l D c ((n : Nat) : Int) (by omega)) (va_cwS 1 hts (gWS k_To_m33 k_s_To_isName k_n_To k_c_To_isName) rfl rfl rfl (by decide +kernel) ⟨Nat.le_of_ble_eq_true rfl, Nat.le_of_ble_eq_true rfl⟩) ⟨zblind, fun U hU hW => ⟨rfl, by rw [hU]; exact hPc, hKN.moved hW⟩⟩ rfl rfl hl.1 rfl (lv_room (Nat.le_of_ble_eq_true rfl)) d_To_read_1 ⟨Nat.zero_le _, Nat.zero_le _⟩).run (fun r hr_1 => ?_)
  subst hr_1
  refine z_ifeq_B (tgt := 28) hx hb d_To_read_4 (by decide) (fun hc_4 => (absurd hc_4 (by rw [decide_eq_true (by omega)]; decide))) (fun hc_4 => ?_)
  refine lv_aload_n hx hb d_To_read_7 rfl (lv_at hl 0 rfl) ?_
  refine va_get (D := D) (ci := 4) (v := .ref rd) (C := R_To) (T := T_To) (N := 4) hx hb hts (fun w h => List.mem_cons_of_mem _ (inA_To w h)) hown hK hP 0 rfl rfl 2 (by decide) (hw k_To_f25) (fun _ h9 => h9) rfl d_To_read_8 ?_
  refine lv_iload_n hx hb d_To_read_11 rfl (lv_at hl 1 rfl) ?_
  have hPc : va_P D vwCl [(rd, .inr (2, [.ref rn, .ref rc, .ref mo, .int (zI ((1000 : Nat) : Int))])), (rn, .inl (c 0, 1000, .inl (fun j => zI ((nr j : Nat) : Int))))] s.heap := hP.sub (ws' := [(rd, .inr (2, [.ref rn, .ref rc, .ref mo, .int (zI ((1000 : Nat) : Int))])), (rn, .inl (c 0, 1000, .inl (fun j => zI ((nr j : Nat) : Int))))]) [1, 2] rfl
  refine vp_callSi (va_runV (rm := rm_take_full) (As := [.int (zI ((n : Nat) : Int))]) (rest := []) ⟨hx, hb, hml, hown, hts⟩ (c_take_full l D c rd rn rc rcw nr rv mo n) (cwV 1 hts (gWV k_To_m76 k_i_Re_take k_v_Re_take k_n_Re k_c_Re_take) rfl rfl rfl (by decide +kernel) ⟨Nat.le_of_ble_eq_true rfl, Nat.le_of_ble_eq_true rfl⟩) ⟨zblind, va_recv hK hPc (ci := 2) (q0 := 0) rfl rfl, fun U hU hW => ⟨rfl, by rw [hU]; exact hPc, hKN.moved hW⟩⟩ rfl rfl hl.1 rfl (lv_room (Nat.le_of_ble_eq_true rfl)) d_To_read_12 ⟨Nat.zero_le _, Nat.zero_le _⟩).run (fun r hr_2 => ?_)
  subst hr_2
  refine z_ifeq_B (tgt := 28) hx hb d_To_read_15 (by decide) (fun hc_15 => ?_) (fun hc_15 => (absurd hc_15 (by decide)))
  refine lv_iconst (v := zI (-1)) hx hb d_To_read_28 (by decide) ?_
  subst hQ
  exact W.iret (v := (zI (-1))) hx hb hr (fun t9 ht hW => ⟨_, rfl, rfl, ht⟩) (fun q hq => absurd hq List.not_mem_nil) d_To_read_29

def rm_read : Room := { frames := 5, cells := 0, slots := 0, locals := 111 }
set_option maxHeartbeats 4000000 in
set_option maxRecDepth 100000 in
/-- read -/
theorem c_read (l : Launch) (D : va_G) (c : Nat → ClassId) (x : Nat) (xm : Nat) (d : Nat) (rd : Nat) (mg : Nat → Option Nat) (mk : Nat) (rn : Nat) (rc : Nat) (rcw : Nat) (nr : Nat → Nat) (rv : Nat → Int64) (ct : Nat) (mo : Nat) (me : Nat) (ms : Nat) (msw : Nat) (en : Nat → Nat) (ne : Nat) (mf : Nat → Int64) (dt : Bool) (n : Nat) (hn_ : 1 ≤ n ∧ n ≤ 1000) (hne : ne ≤ 255) (hen : ∀ j, j < ne → en j < 300000) (hoc : ∀ j, j < ne → en j % 256 < ne + 1) (hct : ct < 1000) : Met l y_To_read w_To_read rm_read (va_Pc [.ref x, .int (zI ((n : Nat) : Int))] (fun U => (va_P D vwCl [(x, .inr (4, [.ref d, .ref xm, .ref rd, .int (zI ((mk : Nat) : Int))])), (rd, .inr (2, [.ref rn, .ref rc, .ref mo, .int (zI ((ct : Nat) : Int))])), (rn, .inl (c 0, 1000, .inl (fun j => zI ((nr j : Nat) : Int)))), (rc, .inr (3, [.ref rcw])), (rcw, .inl (c 2, 4 * 1001, .inr (.inl rv))), (mo, .inr (1, [.ref me, .ref ms, .int (zB dt)])), (me, .inl (c 0, ne, .inl (fun j => zI ((en j : Nat) : Int)))), (ms, .inr (3, [.ref msw])), (msw, .inl (c 2, 4 * (ne + 1), .inr (.inl mf)))] U.heap ∧ va_D (fun _ => True) [(x, .inr (4, [.ref d, .ref xm, .ref rd, .int (zI ((mk : Nat) : Int))])), (rd, .inr (2, [.ref rn, .ref rc, .ref mo, .int (zI ((ct : Nat) : Int))])), (rn, .inl (c 0, 1000, .inl (fun j => zI ((nr j : Nat) : Int)))), (rc, .inr (3, [.ref rcw])), (rcw, .inl (c 2, 4 * 1001, .inr (.inl rv))), (mo, .inr (1, [.ref me, .ref ms, .int (zB dt)])), (me, .inl (c 0, ne, .inl (fun j => zI ((en j : Nat) : Int)))), (ms, .inr (3, [.ref msw])), (msw, .inl (c 2, 4 * (ne + 1), .inr (.inl mf)))]) ∧ zK D c U)) (va_Qi (fun (r : Int32) (u : Unit) => r = (zI ((ct + 1 : Nat) : Int)) ∧ True) (fun (u : Unit) t9 => va_P D vwCl [(x, .inr (4, [.ref d, .ref xm, .ref rd, .int (zI ((mk : Nat) : Int))])), (rd, .inr (2, [.ref rn, .ref rc, .ref mo, .int (zI ((ct + 1 : Nat) : Int))])), (rn, .inl (c 0, 1000, .inl (fun j => zI (((va_up nr ct n) j : Nat) : Int)))), (rc, .inr (3, [.ref rcw])), (rcw, .inl (c 2, 4 * 1001, .inr (.inl (pbk rv en mf ct n ne)))), (mo, .inr (1, [.ref me, .ref ms, .int (zB dt)])), (me, .inl (c 0, ne, .inl (fun j => zI ((en j : Nat) : Int)))), (ms, .inr (3, [.ref msw])), (msw, .inl (c 2, 4 * (ne + 1), .inr (.inl mf)))] t9.heap) (zA [(x, .inr (4, [.ref d, .ref xm, .ref rd, .int (zI ((mk : Nat) : Int))])), (rd, .inr (2, [.ref rn, .ref rc, .ref mo, .int (zI ((ct : Nat) : Int))])), (rn, .inl (c 0, 1000, .inl (fun j => zI ((nr j : Nat) : Int)))), (rc, .inr (3, [.ref rcw])), (rcw, .inl (c 2, 4 * 1001, .inr (.inl rv))), (mo, .inr (1, [.ref me, .ref ms, .int (zB dt)])), (me, .inl (c 0, ne, .inl (fun j => zI ((en j : Nat) : Int)))), (ms, .inr (3, [.ref msw])), (msw, .inl (c 2, 4 * (ne + 1), .inr (.inl mf)))])) 0 0 (zA [(x, .inr (4, [.ref d, .ref xm, .ref rd, .int (zI ((mk : Nat) : Int))])), (rd, .inr (2, [.ref rn, .ref rc, .ref mo, .int (zI ((ct : Nat) : Int))])), (rn, .inl (c 0, 1000, .inl (fun j => zI ((nr j : Nat) : Int)))), (rc, .inr (3, [.ref rcw])), (rcw, .inl (c 2, 4 * 1001, .inr (.inl rv))), (mo, .inr (1, [.ref me, .ref ms, .int (zB dt)])), (me, .inl (c 0, ne, .inl (fun j => zI ((en j : Nat) : Int)))), (ms, .inr (3, [.ref msw])), (msw, .inl (c 2, 4 * (ne + 1), .inr (.inl mf)))]) := by
  refine Met.ofW (cc := b_To_read) (maxL := 2) (ret := (some .int)) (by decide) rfl ?_
  intro p e s m args below meth c0 s₁ B hml hv
  obtain ⟨rfl, ⟨hP, hD0⟩, hKN⟩ := hv
  have hK := hKN.1
  have hN := hKN.2
  have hx := B.exec
  have hb := B.bytes
  have hr := B.returns
  have hts := atoms_spec (ws := w_To_read) B.pre
  have hw : ∀ {w : Cond}, w ∈ ALLW → w.before _ s = true := fun h => hts _ (List.mem_cons_of_mem _ h)
  have hown : s.vm.findClass R_To = some m.cls := findClass_of_methodNamed B.named
  have hlocks := B.notSynchronized
  have hD : va_D (zA [(x, .inr (4, [.ref d, .ref xm, .ref rd, .int (zI ((mk : Nat) : Int))])), (rd, .inr (2, [.ref rn, .ref rc, .ref mo, .int (zI ((ct : Nat) : Int))])), (rn, .inl (c 0, 1000, .inl (fun j => zI ((nr j : Nat) : Int)))), (rc, .inr (3, [.ref rcw])), (rcw, .inl (c 2, 4 * 1001, .inr (.inl rv))), (mo, .inr (1, [.ref me, .ref ms, .int (zB dt)])), (me, .inl (c 0, ne, .inl (fun j => zI ((en j : Nat) : Int)))), (ms, .inr (3, [.ref msw])), (msw, .inl (c 2, 4 * (ne + 1), .inr (.inl mf)))]) [(x, .inr (4, [.ref d, .ref xm, .ref rd, .int (zI ((mk : Nat) : Int))])), (rd, .inr (2, [.ref rn, .ref rc, .ref mo, .int (zI ((ct : Nat) : Int))])), (rn, .inl (c 0, 1000, .inl (fun j => zI ((nr j : Nat) : Int)))), (rc, .inr (3, [.ref rcw])), (rcw, .inl (c 2, 4 * 1001, .inr (.inl rv))), (mo, .inr (1, [.ref me, .ref ms, .int (zB dt)])), (me, .inl (c 0, ne, .inl (fun j => zI ((en j : Nat) : Int)))), (ms, .inr (3, [.ref msw])), (msw, .inl (c 2, 4 * (ne + 1), .inr (.inl mf)))] := ⟨hD0.1, fun k q h => List.mem_map.mpr ⟨q, List.mem_of_getElem? h, rfl⟩⟩
  generalize hAe : zA [(x, .inr (4, [.ref d, .ref xm, .ref rd, .int (zI ((mk : Nat) : Int))])), (rd, .inr (2, [.ref rn, .ref rc, .ref mo, .int (zI ((ct : Nat) : Int))])), (rn, .inl (c 0, 1000, .inl (fun j => zI ((nr j : Nat) : Int)))), (rc, .inr (3, [.ref rcw])), (rcw, .inl (c 2, 4 * 1001, .inr (.inl rv))), (mo, .inr (1, [.ref me, .ref ms, .int (zB dt)])), (me, .inl (c 0, ne, .inl (fun j => zI ((en j : Nat) : Int)))), (ms, .inr (3, [.ref msw])), (msw, .inl (c 2, 4 * (ne + 1), .inr (.inl mf)))] = A at hD ⊢
  have hS : va_S A s.heap s.heap [] := va_S.rf
  have hP : va_P D vwCl [(x, .inr (4, [.ref d, .ref xm, .ref rd, .int (zI ((mk : Nat) : Int))])), (rd, .inr (2, [.ref rn, .ref rc, .ref mo, .int (zI ((ct : Nat) : Int))])), (rn, .inl (c 0, 1000, .inl (fun j => zI ((nr j : Nat) : Int)))), (rc, .inr (3, [.ref rcw])), (rcw, .inl (c 2, 4 * 1001, .inr (.inl rv))), (mo, .inr (1, [.ref me, .ref ms, .int (zB dt)])), (me, .inl (c 0, ne, .inl (fun j => zI ((en j : Nat) : Int)))), (ms, .inr (3, [.ref msw])), (msw, .inl (c 2, 4 * (ne + 1), .inr (.inl mf)))] s.heap := hP
  have hl := lv_entry ([.ref x, .int (zI ((n : Nat) : Int))]) (n := 2) (Nat.le_of_ble_eq_true rfl)
  rw [lg_entry_eq]
  generalize (lg_sl ([.ref x, .int (zI ((n : Nat) : Int))]) ++ List.replicate (2 - (lg_sl ([.ref x, .int (zI ((n : Nat) : Int))])).length) Slot.unset).toArray = ls at hl ⊢
  have hl : lv_has ls 2 [(0, .ref x), (1, .int (zI ((n : Nat) : Int)))] := hl
  generalize hQ : MQ below _ _ _ _ _ _ = Q
  refine lv_iload_n hx hb d_To_read_0 rfl (lv_at hl 1 rfl) ?_
  have hPc : va_P D vwCl [] s.heap := hP.sub (ws' := []) [] rfl
  refine vp_callSi (va_runS (rm := rm_isName) (As := [.int (zI ((n : Nat) : Int))]) (rest := []) ⟨hx, hb, hml, hown, hts⟩ (c_isName l D c ((n : Nat) : Int) (by omega)) (va_cwS 1 hts (gWS k_To_m33 k_s_To_isName k_n_To k_c_To_isName) rfl rfl rfl (by decide +kernel) ⟨Nat.le_of_ble_eq_true rfl, Nat.le_of_ble_eq_true rfl⟩) ⟨zblind, fun U hU hW => ⟨rfl, by rw [hU]; exact hPc, hKN.moved hW⟩⟩ rfl rfl hl.1 rfl (lv_room (Nat.le_of_ble_eq_true rfl)) d_To_read_1 ⟨Nat.zero_le _, Nat.zero_le _⟩).run (fun r hr_1 => ?_)
  subst hr_1
  refine z_ifeq_B (tgt := 28) hx hb d_To_read_4 (by decide) (fun hc_4 => (absurd hc_4 (by rw [decide_eq_true (by omega)]; decide))) (fun hc_4 => ?_)
  refine lv_aload_n hx hb d_To_read_7 rfl (lv_at hl 0 rfl) ?_
  refine va_get (D := D) (ci := 4) (v := .ref rd) (C := R_To) (T := T_To) (N := 4) hx hb hts (fun w h => List.mem_cons_of_mem _ (inA_To w h)) hown hK hP 0 rfl rfl 2 (by decide) (hw k_To_f25) (fun _ h9 => h9) rfl d_To_read_8 ?_
  refine lv_iload_n hx hb d_To_read_11 rfl (lv_at hl 1 rfl) ?_
  have hPc : va_P D vwCl [(rd, .inr (2, [.ref rn, .ref rc, .ref mo, .int (zI ((ct : Nat) : Int))])), (rn, .inl (c 0, 1000, .inl (fun j => zI ((nr j : Nat) : Int)))), (rc, .inr (3, [.ref rcw])), (rcw, .inl (c 2, 4 * 1001, .inr (.inl rv))), (mo, .inr (1, [.ref me, .ref ms, .int (zB dt)])), (me, .inl (c 0, ne, .inl (fun j => zI ((en j : Nat) : Int)))), (ms, .inr (3, [.ref msw])), (msw, .inl (c 2, 4 * (ne + 1), .inr (.inl mf)))] s.heap := hP.sub (ws' := [(rd, .inr (2, [.ref rn, .ref rc, .ref mo, .int (zI ((ct : Nat) : Int))])), (rn, .inl (c 0, 1000, .inl (fun j => zI ((nr j : Nat) : Int)))), (rc, .inr (3, [.ref rcw])), (rcw, .inl (c 2, 4 * 1001, .inr (.inl rv))), (mo, .inr (1, [.ref me, .ref ms, .int (zB dt)])), (me, .inl (c 0, ne, .inl (fun j => zI ((en j : Nat) : Int)))), (ms, .inr (3, [.ref msw])), (msw, .inl (c 2, 4 * (ne + 1), .inr (.inl mf)))]) [1, 2, 3, 4, 5, 6, 7, 8] rfl
  have hDc : va_D A [(rd, .inr (2, [.ref rn, .ref rc, .ref mo, .int (zI ((ct : Nat) : Int))])), (rn, .inl (c 0, 1000, .inl (fun j => zI ((nr j : Nat) : Int)))), (rc, .inr (3, [.ref rcw])), (rcw, .inl (c 2, 4 * 1001, .inr (.inl rv))), (mo, .inr (1, [.ref me, .ref ms, .int (zB dt)])), (me, .inl (c 0, ne, .inl (fun j => zI ((en j : Nat) : Int)))), (ms, .inr (3, [.ref msw])), (msw, .inl (c 2, 4 * (ne + 1), .inr (.inl mf)))] := hD.sub (ws' := [(rd, .inr (2, [.ref rn, .ref rc, .ref mo, .int (zI ((ct : Nat) : Int))])), (rn, .inl (c 0, 1000, .inl (fun j => zI ((nr j : Nat) : Int)))), (rc, .inr (3, [.ref rcw])), (rcw, .inl (c 2, 4 * 1001, .inr (.inl rv))), (mo, .inr (1, [.ref me, .ref ms, .int (zB dt)])), (me, .inl (c 0, ne, .inl (fun j => zI ((en j : Nat) : Int)))), (ms, .inr (3, [.ref msw])), (msw, .inl (c 2, 4 * (ne + 1), .inr (.inl mf)))]) [1, 2, 3, 4, 5, 6, 7, 8] (by decide) rfl
  have hDt : va_D (fun _ => True) [(rd, .inr (2, [.ref rn, .ref rc, .ref mo, .int (zI ((ct : Nat) : Int))])), (rn, .inl (c 0, 1000, .inl (fun j => zI ((nr j : Nat) : Int)))), (rc, .inr (3, [.ref rcw])), (rcw, .inl (c 2, 4 * 1001, .inr (.inl rv))), (mo, .inr (1, [.ref me, .ref ms, .int (zB dt)])), (me, .inl (c 0, ne, .inl (fun j => zI ((en j : Nat) : Int)))), (ms, .inr (3, [.ref msw])), (msw, .inl (c 2, 4 * (ne + 1), .inr (.inl mf)))] := hDc.weaken (fun _ _ _ _ => trivial)
  refine z_calli (S := Unit) (w1 := fun u => [(rd, .inr (2, [.ref rn, .ref rc, .ref mo, .int (zI ((ct + 1 : Nat) : Int))])), (rn, .inl (c 0, 1000, .inl (fun j => zI (((va_up nr ct n) j : Nat) : Int)))), (rc, .inr (3, [.ref rcw])), (rcw, .inl (c 2, 4 * 1001, .inr (.inl (pbk rv en mf ct n ne)))), (mo, .inr (1, [.ref me, .ref ms, .int (zB dt)])), (me, .inl (c 0, ne, .inl (fun j => zI ((en j : Nat) : Int)))), (ms, .inr (3, [.ref msw])), (msw, .inl (c 2, 4 * (ne + 1), .inr (.inl mf)))]) (post := fun r u => r = (zB true) ∧ True) (wc := [(rd, .inr (2, [.ref rn, .ref rc, .ref mo, .int (zI ((ct : Nat) : Int))])), (rn, .inl (c 0, 1000, .inl (fun j => zI ((nr j : Nat) : Int)))), (rc, .inr (3, [.ref rcw])), (rcw, .inl (c 2, 4 * 1001, .inr (.inl rv))), (mo, .inr (1, [.ref me, .ref ms, .int (zB dt)])), (me, .inl (c 0, ne, .inl (fun j => zI ((en j : Nat) : Int)))), (ms, .inr (3, [.ref msw])), (msw, .inl (c 2, 4 * (ne + 1), .inr (.inl mf)))]) [1, 2, 3, 4, 5, 6, 7, 8] rfl (fun _ => rfl) hP hD hS (va_runV (rm := rm_take) (As := [.int (zI ((n : Nat) : Int))]) (rest := []) ⟨hx, hb, hml, hown, hts⟩ (c_take l D c rd rn rc rcw nr rv ct mo me ms msw en ne mf dt n (by omega) hen hoc (by omega) (by omega)) (cwV 1 hts (gWV k_To_m76 k_i_Re_take k_v_Re_take k_n_Re k_c_Re_take) rfl rfl rfl (by decide +kernel) ⟨Nat.le_of_ble_eq_true rfl, Nat.le_of_ble_eq_true rfl⟩) ⟨zblindW, va_recv hK hPc (ci := 2) (q0 := 0) rfl rfl, fun U hU hW => ⟨rfl, ⟨by rw [hU]; exact hPc, hDt⟩, hKN.moved hW⟩⟩ rfl rfl hl.1 rfl (lv_room (Nat.le_of_ble_eq_true rfl)) d_To_read_12 ⟨Nat.zero_le _, Nat.zero_le _⟩) (fun r u H locs hp_2 hP hD hS => ?_)
  obtain ⟨hr_2, hp_2⟩ := hp_2
  subst hr_2
  have hP : va_P D vwCl [(x, .inr (4, [.ref d, .ref xm, .ref rd, .int (zI ((mk : Nat) : Int))])), (rd, .inr (2, [.ref rn, .ref rc, .ref mo, .int (zI ((ct + 1 : Nat) : Int))])), (rn, .inl (c 0, 1000, .inl (fun j => zI (((va_up nr ct n) j : Nat) : Int)))), (rc, .inr (3, [.ref rcw])), (rcw, .inl (c 2, 4 * 1001, .inr (.inl (pbk rv en mf ct n ne)))), (mo, .inr (1, [.ref me, .ref ms, .int (zB dt)])), (me, .inl (c 0, ne, .inl (fun j => zI ((en j : Nat) : Int)))), (ms, .inr (3, [.ref msw])), (msw, .inl (c 2, 4 * (ne + 1), .inr (.inl mf)))] H := hP
  have hD : va_D A [(x, .inr (4, [.ref d, .ref xm, .ref rd, .int (zI ((mk : Nat) : Int))])), (rd, .inr (2, [.ref rn, .ref rc, .ref mo, .int (zI ((ct + 1 : Nat) : Int))])), (rn, .inl (c 0, 1000, .inl (fun j => zI (((va_up nr ct n) j : Nat) : Int)))), (rc, .inr (3, [.ref rcw])), (rcw, .inl (c 2, 4 * 1001, .inr (.inl (pbk rv en mf ct n ne)))), (mo, .inr (1, [.ref me, .ref ms, .int (zB dt)])), (me, .inl (c 0, ne, .inl (fun j => zI ((en j : Nat) : Int)))), (ms, .inr (3, [.ref msw])), (msw, .inl (c 2, 4 * (ne + 1), .inr (.inl mf)))] := hD
  refine z_ifeq_B (tgt := 28) hx hb d_To_read_15 (by decide) (fun hc_15 => (absurd hc_15 (by decide))) (fun hc_15 => ?_)
  refine lv_aload_n hx hb d_To_read_18 rfl (lv_at hl 0 rfl) ?_
  refine va_get (D := D) (ci := 4) (v := .ref rd) (C := R_To) (T := T_To) (N := 4) hx hb hts (fun w h => List.mem_cons_of_mem _ (inA_To w h)) hown hK hP 0 rfl rfl 2 (by decide) (hw k_To_f25) (fun _ h9 => h9) rfl d_To_read_19 ?_
  refine va_getN (D := D) (ci := 2) (v := .int (zI ((ct + 1 : Nat) : Int))) (C := R_Re) (T := T_Re) (N := 4) hx hb hts (fun w h => List.mem_cons_of_mem _ (inA_Re w h)) hown hK hP 1 rfl rfl 3 (by decide) (va_Nw.use rfl hN.2.2.2.1) (fun _ h9 => h9) rfl d_To_read_22 ?_
  refine lv_goto (tgt := 29) hx hb d_To_read_25 (by decide) ?_
  subst hQ
  exact W.iret (v := (zI ((ct + 1 : Nat) : Int))) hx hb hr (fun t9 ht hW => ⟨⟨_, (), rfl, ⟨rfl, trivial⟩, by show va_P _ _ _ t9.heap; rw [ht]; exact hP⟩, hS.F ht⟩) hS.2.2 d_To_read_29

def rm_isWhole_null : Room := { frames := 1, cells := 0, slots := 0, locals := 20 }
set_option maxHeartbeats 4000000 in
set_option maxRecDepth 100000 in
/-- isWhole_null -/
theorem c_isWhole_null (l : Launch) (D : va_G) (c : Nat → ClassId) (x : Nat) (xm : Nat) (d : Nat) (mg : Nat → Option Nat) (mk : Nat) (rd : Nat) (rn : Nat) (rc : Nat) (rcw : Nat) (nr : Nat → Nat) (rv : Nat → Int64) (ct : Nat)  : Met l y_To_isWhole w_To_isWhole rm_isWhole_null (va_Pc [.ref x] (fun U => va_P D vwCl [(x, .inr (4, [.ref d, .ref xm, .ref rd, .int (zI ((mk : Nat) : Int))])), (rd, .inr (2, [.ref rn, .ref rc, .null, .int (zI ((ct : Nat) : Int))]))] U.heap ∧ zK D c U)) (vp_Si (fun r => r = (zB false))) 0 0 (fun _ => False) := by
  refine Met.ofW (cc := b_To_isWhole) (maxL := 1) (ret := (some .boolean)) (by decide) rfl ?_
  intro p e s m args below meth c0 s₁ B hml hv
  obtain ⟨rfl, hP, hKN⟩ := hv
  have hK := hKN.1
  have hN := hKN.2
  have hx := B.exec
  have hb := B.bytes
  have hr := B.returns
  have hts := atoms_spec (ws := w_To_isWhole) B.pre
  have hw : ∀ {w : Cond}, w ∈ ALLW → w.before _ s = true := fun h => hts _ (List.mem_cons_of_mem _ h)
  have hown : s.vm.findClass R_To = some m.cls := findClass_of_methodNamed B.named
  have hlocks := B.notSynchronized
  have hl := lv_entry ([.ref x]) (n := 1) (Nat.le_of_ble_eq_true rfl)
  rw [lg_entry_eq]
  generalize (lg_sl ([.ref x]) ++ List.replicate (1 - (lg_sl ([.ref x])).length) Slot.unset).toArray = ls at hl ⊢
  have hl : lv_has ls 1 [(0, .ref x)] := hl
  generalize hQ : MQ below _ _ _ _ _ _ = Q
  refine lv_aload_n hx hb d_To_isWhole_0 rfl (lv_at hl 0 rfl) ?_
  refine va_get (D := D) (ci := 4) (v := .ref rd) (C := R_To) (T := T_To) (N := 4) hx hb hts (fun w h => List.mem_cons_of_mem _ (inA_To w h)) hown hK hP 0 rfl rfl 2 (by decide) (hw k_To_f25) (fun _ h9 => h9) rfl d_To_isWhole_1 ?_
  have hPc : va_P D vwCl [(rd, .inr (2, [.ref rn, .ref rc, .null, .int (zI ((ct : Nat) : Int))]))] s.heap := hP.sub (ws' := [(rd, .inr (2, [.ref rn, .ref rc, .null, .int (zI ((ct : Nat) : Int))]))]) [1] rfl
  refine vp_callSi (va_runV (rm := rm_mayEnd_null) (As := []) (rest := []) ⟨hx, hb, hml, hown, hts⟩ (c_mayEnd_null l D c rd rn rc rcw nr rv ct) (cwV 0 hts (gWV k_To_m82 k_i_Re_mayEnd k_v_Re_mayEnd k_n_Re k_c_Re_mayEnd) rfl rfl rfl (by decide +kernel) ⟨Nat.le_of_ble_eq_true rfl, Nat.le_of_ble_eq_true rfl⟩) ⟨zblind, va_recv hK hPc (ci := 2) (q0 := 0) rfl rfl, fun U hU hW => ⟨rfl, by rw [hU]; exact hPc, hKN.moved hW⟩⟩ rfl rfl hl.1 rfl (lv_room (Nat.le_of_ble_eq_true rfl)) d_To_isWhole_4 ⟨Nat.zero_le _, Nat.zero_le _⟩).run (fun r hr_1 => ?_)
  subst hr_1
  subst hQ
  exact W.zret (ty := .boolean) (v := (zB false)) hx hb hr (z_narB _) (fun t9 ht hW => ⟨_, rfl, rfl, ht⟩) (fun q hq => absurd hq List.not_mem_nil) d_To_isWhole_7

def rm_isWhole : Room := { frames := 4, cells := 0, slots := 0, locals := 85 }
set_option maxHeartbeats 4000000 in
set_option maxRecDepth 100000 in
/-- isWhole -/
theorem c_isWhole (l : Launch) (D : va_G) (c : Nat → ClassId) (x : Nat) (xm : Nat) (d : Nat) (mg : Nat → Option Nat) (mk : Nat) (rd : Nat) (rn : Nat) (rc : Nat) (rcw : Nat) (nr : Nat → Nat) (rv : Nat → Int64) (ct : Nat) (mo : Nat) (hct : ct < 1001) : Met l y_To_isWhole w_To_isWhole rm_isWhole (va_Pc [.ref x] (fun U => va_P D vwCl [(x, .inr (4, [.ref d, .ref xm, .ref rd, .int (zI ((mk : Nat) : Int))])), (rd, .inr (2, [.ref rn, .ref rc, .ref mo, .int (zI ((ct : Nat) : Int))])), (rc, .inr (3, [.ref rcw])), (rcw, .inl (c 2, 4 * 1001, .inr (.inl rv)))] U.heap ∧ zK D c U)) (vp_Si (fun r => r = (zB (zbt rv ct 255)))) 0 0 (fun _ => False) := by
  refine Met.ofW (cc := b_To_isWhole) (maxL := 1) (ret := (some .boolean)) (by decide) rfl ?_
  intro p e s m args below meth c0 s₁ B hml hv
  obtain ⟨rfl, hP, hKN⟩ := hv
  have hK := hKN.1
  have hN := hKN.2
  have hx := B.exec
  have hb := B.bytes
  have hr := B.returns
  have hts := atoms_spec (ws := w_To_isWhole) B.pre
  have hw : ∀ {w : Cond}, w ∈ ALLW → w.before _ s = true := fun h => hts _ (List.mem_cons_of_mem _ h)
  have hown : s.vm.findClass R_To = some m.cls := findClass_of_methodNamed B.named
  have hlocks := B.notSynchronized
  have hl := lv_entry ([.ref x]) (n := 1) (Nat.le_of_ble_eq_true rfl)
  rw [lg_entry_eq]
  generalize (lg_sl ([.ref x]) ++ List.replicate (1 - (lg_sl ([.ref x])).length) Slot.unset).toArray = ls at hl ⊢
  have hl : lv_has ls 1 [(0, .ref x)] := hl
  generalize hQ : MQ below _ _ _ _ _ _ = Q
  refine lv_aload_n hx hb d_To_isWhole_0 rfl (lv_at hl 0 rfl) ?_
  refine va_get (D := D) (ci := 4) (v := .ref rd) (C := R_To) (T := T_To) (N := 4) hx hb hts (fun w h => List.mem_cons_of_mem _ (inA_To w h)) hown hK hP 0 rfl rfl 2 (by decide) (hw k_To_f25) (fun _ h9 => h9) rfl d_To_isWhole_1 ?_
  have hPc : va_P D vwCl [(rd, .inr (2, [.ref rn, .ref rc, .ref mo, .int (zI ((ct : Nat) : Int))])), (rc, .inr (3, [.ref rcw])), (rcw, .inl (c 2, 4 * 1001, .inr (.inl rv)))] s.heap := hP.sub (ws' := [(rd, .inr (2, [.ref rn, .ref rc, .ref mo, .int (zI ((ct : Nat) : Int))])), (rc, .inr (3, [.ref rcw])), (rcw, .inl (c 2, 4 * 1001, .inr (.inl rv)))]) [1, 2, 3] rfl
  refine vp_callSi (va_runV (rm := rm_mayEnd) (As := []) (rest := []) ⟨hx, hb, hml, hown, hts⟩ (c_mayEnd l D c rd rn rc rcw nr rv ct mo hct) (cwV 0 hts (gWV k_To_m82 k_i_Re_mayEnd k_v_Re_mayEnd k_n_Re k_c_Re_mayEnd) rfl rfl rfl (by decide +kernel) ⟨Nat.le_of_ble_eq_true rfl, Nat.le_of_ble_eq_true rfl⟩) ⟨zblind, va_recv hK hPc (ci := 2) (q0 := 0) rfl rfl, fun U hU hW => ⟨rfl, by rw [hU]; exact hPc, hKN.moved hW⟩⟩ rfl rfl hl.1 rfl (lv_room (Nat.le_of_ble_eq_true rfl)) d_To_isWhole_4 ⟨Nat.zero_le _, Nat.zero_le _⟩).run (fun r hr_1 => ?_)
  subst hr_1
  subst hQ
  exact W.zret (ty := .boolean) (v := (zB (zbt rv ct 255))) hx hb hr (z_narB _) (fun t9 ht hW => ⟨_, rfl, rfl, ht⟩) (fun q hq => absurd hq List.not_mem_nil) d_To_isWhole_7

def rm_can_null : Room := { frames := 1, cells := 0, slots := 0, locals := 21 }
set_option maxHeartbeats 4000000 in
set_option maxRecDepth 100000 in
/-- can_null -/
theorem c_can_null (l : Launch) (D : va_G) (c : Nat → ClassId) (x : Nat) (xm : Nat) (d : Nat) (mg : Nat → Option Nat) (mk : Nat) (rd : Nat) (rn : Nat) (rc : Nat) (rcw : Nat) (nr : Nat → Nat) (rv : Nat → Int64) (ct : Nat) (y : Int)  : Met l y_To_can w_To_can rm_can_null (va_Pc [.ref x, .int (zI y)] (fun U => va_P D vwCl [(x, .inr (4, [.ref d, .ref xm, .ref rd, .int (zI ((mk : Nat) : Int))])), (rd, .inr (2, [.ref rn, .ref rc, .null, .int (zI ((ct : Nat) : Int))]))] U.heap ∧ zK D c U)) (vp_Si (fun r => r = (zB false))) 0 0 (fun _ => False) := by
  refine Met.ofW (cc := b_To_can) (maxL := 2) (ret := (some .boolean)) (by decide) rfl ?_
  intro p e s m args below meth c0 s₁ B hml hv
  obtain ⟨rfl, hP, hKN⟩ := hv
  have hK := hKN.1
  have hN := hKN.2
  have hx := B.exec
  have hb := B.bytes
  have hr := B.returns
  have hts := atoms_spec (ws := w_To_can) B.pre
  have hw : ∀ {w : Cond}, w ∈ ALLW → w.before _ s = true := fun h => hts _ (List.mem_cons_of_mem _ h)
  have hown : s.vm.findClass R_To = some m.cls := findClass_of_methodNamed B.named
  have hlocks := B.notSynchronized
  have hl := lv_entry ([.ref x, .int (zI y)]) (n := 2) (Nat.le_of_ble_eq_true rfl)
  rw [lg_entry_eq]
  generalize (lg_sl ([.ref x, .int (zI y)]) ++ List.replicate (2 - (lg_sl ([.ref x, .int (zI y)])).length) Slot.unset).toArray = ls at hl ⊢
  have hl : lv_has ls 2 [(0, .ref x), (1, .int (zI y))] := hl
  generalize hQ : MQ below _ _ _ _ _ _ = Q
  refine lv_aload_n hx hb d_To_can_0 rfl (lv_at hl 0 rfl) ?_
  refine va_get (D := D) (ci := 4) (v := .ref rd) (C := R_To) (T := T_To) (N := 4) hx hb hts (fun w h => List.mem_cons_of_mem _ (inA_To w h)) hown hK hP 0 rfl rfl 2 (by decide) (hw k_To_f25) (fun _ h9 => h9) rfl d_To_can_1 ?_
  refine lv_iload_n hx hb d_To_can_4 rfl (lv_at hl 1 rfl) ?_
  have hPc : va_P D vwCl [(rd, .inr (2, [.ref rn, .ref rc, .null, .int (zI ((ct : Nat) : Int))]))] s.heap := hP.sub (ws' := [(rd, .inr (2, [.ref rn, .ref rc, .null, .int (zI ((ct : Nat) : Int))]))]) [1] rfl
  refine vp_callSi (va_runV (rm := rm_mayTake_null) (As := [.int (zI y)]) (rest := []) ⟨hx, hb, hml, hown, hts⟩ (c_mayTake_null l D c rd rn rc rcw nr rv ct y) (cwV 1 hts (gWV k_To_m85 k_i_Re_mayTake k_v_Re_mayTake k_n_Re k_c_Re_mayTake) rfl rfl rfl (by decide +kernel) ⟨Nat.le_of_ble_eq_true rfl, Nat.le_of_ble_eq_true rfl⟩) ⟨zblind, va_recv hK hPc (ci := 2) (q0 := 0) rfl rfl, fun U hU hW => ⟨rfl, by rw [hU]; exact hPc, hKN.moved hW⟩⟩ rfl rfl hl.1 rfl (lv_room (Nat.le_of_ble_eq_true rfl)) d_To_can_5 ⟨Nat.zero_le _, Nat.zero_le _⟩).run (fun r hr_1 => ?_)
  subst hr_1
  subst hQ
  exact W.zret (ty := .boolean) (v := (zB false)) hx hb hr (z_narB _) (fun t9 ht hW => ⟨_, rfl, rfl, ht⟩) (fun q hq => absurd hq List.not_mem_nil) d_To_can_8

def rm_can : Room := { frames := 5, cells := 0, slots := 0, locals := 110 }
set_option maxHeartbeats 4000000 in
set_option maxRecDepth 100000 in
/-- can -/
theorem c_can (l : Launch) (D : va_G) (c : Nat → ClassId) (x : Nat) (xm : Nat) (d : Nat) (mg : Nat → Option Nat) (mk : Nat) (rd : Nat) (rn : Nat) (rc : Nat) (rcw : Nat) (nr : Nat → Nat) (rv : Nat → Int64) (ct : Nat) (mo : Nat) (me : Nat) (ms : Nat) (msw : Nat) (en : Nat → Nat) (ne : Nat) (mf : Nat → Int64) (dt : Bool) (y : Int) (hne : ne ≤ 255) (hen : ∀ j, j < ne → en j < 300000) (hct : ct < 1001) (hx_ : -2147483648 ≤ y ∧ y < 2147483648) : Met l y_To_can w_To_can rm_can (va_Pc [.ref x, .int (zI y)] (fun U => va_P D vwCl [(x, .inr (4, [.ref d, .ref xm, .ref rd, .int (zI ((mk : Nat) : Int))])), (rd, .inr (2, [.ref rn, .ref rc, .ref mo, .int (zI ((ct : Nat) : Int))])), (rc, .inr (3, [.ref rcw])), (rcw, .inl (c 2, 4 * 1001, .inr (.inl rv))), (mo, .inr (1, [.ref me, .ref ms, .int (zB dt)])), (me, .inl (c 0, ne, .inl (fun j => zI ((en j : Nat) : Int))))] U.heap ∧ zK D c U)) (vp_Si (fun r => r = (zB (hnm rv en ct y ne)))) 0 0 (fun _ => False) := by
  refine Met.ofW (cc := b_To_can) (maxL := 2) (ret := (some .boolean)) (by decide) rfl ?_
  intro p e s m args below meth c0 s₁ B hml hv
  obtain ⟨rfl, hP, hKN⟩ := hv
  have hK := hKN.1
  have hN := hKN.2
  have hx := B.exec
  have hb := B.bytes
  have hr := B.returns
  have hts := atoms_spec (ws := w_To_can) B.pre
  have hw : ∀ {w : Cond}, w ∈ ALLW → w.before _ s = true := fun h => hts _ (List.mem_cons_of_mem _ h)
  have hown : s.vm.findClass R_To = some m.cls := findClass_of_methodNamed B.named
  have hlocks := B.notSynchronized
  have hl := lv_entry ([.ref x, .int (zI y)]) (n := 2) (Nat.le_of_ble_eq_true rfl)
  rw [lg_entry_eq]
  generalize (lg_sl ([.ref x, .int (zI y)]) ++ List.replicate (2 - (lg_sl ([.ref x, .int (zI y)])).length) Slot.unset).toArray = ls at hl ⊢
  have hl : lv_has ls 2 [(0, .ref x), (1, .int (zI y))] := hl
  generalize hQ : MQ below _ _ _ _ _ _ = Q
  refine lv_aload_n hx hb d_To_can_0 rfl (lv_at hl 0 rfl) ?_
  refine va_get (D := D) (ci := 4) (v := .ref rd) (C := R_To) (T := T_To) (N := 4) hx hb hts (fun w h => List.mem_cons_of_mem _ (inA_To w h)) hown hK hP 0 rfl rfl 2 (by decide) (hw k_To_f25) (fun _ h9 => h9) rfl d_To_can_1 ?_
  refine lv_iload_n hx hb d_To_can_4 rfl (lv_at hl 1 rfl) ?_
  have hPc : va_P D vwCl [(rd, .inr (2, [.ref rn, .ref rc, .ref mo, .int (zI ((ct : Nat) : Int))])), (rc, .inr (3, [.ref rcw])), (rcw, .inl (c 2, 4 * 1001, .inr (.inl rv))), (mo, .inr (1, [.ref me, .ref ms, .int (zB dt)])), (me, .inl (c 0, ne, .inl (fun j => zI ((en j : Nat) : Int))))] s.heap := hP.sub (ws' := [(rd, .inr (2, [.ref rn, .ref rc, .ref mo, .int (zI ((ct : Nat) : Int))])), (rc, .inr (3, [.ref rcw])), (rcw, .inl (c 2, 4 * 1001, .inr (.inl rv))), (mo, .inr (1, [.ref me, .ref ms, .int (zB dt)])), (me, .inl (c 0, ne, .inl (fun j => zI ((en j : Nat) : Int))))]) [1, 2, 3, 4, 5] rfl
  refine vp_callSi (va_runV (rm := rm_mayTake) (As := [.int (zI y)]) (rest := []) ⟨hx, hb, hml, hown, hts⟩ (c_mayTake l D c rd rn rc rcw nr rv ct mo me ms msw en ne mf dt y hne hen hct hx_) (cwV 1 hts (gWV k_To_m85 k_i_Re_mayTake k_v_Re_mayTake k_n_Re k_c_Re_mayTake) rfl rfl rfl (by decide +kernel) ⟨Nat.le_of_ble_eq_true rfl, Nat.le_of_ble_eq_true rfl⟩) ⟨zblind, va_recv hK hPc (ci := 2) (q0 := 0) rfl rfl, fun U hU hW => ⟨rfl, by rw [hU]; exact hPc, hKN.moved hW⟩⟩ rfl rfl hl.1 rfl (lv_room (Nat.le_of_ble_eq_true rfl)) d_To_can_5 ⟨Nat.zero_le _, Nat.zero_le _⟩).run (fun r hr_1 => ?_)
  subst hr_1
  subst hQ
  exact W.zret (ty := .boolean) (v := (zB (hnm rv en ct y ne))) hx hb hr (z_narB _) (fun t9 ht hW => ⟨_, rfl, rfl, ht⟩) (fun q hq => absurd hq List.not_mem_nil) d_To_can_8

def rm_next_null : Room := { frames := 1, cells := 0, slots := 0, locals := 21 }
set_option maxHeartbeats 4000000 in
set_option maxRecDepth 100000 in
/-- next_null -/
theorem c_next_null (l : Launch) (D : va_G) (c : Nat → ClassId) (x : Nat) (xm : Nat) (d : Nat) (mg : Nat → Option Nat) (mk : Nat) (rd : Nat) (rn : Nat) (rc : Nat) (rcw : Nat) (nr : Nat → Nat) (rv : Nat → Int64) (ct : Nat) (y : Int)  : Met l y_To_next w_To_next rm_next_null (va_Pc [.ref x, .int (zI y)] (fun U => va_P D vwCl [(x, .inr (4, [.ref d, .ref xm, .ref rd, .int (zI ((mk : Nat) : Int))])), (rd, .inr (2, [.ref rn, .ref rc, .null, .int (zI ((ct : Nat) : Int))]))] U.heap ∧ zK D c U)) (vp_Si (fun r => r = (zI (-1)))) 0 0 (fun _ => False) := by
  refine Met.ofW (cc := b_To_next) (maxL := 2) (ret := (some .int)) (by decide) rfl ?_
  intro p e s m args below meth c0 s₁ B hml hv
  obtain ⟨rfl, hP, hKN⟩ := hv
  have hK := hKN.1
  have hN := hKN.2
  have hx := B.exec
  have hb := B.bytes
  have hr := B.returns
  have hts := atoms_spec (ws := w_To_next) B.pre
  have hw : ∀ {w : Cond}, w ∈ ALLW → w.before _ s = true := fun h => hts _ (List.mem_cons_of_mem _ h)
  have hown : s.vm.findClass R_To = some m.cls := findClass_of_methodNamed B.named
  have hlocks := B.notSynchronized
  have hl := lv_entry ([.ref x, .int (zI y)]) (n := 2) (Nat.le_of_ble_eq_true rfl)
  rw [lg_entry_eq]
  generalize (lg_sl ([.ref x, .int (zI y)]) ++ List.replicate (2 - (lg_sl ([.ref x, .int (zI y)])).length) Slot.unset).toArray = ls at hl ⊢
  have hl : lv_has ls 2 [(0, .ref x), (1, .int (zI y))] := hl
  generalize hQ : MQ below _ _ _ _ _ _ = Q
  refine lv_aload_n hx hb d_To_next_0 rfl (lv_at hl 0 rfl) ?_
  refine va_get (D := D) (ci := 4) (v := .ref rd) (C := R_To) (T := T_To) (N := 4) hx hb hts (fun w h => List.mem_cons_of_mem _ (inA_To w h)) hown hK hP 0 rfl rfl 2 (by decide) (hw k_To_f25) (fun _ h9 => h9) rfl d_To_next_1 ?_
  refine lv_iload_n hx hb d_To_next_4 rfl (lv_at hl 1 rfl) ?_
  have hPc : va_P D vwCl [(rd, .inr (2, [.ref rn, .ref rc, .null, .int (zI ((ct : Nat) : Int))]))] s.heap := hP.sub (ws' := [(rd, .inr (2, [.ref rn, .ref rc, .null, .int (zI ((ct : Nat) : Int))]))]) [1] rfl
  refine vp_callSi (va_runV (rm := rm_offer_null) (As := [.int (zI y)]) (rest := []) ⟨hx, hb, hml, hown, hts⟩ (c_offer_null l D c rd rn rc rcw nr rv ct y) (cwV 1 hts (gWV k_To_m88 k_i_Re_offer k_v_Re_offer k_n_Re k_c_Re_offer) rfl rfl rfl (by decide +kernel) ⟨Nat.le_of_ble_eq_true rfl, Nat.le_of_ble_eq_true rfl⟩) ⟨zblind, va_recv hK hPc (ci := 2) (q0 := 0) rfl rfl, fun U hU hW => ⟨rfl, by rw [hU]; exact hPc, hKN.moved hW⟩⟩ rfl rfl hl.1 rfl (lv_room (Nat.le_of_ble_eq_true rfl)) d_To_next_5 ⟨Nat.zero_le _, Nat.zero_le _⟩).run (fun r hr_1 => ?_)
  subst hr_1
  subst hQ
  exact W.iret (v := (zI (-1))) hx hb hr (fun t9 ht hW => ⟨_, rfl, rfl, ht⟩) (fun q hq => absurd hq List.not_mem_nil) d_To_next_8

def rm_next : Room := { frames := 5, cells := 0, slots := 0, locals := 113 }
set_option maxHeartbeats 4000000 in
set_option maxRecDepth 100000 in
/-- next -/
theorem c_next (l : Launch) (D : va_G) (c : Nat → ClassId) (x : Nat) (xm : Nat) (d : Nat) (mg : Nat → Option Nat) (mk : Nat) (rd : Nat) (rn : Nat) (rc : Nat) (rcw : Nat) (nr : Nat → Nat) (rv : Nat → Int64) (ct : Nat) (mo : Nat) (me : Nat) (ms : Nat) (msw : Nat) (en : Nat → Nat) (ne : Nat) (mf : Nat → Int64) (dt : Bool) (y : Int) (hne : ne ≤ 255) (hen : ∀ j, j < ne → en j < 300000) (hct : ct < 1001) (hx_ : -2147483648 ≤ y ∧ y < 2147483648) : Met l y_To_next w_To_next rm_next (va_Pc [.ref x, .int (zI y)] (fun U => va_P D vwCl [(x, .inr (4, [.ref d, .ref xm, .ref rd, .int (zI ((mk : Nat) : Int))])), (rd, .inr (2, [.ref rn, .ref rc, .ref mo, .int (zI ((ct : Nat) : Int))])), (rc, .inr (3, [.ref rcw])), (rcw, .inl (c 2, 4 * 1001, .inr (.inl rv))), (mo, .inr (1, [.ref me, .ref ms, .int (zB dt)])), (me, .inl (c 0, ne, .inl (fun j => zI ((en j : Nat) : Int))))] U.heap ∧ zK D c U)) (vp_Si (fun r => r = (zI (naR rv en ct y ne)))) 0 0 (fun _ => False) := by
  refine Met.ofW (cc := b_To_next) (maxL := 2) (ret := (some .int)) (by decide) rfl ?_
  intro p e s m args below meth c0 s₁ B hml hv
  obtain ⟨rfl, hP, hKN⟩ := hv
  have hK := hKN.1
  have hN := hKN.2
  have hx := B.exec
  have hb := B.bytes
  have hr := B.returns
  have hts := atoms_spec (ws := w_To_next) B.pre
  have hw : ∀ {w : Cond}, w ∈ ALLW → w.before _ s = true := fun h => hts _ (List.mem_cons_of_mem _ h)
  have hown : s.vm.findClass R_To = some m.cls := findClass_of_methodNamed B.named
  have hlocks := B.notSynchronized
  have hl := lv_entry ([.ref x, .int (zI y)]) (n := 2) (Nat.le_of_ble_eq_true rfl)
  rw [lg_entry_eq]
  generalize (lg_sl ([.ref x, .int (zI y)]) ++ List.replicate (2 - (lg_sl ([.ref x, .int (zI y)])).length) Slot.unset).toArray = ls at hl ⊢
  have hl : lv_has ls 2 [(0, .ref x), (1, .int (zI y))] := hl
  generalize hQ : MQ below _ _ _ _ _ _ = Q
  refine lv_aload_n hx hb d_To_next_0 rfl (lv_at hl 0 rfl) ?_
  refine va_get (D := D) (ci := 4) (v := .ref rd) (C := R_To) (T := T_To) (N := 4) hx hb hts (fun w h => List.mem_cons_of_mem _ (inA_To w h)) hown hK hP 0 rfl rfl 2 (by decide) (hw k_To_f25) (fun _ h9 => h9) rfl d_To_next_1 ?_
  refine lv_iload_n hx hb d_To_next_4 rfl (lv_at hl 1 rfl) ?_
  have hPc : va_P D vwCl [(rd, .inr (2, [.ref rn, .ref rc, .ref mo, .int (zI ((ct : Nat) : Int))])), (rc, .inr (3, [.ref rcw])), (rcw, .inl (c 2, 4 * 1001, .inr (.inl rv))), (mo, .inr (1, [.ref me, .ref ms, .int (zB dt)])), (me, .inl (c 0, ne, .inl (fun j => zI ((en j : Nat) : Int))))] s.heap := hP.sub (ws' := [(rd, .inr (2, [.ref rn, .ref rc, .ref mo, .int (zI ((ct : Nat) : Int))])), (rc, .inr (3, [.ref rcw])), (rcw, .inl (c 2, 4 * 1001, .inr (.inl rv))), (mo, .inr (1, [.ref me, .ref ms, .int (zB dt)])), (me, .inl (c 0, ne, .inl (fun j => zI ((en j : Nat) : Int))))]) [1, 2, 3, 4, 5] rfl
  refine vp_callSi (va_runV (rm := rm_offer) (As := [.int (zI y)]) (rest := []) ⟨hx, hb, hml, hown, hts⟩ (c_offer l D c rd rn rc rcw nr rv ct mo me ms msw en ne mf dt y hne hen hct hx_) (cwV 1 hts (gWV k_To_m88 k_i_Re_offer k_v_Re_offer k_n_Re k_c_Re_offer) rfl rfl rfl (by decide +kernel) ⟨Nat.le_of_ble_eq_true rfl, Nat.le_of_ble_eq_true rfl⟩) ⟨zblind, va_recv hK hPc (ci := 2) (q0 := 0) rfl rfl, fun U hU hW => ⟨rfl, by rw [hU]; exact hPc, hKN.moved hW⟩⟩ rfl rfl hl.1 rfl (lv_room (Nat.le_of_ble_eq_true rfl)) d_To_next_5 ⟨Nat.zero_le _, Nat.zero_le _⟩).run (fun r hr_1 => ?_)
  subst hr_1
  subst hQ
  exact W.iret (v := (zI (naR rv en ct y ne))) hx hb hr (fun t9 ht hW => ⟨_, rfl, rfl, ht⟩) (fun q hq => absurd hq List.not_mem_nil) d_To_next_8

def rm_back_null : Room := { frames := 1, cells := 0, slots := 0, locals := 21 }
set_option maxHeartbeats 4000000 in
set_option maxRecDepth 100000 in
/-- back_null -/
theorem c_back_null (l : Launch) (D : va_G) (c : Nat → ClassId) (x : Nat) (xm : Nat) (d : Nat) (mg : Nat → Option Nat) (mk : Nat) (rd : Nat) (rn : Nat) (rc : Nat) (rcw : Nat) (nr : Nat → Nat) (rv : Nat → Int64) (ct : Nat)  : Met l y_To_back w_To_back rm_back_null (va_Pc [.ref x] (fun U => va_P D vwCl [(x, .inr (4, [.ref d, .ref xm, .ref rd, .int (zI ((mk : Nat) : Int))])), (rd, .inr (2, [.ref rn, .ref rc, .null, .int (zI ((ct : Nat) : Int))]))] U.heap ∧ zK D c U)) (vp_Si (fun r => r = (zI (-1)))) 0 0 (fun _ => False) := by
  refine Met.ofW (cc := b_To_back) (maxL := 1) (ret := (some .int)) (by decide) rfl ?_
  intro p e s m args below meth c0 s₁ B hml hv
  obtain ⟨rfl, hP, hKN⟩ := hv
  have hK := hKN.1
  have hN := hKN.2
  have hx := B.exec
  have hb := B.bytes
  have hr := B.returns
  have hts := atoms_spec (ws := w_To_back) B.pre
  have hw : ∀ {w : Cond}, w ∈ ALLW → w.before _ s = true := fun h => hts _ (List.mem_cons_of_mem _ h)
  have hown : s.vm.findClass R_To = some m.cls := findClass_of_methodNamed B.named
  have hlocks := B.notSynchronized
  have hl := lv_entry ([.ref x]) (n := 1) (Nat.le_of_ble_eq_true rfl)
  rw [lg_entry_eq]
  generalize (lg_sl ([.ref x]) ++ List.replicate (1 - (lg_sl ([.ref x])).length) Slot.unset).toArray = ls at hl ⊢
  have hl : lv_has ls 1 [(0, .ref x)] := hl
  generalize hQ : MQ below _ _ _ _ _ _ = Q
  refine lv_aload_n hx hb d_To_back_0 rfl (lv_at hl 0 rfl) ?_
  refine va_get (D := D) (ci := 4) (v := .ref rd) (C := R_To) (T := T_To) (N := 4) hx hb hts (fun w h => List.mem_cons_of_mem _ (inA_To w h)) hown hK hP 0 rfl rfl 2 (by decide) (hw k_To_f25) (fun _ h9 => h9) rfl d_To_back_1 ?_
  have hPc : va_P D vwCl [(rd, .inr (2, [.ref rn, .ref rc, .null, .int (zI ((ct : Nat) : Int))]))] s.heap := hP.sub (ws' := [(rd, .inr (2, [.ref rn, .ref rc, .null, .int (zI ((ct : Nat) : Int))]))]) [1] rfl
  refine vp_callSi (va_runV (rm := rm_takeBack_null) (As := []) (rest := []) ⟨hx, hb, hml, hown, hts⟩ (c_takeBack_null l D c rd rn rc rcw nr rv ct) (cwV 0 hts (gWV k_To_m92 k_i_Re_takeBack k_v_Re_takeBack k_n_Re k_c_Re_takeBack) rfl rfl rfl (by decide +kernel) ⟨Nat.le_of_ble_eq_true rfl, Nat.le_of_ble_eq_true rfl⟩) ⟨zblind, va_recv hK hPc (ci := 2) (q0 := 0) rfl rfl, fun U hU hW => ⟨rfl, by rw [hU]; exact hPc, hKN.moved hW⟩⟩ rfl rfl hl.1 rfl (lv_room (Nat.le_of_ble_eq_true rfl)) d_To_back_4 ⟨Nat.zero_le _, Nat.zero_le _⟩).run (fun r hr_1 => ?_)
  subst hr_1
  subst hQ
  exact W.iret (v := (zI (-1))) hx hb hr (fun t9 ht hW => ⟨_, rfl, rfl, ht⟩) (fun q hq => absurd hq List.not_mem_nil) d_To_back_7

def rm_back_none : Room := { frames := 1, cells := 0, slots := 0, locals := 21 }
set_option maxHeartbeats 4000000 in
set_option maxRecDepth 100000 in
/-- back_none -/
theorem c_back_none (l : Launch) (D : va_G) (c : Nat → ClassId) (x : Nat) (xm : Nat) (d : Nat) (mg : Nat → Option Nat) (mk : Nat) (rd : Nat) (rn : Nat) (rc : Nat) (rcw : Nat) (nr : Nat → Nat) (rv : Nat → Int64) (mo : Nat)  : Met l y_To_back w_To_back rm_back_none (va_Pc [.ref x] (fun U => va_P D vwCl [(x, .inr (4, [.ref d, .ref xm, .ref rd, .int (zI ((mk : Nat) : Int))])), (rd, .inr (2, [.ref rn, .ref rc, .ref mo, .int (zI ((0 : Nat) : Int))]))] U.heap ∧ zK D c U)) (vp_Si (fun r => r = (zI (-1)))) 0 0 (fun _ => False) := by
  refine Met.ofW (cc := b_To_back) (maxL := 1) (ret := (some .int)) (by decide) rfl ?_
  intro p e s m args below meth c0 s₁ B hml hv
  obtain ⟨rfl, hP, hKN⟩ := hv
  have hK := hKN.1
  have hN := hKN.2
  have hx := B.exec
  have hb := B.bytes
  have hr := B.returns
  have hts := atoms_spec (ws := w_To_back) B.pre
  have hw : ∀ {w : Cond}, w ∈ ALLW → w.before _ s = true := fun h => hts _ (List.mem_cons_of_mem _ h)
  have hown : s.vm.findClass R_To = some m.cls := findClass_of_methodNamed B.named
  have hlocks := B.notSynchronized
  have hl := lv_entry ([.ref x]) (n := 1) (Nat.le_of_ble_eq_true rfl)
  rw [lg_entry_eq]
  generalize (lg_sl ([.ref x]) ++ List.replicate (1 - (lg_sl ([.ref x])).length) Slot.unset).toArray = ls at hl ⊢
  have hl : lv_has ls 1 [(0, .ref x)] := hl
  generalize hQ : MQ below _ _ _ _ _ _ = Q
  refine lv_aload_n hx hb d_To_back_0 rfl (lv_at hl 0 rfl) ?_
  refine va_get (D := D) (ci := 4) (v := .ref rd) (C := R_To) (T := T_To) (N := 4) hx hb hts (fun w h => List.mem_cons_of_mem _ (inA_To w h)) hown hK hP 0 rfl rfl 2 (by decide) (hw k_To_f25) (fun _ h9 => h9) rfl d_To_back_1 ?_
  have hPc : va_P D vwCl [(rd, .inr (2, [.ref rn, .ref rc, .ref mo, .int (zI ((0 : Nat) : Int))]))] s.heap := hP.sub (ws' := [(rd, .inr (2, [.ref rn, .ref rc, .ref mo, .int (zI ((0 : Nat) : Int))]))]) [1] rfl
  refine vp_callSi (va_runV (rm := rm_takeBack_none) (As := []) (rest := []) ⟨hx, hb, hml, hown, hts⟩ (c_takeBack_none l D c rd rn rc rcw nr rv mo) (cwV 0 hts (gWV k_To_m92 k_i_Re_takeBack k_v_Re_takeBack k_n_Re k_c_Re_takeBack) rfl rfl rfl (by decide +kernel) ⟨Nat.le_of_ble_eq_true rfl, Nat.le_of_ble_eq_true rfl⟩) ⟨zblind, va_recv hK hPc (ci := 2) (q0 := 0) rfl rfl, fun U hU hW => ⟨rfl, by rw [hU]; exact hPc, hKN.moved hW⟩⟩ rfl rfl hl.1 rfl (lv_room (Nat.le_of_ble_eq_true rfl)) d_To_back_4 ⟨Nat.zero_le _, Nat.zero_le _⟩).run (fun r hr_1 => ?_)
  subst hr_1
  subst hQ
  exact W.iret (v := (zI (-1))) hx hb hr (fun t9 ht hW => ⟨_, rfl, rfl, ht⟩) (fun q hq => absurd hq List.not_mem_nil) d_To_back_7

def rm_back : Room := { frames := 1, cells := 0, slots := 0, locals := 21 }
set_option maxHeartbeats 4000000 in
set_option maxRecDepth 100000 in
/-- back -/
theorem c_back (l : Launch) (D : va_G) (c : Nat → ClassId) (x : Nat) (xm : Nat) (d : Nat) (mg : Nat → Option Nat) (mk : Nat) (rd : Nat) (rn : Nat) (rc : Nat) (rcw : Nat) (nr : Nat → Nat) (rv : Nat → Int64) (ct : Nat) (mo : Nat) (hct : ct < 1000) : Met l y_To_back w_To_back rm_back (va_Pc [.ref x] (fun U => (va_P D vwCl [(x, .inr (4, [.ref d, .ref xm, .ref rd, .int (zI ((mk : Nat) : Int))])), (rd, .inr (2, [.ref rn, .ref rc, .ref mo, .int (zI ((ct + 1 : Nat) : Int))])), (rn, .inl (c 0, 1000, .inl (fun j => zI ((nr j : Nat) : Int))))] U.heap ∧ va_D (fun _ => True) [(x, .inr (4, [.ref d, .ref xm, .ref rd, .int (zI ((mk : Nat) : Int))])), (rd, .inr (2, [.ref rn, .ref rc, .ref mo, .int (zI ((ct + 1 : Nat) : Int))])), (rn, .inl (c 0, 1000, .inl (fun j => zI ((nr j : Nat) : Int))))]) ∧ zK D c U)) (va_Qi (fun (r : Int32) (u : Unit) => r = (zI ((nr ct : Nat) : Int)) ∧ True) (fun (u : Unit) t9 => va_P D vwCl [(x, .inr (4, [.ref d, .ref xm, .ref rd, .int (zI ((mk : Nat) : Int))])), (rd, .inr (2, [.ref rn, .ref rc, .ref mo, .int (zI ((ct : Nat) : Int))])), (rn, .inl (c 0, 1000, .inl (fun j => zI ((nr j : Nat) : Int))))] t9.heap) (zA [(x, .inr (4, [.ref d, .ref xm, .ref rd, .int (zI ((mk : Nat) : Int))])), (rd, .inr (2, [.ref rn, .ref rc, .ref mo, .int (zI ((ct + 1 : Nat) : Int))])), (rn, .inl (c 0, 1000, .inl (fun j => zI ((nr j : Nat) : Int))))])) 0 0 (zA [(x, .inr (4, [.ref d, .ref xm, .ref rd, .int (zI ((mk : Nat) : Int))])), (rd, .inr (2, [.ref rn, .ref rc, .ref mo, .int (zI ((ct + 1 : Nat) : Int))])), (rn, .inl (c 0, 1000, .inl (fun j => zI ((nr j : Nat) : Int))))]) := by
  refine Met.ofW (cc := b_To_back) (maxL := 1) (ret := (some .int)) (by decide) rfl ?_
  intro p e s m args below meth c0 s₁ B hml hv
  obtain ⟨rfl, ⟨hP, hD0⟩, hKN⟩ := hv
  have hK := hKN.1
  have hN := hKN.2
  have hx := B.exec
  have hb := B.bytes
  have hr := B.returns
  have hts := atoms_spec (ws := w_To_back) B.pre
  have hw : ∀ {w : Cond}, w ∈ ALLW → w.before _ s = true := fun h => hts _ (List.mem_cons_of_mem _ h)
  have hown : s.vm.findClass R_To = some m.cls := findClass_of_methodNamed B.named
  have hlocks := B.notSynchronized
  have hD : va_D (zA [(x, .inr (4, [.ref d, .ref xm, .ref rd, .int (zI ((mk : Nat) : Int))])), (rd, .inr (2, [.ref rn, .ref rc, .ref mo, .int (zI ((ct + 1 : Nat) : Int))])), (rn, .inl (c 0, 1000, .inl (fun j => zI ((nr j : Nat) : Int))))]) [(x, .inr (4, [.ref d, .ref xm, .ref rd, .int (zI ((mk : Nat) : Int))])), (rd, .inr (2, [.ref rn, .ref rc, .ref mo, .int (zI ((ct + 1 : Nat) : Int))])), (rn, .inl (c 0, 1000, .inl (fun j => zI ((nr j : Nat) : Int))))] := ⟨hD0.1, fun k q h => List.mem_map.mpr ⟨q, List.mem_of_getElem? h, rfl⟩⟩
  generalize hAe : zA [(x, .inr (4, [.ref d, .ref xm, .ref rd, .int (zI ((mk : Nat) : Int))])), (rd, .inr (2, [.ref rn, .ref rc, .ref mo, .int (zI ((ct + 1 : Nat) : Int))])), (rn, .inl (c 0, 1000, .inl (fun j => zI ((nr j : Nat) : Int))))] = A at hD ⊢
  have hS : va_S A s.heap s.heap [] := va_S.rf
  have hP : va_P D vwCl [(x, .inr (4, [.ref d, .ref xm, .ref rd, .int (zI ((mk : Nat) : Int))])), (rd, .inr (2, [.ref rn, .ref rc, .ref mo, .int (zI ((ct + 1 : Nat) : Int))])), (rn, .inl (c 0, 1000, .inl (fun j => zI ((nr j : Nat) : Int))))] s.heap := hP
  have hl := lv_entry ([.ref x]) (n := 1) (Nat.le_of_ble_eq_true rfl)
  rw [lg_entry_eq]
  generalize (lg_sl ([.ref x]) ++ List.replicate (1 - (lg_sl ([.ref x])).length) Slot.unset).toArray = ls at hl ⊢
  have hl : lv_has ls 1 [(0, .ref x)] := hl
  generalize hQ : MQ below _ _ _ _ _ _ = Q
  refine lv_aload_n hx hb d_To_back_0 rfl (lv_at hl 0 rfl) ?_
  refine va_get (D := D) (ci := 4) (v := .ref rd) (C := R_To) (T := T_To) (N := 4) hx hb hts (fun w h => List.mem_cons_of_mem _ (inA_To w h)) hown hK hP 0 rfl rfl 2 (by decide) (hw k_To_f25) (fun _ h9 => h9) rfl d_To_back_1 ?_
  have hPc : va_P D vwCl [(rd, .inr (2, [.ref rn, .ref rc, .ref mo, .int (zI ((ct + 1 : Nat) : Int))])), (rn, .inl (c 0, 1000, .inl (fun j => zI ((nr j : Nat) : Int))))] s.heap := hP.sub (ws' := [(rd, .inr (2, [.ref rn, .ref rc, .ref mo, .int (zI ((ct + 1 : Nat) : Int))])), (rn, .inl (c 0, 1000, .inl (fun j => zI ((nr j : Nat) : Int))))]) [1, 2] rfl
  have hDc : va_D A [(rd, .inr (2, [.ref rn, .ref rc, .ref mo, .int (zI ((ct + 1 : Nat) : Int))])), (rn, .inl (c 0, 1000, .inl (fun j => zI ((nr j : Nat) : Int))))] := hD.sub (ws' := [(rd, .inr (2, [.ref rn, .ref rc, .ref mo, .int (zI ((ct + 1 : Nat) : Int))])), (rn, .inl (c 0, 1000, .inl (fun j => zI ((nr j : Nat) : Int))))]) [1, 2] (by decide) rfl
  have hDt : va_D (fun _ => True) [(rd, .inr (2, [.ref rn, .ref rc, .ref mo, .int (zI ((ct + 1 : Nat) : Int))])), (rn, .inl (c 0, 1000, .inl (fun j => zI ((nr j : Nat) : Int))))] := hDc.weaken (fun _ _ _ _ => trivial)
  refine z_calli (S := Unit) (w1 := fun u => [(rd, .inr (2, [.ref rn, .ref rc, .ref mo, .int (zI ((ct : Nat) : Int))])), (rn, .inl (c 0, 1000, .inl (fun j => zI ((nr j : Nat) : Int))))]) (post := fun r u => r = (zI ((nr ct : Nat) : Int)) ∧ True) (wc := [(rd, .inr (2, [.ref rn, .ref rc, .ref mo, .int (zI ((ct + 1 : Nat) : Int))])), (rn, .inl (c 0, 1000, .inl (fun j => zI ((nr j : Nat) : Int))))]) [1, 2] rfl (fun _ => rfl) hP hD hS (va_runV (rm := rm_takeBack) (As := []) (rest := []) ⟨hx, hb, hml, hown, hts⟩ (c_takeBack l D c rd rn rc rcw nr rv ct mo hct) (cwV 0 hts (gWV k_To_m92 k_i_Re_takeBack k_v_Re_takeBack k_n_Re k_c_Re_takeBack) rfl rfl rfl (by decide +kernel) ⟨Nat.le_of_ble_eq_true rfl, Nat.le_of_ble_eq_true rfl⟩) ⟨zblindW, va_recv hK hPc (ci := 2) (q0 := 0) rfl rfl, fun U hU hW => ⟨rfl, ⟨by rw [hU]; exact hPc, hDt⟩, hKN.moved hW⟩⟩ rfl rfl hl.1 rfl (lv_room (Nat.le_of_ble_eq_true rfl)) d_To_back_4 ⟨Nat.zero_le _, Nat.zero_le _⟩) (fun r u H locs hp_1 hP hD hS => ?_)
  obtain ⟨hr_1, hp_1⟩ := hp_1
  subst hr_1
  have hP : va_P D vwCl [(x, .inr (4, [.ref d, .ref xm, .ref rd, .int (zI ((mk : Nat) : Int))])), (rd, .inr (2, [.ref rn, .ref rc, .ref mo, .int (zI ((ct : Nat) : Int))])), (rn, .inl (c 0, 1000, .inl (fun j => zI ((nr j : Nat) : Int))))] H := hP
  have hD : va_D A [(x, .inr (4, [.ref d, .ref xm, .ref rd, .int (zI ((mk : Nat) : Int))])), (rd, .inr (2, [.ref rn, .ref rc, .ref mo, .int (zI ((ct : Nat) : Int))])), (rn, .inl (c 0, 1000, .inl (fun j => zI ((nr j : Nat) : Int))))] := hD
  subst hQ
  exact W.iret (v := (zI ((nr ct : Nat) : Int))) hx hb hr (fun t9 ht hW => ⟨⟨_, (), rfl, ⟨rfl, trivial⟩, by show va_P _ _ _ t9.heap; rw [ht]; exact hP⟩, hS.F ht⟩) hS.2.2 d_To_back_7

def rm_topInit : Room := { frames := 3, cells := 14, slots := 6704, locals := 62 }
set_option maxHeartbeats 4000000 in
set_option maxRecDepth 100000 in
/-- RowModels() -/
theorem c_topInit (l : Launch) (D : va_G) (c : Nat → ClassId) (x : Nat) (sz : Nat)  : Met l y_To_init w_To_init rm_topInit (va_Pc [.ref x] (fun U => (U.heap.size = sz ∧ va_P D vwCl [(x, .inr (4, [.null, .null, .null, .int (zI 0)]))] U.heap ∧ va_D (fun _ => True) [(x, .inr (4, [.null, .null, .null, .int (zI 0)]))]) ∧ zK D c U)) (va_Qv (fun (u : Nat × Nat × Nat × Nat × Nat × Nat × Nat × Nat × Nat × Nat × Nat × Nat × Nat × Nat) => True) (fun (u : Nat × Nat × Nat × Nat × Nat × Nat × Nat × Nat × Nat × Nat × Nat × Nat × Nat × Nat) t9 => va_P D vwCl [(x, .inr (4, [.ref u.2.1, .ref u.1, .ref u.2.2.2.2.2.2.2.2.2.2.1, .int (zI 0)])), (u.1, .inl (c 3, 50, .inr (.inr (.inr (.inr z0Q))))), (u.2.1, .inr (0, [.ref u.2.2.1, .ref u.2.2.2.1, .ref u.2.2.2.2.2.1, .ref u.2.2.2.2.2.2.2.1, .ref u.2.2.2.2.2.2.2.2.2.1, .int (zI 0), .int (zI 0)])), (u.2.2.1, .inl (c 0, 255, .inl (fun j => zI ((z0N j : Nat) : Int)))), (u.2.2.2.1, .inr (3, [.ref u.2.2.2.2.1])), (u.2.2.2.2.1, .inl (c 2, 4 * 255, .inr (.inl z0J))), (u.2.2.2.2.2.1, .inr (3, [.ref u.2.2.2.2.2.2.1])), (u.2.2.2.2.2.2.1, .inl (c 2, 4 * 40, .inr (.inl z0J))), (u.2.2.2.2.2.2.2.1, .inr (3, [.ref u.2.2.2.2.2.2.2.2.1])), (u.2.2.2.2.2.2.2.2.1, .inl (c 2, 4 * 40, .inr (.inl z0J))), (u.2.2.2.2.2.2.2.2.2.1, .inl (c 1, 40, .inl (fun j => zB (z0B j)))), (u.2.2.2.2.2.2.2.2.2.2.1, .inr (2, [.ref u.2.2.2.2.2.2.2.2.2.2.2.1, .ref u.2.2.2.2.2.2.2.2.2.2.2.2.1, .null, .int (zI 0)])), (u.2.2.2.2.2.2.2.2.2.2.2.1, .inl (c 0, 1000, .inl (fun j => zI ((z0N j : Nat) : Int)))), (u.2.2.2.2.2.2.2.2.2.2.2.2.1, .inr (3, [.ref u.2.2.2.2.2.2.2.2.2.2.2.2.2])), (u.2.2.2.2.2.2.2.2.2.2.2.2.2, .inl (c 2, 4 * 1001, .inr (.inl z0J)))] t9.heap ∧ va_D (va_A [(x, .inr (4, [.null, .null, .null, .int (zI 0)]))] sz) [(x, .inr (4, [.ref u.2.1, .ref u.1, .ref u.2.2.2.2.2.2.2.2.2.2.1, .int (zI 0)])), (u.1, .inl (c 3, 50, .inr (.inr (.inr (.inr z0Q))))), (u.2.1, .inr (0, [.ref u.2.2.1, .ref u.2.2.2.1, .ref u.2.2.2.2.2.1, .ref u.2.2.2.2.2.2.2.1, .ref u.2.2.2.2.2.2.2.2.2.1, .int (zI 0), .int (zI 0)])), (u.2.2.1, .inl (c 0, 255, .inl (fun j => zI ((z0N j : Nat) : Int)))), (u.2.2.2.1, .inr (3, [.ref u.2.2.2.2.1])), (u.2.2.2.2.1, .inl (c 2, 4 * 255, .inr (.inl z0J))), (u.2.2.2.2.2.1, .inr (3, [.ref u.2.2.2.2.2.2.1])), (u.2.2.2.2.2.2.1, .inl (c 2, 4 * 40, .inr (.inl z0J))), (u.2.2.2.2.2.2.2.1, .inr (3, [.ref u.2.2.2.2.2.2.2.2.1])), (u.2.2.2.2.2.2.2.2.1, .inl (c 2, 4 * 40, .inr (.inl z0J))), (u.2.2.2.2.2.2.2.2.2.1, .inl (c 1, 40, .inl (fun j => zB (z0B j)))), (u.2.2.2.2.2.2.2.2.2.2.1, .inr (2, [.ref u.2.2.2.2.2.2.2.2.2.2.2.1, .ref u.2.2.2.2.2.2.2.2.2.2.2.2.1, .null, .int (zI 0)])), (u.2.2.2.2.2.2.2.2.2.2.2.1, .inl (c 0, 1000, .inl (fun j => zI ((z0N j : Nat) : Int)))), (u.2.2.2.2.2.2.2.2.2.2.2.2.1, .inr (3, [.ref u.2.2.2.2.2.2.2.2.2.2.2.2.2])), (u.2.2.2.2.2.2.2.2.2.2.2.2.2, .inl (c 2, 4 * 1001, .inr (.inl z0J)))]) (va_A [(x, .inr (4, [.null, .null, .null, .int (zI 0)]))] sz)) 14 6704 (va_A [(x, .inr (4, [.null, .null, .null, .int (zI 0)]))] sz) := by
  refine Met.ofW (cc := b_To_init) (maxL := 1) (ret := none) (by decide) rfl ?_
  intro p e s m args below meth c0 s₁ B hml hv
  obtain ⟨rfl, ⟨hsz, hP, hD0⟩, hKN⟩ := hv
  have hK := hKN.1
  have hN := hKN.2
  have hx := B.exec
  have hb := B.bytes
  have hr := B.returns
  have hts := atoms_spec (ws := w_To_init) B.pre
  have hw : ∀ {w : Cond}, w ∈ ALLW → w.before _ s = true := fun h => hts _ (List.mem_cons_of_mem _ h)
  have hown : s.vm.findClass R_To = some m.cls := findClass_of_methodNamed B.named
  have hlocks := B.notSynchronized
  have hin : meth.name = "<init>" := (name_of_methodNamed B.named B.method).1
  subst hsz
  have hD := hD0.self (sz := s.heap.size)
  generalize hAe : va_A [(x, .inr (4, [.null, .null, .null, .int (zI 0)]))] s.heap.size = A at hD ⊢
  have hA : ∀ q : Nat, s.heap.size ≤ q → A q := fun q h => by rw [← hAe]; exact Or.inr h
  have hS : va_S A s.heap s.heap [] := va_S.rf
  have hP : va_P D vwCl [(x, .inr (4, [.null, .null, .null, .int (zI 0)]))] s.heap := hP
  have hl := lv_entry ([.ref x]) (n := 1) (Nat.le_of_ble_eq_true rfl)
  rw [lg_entry_eq]
  generalize (lg_sl ([.ref x]) ++ List.replicate (1 - (lg_sl ([.ref x])).length) Slot.unset).toArray = ls at hl ⊢
  have hl : lv_has ls 1 [(0, .ref x)] := hl
  generalize hQ : MQ below _ _ _ _ _ _ = Q
  refine lv_aload_n hx hb d_To_init_0 rfl (lv_at hl 0 rfl) ?_
  refine W.objInit hx hb hown (hw k_To_m3) (hw k_i_ob) (hw k_c_ob) rfl (by rw [hml]; exact hl.1) rfl d_To_init_1 (Nat.le_of_ble_eq_true rfl) (Nat.le_of_ble_eq_true rfl) ?_
  refine W.eq (g2 := F0 m 4 ls []) rfl ?_
  refine lv_aload_n hx hb d_To_init_4 rfl (lv_at hl 0 rfl) ?_
  refine va_new (ci := 0) (fs := [.null, .null, .null, .null, .null, .int (zI 0), .int (zI 0)]) (C := R_Dr) (T := T_Dr) (N := 7) hx hb hts (fun w h => List.mem_cons_of_mem _ (inA_Dr w h)) ty_Dr tyok_Dr hown (hw k_To_c9) (hw k_o_Dr) (hw k_n_Dr) hK hP hD hS hA rfl (fun j hj => by rcases (show j = 0 ∨ j = 1 ∨ j = 2 ∨ j = 3 ∨ j = 4 ∨ j = 5 ∨ j = 6 by omega) with rfl | rfl | rfl | rfl | rfl | rfl | rfl <;> rfl) (Nat.le_of_ble_eq_true rfl) (Nat.le_of_ble_eq_true rfl) d_To_init_5 (fun a5 H hP hD hS => ?_)
  have hP : va_P D vwCl [(x, .inr (4, [.null, .null, .null, .int (zI 0)])), (a5, .inr (0, [.null, .null, .null, .null, .null, .int (zI 0), .int (zI 0)]))] H := hP
  have hD : va_D A [(x, .inr (4, [.null, .null, .null, .int (zI 0)])), (a5, .inr (0, [.null, .null, .null, .null, .null, .int (zI 0), .int (zI 0)]))] := hD
  refine W.widen (k := 1) (n := 7) (by omega) (by omega) ?_
  refine lv_dup hx hb d_To_init_8 rfl ?_
  have hPc : va_P D vwCl [(a5, .inr (0, [.null, .null, .null, .null, .null, .int (zI 0), .int (zI 0)]))] H := hP.sub (ws' := [(a5, .inr (0, [.null, .null, .null, .null, .null, .int (zI 0), .int (zI 0)]))]) [1] rfl
  have hDc : va_D A [(a5, .inr (0, [.null, .null, .null, .null, .null, .int (zI 0), .int (zI 0)]))] := hD.sub (ws' := [(a5, .inr (0, [.null, .null, .null, .null, .null, .int (zI 0), .int (zI 0)]))]) [1] (by decide) rfl
  have hDt : va_D (fun _ => True) [(a5, .inr (0, [.null, .null, .null, .null, .null, .int (zI 0), .int (zI 0)]))] := hDc.weaken (fun _ _ _ _ => trivial)
  have hFc := va_free (wc := [(a5, .inr (0, [.null, .null, .null, .null, .null, .int (zI 0), .int (zI 0)]))]) hD hS hA [1] rfl
  refine va_callv (va_runIN (rm := rm_draftInit) (As := []) (rest := [.ref a5, .ref x]) ⟨hx, hb, hml, hown, hts⟩ (c_draftInit l D c a5 H.size ) (And.intro (va_cnB 0 hts (gW k_c_Dr_init) rfl rfl rfl hN.1 (hw k_n_Dr) (by decide +kernel) ⟨Nat.le_of_ble_eq_true rfl, Nat.le_of_ble_eq_true rfl⟩) ⟨rfl, hw k_i_Dr_init⟩) ⟨zblindA, fun U hU hW => ⟨rfl, ⟨by rw [hU], by rw [hU]; exact hPc, hDt⟩, hKN.moved hW⟩⟩ rfl rfl hl.1 rfl (lv_room (Nat.le_of_ble_eq_true rfl)) d_To_init_9 ⟨Nat.le_of_ble_eq_true rfl, Nat.le_of_ble_eq_true rfl⟩) hS (fun q _ h => hFc q h) hFc (fun u t9 H1 locs ht hvm hp_2 hB hz1 hk1 hS => ?_)
  obtain ⟨dn, df, dfw, di, diw, dl, dlw, dm⟩ := u
  have hp_2 : True := hp_2
  obtain ⟨hP1, hD1⟩ := hB
  rw [ht] at hP1
  obtain ⟨hP, hD⟩ := va_join (wr := [(x, .inr (4, [.null, .null, .null, .int (zI 0)]))]) (w1 := [(a5, .inr (0, [.ref dn, .ref df, .ref di, .ref dl, .ref dm, .int (zI 0), .int (zI 0)])), (dn, .inl (c 0, 255, .inl (fun j => zI ((z0N j : Nat) : Int)))), (df, .inr (3, [.ref dfw])), (dfw, .inl (c 2, 4 * 255, .inr (.inl z0J))), (di, .inr (3, [.ref diw])), (diw, .inl (c 2, 4 * 40, .inr (.inl z0J))), (dl, .inr (3, [.ref dlw])), (dlw, .inl (c 2, 4 * 40, .inr (.inl z0J))), (dm, .inl (c 1, 40, .inl (fun j => zB (z0B j))))]) hP hD [1] [0] rfl rfl (by decide) (by decide) hk1 hFc hP1 hD1
  generalize H1 = H at hP hS ⊢
  have hP : va_P D vwCl [(x, .inr (4, [.null, .null, .null, .int (zI 0)])), (a5, .inr (0, [.ref dn, .ref df, .ref di, .ref dl, .ref dm, .int (zI 0), .int (zI 0)])), (dn, .inl (c 0, 255, .inl (fun j => zI ((z0N j : Nat) : Int)))), (df, .inr (3, [.ref dfw])), (dfw, .inl (c 2, 4 * 255, .inr (.inl z0J))), (di, .inr (3, [.ref diw])), (diw, .inl (c 2, 4 * 40, .inr (.inl z0J))), (dl, .inr (3, [.ref dlw])), (dlw, .inl (c 2, 4 * 40, .inr (.inl z0J))), (dm, .inl (c 1, 40, .inl (fun j => zB (z0B j))))] H := hP.sub [0, 1, 2, 3, 4, 5, 6, 7, 8, 9] rfl
  have hD : va_D A [(x, .inr (4, [.null, .null, .null, .int (zI 0)])), (a5, .inr (0, [.ref dn, .ref df, .ref di, .ref dl, .ref dm, .int (zI 0), .int (zI 0)])), (dn, .inl (c 0, 255, .inl (fun j => zI ((z0N j : Nat) : Int)))), (df, .inr (3, [.ref dfw])), (dfw, .inl (c 2, 4 * 255, .inr (.inl z0J))), (di, .inr (3, [.ref diw])), (diw, .inl (c 2, 4 * 40, .inr (.inl z0J))), (dl, .inr (3, [.ref dlw])), (dlw, .inl (c 2, 4 * 40, .inr (.inl z0J))), (dm, .inl (c 1, 40, .inl (fun j => zB (z0B j))))] := hD.sub [0, 1, 2, 3, 4, 5, 6, 7, 8, 9] (by decide) rfl
  refine W.widen (k := 9) (n := 1645) (by omega) (by omega) ?_
  refine va_putF (D := D) (ci := 4) (v := .ref a5) (ty := .object "RowModels$Draft") (C := R_To) (T := T_To) (N := 4) hx hb hts (fun w h => List.mem_cons_of_mem _ (inA_To w h)) ty_To tyok_To nm_To hown hK hP hD hS 0 rfl rfl 0 (by decide) (hw k_To_f12) (fun _ h9 => h9) rfl hin rfl (by decide +kernel) rfl rfl (Nat.le_of_ble_eq_true rfl) d_To_init_12 (fun H locs hP hD hS => ?_)
  have hP : va_P D vwCl [(x, .inr (4, [.ref a5, .null, .null, .int (zI 0)])), (a5, .inr (0, [.ref dn, .ref df, .ref di, .ref dl, .ref dm, .int (zI 0), .int (zI 0)])), (dn, .inl (c 0, 255, .inl (fun j => zI ((z0N j : Nat) : Int)))), (df, .inr (3, [.ref dfw])), (dfw, .inl (c 2, 4 * 255, .inr (.inl z0J))), (di, .inr (3, [.ref diw])), (diw, .inl (c 2, 4 * 40, .inr (.inl z0J))), (dl, .inr (3, [.ref dlw])), (dlw, .inl (c 2, 4 * 40, .inr (.inl z0J))), (dm, .inl (c 1, 40, .inl (fun j => zB (z0B j))))] H := hP
  have hD : va_D A [(x, .inr (4, [.ref a5, .null, .null, .int (zI 0)])), (a5, .inr (0, [.ref dn, .ref df, .ref di, .ref dl, .ref dm, .int (zI 0), .int (zI 0)])), (dn, .inl (c 0, 255, .inl (fun j => zI ((z0N j : Nat) : Int)))), (df, .inr (3, [.ref dfw])), (dfw, .inl (c 2, 4 * 255, .inr (.inl z0J))), (di, .inr (3, [.ref diw])), (diw, .inl (c 2, 4 * 40, .inr (.inl z0J))), (dl, .inr (3, [.ref dlw])), (dlw, .inl (c 2, 4 * 40, .inr (.inl z0J))), (dm, .inl (c 1, 40, .inl (fun j => zB (z0B j))))] := hD
  refine lv_aload_n hx hb d_To_init_15 rfl (lv_at hl 0 rfl) ?_
  refine lv_bipush (v := zI 50) hx hb d_To_init_16 (by decide) ?_
  refine z_newq hx hb hown (hw k_To_c16) hN.2.2.2.2.2.2 hK hP hD hS hA 3 rfl (50) (by omega) (by omega) (by omega) (Nat.le_of_ble_eq_true rfl) (Nat.le_of_ble_eq_true rfl) d_To_init_18 (fun a18 H hP hD hS => ?_)
  have hP : va_P D vwCl [(x, .inr (4, [.ref a5, .null, .null, .int (zI 0)])), (a5, .inr (0, [.ref dn, .ref df, .ref di, .ref dl, .ref dm, .int (zI 0), .int (zI 0)])), (dn, .inl (c 0, 255, .inl (fun j => zI ((z0N j : Nat) : Int)))), (df, .inr (3, [.ref dfw])), (dfw, .inl (c 2, 4 * 255, .inr (.inl z0J))), (di, .inr (3, [.ref diw])), (diw, .inl (c 2, 4 * 40, .inr (.inl z0J))), (dl, .inr (3, [.ref dlw])), (dlw, .inl (c 2, 4 * 40, .inr (.inl z0J))), (dm, .inl (c 1, 40, .inl (fun j => zB (z0B j)))), (a18, .inl (c 3, 50, .inr (.inr (.inr (.inr z0Q)))))] H := hP
  have hD : va_D A [(x, .inr (4, [.ref a5, .null, .null, .int (zI 0)])), (a5, .inr (0, [.ref dn, .ref df, .ref di, .ref dl, .ref dm, .int (zI 0), .int (zI 0)])), (dn, .inl (c 0, 255, .inl (fun j => zI ((z0N j : Nat) : Int)))), (df, .inr (3, [.ref dfw])), (dfw, .inl (c 2, 4 * 255, .inr (.inl z0J))), (di, .inr (3, [.ref diw])), (diw, .inl (c 2, 4 * 40, .inr (.inl z0J))), (dl, .inr (3, [.ref dlw])), (dlw, .inl (c 2, 4 * 40, .inr (.inl z0J))), (dm, .inl (c 1, 40, .inl (fun j => zB (z0B j)))), (a18, .inl (c 3, 50, .inr (.inr (.inr (.inr z0Q)))))] := hD
  refine W.widen (k := 10) (n := 1695) (by omega) (by omega) ?_
  refine va_putF (D := D) (ci := 4) (v := .ref a18) (ty := .array (.object "RowModels$Model")) (C := R_To) (T := T_To) (N := 4) hx hb hts (fun w h => List.mem_cons_of_mem _ (inA_To w h)) ty_To tyok_To nm_To hown hK hP hD hS 0 rfl rfl 1 (by decide) (hw k_To_f18) (fun _ h9 => h9) rfl hin rfl (by decide +kernel) rfl rfl (Nat.le_of_ble_eq_true rfl) d_To_init_21 (fun H locs hP hD hS => ?_)
  have hP : va_P D vwCl [(x, .inr (4, [.ref a5, .ref a18, .null, .int (zI 0)])), (a5, .inr (0, [.ref dn, .ref df, .ref di, .ref dl, .ref dm, .int (zI 0), .int (zI 0)])), (dn, .inl (c 0, 255, .inl (fun j => zI ((z0N j : Nat) : Int)))), (df, .inr (3, [.ref dfw])), (dfw, .inl (c 2, 4 * 255, .inr (.inl z0J))), (di, .inr (3, [.ref diw])), (diw, .inl (c 2, 4 * 40, .inr (.inl z0J))), (dl, .inr (3, [.ref dlw])), (dlw, .inl (c 2, 4 * 40, .inr (.inl z0J))), (dm, .inl (c 1, 40, .inl (fun j => zB (z0B j)))), (a18, .inl (c 3, 50, .inr (.inr (.inr (.inr z0Q)))))] H := hP
  have hD : va_D A [(x, .inr (4, [.ref a5, .ref a18, .null, .int (zI 0)])), (a5, .inr (0, [.ref dn, .ref df, .ref di, .ref dl, .ref dm, .int (zI 0), .int (zI 0)])), (dn, .inl (c 0, 255, .inl (fun j => zI ((z0N j : Nat) : Int)))), (df, .inr (3, [.ref dfw])), (dfw, .inl (c 2, 4 * 255, .inr (.inl z0J))), (di, .inr (3, [.ref diw])), (diw, .inl (c 2, 4 * 40, .inr (.inl z0J))), (dl, .inr (3, [.ref dlw])), (dlw, .inl (c 2, 4 * 40, .inr (.inl z0J))), (dm, .inl (c 1, 40, .inl (fun j => zB (z0B j)))), (a18, .inl (c 3, 50, .inr (.inr (.inr (.inr z0Q)))))] := hD
  refine lv_aload_n hx hb d_To_init_24 rfl (lv_at hl 0 rfl) ?_
  refine va_new (ci := 2) (fs := [.null, .null, .null, .int (zI 0)]) (C := R_Re) (T := T_Re) (N := 4) hx hb hts (fun w h => List.mem_cons_of_mem _ (inA_Re w h)) ty_Re tyok_Re hown (hw k_To_c22) (hw k_o_Re) (hw k_n_Re) hK hP hD hS hA rfl (fun j hj => by rcases (show j = 0 ∨ j = 1 ∨ j = 2 ∨ j = 3 by omega) with rfl | rfl | rfl | rfl <;> rfl) (Nat.le_of_ble_eq_true rfl) (Nat.le_of_ble_eq_true rfl) d_To_init_25 (fun a25 H hP hD hS => ?_)
  have hP : va_P D vwCl [(x, .inr (4, [.ref a5, .ref a18, .null, .int (zI 0)])), (a5, .inr (0, [.ref dn, .ref df, .ref di, .ref dl, .ref dm, .int (zI 0), .int (zI 0)])), (dn, .inl (c 0, 255, .inl (fun j => zI ((z0N j : Nat) : Int)))), (df, .inr (3, [.ref dfw])), (dfw, .inl (c 2, 4 * 255, .inr (.inl z0J))), (di, .inr (3, [.ref diw])), (diw, .inl (c 2, 4 * 40, .inr (.inl z0J))), (dl, .inr (3, [.ref dlw])), (dlw, .inl (c 2, 4 * 40, .inr (.inl z0J))), (dm, .inl (c 1, 40, .inl (fun j => zB (z0B j)))), (a18, .inl (c 3, 50, .inr (.inr (.inr (.inr z0Q))))), (a25, .inr (2, [.null, .null, .null, .int (zI 0)]))] H := hP
  have hD : va_D A [(x, .inr (4, [.ref a5, .ref a18, .null, .int (zI 0)])), (a5, .inr (0, [.ref dn, .ref df, .ref di, .ref dl, .ref dm, .int (zI 0), .int (zI 0)])), (dn, .inl (c 0, 255, .inl (fun j => zI ((z0N j : Nat) : Int)))), (df, .inr (3, [.ref dfw])), (dfw, .inl (c 2, 4 * 255, .inr (.inl z0J))), (di, .inr (3, [.ref diw])), (diw, .inl (c 2, 4 * 40, .inr (.inl z0J))), (dl, .inr (3, [.ref dlw])), (dlw, .inl (c 2, 4 * 40, .inr (.inl z0J))), (dm, .inl (c 1, 40, .inl (fun j => zB (z0B j)))), (a18, .inl (c 3, 50, .inr (.inr (.inr (.inr z0Q))))), (a25, .inr (2, [.null, .null, .null, .int (zI 0)]))] := hD
  refine W.widen (k := 11) (n := 1699) (by omega) (by omega) ?_
  refine lv_dup hx hb d_To_init_28 rfl ?_
  have hPc : va_P D vwCl [(a25, .inr (2, [.null, .null, .null, .int (zI 0)]))] H := hP.sub (ws' := [(a25, .inr (2, [.null, .null, .null, .int (zI 0)]))]) [11] rfl
  have hDc : va_D A [(a25, .inr (2, [.null, .null, .null, .int (zI 0)]))] := hD.sub (ws' := [(a25, .inr (2, [.null, .null, .null, .int (zI 0)]))]) [11] (by decide) rfl
  have hDt : va_D (fun _ => True) [(a25, .inr (2, [.null, .null, .null, .int (zI 0)]))] := hDc.weaken (fun _ _ _ _ => trivial)
  have hFc := va_free (wc := [(a25, .inr (2, [.null, .null, .null, .int (zI 0)]))]) hD hS hA [11] rfl
  refine va_callv (va_runIN (rm := rm_readingInit) (As := []) (rest := [.ref a25, .ref x]) ⟨hx, hb, hml, hown, hts⟩ (c_readingInit l D c a25 H.size ) (And.intro (va_cnB 0 hts (gW k_c_Re_init) rfl rfl rfl hN.2.2.1 (hw k_n_Re) (by decide +kernel) ⟨Nat.le_of_ble_eq_true rfl, Nat.le_of_ble_eq_true rfl⟩) ⟨rfl, hw k_i_Re_init⟩) ⟨zblindA, fun U hU hW => ⟨rfl, ⟨by rw [hU], by rw [hU]; exact hPc, hDt⟩, hKN.moved hW⟩⟩ rfl rfl hl.1 rfl (lv_room (Nat.le_of_ble_eq_true rfl)) d_To_init_29 ⟨Nat.le_of_ble_eq_true rfl, Nat.le_of_ble_eq_true rfl⟩) hS (fun q _ h => hFc q h) hFc (fun u t9 H1 locs ht hvm hp_4 hB hz1 hk1 hS => ?_)
  obtain ⟨rn, rc, rcw⟩ := u
  have hp_4 : True := hp_4
  obtain ⟨hP1, hD1⟩ := hB
  rw [ht] at hP1
  obtain ⟨hP, hD⟩ := va_join (wr := [(x, .inr (4, [.ref a5, .ref a18, .null, .int (zI 0)])), (a5, .inr (0, [.ref dn, .ref df, .ref di, .ref dl, .ref dm, .int (zI 0), .int (zI 0)])), (dn, .inl (c 0, 255, .inl (fun j => zI ((z0N j : Nat) : Int)))), (df, .inr (3, [.ref dfw])), (dfw, .inl (c 2, 4 * 255, .inr (.inl z0J))), (di, .inr (3, [.ref diw])), (diw, .inl (c 2, 4 * 40, .inr (.inl z0J))), (dl, .inr (3, [.ref dlw])), (dlw, .inl (c 2, 4 * 40, .inr (.inl z0J))), (dm, .inl (c 1, 40, .inl (fun j => zB (z0B j)))), (a18, .inl (c 3, 50, .inr (.inr (.inr (.inr z0Q)))))]) (w1 := [(a25, .inr (2, [.ref rn, .ref rc, .null, .int (zI 0)])), (rn, .inl (c 0, 1000, .inl (fun j => zI ((z0N j : Nat) : Int)))), (rc, .inr (3, [.ref rcw])), (rcw, .inl (c 2, 4 * 1001, .inr (.inl z0J)))]) hP hD [11] [0, 1, 2, 3, 4, 5, 6, 7, 8, 9, 10] rfl rfl (by decide) (by decide) hk1 hFc hP1 hD1
  generalize H1 = H at hP hS ⊢
  have hP : va_P D vwCl [(x, .inr (4, [.ref a5, .ref a18, .null, .int (zI 0)])), (a5, .inr (0, [.ref dn, .ref df, .ref di, .ref dl, .ref dm, .int (zI 0), .int (zI 0)])), (dn, .inl (c 0, 255, .inl (fun j => zI ((z0N j : Nat) : Int)))), (df, .inr (3, [.ref dfw])), (dfw, .inl (c 2, 4 * 255, .inr (.inl z0J))), (di, .inr (3, [.ref diw])), (diw, .inl (c 2, 4 * 40, .inr (.inl z0J))), (dl, .inr (3, [.ref dlw])), (dlw, .inl (c 2, 4 * 40, .inr (.inl z0J))), (dm, .inl (c 1, 40, .inl (fun j => zB (z0B j)))), (a18, .inl (c 3, 50, .inr (.inr (.inr (.inr z0Q))))), (a25, .inr (2, [.ref rn, .ref rc, .null, .int (zI 0)])), (rn, .inl (c 0, 1000, .inl (fun j => zI ((z0N j : Nat) : Int)))), (rc, .inr (3, [.ref rcw])), (rcw, .inl (c 2, 4 * 1001, .inr (.inl z0J)))] H := hP.sub [0, 1, 2, 3, 4, 5, 6, 7, 8, 9, 10, 11, 12, 13, 14] rfl
  have hD : va_D A [(x, .inr (4, [.ref a5, .ref a18, .null, .int (zI 0)])), (a5, .inr (0, [.ref dn, .ref df, .ref di, .ref dl, .ref dm, .int (zI 0), .int (zI 0)])), (dn, .inl (c 0, 255, .inl (fun j => zI ((z0N j : Nat) : Int)))), (df, .inr (3, [.ref dfw])), (dfw, .inl (c 2, 4 * 255, .inr (.inl z0J))), (di, .inr (3, [.ref diw])), (diw, .inl (c 2, 4 * 40, .inr (.inl z0J))), (dl, .inr (3, [.ref dlw])), (dlw, .inl (c 2, 4 * 40, .inr (.inl z0J))), (dm, .inl (c 1, 40, .inl (fun j => zB (z0B j)))), (a18, .inl (c 3, 50, .inr (.inr (.inr (.inr z0Q))))), (a25, .inr (2, [.ref rn, .ref rc, .null, .int (zI 0)])), (rn, .inl (c 0, 1000, .inl (fun j => zI ((z0N j : Nat) : Int)))), (rc, .inr (3, [.ref rcw])), (rcw, .inl (c 2, 4 * 1001, .inr (.inl z0J)))] := hD.sub [0, 1, 2, 3, 4, 5, 6, 7, 8, 9, 10, 11, 12, 13, 14] (by decide) rfl
  refine W.widen (k := 14) (n := 6704) (by omega) (by omega) ?_
  refine va_putF (D := D) (ci := 4) (v := .ref a25) (ty := .object "RowModels$Reading") (C := R_To) (T := T_To) (N := 4) hx hb hts (fun w h => List.mem_cons_of_mem _ (inA_To w h)) ty_To tyok_To nm_To hown hK hP hD hS 0 rfl rfl 2 (by decide) (hw k_To_f25) (fun _ h9 => h9) rfl hin rfl (by decide +kernel) rfl rfl (Nat.le_of_ble_eq_true rfl) d_To_init_32 (fun H locs hP hD hS => ?_)
  have hP : va_P D vwCl [(x, .inr (4, [.ref a5, .ref a18, .ref a25, .int (zI 0)])), (a5, .inr (0, [.ref dn, .ref df, .ref di, .ref dl, .ref dm, .int (zI 0), .int (zI 0)])), (dn, .inl (c 0, 255, .inl (fun j => zI ((z0N j : Nat) : Int)))), (df, .inr (3, [.ref dfw])), (dfw, .inl (c 2, 4 * 255, .inr (.inl z0J))), (di, .inr (3, [.ref diw])), (diw, .inl (c 2, 4 * 40, .inr (.inl z0J))), (dl, .inr (3, [.ref dlw])), (dlw, .inl (c 2, 4 * 40, .inr (.inl z0J))), (dm, .inl (c 1, 40, .inl (fun j => zB (z0B j)))), (a18, .inl (c 3, 50, .inr (.inr (.inr (.inr z0Q))))), (a25, .inr (2, [.ref rn, .ref rc, .null, .int (zI 0)])), (rn, .inl (c 0, 1000, .inl (fun j => zI ((z0N j : Nat) : Int)))), (rc, .inr (3, [.ref rcw])), (rcw, .inl (c 2, 4 * 1001, .inr (.inl z0J)))] H := hP
  have hD : va_D A [(x, .inr (4, [.ref a5, .ref a18, .ref a25, .int (zI 0)])), (a5, .inr (0, [.ref dn, .ref df, .ref di, .ref dl, .ref dm, .int (zI 0), .int (zI 0)])), (dn, .inl (c 0, 255, .inl (fun j => zI ((z0N j : Nat) : Int)))), (df, .inr (3, [.ref dfw])), (dfw, .inl (c 2, 4 * 255, .inr (.inl z0J))), (di, .inr (3, [.ref diw])), (diw, .inl (c 2, 4 * 40, .inr (.inl z0J))), (dl, .inr (3, [.ref dlw])), (dlw, .inl (c 2, 4 * 40, .inr (.inl z0J))), (dm, .inl (c 1, 40, .inl (fun j => zB (z0B j)))), (a18, .inl (c 3, 50, .inr (.inr (.inr (.inr z0Q))))), (a25, .inr (2, [.ref rn, .ref rc, .null, .int (zI 0)])), (rn, .inl (c 0, 1000, .inl (fun j => zI ((z0N j : Nat) : Int)))), (rc, .inr (3, [.ref rcw])), (rcw, .inl (c 2, 4 * 1001, .inr (.inl z0J)))] := hD
  refine lv_aload_n hx hb d_To_init_35 rfl (lv_at hl 0 rfl) ?_
  refine lv_iconst (v := zI 0) hx hb d_To_init_36 (by decide) ?_
  refine va_put (D := D) (ci := 4) (v := .int (zI 0)) (ty := .int) (C := R_To) (T := T_To) (N := 4) hx hb hts (fun w h => List.mem_cons_of_mem _ (inA_To w h)) ty_To tyok_To nm_To hown hK hP hD hS 0 rfl rfl 3 (by decide) (hw k_To_f29) (fun _ h9 => h9) rfl (by decide +kernel) rfl rfl (Nat.le_of_ble_eq_true rfl) d_To_init_37 (fun H locs hP hD hS => ?_)
  have hP : va_P D vwCl [(x, .inr (4, [.ref a5, .ref a18, .ref a25, .int (zI 0)])), (a5, .inr (0, [.ref dn, .ref df, .ref di, .ref dl, .ref dm, .int (zI 0), .int (zI 0)])), (dn, .inl (c 0, 255, .inl (fun j => zI ((z0N j : Nat) : Int)))), (df, .inr (3, [.ref dfw])), (dfw, .inl (c 2, 4 * 255, .inr (.inl z0J))), (di, .inr (3, [.ref diw])), (diw, .inl (c 2, 4 * 40, .inr (.inl z0J))), (dl, .inr (3, [.ref dlw])), (dlw, .inl (c 2, 4 * 40, .inr (.inl z0J))), (dm, .inl (c 1, 40, .inl (fun j => zB (z0B j)))), (a18, .inl (c 3, 50, .inr (.inr (.inr (.inr z0Q))))), (a25, .inr (2, [.ref rn, .ref rc, .null, .int (zI 0)])), (rn, .inl (c 0, 1000, .inl (fun j => zI ((z0N j : Nat) : Int)))), (rc, .inr (3, [.ref rcw])), (rcw, .inl (c 2, 4 * 1001, .inr (.inl z0J)))] H := hP
  have hD : va_D A [(x, .inr (4, [.ref a5, .ref a18, .ref a25, .int (zI 0)])), (a5, .inr (0, [.ref dn, .ref df, .ref di, .ref dl, .ref dm, .int (zI 0), .int (zI 0)])), (dn, .inl (c 0, 255, .inl (fun j => zI ((z0N j : Nat) : Int)))), (df, .inr (3, [.ref dfw])), (dfw, .inl (c 2, 4 * 255, .inr (.inl z0J))), (di, .inr (3, [.ref diw])), (diw, .inl (c 2, 4 * 40, .inr (.inl z0J))), (dl, .inr (3, [.ref dlw])), (dlw, .inl (c 2, 4 * 40, .inr (.inl z0J))), (dm, .inl (c 1, 40, .inl (fun j => zB (z0B j)))), (a18, .inl (c 3, 50, .inr (.inr (.inr (.inr z0Q))))), (a25, .inr (2, [.ref rn, .ref rc, .null, .int (zI 0)])), (rn, .inl (c 0, 1000, .inl (fun j => zI ((z0N j : Nat) : Int)))), (rc, .inr (3, [.ref rcw])), (rcw, .inl (c 2, 4 * 1001, .inr (.inl z0J)))] := hD
  subst hQ
  refine W.widen (k := 14) (n := 6704) (by omega) (by omega) ?_
  exact W.vret hx hb hr (fun t9 ht hW => ⟨⟨(a18, a5, dn, df, dfw, di, diw, dl, dlw, dm, a25, rn, rc, rcw), rfl, trivial, by show va_P _ _ _ t9.heap; rw [ht]; exact hP.sub [0, 10, 1, 2, 3, 4, 5, 6, 7, 8, 9, 11, 12, 13, 14] rfl, by exact hD.sub [0, 10, 1, 2, 3, 4, 5, 6, 7, 8, 9, 11, 12, 13, 14] (by decide) rfl⟩, hS.F ht⟩) hS.2.2 d_To_init_40
