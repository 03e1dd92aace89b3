def rm_startWith : Room := { frames := 3, cells := 0, slots := 0, locals := 67 }
set_option maxHeartbeats 4000000 in
set_option maxRecDepth 100000 in
/-- Reading.startWith -/
theorem c_startWith (l : Launch) (D : va_G) (c : Nat → ClassId) (rd : Nat) (rn : Nat) (rc : Nat) (rcw : Nat) (rm_ : Option Nat) (nr : Nat → Nat) (rv : Nat → Int64) (ct : Nat) (mo : Nat) (me : Nat) (ms : Nat) (msw : Nat) (en : Nat → Nat) (ne : Nat) (mf : Nat → Int64) (dt : Bool) (hne : ne ≤ 255) (hen : ∀ j, j < ne → en j < 300000) : Met l y_Re_startWith w_Re_startWith rm_startWith (va_Pc [.ref rd, .ref mo] (fun U => (va_P D vwCl [(rd, .inr (2, [.ref rn, .ref rc, va_rf rm_, .int (zI ((ct : Nat) : Int))])), (rc, .inr (3, [.ref rcw])), (rcw, .inl (c 2, 4 * 1001, .inr (.inl rv))), (mo, .inr (1, [.ref me, .ref ms, .int (zB dt)])), (me, .inl (c 0, ne, .inl (fun j => zI ((en j : Nat) : Int)))), (ms, .inr (3, [.ref msw])), (msw, .inl (c 2, 4 * (ne + 1), .inr (.inl mf)))] U.heap ∧ va_D (fun _ => True) [(rd, .inr (2, [.ref rn, .ref rc, va_rf rm_, .int (zI ((ct : Nat) : Int))])), (rc, .inr (3, [.ref rcw])), (rcw, .inl (c 2, 4 * 1001, .inr (.inl rv))), (mo, .inr (1, [.ref me, .ref ms, .int (zB dt)])), (me, .inl (c 0, ne, .inl (fun j => zI ((en j : Nat) : Int)))), (ms, .inr (3, [.ref msw])), (msw, .inl (c 2, 4 * (ne + 1), .inr (.inl mf)))]) ∧ zK D c U)) (va_Qv (fun (u : Unit) => True) (fun (u : Unit) t9 => va_P D vwCl [(rd, .inr (2, [.ref rn, .ref rc, .ref mo, .int (zI 0)])), (rc, .inr (3, [.ref rcw])), (rcw, .inl (c 2, 4 * 1001, .inr (.inl (zor (zclr rv 0) 0 mf ne)))), (mo, .inr (1, [.ref me, .ref ms, .int (zB dt)])), (me, .inl (c 0, ne, .inl (fun j => zI ((en j : Nat) : Int)))), (ms, .inr (3, [.ref msw])), (msw, .inl (c 2, 4 * (ne + 1), .inr (.inl mf)))] t9.heap) (zA [(rd, .inr (2, [.ref rn, .ref rc, va_rf rm_, .int (zI ((ct : Nat) : Int))])), (rc, .inr (3, [.ref rcw])), (rcw, .inl (c 2, 4 * 1001, .inr (.inl rv))), (mo, .inr (1, [.ref me, .ref ms, .int (zB dt)])), (me, .inl (c 0, ne, .inl (fun j => zI ((en j : Nat) : Int)))), (ms, .inr (3, [.ref msw])), (msw, .inl (c 2, 4 * (ne + 1), .inr (.inl mf)))])) 0 0 (zA [(rd, .inr (2, [.ref rn, .ref rc, va_rf rm_, .int (zI ((ct : Nat) : Int))])), (rc, .inr (3, [.ref rcw])), (rcw, .inl (c 2, 4 * 1001, .inr (.inl rv))), (mo, .inr (1, [.ref me, .ref ms, .int (zB dt)])), (me, .inl (c 0, ne, .inl (fun j => zI ((en j : Nat) : Int)))), (ms, .inr (3, [.ref msw])), (msw, .inl (c 2, 4 * (ne + 1), .inr (.inl mf)))]) := by
  refine Met.ofW (cc := b_Re_startWith) (maxL := 2) (ret := none) (by decide) rfl ?_
  intro p e s m args below meth c0 s₁ B hml hv
  obtain ⟨rfl, ⟨hP, hD0⟩, hKN⟩ := hv
  have hK := hKN.1
  have hN := hKN.2
  have hx := B.exec
  have hb := B.bytes
  have hr := B.returns
  have hts := atoms_spec (ws := w_Re_startWith) B.pre
  have hw : ∀ {w : Cond}, w ∈ ALLW → w.before _ s = true := fun h => hts _ (List.mem_cons_of_mem _ h)
  have hown : s.vm.findClass R_Re = some m.cls := findClass_of_methodNamed B.named
  have hlocks := B.notSynchronized
  have hD : va_D (zA [(rd, .inr (2, [.ref rn, .ref rc, va_rf rm_, .int (zI ((ct : Nat) : Int))])), (rc, .inr (3, [.ref rcw])), (rcw, .inl (c 2, 4 * 1001, .inr (.inl rv))), (mo, .inr (1, [.ref me, .ref ms, .int (zB dt)])), (me, .inl (c 0, ne, .inl (fun j => zI ((en j : Nat) : Int)))), (ms, .inr (3, [.ref msw])), (msw, .inl (c 2, 4 * (ne + 1), .inr (.inl mf)))]) [(rd, .inr (2, [.ref rn, .ref rc, va_rf rm_, .int (zI ((ct : Nat) : Int))])), (rc, .inr (3, [.ref rcw])), (rcw, .inl (c 2, 4 * 1001, .inr (.inl rv))), (mo, .inr (1, [.ref me, .ref ms, .int (zB dt)])), (me, .inl (c 0, ne, .inl (fun j => zI ((en j : Nat) : Int)))), (ms, .inr (3, [.ref msw])), (msw, .inl (c 2, 4 * (ne + 1), .inr (.inl mf)))] := ⟨hD0.1, fun k q h => List.mem_map.mpr ⟨q, List.mem_of_getElem? h, rfl⟩⟩
  generalize hAe : zA [(rd, .inr (2, [.ref rn, .ref rc, va_rf rm_, .int (zI ((ct : Nat) : Int))])), (rc, .inr (3, [.ref rcw])), (rcw, .inl (c 2, 4 * 1001, .inr (.inl rv))), (mo, .inr (1, [.ref me, .ref ms, .int (zB dt)])), (me, .inl (c 0, ne, .inl (fun j => zI ((en j : Nat) : Int)))), (ms, .inr (3, [.ref msw])), (msw, .inl (c 2, 4 * (ne + 1), .inr (.inl mf)))] = A at hD ⊢
  have hS : va_S A s.heap s.heap [] := va_S.rf
  have hP : va_P D vwCl [(rd, .inr (2, [.ref rn, .ref rc, va_rf rm_, .int (zI ((ct : Nat) : Int))])), (rc, .inr (3, [.ref rcw])), (rcw, .inl (c 2, 4 * 1001, .inr (.inl rv))), (mo, .inr (1, [.ref me, .ref ms, .int (zB dt)])), (me, .inl (c 0, ne, .inl (fun j => zI ((en j : Nat) : Int)))), (ms, .inr (3, [.ref msw])), (msw, .inl (c 2, 4 * (ne + 1), .inr (.inl mf)))] s.heap := hP
  have hl := lv_entry ([.ref rd, .ref mo]) (n := 2) (Nat.le_of_ble_eq_true rfl)
  rw [lg_entry_eq]
  generalize (lg_sl ([.ref rd, .ref mo]) ++ List.replicate (2 - (lg_sl ([.ref rd, .ref mo])).length) Slot.unset).toArray = ls at hl ⊢
  have hl : lv_has ls 2 [(0, .ref rd), (1, .ref mo)] := hl
  generalize hQ : MQ below _ _ _ _ _ _ = Q
  refine lv_aload_n hx hb d_Re_startWith_0 rfl (lv_at hl 0 rfl) ?_
  refine lv_aload_n hx hb d_Re_startWith_1 rfl (lv_at hl 1 rfl) ?_
  refine va_put (D := D) (ci := 2) (v := .ref mo) (ty := .object "RowModels$Model") (C := R_Re) (T := T_Re) (N := 4) hx hb hts (fun w h => List.mem_cons_of_mem _ (inA_Re w h)) ty_Re tyok_Re nm_Re hown hK hP hD hS 0 rfl rfl 2 (by decide) (hw k_Re_f24) (fun _ h9 => h9) rfl (by decide +kernel) rfl rfl (Nat.le_of_ble_eq_true rfl) d_Re_startWith_2 (fun H locs hP hD hS => ?_)
  have hP : va_P D vwCl [(rd, .inr (2, [.ref rn, .ref rc, .ref mo, .int (zI ((ct : Nat) : Int))])), (rc, .inr (3, [.ref rcw])), (rcw, .inl (c 2, 4 * 1001, .inr (.inl rv))), (mo, .inr (1, [.ref me, .ref ms, .int (zB dt)])), (me, .inl (c 0, ne, .inl (fun j => zI ((en j : Nat) : Int)))), (ms, .inr (3, [.ref msw])), (msw, .inl (c 2, 4 * (ne + 1), .inr (.inl mf)))] H := hP
  have hD : va_D A [(rd, .inr (2, [.ref rn, .ref rc, .ref mo, .int (zI ((ct : Nat) : Int))])), (rc, .inr (3, [.ref rcw])), (rcw, .inl (c 2, 4 * 1001, .inr (.inl rv))), (mo, .inr (1, [.ref me, .ref ms, .int (zB dt)])), (me, .inl (c 0, ne, .inl (fun j => zI ((en j : Nat) : Int)))), (ms, .inr (3, [.ref msw])), (msw, .inl (c 2, 4 * (ne + 1), .inr (.inl mf)))] := hD
  refine lv_aload_n hx hb d_Re_startWith_5 rfl (lv_at hl 0 rfl) ?_
  refine lv_iconst (v := zI 0) hx hb d_Re_startWith_6 (by decide) ?_
  refine va_put (D := D) (ci := 2) (v := .int (zI 0)) (ty := .int) (C := R_Re) (T := T_Re) (N := 4) hx hb hts (fun w h => List.mem_cons_of_mem _ (inA_Re w h)) ty_Re tyok_Re nm_Re hown hK hP hD hS 0 rfl rfl 3 (by decide) (hw k_Re_f28) (fun _ h9 => h9) rfl (by decide +kernel) rfl rfl (Nat.le_of_ble_eq_true rfl) d_Re_startWith_7 (fun H locs hP hD hS => ?_)
  have hP : va_P D vwCl [(rd, .inr (2, [.ref rn, .ref rc, .ref mo, .int (zI 0)])), (rc, .inr (3, [.ref rcw])), (rcw, .inl (c 2, 4 * 1001, .inr (.inl rv))), (mo, .inr (1, [.ref me, .ref ms, .int (zB dt)])), (me, .inl (c 0, ne, .inl (fun j => zI ((en j : Nat) : Int)))), (ms, .inr (3, [.ref msw])), (msw, .inl (c 2, 4 * (ne + 1), .inr (.inl mf)))] H := hP
  have hD : va_D A [(rd, .inr (2, [.ref rn, .ref rc, .ref mo, .int (zI 0)])), (rc, .inr (3, [.ref rcw])), (rcw, .inl (c 2, 4 * 1001, .inr (.inl rv))), (mo, .inr (1, [.ref me, .ref ms, .int (zB dt)])), (me, .inl (c 0, ne, .inl (fun j => zI ((en j : Nat) : Int)))), (ms, .inr (3, [.ref msw])), (msw, .inl (c 2, 4 * (ne + 1), .inr (.inl mf)))] := hD
  refine lv_aload_n hx hb d_Re_startWith_10 rfl (lv_at hl 1 rfl) ?_
  refine lv_aload_n hx hb d_Re_startWith_11 rfl (lv_at hl 0 rfl) ?_
  refine va_get (D := D) (ci := 2) (v := .ref rc) (C := R_Re) (T := T_Re) (N := 4) hx hb hts (fun w h => List.mem_cons_of_mem _ (inA_Re w h)) hown hK hP 0 rfl rfl 1 (by decide) (hw k_Re_f20) (fun _ h9 => h9) rfl d_Re_startWith_12 ?_
  refine lv_iconst (v := zI 0) hx hb d_Re_startWith_15 (by decide) ?_
  have hPc : va_P D vwCl [(mo, .inr (1, [.ref me, .ref ms, .int (zB dt)])), (me, .inl (c 0, ne, .inl (fun j => zI ((en j : Nat) : Int)))), (ms, .inr (3, [.ref msw])), (msw, .inl (c 2, 4 * (ne + 1), .inr (.inl mf))), (rc, .inr (3, [.ref rcw])), (rcw, .inl (c 2, 4 * 1001, .inr (.inl rv)))] H := hP.sub (ws' := [(mo, .inr (1, [.ref me, .ref ms, .int (zB dt)])), (me, .inl (c 0, ne, .inl (fun j => zI ((en j : Nat) : Int)))), (ms, .inr (3, [.ref msw])), (msw, .inl (c 2, 4 * (ne + 1), .inr (.inl mf))), (rc, .inr (3, [.ref rcw])), (rcw, .inl (c 2, 4 * 1001, .inr (.inl rv)))]) [3, 4, 5, 6, 1, 2] rfl
  have hDc : va_D A [(mo, .inr (1, [.ref me, .ref ms, .int (zB dt)])), (me, .inl (c 0, ne, .inl (fun j => zI ((en j : Nat) : Int)))), (ms, .inr (3, [.ref msw])), (msw, .inl (c 2, 4 * (ne + 1), .inr (.inl mf))), (rc, .inr (3, [.ref rcw])), (rcw, .inl (c 2, 4 * 1001, .inr (.inl rv)))] := hD.sub (ws' := [(mo, .inr (1, [.ref me, .ref ms, .int (zB dt)])), (me, .inl (c 0, ne, .inl (fun j => zI ((en j : Nat) : Int)))), (ms, .inr (3, [.ref msw])), (msw, .inl (c 2, 4 * (ne + 1), .inr (.inl mf))), (rc, .inr (3, [.ref rcw])), (rcw, .inl (c 2, 4 * 1001, .inr (.inl rv)))]) [3, 4, 5, 6, 1, 2] (by decide) rfl
  have hDt : va_D (fun _ => True) [(mo, .inr (1, [.ref me, .ref ms, .int (zB dt)])), (me, .inl (c 0, ne, .inl (fun j => zI ((en j : Nat) : Int)))), (ms, .inr (3, [.ref msw])), (msw, .inl (c 2, 4 * (ne + 1), .inr (.inl mf))), (rc, .inr (3, [.ref rcw])), (rcw, .inl (c 2, 4 * 1001, .inr (.inl rv)))] := hDc.weaken (fun _ _ _ _ => trivial)
  refine z_callv (S := Unit) (w1 := fun u => [(mo, .inr (1, [.ref me, .ref ms, .int (zB dt)])), (me, .inl (c 0, ne, .inl (fun j => zI ((en j : Nat) : Int)))), (ms, .inr (3, [.ref msw])), (msw, .inl (c 2, 4 * (ne + 1), .inr (.inl mf))), (rc, .inr (3, [.ref rcw])), (rcw, .inl (c 2, 4 * 1001, .inr (.inl (zor (zclr rv 0) 0 mf ne))))]) (post := fun u => True) (wc := [(mo, .inr (1, [.ref me, .ref ms, .int (zB dt)])), (me, .inl (c 0, ne, .inl (fun j => zI ((en j : Nat) : Int)))), (ms, .inr (3, [.ref msw])), (msw, .inl (c 2, 4 * (ne + 1), .inr (.inl mf))), (rc, .inr (3, [.ref rcw])), (rcw, .inl (c 2, 4 * 1001, .inr (.inl rv)))]) [3, 4, 5, 6, 1, 2] rfl (fun _ => rfl) hP hD hS (va_runV (rm := rm_putFirst) (As := [.ref rc, .int (zI 0)]) (rest := []) ⟨hx, hb, hml, hown, hts⟩ (c_putFirst l D c rc rcw rv mo me ms msw en ne mf dt 0 (by omega) hen (by omega)) (cwV 2 hts (gWV k_Re_m32 k_i_Mo_putFirst k_v_Mo_putFirst k_n_Mo k_c_Mo_putFirst) rfl rfl rfl (by decide +kernel) ⟨Nat.le_of_ble_eq_true rfl, Nat.le_of_ble_eq_true rfl⟩) ⟨zblindW, va_recv hK hPc (ci := 1) (q0 := 0) rfl rfl, fun U hU hW => ⟨rfl, ⟨by rw [hU]; exact hPc, hDt⟩, hKN.moved hW⟩⟩ rfl rfl hl.1 rfl (lv_room (Nat.le_of_ble_eq_true rfl)) d_Re_startWith_16 ⟨Nat.zero_le _, Nat.zero_le _⟩) (fun u H locs hp_1 hP hD hS => ?_)
  have hP : va_P D vwCl [(rd, .inr (2, [.ref rn, .ref rc, .ref mo, .int (zI 0)])), (rc, .inr (3, [.ref rcw])), (rcw, .inl (c 2, 4 * 1001, .inr (.inl (zor (zclr rv 0) 0 mf ne)))), (mo, .inr (1, [.ref me, .ref ms, .int (zB dt)])), (me, .inl (c 0, ne, .inl (fun j => zI ((en j : Nat) : Int)))), (ms, .inr (3, [.ref msw])), (msw, .inl (c 2, 4 * (ne + 1), .inr (.inl mf)))] H := hP
  have hD : va_D A [(rd, .inr (2, [.ref rn, .ref rc, .ref mo, .int (zI 0)])), (rc, .inr (3, [.ref rcw])), (rcw, .inl (c 2, 4 * 1001, .inr (.inl (zor (zclr rv 0) 0 mf ne)))), (mo, .inr (1, [.ref me, .ref ms, .int (zB dt)])), (me, .inl (c 0, ne, .inl (fun j => zI ((en j : Nat) : Int)))), (ms, .inr (3, [.ref msw])), (msw, .inl (c 2, 4 * (ne + 1), .inr (.inl mf)))] := hD
  subst hQ
  exact W.vret hx hb hr (fun t9 ht hW => ⟨⟨(), rfl, trivial, by show va_P _ _ _ t9.heap; rw [ht]; exact hP⟩, hS.F ht⟩) hS.2.2 d_Re_startWith_19

def rm_take_null : Room := { frames := 0, cells := 0, slots := 0, locals := 0 }
set_option maxHeartbeats 4000000 in
set_option maxRecDepth 100000 in
/-- Reading.take, nothing begun -/
theorem c_take_null (l : Launch) (D : va_G) (c : Nat → ClassId) (rd : Nat) (rn : Nat) (rc : Nat) (rcw : Nat) (nr : Nat → Nat) (rv : Nat → Int64) (ct : Nat) (x : Nat)  : Met l y_Re_take w_Re_take rm_take_null (va_Pc [.ref rd, .int (zI ((x : Nat) : Int))] (fun U => va_P D vwCl [(rd, .inr (2, [.ref rn, .ref rc, .null, .int (zI ((ct : Nat) : Int))]))] U.heap ∧ zK D c U)) (vp_Si (fun r => r = (zB false))) 0 0 (fun _ => False) := by
  refine Met.ofW (cc := b_Re_take) (maxL := 2) (ret := (some .boolean)) (by decide) rfl ?_
  intro p e s m args below meth c0 s₁ B hml hv
  obtain ⟨rfl, hP, hKN⟩ := hv
  have hK := hKN.1
  have hN := hKN.2
  have hx := B.exec
  have hb := B.bytes
  have hr := B.returns
  have hts := atoms_spec (ws := w_Re_take) B.pre
  have hw : ∀ {w : Cond}, w ∈ ALLW → w.before _ s = true := fun h => hts _ (List.mem_cons_of_mem _ h)
  have hown : s.vm.findClass R_Re = some m.cls := findClass_of_methodNamed B.named
  have hlocks := B.notSynchronized
  have hl := lv_entry ([.ref rd, .int (zI ((x : Nat) : Int))]) (n := 2) (Nat.le_of_ble_eq_true rfl)
  rw [lg_entry_eq]
  generalize (lg_sl ([.ref rd, .int (zI ((x : Nat) : Int))]) ++ List.replicate (2 - (lg_sl ([.ref rd, .int (zI ((x : Nat) : Int))])).length) Slot.unset).toArray = ls at hl ⊢
  have hl : lv_has ls 2 [(0, .ref rd), (1, .int (zI ((x : Nat) : Int)))] := hl
  generalize hQ : MQ below _ _ _ _ _ _ = Q
  refine lv_aload_n hx hb d_Re_take_0 rfl (lv_at hl 0 rfl) ?_
  refine va_get (D := D) (ci := 2) (v := .null) (C := R_Re) (T := T_Re) (N := 4) hx hb hts (fun w h => List.mem_cons_of_mem _ (inA_Re w h)) hown hK hP 0 rfl rfl 2 (by decide) (hw k_Re_f24) (fun _ h9 => h9) rfl d_Re_take_1 ?_
  refine lv_ifnullN (tgt := 26) hx hb d_Re_take_4 (by decide) ?_
  refine lv_iconst (v := zI 0) hx hb d_Re_take_26 (by decide) ?_
  subst hQ
  exact W.zret (ty := .boolean) (v := (zI 0)) hx hb hr (by decide) (fun t9 ht hW => ⟨_, rfl, (by decide), ht⟩) (fun q hq => absurd hq List.not_mem_nil) d_Re_take_27

def rm_take_full : Room := { frames := 0, cells := 0, slots := 0, locals := 0 }
set_option maxHeartbeats 4000000 in
set_option maxRecDepth 100000 in
/-- Reading.take, 1000 were read -/
theorem c_take_full (l : Launch) (D : va_G) (c : Nat → ClassId) (rd : Nat) (rn : Nat) (rc : Nat) (rcw : Nat) (nr : Nat → Nat) (rv : Nat → Int64) (mo : Nat) (x : Nat)  : Met l y_Re_take w_Re_take rm_take_full (va_Pc [.ref rd, .int (zI ((x : Nat) : Int))] (fun U => va_P D vwCl [(rd, .inr (2, [.ref rn, .ref rc, .ref mo, .int (zI ((1000 : Nat) : Int))])), (rn, .inl (c 0, 1000, .inl (fun j => zI ((nr j : Nat) : Int))))] U.heap ∧ zK D c U)) (vp_Si (fun r => r = (zB false))) 0 0 (fun _ => False) := by
  refine Met.ofW (cc := b_Re_take) (maxL := 2) (ret := (some .boolean)) (by decide) rfl ?_
  intro p e s m args below meth c0 s₁ B hml hv
  obtain ⟨rfl, hP, hKN⟩ := hv
  have hK := hKN.1
  have hN := hKN.2
  have hx := B.exec
  have hb := B.bytes
  have hr := B.returns
  have hts := atoms_spec (ws := w_Re_take) B.pre
  have hw : ∀ {w : Cond}, w ∈ ALLW → w.before _ s = true := fun h => hts _ (List.mem_cons_of_mem _ h)
  have hown : s.vm.findClass R_Re = some m.cls := findClass_of_methodNamed B.named
  have hlocks := B.notSynchronized
  have hl := lv_entry ([.ref rd, .int (zI ((x : Nat) : Int))]) (n := 2) (Nat.le_of_ble_eq_true rfl)
  rw [lg_entry_eq]
  generalize (lg_sl ([.ref rd, .int (zI ((x : Nat) : Int))]) ++ List.replicate (2 - (lg_sl ([.ref rd, .int (zI ((x : Nat) : Int))])).length) Slot.unset).toArray = ls at hl ⊢
  have hl : lv_has ls 2 [(0, .ref rd), (1, .int (zI ((x : Nat) : Int)))] := hl
  generalize hQ : MQ below _ _ _ _ _ _ = Q
  refine lv_aload_n hx hb d_Re_take_0 rfl (lv_at hl 0 rfl) ?_
  refine va_get (D := D) (ci := 2) (v := .ref mo) (C := R_Re) (T := T_Re) (N := 4) hx hb hts (fun w h => List.mem_cons_of_mem _ (inA_Re w h)) hown hK hP 0 rfl rfl 2 (by decide) (hw k_Re_f24) (fun _ h9 => h9) rfl d_Re_take_1 ?_
  refine lv_ifnull hx hb d_Re_take_4 ?_
  refine lv_aload_n hx hb d_Re_take_7 rfl (lv_at hl 0 rfl) ?_
  refine va_get (D := D) (ci := 2) (v := .int (zI ((1000 : Nat) : Int))) (C := R_Re) (T := T_Re) (N := 4) hx hb hts (fun w h => List.mem_cons_of_mem _ (inA_Re w h)) hown hK hP 0 rfl rfl 3 (by decide) (hw k_Re_f28) (fun _ h9 => h9) rfl d_Re_take_8 ?_
  refine z_if_lt (tgt := 26) hx hb (by omega) d_Re_take_11 (by decide) (fun hc_11 => absurd hc_11 (by omega)) (fun hc_11 => ?_)
  refine lv_aload_n hx hb d_Re_take_14 rfl (lv_at hl 0 rfl) ?_
  refine va_get (D := D) (ci := 2) (v := .int (zI ((1000 : Nat) : Int))) (C := R_Re) (T := T_Re) (N := 4) hx hb hts (fun w h => List.mem_cons_of_mem _ (inA_Re w h)) hown hK hP 0 rfl rfl 3 (by decide) (hw k_Re_f28) (fun _ h9 => h9) rfl d_Re_take_15 ?_
  refine lv_aload_n hx hb d_Re_take_18 rfl (lv_at hl 0 rfl) ?_
  refine va_get (D := D) (ci := 2) (v := .ref rn) (C := R_Re) (T := T_Re) (N := 4) hx hb hts (fun w h => List.mem_cons_of_mem _ (inA_Re w h)) hown hK hP 0 rfl rfl 0 (by decide) (hw k_Re_f9) (fun _ h9 => h9) rfl d_Re_take_19 ?_
  refine z_alen hx hb hK hP 1 0 rfl rfl d_Re_take_22 ?_
  refine z_top (v2 := .int (zI (1000 : Int))) rfl ?_
  refine z_icmp_lt (tgt := 28) hx hb (by omega) d_Re_take_23 (by decide) (fun hc_23 => absurd hc_23 (by omega)) (fun hc_23 => ?_)
  refine lv_iconst (v := zI 0) hx hb d_Re_take_26 (by decide) ?_
  subst hQ
  exact W.zret (ty := .boolean) (v := (zI 0)) hx hb hr (by decide) (fun t9 ht hW => ⟨_, rfl, (by decide), ht⟩) (fun q hq => absurd hq List.not_mem_nil) d_Re_take_27

def rm_take : Room := { frames := 4, cells := 0, slots := 0, locals := 90 }
set_option maxHeartbeats 4000000 in
set_option maxRecDepth 100000 in
/-- Reading.take -/
theorem c_take (l : Launch) (D : va_G) (c : Nat → ClassId) (rd : Nat) (rn : Nat) (rc : Nat) (rcw : Nat) (nr : Nat → Nat) (rv : Nat → Int64) (ct : Nat) (mo : Nat) (me : Nat) (ms : Nat) (msw : Nat) (en : Nat → Nat) (ne : Nat) (mf : Nat → Int64) (dt : Bool) (x : Nat) (hne : ne ≤ 255) (hen : ∀ j, j < ne → en j < 300000) (hoc : ∀ j, j < ne → en j % 256 < ne + 1) (hct : ct < 1000) (hx_ : x < 2048) : Met l y_Re_take w_Re_take rm_take (va_Pc [.ref rd, .int (zI ((x : Nat) : Int))] (fun U => (va_P D vwCl [(rd, .inr (2, [.ref rn, .ref rc, .ref mo, .int (zI ((ct : Nat) : Int))])), (rn, .inl (c 0, 1000, .inl (fun j => zI ((nr j : Nat) : Int)))), (rc, .inr (3, [.ref rcw])), (rcw, .inl (c 2, 4 * 1001, .inr (.inl rv))), (mo, .inr (1, [.ref me, .ref ms, .int (zB dt)])), (me, .inl (c 0, ne, .inl (fun j => zI ((en j : Nat) : Int)))), (ms, .inr (3, [.ref msw])), (msw, .inl (c 2, 4 * (ne + 1), .inr (.inl mf)))] U.heap ∧ va_D (fun _ => True) [(rd, .inr (2, [.ref rn, .ref rc, .ref mo, .int (zI ((ct : Nat) : Int))])), (rn, .inl (c 0, 1000, .inl (fun j => zI ((nr j : Nat) : Int)))), (rc, .inr (3, [.ref rcw])), (rcw, .inl (c 2, 4 * 1001, .inr (.inl rv))), (mo, .inr (1, [.ref me, .ref ms, .int (zB dt)])), (me, .inl (c 0, ne, .inl (fun j => zI ((en j : Nat) : Int)))), (ms, .inr (3, [.ref msw])), (msw, .inl (c 2, 4 * (ne + 1), .inr (.inl mf)))]) ∧ zK D c U)) (va_Qi (fun (r : Int32) (u : Unit) => r = (zB true) ∧ True) (fun (u : Unit) t9 => va_P D vwCl [(rd, .inr (2, [.ref rn, .ref rc, .ref mo, .int (zI ((ct + 1 : Nat) : Int))])), (rn, .inl (c 0, 1000, .inl (fun j => zI (((va_up nr ct x) j : Nat) : Int)))), (rc, .inr (3, [.ref rcw])), (rcw, .inl (c 2, 4 * 1001, .inr (.inl (pbk rv en mf ct x ne)))), (mo, .inr (1, [.ref me, .ref ms, .int (zB dt)])), (me, .inl (c 0, ne, .inl (fun j => zI ((en j : Nat) : Int)))), (ms, .inr (3, [.ref msw])), (msw, .inl (c 2, 4 * (ne + 1), .inr (.inl mf)))] t9.heap) (zA [(rd, .inr (2, [.ref rn, .ref rc, .ref mo, .int (zI ((ct : Nat) : Int))])), (rn, .inl (c 0, 1000, .inl (fun j => zI ((nr j : Nat) : Int)))), (rc, .inr (3, [.ref rcw])), (rcw, .inl (c 2, 4 * 1001, .inr (.inl rv))), (mo, .inr (1, [.ref me, .ref ms, .int (zB dt)])), (me, .inl (c 0, ne, .inl (fun j => zI ((en j : Nat) : Int)))), (ms, .inr (3, [.ref msw])), (msw, .inl (c 2, 4 * (ne + 1), .inr (.inl mf)))])) 0 0 (zA [(rd, .inr (2, [.ref rn, .ref rc, .ref mo, .int (zI ((ct : Nat) : Int))])), (rn, .inl (c 0, 1000, .inl (fun j => zI ((nr j : Nat) : Int)))), (rc, .inr (3, [.ref rcw])), (rcw, .inl (c 2, 4 * 1001, .inr (.inl rv))), (mo, .inr (1, [.ref me, .ref ms, .int (zB dt)])), (me, .inl (c 0, ne, .inl (fun j => zI ((en j : Nat) : Int)))), (ms, .inr (3, [.ref msw])), (msw, .inl (c 2, 4 * (ne + 1), .inr (.inl mf)))]) := by
  refine Met.ofW (cc := b_Re_take) (maxL := 2) (ret := (some .boolean)) (by decide) rfl ?_
  intro p e s m args below meth c0 s₁ B hml hv
  obtain ⟨rfl, ⟨hP, hD0⟩, hKN⟩ := hv
  have hK := hKN.1
  have hN := hKN.2
  have hx := B.exec
  have hb := B.bytes
  have hr := B.returns
  have hts := atoms_spec (ws := w_Re_take) B.pre
  have hw : ∀ {w : Cond}, w ∈ ALLW → w.before _ s = true := fun h => hts _ (List.mem_cons_of_mem _ h)
  have hown : s.vm.findClass R_Re = some m.cls := findClass_of_methodNamed B.named
  have hlocks := B.notSynchronized
  have hD : va_D (zA [(rd, .inr (2, [.ref rn, .ref rc, .ref mo, .int (zI ((ct : Nat) : Int))])), (rn, .inl (c 0, 1000, .inl (fun j => zI ((nr j : Nat) : Int)))), (rc, .inr (3, [.ref rcw])), (rcw, .inl (c 2, 4 * 1001, .inr (.inl rv))), (mo, .inr (1, [.ref me, .ref ms, .int (zB dt)])), (me, .inl (c 0, ne, .inl (fun j => zI ((en j : Nat) : Int)))), (ms, .inr (3, [.ref msw])), (msw, .inl (c 2, 4 * (ne + 1), .inr (.inl mf)))]) [(rd, .inr (2, [.ref rn, .ref rc, .ref mo, .int (zI ((ct : Nat) : Int))])), (rn, .inl (c 0, 1000, .inl (fun j => zI ((nr j : Nat) : Int)))), (rc, .inr (3, [.ref rcw])), (rcw, .inl (c 2, 4 * 1001, .inr (.inl rv))), (mo, .inr (1, [.ref me, .ref ms, .int (zB dt)])), (me, .inl (c 0, ne, .inl (fun j => zI ((en j : Nat) : Int)))), (ms, .inr (3, [.ref msw])), (msw, .inl (c 2, 4 * (ne + 1), .inr (.inl mf)))] := ⟨hD0.1, fun k q h => List.mem_map.mpr ⟨q, List.mem_of_getElem? h, rfl⟩⟩
  generalize hAe : zA [(rd, .inr (2, [.ref rn, .ref rc, .ref mo, .int (zI ((ct : Nat) : Int))])), (rn, .inl (c 0, 1000, .inl (fun j => zI ((nr j : Nat) : Int)))), (rc, .inr (3, [.ref rcw])), (rcw, .inl (c 2, 4 * 1001, .inr (.inl rv))), (mo, .inr (1, [.ref me, .ref ms, .int (zB dt)])), (me, .inl (c 0, ne, .inl (fun j => zI ((en j : Nat) : Int)))), (ms, .inr (3, [.ref msw])), (msw, .inl (c 2, 4 * (ne + 1), .inr (.inl mf)))] = A at hD ⊢
  have hS : va_S A s.heap s.heap [] := va_S.rf
  have hP : va_P D vwCl [(rd, .inr (2, [.ref rn, .ref rc, .ref mo, .int (zI ((ct : Nat) : Int))])), (rn, .inl (c 0, 1000, .inl (fun j => zI ((nr j : Nat) : Int)))), (rc, .inr (3, [.ref rcw])), (rcw, .inl (c 2, 4 * 1001, .inr (.inl rv))), (mo, .inr (1, [.ref me, .ref ms, .int (zB dt)])), (me, .inl (c 0, ne, .inl (fun j => zI ((en j : Nat) : Int)))), (ms, .inr (3, [.ref msw])), (msw, .inl (c 2, 4 * (ne + 1), .inr (.inl mf)))] s.heap := hP
  have hl := lv_entry ([.ref rd, .int (zI ((x : Nat) : Int))]) (n := 2) (Nat.le_of_ble_eq_true rfl)
  rw [lg_entry_eq]
  generalize (lg_sl ([.ref rd, .int (zI ((x : Nat) : Int))]) ++ List.replicate (2 - (lg_sl ([.ref rd, .int (zI ((x : Nat) : Int))])).length) Slot.unset).toArray = ls at hl ⊢
  have hl : lv_has ls 2 [(0, .ref rd), (1, .int (zI ((x : Nat) : Int)))] := hl
  generalize hQ : MQ below _ _ _ _ _ _ = Q
  refine lv_aload_n hx hb d_Re_take_0 rfl (lv_at hl 0 rfl) ?_
  refine va_get (D := D) (ci := 2) (v := .ref mo) (C := R_Re) (T := T_Re) (N := 4) hx hb hts (fun w h => List.mem_cons_of_mem _ (inA_Re w h)) hown hK hP 0 rfl rfl 2 (by decide) (hw k_Re_f24) (fun _ h9 => h9) rfl d_Re_take_1 ?_
  refine lv_ifnull hx hb d_Re_take_4 ?_
  refine lv_aload_n hx hb d_Re_take_7 rfl (lv_at hl 0 rfl) ?_
  refine va_get (D := D) (ci := 2) (v := .int (zI ((ct : Nat) : Int))) (C := R_Re) (T := T_Re) (N := 4) hx hb hts (fun w h => List.mem_cons_of_mem _ (inA_Re w h)) hown hK hP 0 rfl rfl 3 (by decide) (hw k_Re_f28) (fun _ h9 => h9) rfl d_Re_take_8 ?_
  refine z_if_lt (tgt := 26) hx hb (by omega) d_Re_take_11 (by decide) (fun hc_11 => absurd hc_11 (by omega)) (fun hc_11 => ?_)
  refine lv_aload_n hx hb d_Re_take_14 rfl (lv_at hl 0 rfl) ?_
  refine va_get (D := D) (ci := 2) (v := .int (zI ((ct : Nat) : Int))) (C := R_Re) (T := T_Re) (N := 4) hx hb hts (fun w h => List.mem_cons_of_mem _ (inA_Re w h)) hown hK hP 0 rfl rfl 3 (by decide) (hw k_Re_f28) (fun _ h9 => h9) rfl d_Re_take_15 ?_
  refine lv_aload_n hx hb d_Re_take_18 rfl (lv_at hl 0 rfl) ?_
  refine va_get (D := D) (ci := 2) (v := .ref rn) (C := R_Re) (T := T_Re) (N := 4) hx hb hts (fun w h => List.mem_cons_of_mem _ (inA_Re w h)) hown hK hP 0 rfl rfl 0 (by decide) (hw k_Re_f9) (fun _ h9 => h9) rfl d_Re_take_19 ?_
  refine z_alen hx hb hK hP 1 0 rfl rfl d_Re_take_22 ?_
  refine z_top (v2 := .int (zI (1000 : Int))) rfl ?_
  refine z_icmp_lt (tgt := 28) hx hb (by omega) d_Re_take_23 (by decide) (fun hc_23 => ?_) (fun hc_23 => absurd hc_23 (by omega))
  refine lv_aload_n hx hb d_Re_take_28 rfl (lv_at hl 0 rfl) ?_
  refine va_get (D := D) (ci := 2) (v := .ref rn) (C := R_Re) (T := T_Re) (N := 4) hx hb hts (fun w h => List.mem_cons_of_mem _ (inA_Re w h)) hown hK hP 0 rfl rfl 0 (by decide) (hw k_Re_f9) (fun _ h9 => h9) rfl d_Re_take_29 ?_
  refine lv_aload_n hx hb d_Re_take_32 rfl (lv_at hl 0 rfl) ?_
  refine va_get (D := D) (ci := 2) (v := .int (zI ((ct : Nat) : Int))) (C := R_Re) (T := T_Re) (N := 4) hx hb hts (fun w h => List.mem_cons_of_mem _ (inA_Re w h)) hown hK hP 0 rfl rfl 3 (by decide) (hw k_Re_f28) (fun _ h9 => h9) rfl d_Re_take_33 ?_
  refine lv_iload_n hx hb d_Re_take_36 rfl (lv_at hl 1 rfl) ?_
  refine z_uast hx hb hK hP hD hS 1 0 rfl rfl (ct) (by omega) (by omega) (by omega) d_Re_take_37 (fun H locs hP hD hS => ?_)
  have hP : va_P D vwCl [(rd, .inr (2, [.ref rn, .ref rc, .ref mo, .int (zI ((ct : Nat) : Int))])), (rn, .inl (c 0, 1000, .inl (fun j => zI (((va_up nr ct x) j : Nat) : Int)))), (rc, .inr (3, [.ref rcw])), (rcw, .inl (c 2, 4 * 1001, .inr (.inl rv))), (mo, .inr (1, [.ref me, .ref ms, .int (zB dt)])), (me, .inl (c 0, ne, .inl (fun j => zI ((en j : Nat) : Int)))), (ms, .inr (3, [.ref msw])), (msw, .inl (c 2, 4 * (ne + 1), .inr (.inl mf)))] H := hP
  have hD : va_D A [(rd, .inr (2, [.ref rn, .ref rc, .ref mo, .int (zI ((ct : Nat) : Int))])), (rn, .inl (c 0, 1000, .inl (fun j => zI (((va_up nr ct x) j : Nat) : Int)))), (rc, .inr (3, [.ref rcw])), (rcw, .inl (c 2, 4 * 1001, .inr (.inl rv))), (mo, .inr (1, [.ref me, .ref ms, .int (zB dt)])), (me, .inl (c 0, ne, .inl (fun j => zI ((en j : Nat) : Int)))), (ms, .inr (3, [.ref msw])), (msw, .inl (c 2, 4 * (ne + 1), .inr (.inl mf)))] := hD
  refine lv_aload_n hx hb d_Re_take_38 rfl (lv_at hl 0 rfl) ?_
  refine va_get (D := D) (ci := 2) (v := .ref mo) (C := R_Re) (T := T_Re) (N := 4) hx hb hts (fun w h => List.mem_cons_of_mem _ (inA_Re w h)) hown hK hP 0 rfl rfl 2 (by decide) (hw k_Re_f24) (fun _ h9 => h9) rfl d_Re_take_39 ?_
  refine lv_aload_n hx hb d_Re_take_42 rfl (lv_at hl 0 rfl) ?_
  refine va_get (D := D) (ci := 2) (v := .ref rc) (C := R_Re) (T := T_Re) (N := 4) hx hb hts (fun w h => List.mem_cons_of_mem _ (inA_Re w h)) hown hK hP 0 rfl rfl 1 (by decide) (hw k_Re_f20) (fun _ h9 => h9) rfl d_Re_take_43 ?_
  refine lv_aload_n hx hb d_Re_take_46 rfl (lv_at hl 0 rfl) ?_
  refine va_get (D := D) (ci := 2) (v := .int (zI ((ct : Nat) : Int))) (C := R_Re) (T := T_Re) (N := 4) hx hb hts (fun w h => List.mem_cons_of_mem _ (inA_Re w h)) hown hK hP 0 rfl rfl 3 (by decide) (hw k_Re_f28) (fun _ h9 => h9) rfl d_Re_take_47 ?_
  refine lv_iload_n hx hb d_Re_take_50 rfl (lv_at hl 1 rfl) ?_
  have hPc : va_P D vwCl [(mo, .inr (1, [.ref me, .ref ms, .int (zB dt)])), (me, .inl (c 0, ne, .inl (fun j => zI ((en j : Nat) : Int)))), (ms, .inr (3, [.ref msw])), (msw, .inl (c 2, 4 * (ne + 1), .inr (.inl mf))), (rc, .inr (3, [.ref rcw])), (rcw, .inl (c 2, 4 * 1001, .inr (.inl rv)))] H := hP.sub (ws' := [(mo, .inr (1, [.ref me, .ref ms, .int (zB dt)])), (me, .inl (c 0, ne, .inl (fun j => zI ((en j : Nat) : Int)))), (ms, .inr (3, [.ref msw])), (msw, .inl (c 2, 4 * (ne + 1), .inr (.inl mf))), (rc, .inr (3, [.ref rcw])), (rcw, .inl (c 2, 4 * 1001, .inr (.inl rv)))]) [4, 5, 6, 7, 2, 3] rfl
  have hDc : va_D A [(mo, .inr (1, [.ref me, .ref ms, .int (zB dt)])), (me, .inl (c 0, ne, .inl (fun j => zI ((en j : Nat) : Int)))), (ms, .inr (3, [.ref msw])), (msw, .inl (c 2, 4 * (ne + 1), .inr (.inl mf))), (rc, .inr (3, [.ref rcw])), (rcw, .inl (c 2, 4 * 1001, .inr (.inl rv)))] := hD.sub (ws' := [(mo, .inr (1, [.ref me, .ref ms, .int (zB dt)])), (me, .inl (c 0, ne, .inl (fun j => zI ((en j : Nat) : Int)))), (ms, .inr (3, [.ref msw])), (msw, .inl (c 2, 4 * (ne + 1), .inr (.inl mf))), (rc, .inr (3, [.ref rcw])), (rcw, .inl (c 2, 4 * 1001, .inr (.inl rv)))]) [4, 5, 6, 7, 2, 3] (by decide) rfl
  have hDt : va_D (fun _ => True) [(mo, .inr (1, [.ref me, .ref ms, .int (zB dt)])), (me, .inl (c 0, ne, .inl (fun j => zI ((en j : Nat) : Int)))), (ms, .inr (3, [.ref msw])), (msw, .inl (c 2, 4 * (ne + 1), .inr (.inl mf))), (rc, .inr (3, [.ref rcw])), (rcw, .inl (c 2, 4 * 1001, .inr (.inl rv)))] := hDc.weaken (fun _ _ _ _ => trivial)
  refine z_callv (S := Unit) (w1 := fun u => [(mo, .inr (1, [.ref me, .ref ms, .int (zB dt)])), (me, .inl (c 0, ne, .inl (fun j => zI ((en j : Nat) : Int)))), (ms, .inr (3, [.ref msw])), (msw, .inl (c 2, 4 * (ne + 1), .inr (.inl mf))), (rc, .inr (3, [.ref rcw])), (rcw, .inl (c 2, 4 * 1001, .inr (.inl (pbk rv en mf ct x ne))))]) (post := fun u => True) (wc := [(mo, .inr (1, [.ref me, .ref ms, .int (zB dt)])), (me, .inl (c 0, ne, .inl (fun j => zI ((en j : Nat) : Int)))), (ms, .inr (3, [.ref msw])), (msw, .inl (c 2, 4 * (ne + 1), .inr (.inl mf))), (rc, .inr (3, [.ref rcw])), (rcw, .inl (c 2, 4 * 1001, .inr (.inl rv)))]) [4, 5, 6, 7, 2, 3] rfl (fun _ => rfl) hP hD hS (va_runV (rm := rm_putBehind) (As := [.ref rc, .int (zI ((ct : Nat) : Int)), .int (zI ((x : Nat) : Int))]) (rest := []) ⟨hx, hb, hml, hown, hts⟩ (c_putBehind l D c rc rcw rv mo me ms msw en ne mf dt ct x (by omega) hen (by omega) (by omega) hoc) (cwV 3 hts (gWV k_Re_m38 k_i_Mo_putBehind k_v_Mo_putBehind k_n_Mo k_c_Mo_putBehind) rfl rfl rfl (by decide +kernel) ⟨Nat.le_of_ble_eq_true rfl, Nat.le_of_ble_eq_true rfl⟩) ⟨zblindW, va_recv hK hPc (ci := 1) (q0 := 0) rfl rfl, fun U hU hW => ⟨rfl, ⟨by rw [hU]; exact hPc, hDt⟩, hKN.moved hW⟩⟩ rfl rfl hl.1 rfl (lv_room (Nat.le_of_ble_eq_true rfl)) d_Re_take_51 ⟨Nat.zero_le _, Nat.zero_le _⟩) (fun u H locs hp_1 hP hD hS => ?_)
  have hP : va_P D vwCl [(rd, .inr (2, [.ref rn, .ref rc, .ref mo, .int (zI ((ct : Nat) : Int))])), (rn, .inl (c 0, 1000, .inl (fun j => zI (((va_up nr ct x) j : Nat) : Int)))), (rc, .inr (3, [.ref rcw])), (rcw, .inl (c 2, 4 * 1001, .inr (.inl (pbk rv en mf ct x ne)))), (mo, .inr (1, [.ref me, .ref ms, .int (zB dt)])), (me, .inl (c 0, ne, .inl (fun j => zI ((en j : Nat) : Int)))), (ms, .inr (3, [.ref msw])), (msw, .inl (c 2, 4 * (ne + 1), .inr (.inl mf)))] H := hP
  have hD : va_D A [(rd, .inr (2, [.ref rn, .ref rc, .ref mo, .int (zI ((ct : Nat) : Int))])), (rn, .inl (c 0, 1000, .inl (fun j => zI (((va_up nr ct x) j : Nat) : Int)))), (rc, .inr (3, [.ref rcw])), (rcw, .inl (c 2, 4 * 1001, .inr (.inl (pbk rv en mf ct x ne)))), (mo, .inr (1, [.ref me, .ref ms, .int (zB dt)])), (me, .inl (c 0, ne, .inl (fun j => zI ((en j : Nat) : Int)))), (ms, .inr (3, [.ref msw])), (msw, .inl (c 2, 4 * (ne + 1), .inr (.inl mf)))] := hD
  refine lv_aload_n hx hb d_Re_take_54 rfl (lv_at hl 0 rfl) ?_
  refine lv_dup hx hb d_Re_take_55 rfl ?_
  refine va_get (D := D) (ci := 2) (v := .int (zI ((ct : Nat) : Int))) (C := R_Re) (T := T_Re) (N := 4) hx hb hts (fun w h => List.mem_cons_of_mem _ (inA_Re w h)) hown hK hP 0 rfl rfl 3 (by decide) (hw k_Re_f28) (fun _ h9 => h9) rfl d_Re_take_56 ?_
  refine lv_iconst (v := zI 1) hx hb d_Re_take_59 (by decide) ?_
  refine z_iadd hx hb d_Re_take_60 ?_
  refine z_top (v2 := .int (zI ((ct + 1 : Nat) : Int))) (congrArg Value.int (congrArg zI (by omega))) ?_
  refine va_put (D := D) (ci := 2) (v := .int (zI ((ct + 1 : Nat) : Int))) (ty := .int) (C := R_Re) (T := T_Re) (N := 4) hx hb hts (fun w h => List.mem_cons_of_mem _ (inA_Re w h)) ty_Re tyok_Re nm_Re hown hK hP hD hS 0 rfl rfl 3 (by decide) (hw k_Re_f28) (fun _ h9 => h9) rfl (by decide +kernel) rfl rfl (Nat.le_of_ble_eq_true rfl) d_Re_take_61 (fun H locs hP hD hS => ?_)
  have hP : va_P D vwCl [(rd, .inr (2, [.ref rn, .ref rc, .ref mo, .int (zI ((ct + 1 : Nat) : Int))])), (rn, .inl (c 0, 1000, .inl (fun j => zI (((va_up nr ct x) j : Nat) : Int)))), (rc, .inr (3, [.ref rcw])), (rcw, .inl (c 2, 4 * 1001, .inr (.inl (pbk rv en mf ct x ne)))), (mo, .inr (1, [.ref me, .ref ms, .int (zB dt)])), (me, .inl (c 0, ne, .inl (fun j => zI ((en j : Nat) : Int)))), (ms, .inr (3, [.ref msw])), (msw, .inl (c 2, 4 * (ne + 1), .inr (.inl mf)))] H := hP
  have hD : va_D A [(rd, .inr (2, [.ref rn, .ref rc, .ref mo, .int (zI ((ct + 1 : Nat) : Int))])), (rn, .inl (c 0, 1000, .inl (fun j => zI (((va_up nr ct x) j : Nat) : Int)))), (rc, .inr (3, [.ref rcw])), (rcw, .inl (c 2, 4 * 1001, .inr (.inl (pbk rv en mf ct x ne)))), (mo, .inr (1, [.ref me, .ref ms, .int (zB dt)])), (me, .inl (c 0, ne, .inl (fun j => zI ((en j : Nat) : Int)))), (ms, .inr (3, [.ref msw])), (msw, .inl (c 2, 4 * (ne + 1), .inr (.inl mf)))] := hD
  refine lv_iconst (v := zI 1) hx hb d_Re_take_64 (by decide) ?_
  subst hQ
  exact W.zret (ty := .boolean) (v := (zI 1)) hx hb hr (by decide) (fun t9 ht hW => ⟨⟨_, (), rfl, ⟨(by decide), trivial⟩, by show va_P _ _ _ t9.heap; rw [ht]; exact hP⟩, hS.F ht⟩) hS.2.2 d_Re_take_65

def rm_mayEnd_null : Room := { frames := 0, cells := 0, slots := 0, locals := 0 }
set_option maxHeartbeats 4000000 in
set_option maxRecDepth 100000 in
/-- Reading.mayEnd, nothing begun -/
theorem c_mayEnd_null (l : Launch) (D : va_G) (c : Nat → ClassId) (rd : Nat) (rn : Nat) (rc : Nat) (rcw : Nat) (nr : Nat → Nat) (rv : Nat → Int64) (ct : Nat)  : Met l y_Re_mayEnd w_Re_mayEnd rm_mayEnd_null (va_Pc [.ref rd] (fun U => va_P D vwCl [(rd, .inr (2, [.ref rn, .ref rc, .null, .int (zI ((ct : Nat) : Int))]))] U.heap ∧ zK D c U)) (vp_Si (fun r => r = (zB false))) 0 0 (fun _ => False) := by
  refine Met.ofW (cc := b_Re_mayEnd) (maxL := 1) (ret := (some .boolean)) (by decide) rfl ?_
  intro p e s m args below meth c0 s₁ B hml hv
  obtain ⟨rfl, hP, hKN⟩ := hv
  have hK := hKN.1
  have hN := hKN.2
  have hx := B.exec
  have hb := B.bytes
  have hr := B.returns
  have hts := atoms_spec (ws := w_Re_mayEnd) B.pre
  have hw : ∀ {w : Cond}, w ∈ ALLW → w.before _ s = true := fun h => hts _ (List.mem_cons_of_mem _ h)
  have hown : s.vm.findClass R_Re = some m.cls := findClass_of_methodNamed B.named
  have hlocks := B.notSynchronized
  have hl := lv_entry ([.ref rd]) (n := 1) (Nat.le_of_ble_eq_true rfl)
  rw [lg_entry_eq]
  generalize (lg_sl ([.ref rd]) ++ List.replicate (1 - (lg_sl ([.ref rd])).length) Slot.unset).toArray = ls at hl ⊢
  have hl : lv_has ls 1 [(0, .ref rd)] := hl
  generalize hQ : MQ below _ _ _ _ _ _ = Q
  refine lv_aload_n hx hb d_Re_mayEnd_0 rfl (lv_at hl 0 rfl) ?_
  refine va_get (D := D) (ci := 2) (v := .null) (C := R_Re) (T := T_Re) (N := 4) hx hb hts (fun w h => List.mem_cons_of_mem _ (inA_Re w h)) hown hK hP 0 rfl rfl 2 (by decide) (hw k_Re_f24) (fun _ h9 => h9) rfl d_Re_mayEnd_1 ?_
  refine lv_ifnullN (tgt := 28) hx hb d_Re_mayEnd_4 (by decide) ?_
  refine lv_iconst (v := zI 0) hx hb d_Re_mayEnd_28 (by decide) ?_
  subst hQ
  exact W.zret (ty := .boolean) (v := (zI 0)) hx hb hr (by decide) (fun t9 ht hW => ⟨_, rfl, (by decide), ht⟩) (fun q hq => absurd hq List.not_mem_nil) d_Re_mayEnd_29

def rm_mayEnd : Room := { frames := 3, cells := 0, slots := 0, locals := 65 }
set_option maxHeartbeats 4000000 in
set_option maxRecDepth 100000 in
/-- Reading.mayEnd -/
theorem c_mayEnd (l : Launch) (D : va_G) (c : Nat → ClassId) (rd : Nat) (rn : Nat) (rc : Nat) (rcw : Nat) (nr : Nat → Nat) (rv : Nat → Int64) (ct : Nat) (mo : Nat) (hct : ct < 1001) : Met l y_Re_mayEnd w_Re_mayEnd rm_mayEnd (va_Pc [.ref rd] (fun U => va_P D vwCl [(rd, .inr (2, [.ref rn, .ref rc, .ref mo, .int (zI ((ct : Nat) : Int))])), (rc, .inr (3, [.ref rcw])), (rcw, .inl (c 2, 4 * 1001, .inr (.inl rv)))] U.heap ∧ zK D c U)) (vp_Si (fun r => r = (zB (zbt rv ct 255)))) 0 0 (fun _ => False) := by
  refine Met.ofW (cc := b_Re_mayEnd) (maxL := 1) (ret := (some .boolean)) (by decide) rfl ?_
  intro p e s m args below meth c0 s₁ B hml hv
  obtain ⟨rfl, hP, hKN⟩ := hv
  have hK := hKN.1
  have hN := hKN.2
  have hx := B.exec
  have hb := B.bytes
  have hr := B.returns
  have hts := atoms_spec (ws := w_Re_mayEnd) B.pre
  have hw : ∀ {w : Cond}, w ∈ ALLW → w.before _ s = true := fun h => hts _ (List.mem_cons_of_mem _ h)
  have hown : s.vm.findClass R_Re = some m.cls := findClass_of_methodNamed B.named
  have hlocks := B.notSynchronized
  have hl := lv_entry ([.ref rd]) (n := 1) (Nat.le_of_ble_eq_true rfl)
  rw [lg_entry_eq]
  generalize (lg_sl ([.ref rd]) ++ List.replicate (1 - (lg_sl ([.ref rd])).length) Slot.unset).toArray = ls at hl ⊢
  have hl : lv_has ls 1 [(0, .ref rd)] := hl
  generalize hQ : MQ below _ _ _ _ _ _ = Q
  refine lv_aload_n hx hb d_Re_mayEnd_0 rfl (lv_at hl 0 rfl) ?_
  refine va_get (D := D) (ci := 2) (v := .ref mo) (C := R_Re) (T := T_Re) (N := 4) hx hb hts (fun w h => List.mem_cons_of_mem _ (inA_Re w h)) hown hK hP 0 rfl rfl 2 (by decide) (hw k_Re_f24) (fun _ h9 => h9) rfl d_Re_mayEnd_1 ?_
  refine lv_ifnull hx hb d_Re_mayEnd_4 ?_
  refine lv_aload_n hx hb d_Re_mayEnd_7 rfl (lv_at hl 0 rfl) ?_
  refine va_get (D := D) (ci := 2) (v := .ref rc) (C := R_Re) (T := T_Re) (N := 4) hx hb hts (fun w h => List.mem_cons_of_mem _ (inA_Re w h)) hown hK hP 0 rfl rfl 1 (by decide) (hw k_Re_f20) (fun _ h9 => h9) rfl d_Re_mayEnd_8 ?_
  refine lv_aload_n hx hb d_Re_mayEnd_11 rfl (lv_at hl 0 rfl) ?_
  refine va_get (D := D) (ci := 2) (v := .int (zI ((ct : Nat) : Int))) (C := R_Re) (T := T_Re) (N := 4) hx hb hts (fun w h => List.mem_cons_of_mem _ (inA_Re w h)) hown hK hP 0 rfl rfl 3 (by decide) (hw k_Re_f28) (fun _ h9 => h9) rfl d_Re_mayEnd_12 ?_
  refine lv_sipush (v := zI 255) hx hb d_Re_mayEnd_15 (by decide) ?_
  have hPc : va_P D vwCl [(rc, .inr (3, [.ref rcw])), (rcw, .inl (c 2, 4 * 1001, .inr (.inl rv)))] s.heap := hP.sub (ws' := [(rc, .inr (3, [.ref rcw])), (rcw, .inl (c 2, 4 * 1001, .inr (.inl rv)))]) [1, 2] rfl
  refine vp_callSi (va_runV (rm := rm_holds) (As := [.int (zI ((ct : Nat) : Int)), .int (zI 255)]) (rest := []) ⟨hx, hb, hml, hown, hts⟩ (c_holds l D c rc rcw 1001 rv ct 255 (by omega) (by omega) (by omega)) (cwV 2 hts (gWV k_Re_m42 k_i_Se_holds k_v_Se_holds k_n_Se k_c_Se_holds) rfl rfl rfl (by decide +kernel) ⟨Nat.le_of_ble_eq_true rfl, Nat.le_of_ble_eq_true rfl⟩) ⟨zblind, va_recv hK hPc (ci := 3) (q0 := 0) rfl rfl, fun U hU hW => ⟨rfl, by rw [hU]; exact hPc, hKN.moved hW⟩⟩ rfl rfl hl.1 rfl (lv_room (Nat.le_of_ble_eq_true rfl)) d_Re_mayEnd_18 ⟨Nat.zero_le _, Nat.zero_le _⟩).run (fun r hr_1 => ?_)
  subst hr_1
  refine z_ifeq_B (tgt := 28) hx hb d_Re_mayEnd_21 (by decide) (fun hc_21 => ?_) (fun hc_21 => ?_)
  · refine lv_iconst (v := zI 0) hx hb d_Re_mayEnd_28 (by decide) ?_
    subst hQ
    exact W.zret (ty := .boolean) (v := (zI 0)) hx hb hr (by decide) (fun t9 ht hW => ⟨_, rfl, (by rw [hc_21]; decide), ht⟩) (fun q hq => absurd hq List.not_mem_nil) d_Re_mayEnd_29
  · refine lv_iconst (v := zI 1) hx hb d_Re_mayEnd_24 (by decide) ?_
    refine lv_goto (tgt := 29) hx hb d_Re_mayEnd_25 (by decide) ?_
    subst hQ
    exact W.zret (ty := .boolean) (v := (zI 1)) hx hb hr (by decide) (fun t9 ht hW => ⟨_, rfl, (by rw [hc_21]; decide), ht⟩) (fun q hq => absurd hq List.not_mem_nil) d_Re_mayEnd_29

def rm_mayTake_null : Room := { frames := 0, cells := 0, slots := 0, locals := 0 }
set_option maxHeartbeats 4000000 in
set_option maxRecDepth 100000 in
/-- Reading.mayTake, nothing begun -/
theorem c_mayTake_null (l : Launch) (D : va_G) (c : Nat → ClassId) (rd : Nat) (rn : Nat) (rc : Nat) (rcw : Nat) (nr : Nat → Nat) (rv : Nat → Int64) (ct : Nat) (x : Int)  : Met l y_Re_mayTake w_Re_mayTake rm_mayTake_null (va_Pc [.ref rd, .int (zI x)] (fun U => va_P D vwCl [(rd, .inr (2, [.ref rn, .ref rc, .null, .int (zI ((ct : Nat) : Int))]))] U.heap ∧ zK D c U)) (vp_Si (fun r => r = (zB false))) 0 0 (fun _ => False) := by
  refine Met.ofW (cc := b_Re_mayTake) (maxL := 2) (ret := (some .boolean)) (by decide) rfl ?_
  intro p e s m args below meth c0 s₁ B hml hv
  obtain ⟨rfl, hP, hKN⟩ := hv
  have hK := hKN.1
  have hN := hKN.2
  have hx := B.exec
  have hb := B.bytes
  have hr := B.returns
  have hts := atoms_spec (ws := w_Re_mayTake) B.pre
  have hw : ∀ {w : Cond}, w ∈ ALLW → w.before _ s = true := fun h => hts _ (List.mem_cons_of_mem _ h)
  have hown : s.vm.findClass R_Re = some m.cls := findClass_of_methodNamed B.named
  have hlocks := B.notSynchronized
  have hl := lv_entry ([.ref rd, .int (zI x)]) (n := 2) (Nat.le_of_ble_eq_true rfl)
  rw [lg_entry_eq]
  generalize (lg_sl ([.ref rd, .int (zI x)]) ++ List.replicate (2 - (lg_sl ([.ref rd, .int (zI x)])).length) Slot.unset).toArray = ls at hl ⊢
  have hl : lv_has ls 2 [(0, .ref rd), (1, .int (zI x))] := hl
  generalize hQ : MQ below _ _ _ _ _ _ = Q
  refine lv_aload_n hx hb d_Re_mayTake_0 rfl (lv_at hl 0 rfl) ?_
  refine va_get (D := D) (ci := 2) (v := .null) (C := R_Re) (T := T_Re) (N := 4) hx hb hts (fun w h => List.mem_cons_of_mem _ (inA_Re w h)) hown hK hP 0 rfl rfl 2 (by decide) (hw k_Re_f24) (fun _ h9 => h9) rfl d_Re_mayTake_1 ?_
  refine lv_ifnullN (tgt := 30) hx hb d_Re_mayTake_4 (by decide) ?_
  refine lv_iconst (v := zI 0) hx hb d_Re_mayTake_30 (by decide) ?_
  subst hQ
  exact W.zret (ty := .boolean) (v := (zI 0)) hx hb hr (by decide) (fun t9 ht hW => ⟨_, rfl, (by decide), ht⟩) (fun q hq => absurd hq List.not_mem_nil) d_Re_mayTake_31

def rm_mayTake : Room := { frames := 4, cells := 0, slots := 0, locals := 89 }
set_option maxHeartbeats 4000000 in
set_option maxRecDepth 100000 in
/-- Reading.mayTake -/
theorem c_mayTake (l : Launch) (D : va_G) (c : Nat → ClassId) (rd : Nat) (rn : Nat) (rc : Nat) (rcw : Nat) (nr : Nat → Nat) (rv : Nat → Int64) (ct : Nat) (mo : Nat) (me : Nat) (ms : Nat) (msw : Nat) (en : Nat → Nat) (ne : Nat) (mf : Nat → Int64) (dt : Bool) (x : Int) (hne : ne ≤ 255) (hen : ∀ j, j < ne → en j < 300000) (hct : ct < 1001) (hx_ : -2147483648 ≤ x ∧ x < 2147483648) : Met l y_Re_mayTake w_Re_mayTake rm_mayTake (va_Pc [.ref rd, .int (zI x)] (fun U => va_P D vwCl [(rd, .inr (2, [.ref rn, .ref rc, .ref mo, .int (zI ((ct : Nat) : Int))])), (rc, .inr (3, [.ref rcw])), (rcw, .inl (c 2, 4 * 1001, .inr (.inl rv))), (mo, .inr (1, [.ref me, .ref ms, .int (zB dt)])), (me, .inl (c 0, ne, .inl (fun j => zI ((en j : Nat) : Int))))] U.heap ∧ zK D c U)) (vp_Si (fun r => r = (zB (hnm rv en ct x ne)))) 0 0 (fun _ => False) := by
  refine Met.ofW (cc := b_Re_mayTake) (maxL := 2) (ret := (some .boolean)) (by decide) rfl ?_
  intro p e s m args below meth c0 s₁ B hml hv
  obtain ⟨rfl, hP, hKN⟩ := hv
  have hK := hKN.1
  have hN := hKN.2
  have hx := B.exec
  have hb := B.bytes
  have hr := B.returns
  have hts := atoms_spec (ws := w_Re_mayTake) B.pre
  have hw : ∀ {w : Cond}, w ∈ ALLW → w.before _ s = true := fun h => hts _ (List.mem_cons_of_mem _ h)
  have hown : s.vm.findClass R_Re = some m.cls := findClass_of_methodNamed B.named
  have hlocks := B.notSynchronized
  have hl := lv_entry ([.ref rd, .int (zI x)]) (n := 2) (Nat.le_of_ble_eq_true rfl)
  rw [lg_entry_eq]
  generalize (lg_sl ([.ref rd, .int (zI x)]) ++ List.replicate (2 - (lg_sl ([.ref rd, .int (zI x)])).length) Slot.unset).toArray = ls at hl ⊢
  have hl : lv_has ls 2 [(0, .ref rd), (1, .int (zI x))] := hl
  generalize hQ : MQ below _ _ _ _ _ _ = Q
  refine lv_aload_n hx hb d_Re_mayTake_0 rfl (lv_at hl 0 rfl) ?_
  refine va_get (D := D) (ci := 2) (v := .ref mo) (C := R_Re) (T := T_Re) (N := 4) hx hb hts (fun w h => List.mem_cons_of_mem _ (inA_Re w h)) hown hK hP 0 rfl rfl 2 (by decide) (hw k_Re_f24) (fun _ h9 => h9) rfl d_Re_mayTake_1 ?_
  refine lv_ifnull hx hb d_Re_mayTake_4 ?_
  refine lv_aload_n hx hb d_Re_mayTake_7 rfl (lv_at hl 0 rfl) ?_
  refine va_get (D := D) (ci := 2) (v := .ref mo) (C := R_Re) (T := T_Re) (N := 4) hx hb hts (fun w h => List.mem_cons_of_mem _ (inA_Re w h)) hown hK hP 0 rfl rfl 2 (by decide) (hw k_Re_f24) (fun _ h9 => h9) rfl d_Re_mayTake_8 ?_
  refine lv_aload_n hx hb d_Re_mayTake_11 rfl (lv_at hl 0 rfl) ?_
  refine va_get (D := D) (ci := 2) (v := .ref rc) (C := R_Re) (T := T_Re) (N := 4) hx hb hts (fun w h => List.mem_cons_of_mem _ (inA_Re w h)) hown hK hP 0 rfl rfl 1 (by decide) (hw k_Re_f20) (fun _ h9 => h9) rfl d_Re_mayTake_12 ?_
  refine lv_aload_n hx hb d_Re_mayTake_15 rfl (lv_at hl 0 rfl) ?_
  refine va_get (D := D) (ci := 2) (v := .int (zI ((ct : Nat) : Int))) (C := R_Re) (T := T_Re) (N := 4) hx hb hts (fun w h => List.mem_cons_of_mem _ (inA_Re w h)) hown hK hP 0 rfl rfl 3 (by decide) (hw k_Re_f28) (fun _ h9 => h9) rfl d_Re_mayTake_16 ?_
  refine lv_iload_n hx hb d_Re_mayTake_19 rfl (lv_at hl 1 rfl) ?_
  have hPc : va_P D vwCl [(mo, .inr (1, [.ref me, .ref ms, .int (zB dt)])), (me, .inl (c 0, ne, .inl (fun j => zI ((en j : Nat) : Int)))), (rc, .inr (3, [.ref rcw])), (rcw, .inl (c 2, 4 * 1001, .inr (.inl rv)))] s.heap := hP.sub (ws' := [(mo, .inr (1, [.ref me, .ref ms, .int (zB dt)])), (me, .inl (c 0, ne, .inl (fun j => zI ((en j : Nat) : Int)))), (rc, .inr (3, [.ref rcw])), (rcw, .inl (c 2, 4 * 1001, .inr (.inl rv)))]) [3, 4, 1, 2] rfl
  refine vp_callSi (va_runV (rm := rm_hasName) (As := [.ref rc, .int (zI ((ct : Nat) : Int)), .int (zI x)]) (rest := []) ⟨hx, hb, hml, hown, hts⟩ (c_hasName l D c rc rcw rv mo me ms msw en ne mf dt ct x (by omega) hen (by omega) (by omega)) (cwV 3 hts (gWV k_Re_m46 k_i_Mo_hasName k_v_Mo_hasName k_n_Mo k_c_Mo_hasName) rfl rfl rfl (by decide +kernel) ⟨Nat.le_of_ble_eq_true rfl, Nat.le_of_ble_eq_true rfl⟩) ⟨zblind, va_recv hK hPc (ci := 1) (q0 := 0) rfl rfl, fun U hU hW => ⟨rfl, by rw [hU]; exact hPc, hKN.moved hW⟩⟩ rfl rfl hl.1 rfl (lv_room (Nat.le_of_ble_eq_true rfl)) d_Re_mayTake_20 ⟨Nat.zero_le _, Nat.zero_le _⟩).run (fun r hr_1 => ?_)
  subst hr_1
  refine z_ifeq_B (tgt := 30) hx hb d_Re_mayTake_23 (by decide) (fun hc_23 => ?_) (fun hc_23 => ?_)
  · refine lv_iconst (v := zI 0) hx hb d_Re_mayTake_30 (by decide) ?_
    subst hQ
    exact W.zret (ty := .boolean) (v := (zI 0)) hx hb hr (by decide) (fun t9 ht hW => ⟨_, rfl, (by rw [hc_23]; decide), ht⟩) (fun q hq => absurd hq List.not_mem_nil) d_Re_mayTake_31
  · refine lv_iconst (v := zI 1) hx hb d_Re_mayTake_26 (by decide) ?_
    refine lv_goto (tgt := 31) hx hb d_Re_mayTake_27 (by decide) ?_
    subst hQ
    exact W.zret (ty := .boolean) (v := (zI 1)) hx hb hr (by decide) (fun t9 ht hW => ⟨_, rfl, (by rw [hc_23]; decide), ht⟩) (fun q hq => absurd hq List.not_mem_nil) d_Re_mayTake_31

def rm_offer_null : Room := { frames := 0, cells := 0, slots := 0, locals := 0 }
set_option maxHeartbeats 4000000 in
set_option maxRecDepth 100000 in
/-- Reading.offer, nothing begun -/
theorem c_offer_null (l : Launch) (D : va_G) (c : Nat → ClassId) (rd : Nat) (rn : Nat) (rc : Nat) (rcw : Nat) (nr : Nat → Nat) (rv : Nat → Int64) (ct : Nat) (x : Int)  : Met l y_Re_offer w_Re_offer rm_offer_null (va_Pc [.ref rd, .int (zI x)] (fun U => va_P D vwCl [(rd, .inr (2, [.ref rn, .ref rc, .null, .int (zI ((ct : Nat) : Int))]))] U.heap ∧ zK D c U)) (vp_Si (fun r => r = (zI (-1)))) 0 0 (fun _ => False) := by
  refine Met.ofW (cc := b_Re_offer) (maxL := 2) (ret := (some .int)) (by decide) rfl ?_
  intro p e s m args below meth c0 s₁ B hml hv
  obtain ⟨rfl, hP, hKN⟩ := hv
  have hK := hKN.1
  have hN := hKN.2
  have hx := B.exec
  have hb := B.bytes
  have hr := B.returns
  have hts := atoms_spec (ws := w_Re_offer) B.pre
  have hw : ∀ {w : Cond}, w ∈ ALLW → w.before _ s = true := fun h => hts _ (List.mem_cons_of_mem _ h)
  have hown : s.vm.findClass R_Re = some m.cls := findClass_of_methodNamed B.named
  have hlocks := B.notSynchronized
  have hl := lv_entry ([.ref rd, .int (zI x)]) (n := 2) (Nat.le_of_ble_eq_true rfl)
  rw [lg_entry_eq]
  generalize (lg_sl ([.ref rd, .int (zI x)]) ++ List.replicate (2 - (lg_sl ([.ref rd, .int (zI x)])).length) Slot.unset).toArray = ls at hl ⊢
  have hl : lv_has ls 2 [(0, .ref rd), (1, .int (zI x))] := hl
  generalize hQ : MQ below _ _ _ _ _ _ = Q
  refine lv_aload_n hx hb d_Re_offer_0 rfl (lv_at hl 0 rfl) ?_
  refine va_get (D := D) (ci := 2) (v := .null) (C := R_Re) (T := T_Re) (N := 4) hx hb hts (fun w h => List.mem_cons_of_mem _ (inA_Re w h)) hown hK hP 0 rfl rfl 2 (by decide) (hw k_Re_f24) (fun _ h9 => h9) rfl d_Re_offer_1 ?_
  refine lv_ifnonnullN hx hb d_Re_offer_4 ?_
  refine lv_iconst (v := zI (-1)) hx hb d_Re_offer_7 (by decide) ?_
  refine lv_goto (tgt := 27) hx hb d_Re_offer_8 (by decide) ?_
  subst hQ
  exact W.iret (v := (zI (-1))) hx hb hr (fun t9 ht hW => ⟨_, rfl, rfl, ht⟩) (fun q hq => absurd hq List.not_mem_nil) d_Re_offer_27

def rm_offer : Room := { frames := 4, cells := 0, slots := 0, locals := 92 }
set_option maxHeartbeats 4000000 in
set_option maxRecDepth 100000 in
/-- Reading.offer -/
theorem c_offer (l : Launch) (D : va_G) (c : Nat → ClassId) (rd : Nat) (rn : Nat) (rc : Nat) (rcw : Nat) (nr : Nat → Nat) (rv : Nat → Int64) (ct : Nat) (mo : Nat) (me : Nat) (ms : Nat) (msw : Nat) (en : Nat → Nat) (ne : Nat) (mf : Nat → Int64) (dt : Bool) (x : Int) (hne : ne ≤ 255) (hen : ∀ j, j < ne → en j < 300000) (hct : ct < 1001) (hx_ : -2147483648 ≤ x ∧ x < 2147483648) : Met l y_Re_offer w_Re_offer rm_offer (va_Pc [.ref rd, .int (zI x)] (fun U => va_P D vwCl [(rd, .inr (2, [.ref rn, .ref rc, .ref mo, .int (zI ((ct : Nat) : Int))])), (rc, .inr (3, [.ref rcw])), (rcw, .inl (c 2, 4 * 1001, .inr (.inl rv))), (mo, .inr (1, [.ref me, .ref ms, .int (zB dt)])), (me, .inl (c 0, ne, .inl (fun j => zI ((en j : Nat) : Int))))] U.heap ∧ zK D c U)) (vp_Si (fun r => r = (zI (naR rv en ct x ne)))) 0 0 (fun _ => False) := by
  refine Met.ofW (cc := b_Re_offer) (maxL := 2) (ret := (some .int)) (by decide) rfl ?_
  intro p e s m args below meth c0 s₁ B hml hv
  obtain ⟨rfl, hP, hKN⟩ := hv
  have hK := hKN.1
  have hN := hKN.2
  have hx := B.exec
  have hb := B.bytes
  have hr := B.returns
  have hts := atoms_spec (ws := w_Re_offer) B.pre
  have hw : ∀ {w : Cond}, w ∈ ALLW → w.before _ s = true := fun h => hts _ (List.mem_cons_of_mem _ h)
  have hown : s.vm.findClass R_Re = some m.cls := findClass_of_methodNamed B.named
  have hlocks := B.notSynchronized
  have hl := lv_entry ([.ref rd, .int (zI x)]) (n := 2) (Nat.le_of_ble_eq_true rfl)
  rw [lg_entry_eq]
  generalize (lg_sl ([.ref rd, .int (zI x)]) ++ List.replicate (2 - (lg_sl ([.ref rd, .int (zI x)])).length) Slot.unset).toArray = ls at hl ⊢
  have hl : lv_has ls 2 [(0, .ref rd), (1, .int (zI x))] := hl
  generalize hQ : MQ below _ _ _ _ _ _ = Q
  refine lv_aload_n hx hb d_Re_offer_0 rfl (lv_at hl 0 rfl) ?_
  refine va_get (D := D) (ci := 2) (v := .ref mo) (C := R_Re) (T := T_Re) (N := 4) hx hb hts (fun w h => List.mem_cons_of_mem _ (inA_Re w h)) hown hK hP 0 rfl rfl 2 (by decide) (hw k_Re_f24) (fun _ h9 => h9) rfl d_Re_offer_1 ?_
  refine lv_ifnonnull (tgt := 11) hx hb d_Re_offer_4 (by decide) ?_
  refine lv_aload_n hx hb d_Re_offer_11 rfl (lv_at hl 0 rfl) ?_
  refine va_get (D := D) (ci := 2) (v := .ref mo) (C := R_Re) (T := T_Re) (N := 4) hx hb hts (fun w h => List.mem_cons_of_mem _ (inA_Re w h)) hown hK hP 0 rfl rfl 2 (by decide) (hw k_Re_f24) (fun _ h9 => h9) rfl d_Re_offer_12 ?_
  refine lv_aload_n hx hb d_Re_offer_15 rfl (lv_at hl 0 rfl) ?_
  refine va_get (D := D) (ci := 2) (v := .ref rc) (C := R_Re) (T := T_Re) (N := 4) hx hb hts (fun w h => List.mem_cons_of_mem _ (inA_Re w h)) hown hK hP 0 rfl rfl 1 (by decide) (hw k_Re_f20) (fun _ h9 => h9) rfl d_Re_offer_16 ?_
  refine lv_aload_n hx hb d_Re_offer_19 rfl (lv_at hl 0 rfl) ?_
  refine va_get (D := D) (ci := 2) (v := .int (zI ((ct : Nat) : Int))) (C := R_Re) (T := T_Re) (N := 4) hx hb hts (fun w h => List.mem_cons_of_mem _ (inA_Re w h)) hown hK hP 0 rfl rfl 3 (by decide) (hw k_Re_f28) (fun _ h9 => h9) rfl d_Re_offer_20 ?_
  refine lv_iload_n hx hb d_Re_offer_23 rfl (lv_at hl 1 rfl) ?_
  have hPc : va_P D vwCl [(mo, .inr (1, [.ref me, .ref ms, .int (zB dt)])), (me, .inl (c 0, ne, .inl (fun j => zI ((en j : Nat) : Int)))), (rc, .inr (3, [.ref rcw])), (rcw, .inl (c 2, 4 * 1001, .inr (.inl rv)))] s.heap := hP.sub (ws' := [(mo, .inr (1, [.ref me, .ref ms, .int (zB dt)])), (me, .inl (c 0, ne, .inl (fun j => zI ((en j : Nat) : Int)))), (rc, .inr (3, [.ref rcw])), (rcw, .inl (c 2, 4 * 1001, .inr (.inl rv)))]) [3, 4, 1, 2] rfl
  refine vp_callSi (va_runV (rm := rm_nameAt) (As := [.ref rc, .int (zI ((ct : Nat) : Int)), .int (zI x)]) (rest := []) ⟨hx, hb, hml, hown, hts⟩ (c_nameAt l D c rc rcw rv mo me ms msw en ne mf dt ct x (by omega) hen (by omega) (by omega)) (cwV 3 hts (gWV k_Re_m50 k_i_Mo_nameAt k_v_Mo_nameAt k_n_Mo k_c_Mo_nameAt) rfl rfl rfl (by decide +kernel) ⟨Nat.le_of_ble_eq_true rfl, Nat.le_of_ble_eq_true rfl⟩) ⟨zblind, va_recv hK hPc (ci := 1) (q0 := 0) rfl rfl, fun U hU hW => ⟨rfl, by rw [hU]; exact hPc, hKN.moved hW⟩⟩ rfl rfl hl.1 rfl (lv_room (Nat.le_of_ble_eq_true rfl)) d_Re_offer_24 ⟨Nat.zero_le _, Nat.zero_le _⟩).run (fun r hr_1 => ?_)
  subst hr_1
  subst hQ
  exact W.iret (v := (zI (naR rv en ct x ne))) hx hb hr (fun t9 ht hW => ⟨_, rfl, rfl, ht⟩) (fun q hq => absurd hq List.not_mem_nil) d_Re_offer_27

def rm_takeBack_null : Room := { frames := 0, cells := 0, slots := 0, locals := 0 }
set_option maxHeartbeats 4000000 in
set_option maxRecDepth 100000 in
/-- Reading.takeBack, nothing begun -/
theorem c_takeBack_null (l : Launch) (D : va_G) (c : Nat → ClassId) (rd : Nat) (rn : Nat) (rc : Nat) (rcw : Nat) (nr : Nat → Nat) (rv : Nat → Int64) (ct : Nat)  : Met l y_Re_takeBack w_Re_takeBack rm_takeBack_null (va_Pc [.ref rd] (fun U => va_P D vwCl [(rd, .inr (2, [.ref rn, .ref rc, .null, .int (zI ((ct : Nat) : Int))]))] U.heap ∧ zK D c U)) (vp_Si (fun r => r = (zI (-1)))) 0 0 (fun _ => False) := by
  refine Met.ofW (cc := b_Re_takeBack) (maxL := 2) (ret := (some .int)) (by decide) rfl ?_
  intro p e s m args below meth c0 s₁ B hml hv
  obtain ⟨rfl, hP, hKN⟩ := hv
  have hK := hKN.1
  have hN := hKN.2
  have hx := B.exec
  have hb := B.bytes
  have hr := B.returns
  have hts := atoms_spec (ws := w_Re_takeBack) B.pre
  have hw : ∀ {w : Cond}, w ∈ ALLW → w.before _ s = true := fun h => hts _ (List.mem_cons_of_mem _ h)
  have hown : s.vm.findClass R_Re = some m.cls := findClass_of_methodNamed B.named
  have hlocks := B.notSynchronized
  have hl := lv_entry ([.ref rd]) (n := 2) (Nat.le_of_ble_eq_true rfl)
  rw [lg_entry_eq]
  generalize (lg_sl ([.ref rd]) ++ List.replicate (2 - (lg_sl ([.ref rd])).length) Slot.unset).toArray = ls at hl ⊢
  have hl : lv_has ls 2 [(0, .ref rd)] := hl
  generalize hQ : MQ below _ _ _ _ _ _ = Q
  refine lv_aload_n hx hb d_Re_takeBack_0 rfl (lv_at hl 0 rfl) ?_
  refine va_get (D := D) (ci := 2) (v := .int (zI ((ct : Nat) : Int))) (C := R_Re) (T := T_Re) (N := 4) hx hb hts (fun w h => List.mem_cons_of_mem _ (inA_Re w h)) hown hK hP 0 rfl rfl 3 (by decide) (hw k_Re_f28) (fun _ h9 => h9) rfl d_Re_takeBack_1 ?_
  refine lv_iconst (v := zI 1) hx hb d_Re_takeBack_4 (by decide) ?_
  refine z_isub hx hb d_Re_takeBack_5 ?_
  refine lv_istore_n (lv' := [(1, .int (zI (((ct : Nat) : Int) - 1))), (0, .ref rd)]) hx hb d_Re_takeBack_6 rfl hl (by decide) rfl (fun ls hl => ?_)
  refine lv_aload_n hx hb d_Re_takeBack_7 rfl (lv_at hl 1 rfl) ?_
  refine va_get (D := D) (ci := 2) (v := .null) (C := R_Re) (T := T_Re) (N := 4) hx hb hts (fun w h => List.mem_cons_of_mem _ (inA_Re w h)) hown hK hP 0 rfl rfl 2 (by decide) (hw k_Re_f24) (fun _ h9 => h9) rfl d_Re_takeBack_8 ?_
  refine lv_ifnullN (tgt := 27) hx hb d_Re_takeBack_11 (by decide) ?_
  refine lv_iconst (v := zI (-1)) hx hb d_Re_takeBack_27 (by decide) ?_
  subst hQ
  exact W.iret (v := (zI (-1))) hx hb hr (fun t9 ht hW => ⟨_, rfl, rfl, ht⟩) (fun q hq => absurd hq List.not_mem_nil) d_Re_takeBack_28

def rm_takeBack_none : Room := { frames := 0, cells := 0, slots := 0, locals := 0 }
set_option maxHeartbeats 4000000 in
set_option maxRecDepth 100000 in
/-- Reading.takeBack, nothing read -/
theorem c_takeBack_none (l : Launch) (D : va_G) (c : Nat → ClassId) (rd : Nat) (rn : Nat) (rc : Nat) (rcw : Nat) (nr : Nat → Nat) (rv : Nat → Int64) (mo : Nat)  : Met l y_Re_takeBack w_Re_takeBack rm_takeBack_none (va_Pc [.ref rd] (fun U => va_P D vwCl [(rd, .inr (2, [.ref rn, .ref rc, .ref mo, .int (zI ((0 : Nat) : Int))]))] U.heap ∧ zK D c U)) (vp_Si (fun r => r = (zI (-1)))) 0 0 (fun _ => False) := by
  refine Met.ofW (cc := b_Re_takeBack) (maxL := 2) (ret := (some .int)) (by decide) rfl ?_
  intro p e s m args below meth c0 s₁ B hml hv
  obtain ⟨rfl, hP, hKN⟩ := hv
  have hK := hKN.1
  have hN := hKN.2
  have hx := B.exec
  have hb := B.bytes
  have hr := B.returns
  have hts := atoms_spec (ws := w_Re_takeBack) B.pre
  have hw : ∀ {w : Cond}, w ∈ ALLW → w.before _ s = true := fun h => hts _ (List.mem_cons_of_mem _ h)
  have hown : s.vm.findClass R_Re = some m.cls := findClass_of_methodNamed B.named
  have hlocks := B.notSynchronized
  have hl := lv_entry ([.ref rd]) (n := 2) (Nat.le_of_ble_eq_true rfl)
  rw [lg_entry_eq]
  generalize (lg_sl ([.ref rd]) ++ List.replicate (2 - (lg_sl ([.ref rd])).length) Slot.unset).toArray = ls at hl ⊢
  have hl : lv_has ls 2 [(0, .ref rd)] := hl
  generalize hQ : MQ below _ _ _ _ _ _ = Q
  refine lv_aload_n hx hb d_Re_takeBack_0 rfl (lv_at hl 0 rfl) ?_
  refine va_get (D := D) (ci := 2) (v := .int (zI ((0 : Nat) : Int))) (C := R_Re) (T := T_Re) (N := 4) hx hb hts (fun w h => List.mem_cons_of_mem _ (inA_Re w h)) hown hK hP 0 rfl rfl 3 (by decide) (hw k_Re_f28) (fun _ h9 => h9) rfl d_Re_takeBack_1 ?_
  refine lv_iconst (v := zI 1) hx hb d_Re_takeBack_4 (by decide) ?_
  refine z_isub hx hb d_Re_takeBack_5 ?_
  refine lv_istore_n (lv' := [(1, .int (zI (((0 : Nat) : Int) - 1))), (0, .ref rd)]) hx hb d_Re_takeBack_6 rfl hl (by decide) rfl (fun ls hl => ?_)
  refine lv_aload_n hx hb d_Re_takeBack_7 rfl (lv_at hl 1 rfl) ?_
  refine va_get (D := D) (ci := 2) (v := .ref mo) (C := R_Re) (T := T_Re) (N := 4) hx hb hts (fun w h => List.mem_cons_of_mem _ (inA_Re w h)) hown hK hP 0 rfl rfl 2 (by decide) (hw k_Re_f24) (fun _ h9 => h9) rfl d_Re_takeBack_8 ?_
  refine lv_ifnull hx hb d_Re_takeBack_11 ?_
  refine lv_iload_n hx hb d_Re_takeBack_14 rfl (lv_at hl 0 rfl) ?_
  refine z_if_lt (tgt := 27) hx hb (by omega) d_Re_takeBack_15 (by decide) (fun hc_15 => ?_) (fun hc_15 => absurd hc_15 (by omega))
  refine lv_iconst (v := zI (-1)) hx hb d_Re_takeBack_27 (by decide) ?_
  subst hQ
  exact W.iret (v := (zI (-1))) hx hb hr (fun t9 ht hW => ⟨_, rfl, rfl, ht⟩) (fun q hq => absurd hq List.not_mem_nil) d_Re_takeBack_28

def rm_takeBack : Room := { frames := 0, cells := 0, slots := 0, locals := 0 }
set_option maxHeartbeats 4000000 in
set_option maxRecDepth 100000 in
/-- Reading.takeBack -/
theorem c_takeBack (l : Launch) (D : va_G) (c : Nat → ClassId) (rd : Nat) (rn : Nat) (rc : Nat) (rcw : Nat) (nr : Nat → Nat) (rv : Nat → Int64) (ct : Nat) (mo : Nat) (hct : ct < 1000) : Met l y_Re_takeBack w_Re_takeBack rm_takeBack (va_Pc [.ref rd] (fun U => (va_P D vwCl [(rd, .inr (2, [.ref rn, .ref rc, .ref mo, .int (zI ((ct + 1 : Nat) : Int))])), (rn, .inl (c 0, 1000, .inl (fun j => zI ((nr j : Nat) : Int))))] U.heap ∧ va_D (fun _ => True) [(rd, .inr (2, [.ref rn, .ref rc, .ref mo, .int (zI ((ct + 1 : Nat) : Int))])), (rn, .inl (c 0, 1000, .inl (fun j => zI ((nr j : Nat) : Int))))]) ∧ zK D c U)) (va_Qi (fun (r : Int32) (u : Unit) => r = (zI ((nr ct : Nat) : Int)) ∧ True) (fun (u : Unit) t9 => va_P D vwCl [(rd, .inr (2, [.ref rn, .ref rc, .ref mo, .int (zI ((ct : Nat) : Int))])), (rn, .inl (c 0, 1000, .inl (fun j => zI ((nr j : Nat) : Int))))] t9.heap) (zA [(rd, .inr (2, [.ref rn, .ref rc, .ref mo, .int (zI ((ct + 1 : Nat) : Int))])), (rn, .inl (c 0, 1000, .inl (fun j => zI ((nr j : Nat) : Int))))])) 0 0 (zA [(rd, .inr (2, [.ref rn, .ref rc, .ref mo, .int (zI ((ct + 1 : Nat) : Int))])), (rn, .inl (c 0, 1000, .inl (fun j => zI ((nr j : Nat) : Int))))]) := by
  refine Met.ofW (cc := b_Re_takeBack) (maxL := 2) (ret := (some .int)) (by decide) rfl ?_
  intro p e s m args below meth c0 s₁ B hml hv
  obtain ⟨rfl, ⟨hP, hD0⟩, hKN⟩ := hv
  have hK := hKN.1
  have hN := hKN.2
  have hx := B.exec
  have hb := B.bytes
  have hr := B.returns
  have hts := atoms_spec (ws := w_Re_takeBack) B.pre
  have hw : ∀ {w : Cond}, w ∈ ALLW → w.before _ s = true := fun h => hts _ (List.mem_cons_of_mem _ h)
  have hown : s.vm.findClass R_Re = some m.cls := findClass_of_methodNamed B.named
  have hlocks := B.notSynchronized
  have hD : va_D (zA [(rd, .inr (2, [.ref rn, .ref rc, .ref mo, .int (zI ((ct + 1 : Nat) : Int))])), (rn, .inl (c 0, 1000, .inl (fun j => zI ((nr j : Nat) : Int))))]) [(rd, .inr (2, [.ref rn, .ref rc, .ref mo, .int (zI ((ct + 1 : Nat) : Int))])), (rn, .inl (c 0, 1000, .inl (fun j => zI ((nr j : Nat) : Int))))] := ⟨hD0.1, fun k q h => List.mem_map.mpr ⟨q, List.mem_of_getElem? h, rfl⟩⟩
  generalize hAe : zA [(rd, .inr (2, [.ref rn, .ref rc, .ref mo, .int (zI ((ct + 1 : Nat) : Int))])), (rn, .inl (c 0, 1000, .inl (fun j => zI ((nr j : Nat) : Int))))] = A at hD ⊢
  have hS : va_S A s.heap s.heap [] := va_S.rf
  have hP : va_P D vwCl [(rd, .inr (2, [.ref rn, .ref rc, .ref mo, .int (zI ((ct + 1 : Nat) : Int))])), (rn, .inl (c 0, 1000, .inl (fun j => zI ((nr j : Nat) : Int))))] s.heap := hP
  have hl := lv_entry ([.ref rd]) (n := 2) (Nat.le_of_ble_eq_true rfl)
  rw [lg_entry_eq]
  generalize (lg_sl ([.ref rd]) ++ List.replicate (2 - (lg_sl ([.ref rd])).length) Slot.unset).toArray = ls at hl ⊢
  have hl : lv_has ls 2 [(0, .ref rd)] := hl
  generalize hQ : MQ below _ _ _ _ _ _ = Q
  refine lv_aload_n hx hb d_Re_takeBack_0 rfl (lv_at hl 0 rfl) ?_
  refine va_get (D := D) (ci := 2) (v := .int (zI ((ct + 1 : Nat) : Int))) (C := R_Re) (T := T_Re) (N := 4) hx hb hts (fun w h => List.mem_cons_of_mem _ (inA_Re w h)) hown hK hP 0 rfl rfl 3 (by decide) (hw k_Re_f28) (fun _ h9 => h9) rfl d_Re_takeBack_1 ?_
  refine lv_iconst (v := zI 1) hx hb d_Re_takeBack_4 (by decide) ?_
  refine z_isub hx hb d_Re_takeBack_5 ?_
  refine z_top (v2 := .int (zI ((ct : Nat) : Int))) (congrArg Value.int (congrArg zI (by omega))) ?_
  refine lv_istore_n (lv' := [(1, .int (zI ((ct : Nat) : Int))), (0, .ref rd)]) hx hb d_Re_takeBack_6 rfl hl (by decide) rfl (fun ls hl => ?_)
  refine lv_aload_n hx hb d_Re_takeBack_7 rfl (lv_at hl 1 rfl) ?_
  refine va_get (D := D) (ci := 2) (v := .ref mo) (C := R_Re) (T := T_Re) (N := 4) hx hb hts (fun w h => List.mem_cons_of_mem _ (inA_Re w h)) hown hK hP 0 rfl rfl 2 (by decide) (hw k_Re_f24) (fun _ h9 => h9) rfl d_Re_takeBack_8 ?_
  refine lv_ifnull hx hb d_Re_takeBack_11 ?_
  refine lv_iload_n hx hb d_Re_takeBack_14 rfl (lv_at hl 0 rfl) ?_
  refine z_if_lt (tgt := 27) hx hb (by omega) d_Re_takeBack_15 (by decide) (fun hc_15 => absurd hc_15 (by omega)) (fun hc_15 => ?_)
  refine lv_iload_n hx hb d_Re_takeBack_18 rfl (lv_at hl 0 rfl) ?_
  refine lv_aload_n hx hb d_Re_takeBack_19 rfl (lv_at hl 1 rfl) ?_
  refine va_get (D := D) (ci := 2) (v := .ref rn) (C := R_Re) (T := T_Re) (N := 4) hx hb hts (fun w h => List.mem_cons_of_mem _ (inA_Re w h)) hown hK hP 0 rfl rfl 0 (by decide) (hw k_Re_f9) (fun _ h9 => h9) rfl d_Re_takeBack_20 ?_
  refine z_alen hx hb hK hP 1 0 rfl rfl d_Re_takeBack_23 ?_
  refine z_top (v2 := .int (zI (1000 : Int))) rfl ?_
  refine z_icmp_lt (tgt := 29) hx hb (by omega) d_Re_takeBack_24 (by decide) (fun hc_24 => ?_) (fun hc_24 => absurd hc_24 (by omega))
  refine lv_aload_n hx hb d_Re_takeBack_29 rfl (lv_at hl 1 rfl) ?_
  refine lv_iload_n hx hb d_Re_takeBack_30 rfl (lv_at hl 0 rfl) ?_
  refine va_put (D := D) (ci := 2) (v := .int (zI ((ct : Nat) : Int))) (ty := .int) (C := R_Re) (T := T_Re) (N := 4) hx hb hts (fun w h => List.mem_cons_of_mem _ (inA_Re w h)) ty_Re tyok_Re nm_Re hown hK hP hD hS 0 rfl rfl 3 (by decide) (hw k_Re_f28) (fun _ h9 => h9) rfl (by decide +kernel) rfl rfl (Nat.le_of_ble_eq_true rfl) d_Re_takeBack_31 (fun H locs hP hD hS => ?_)
  have hP : va_P D vwCl [(rd, .inr (2, [.ref rn, .ref rc, .ref mo, .int (zI ((ct : Nat) : Int))])), (rn, .inl (c 0, 1000, .inl (fun j => zI ((nr j : Nat) : Int))))] H := hP
  have hD : va_D A [(rd, .inr (2, [.ref rn, .ref rc, .ref mo, .int (zI ((ct : Nat) : Int))])), (rn, .inl (c 0, 1000, .inl (fun j => zI ((nr j : Nat) : Int))))] := hD
  refine lv_aload_n hx hb d_Re_takeBack_34 rfl (lv_at hl 1 rfl) ?_
  refine va_get (D := D) (ci := 2) (v := .ref rn) (C := R_Re) (T := T_Re) (N := 4) hx hb hts (fun w h => List.mem_cons_of_mem _ (inA_Re w h)) hown hK hP 0 rfl rfl 0 (by decide) (hw k_Re_f9) (fun _ h9 => h9) rfl d_Re_takeBack_35 ?_
  refine lv_iload_n hx hb d_Re_takeBack_38 rfl (lv_at hl 0 rfl) ?_
  refine z_uald hx hb hK hP 1 0 rfl rfl (ct) (by omega) (by omega) (by omega) d_Re_takeBack_39 ?_
  subst hQ
  exact W.iret (v := (zI ((nr ct : Nat) : Int))) hx hb hr (fun t9 ht hW => ⟨⟨_, (), rfl, ⟨rfl, trivial⟩, by show va_P _ _ _ t9.heap; rw [ht]; exact hP⟩, hS.F ht⟩) hS.2.2 d_Re_takeBack_40
