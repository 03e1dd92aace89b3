def rm_hasSet : Room := { frames := 0, cells := 0, slots := 0, locals := 0 }
set_option maxHeartbeats 4000000 in
set_option maxRecDepth 100000 in
/-- Sets.hasSet, in range: true -/
theorem c_hasSet (l : Launch) (D : va_G) (c : Nat → ClassId) (h : Nat) (w : Nat) (n : Nat) (f : Nat → Int64) (i : Nat) (hn : n < 100000) (hi : i < n) : Met l y_Se_hasSet w_Se_hasSet rm_hasSet (va_Pc [.ref h, .int (zI ((i : Nat) : Int))] (fun U => va_P D vwCl [(h, .inr (3, [.ref w])), (w, .inl (c 2, 4 * n, .inr (.inl f)))] U.heap ∧ zK D c U)) (vp_Si (fun r => r = (zB true))) 0 0 (fun _ => False) := by
  refine Met.ofW (cc := b_Se_hasSet) (maxL := 2) (ret := (some .boolean)) (by decide) rfl ?_
  intro p e s m args below meth c0 s₁ B hml hv
  obtain ⟨rfl, hP, hKN⟩ := hv
  have hK := hKN.1
  have hN := hKN.2
  have hx := B.exec
  have hb := B.bytes
  have hr := B.returns
  have hts := atoms_spec (ws := w_Se_hasSet) B.pre
  have hw : ∀ {w : Cond}, w ∈ ALLW → w.before _ s = true := fun h => hts _ (List.mem_cons_of_mem _ h)
  have hown : s.vm.findClass R_Se = some m.cls := findClass_of_methodNamed B.named
  have hlocks := B.notSynchronized
  have hl := lv_entry ([.ref h, .int (zI ((i : Nat) : Int))]) (n := 2) (Nat.le_of_ble_eq_true rfl)
  rw [lg_entry_eq]
  generalize (lg_sl ([.ref h, .int (zI ((i : Nat) : Int))]) ++ List.replicate (2 - (lg_sl ([.ref h, .int (zI ((i : Nat) : Int))])).length) Slot.unset).toArray = ls at hl ⊢
  have hl : lv_has ls 2 [(0, .ref h), (1, .int (zI ((i : Nat) : Int)))] := hl
  generalize hQ : MQ below _ _ _ _ _ _ = Q
  refine lv_iload_n hx hb d_Se_hasSet_0 rfl (lv_at hl 1 rfl) ?_
  refine z_if_lt (tgt := 19) hx hb (by omega) d_Se_hasSet_1 (by decide) (fun hc_1 => absurd hc_1 (by omega)) (fun hc_1 => ?_)
  refine lv_iload_n hx hb d_Se_hasSet_4 rfl (lv_at hl 1 rfl) ?_
  refine lv_aload_n hx hb d_Se_hasSet_5 rfl (lv_at hl 0 rfl) ?_
  refine va_get (D := D) (ci := 3) (v := .ref w) (C := R_Se) (T := T_Se) (N := 1) hx hb hts (fun w h => List.mem_cons_of_mem _ (inA_Se w h)) hown hK hP 0 rfl rfl 0 (by decide) (hw k_Se_f20) (fun _ h9 => h9) rfl d_Se_hasSet_6 ?_
  refine z_alen hx hb hK hP 1 2 rfl rfl d_Se_hasSet_9 ?_
  refine z_top (v2 := .int (zI ((4 * n : Nat) : Int))) rfl ?_
  refine lv_iconst (v := zI 4) hx hb d_Se_hasSet_10 (by decide) ?_
  refine lv_idiv hx hb d_Se_hasSet_11 (by decide) ?_
  refine z_top (v2 := .int (zI ((n : Nat) : Int))) (congrArg Value.int (z_div4 _ (by omega))) ?_
  refine z_icmp_ge (tgt := 19) hx hb (by omega) d_Se_hasSet_12 (by decide) (fun hc_12 => absurd hc_12 (by omega)) (fun hc_12 => ?_)
  refine lv_iconst (v := zI 1) hx hb d_Se_hasSet_15 (by decide) ?_
  refine lv_goto (tgt := 20) hx hb d_Se_hasSet_16 (by decide) ?_
  subst hQ
  exact W.zret (ty := .boolean) (v := (zI 1)) hx hb hr (by decide) (fun t9 ht hW => ⟨_, rfl, (by decide), ht⟩) (fun q hq => absurd hq List.not_mem_nil) d_Se_hasSet_20

def rm_hasPlace : Room := { frames := 1, cells := 0, slots := 0, locals := 21 }
set_option maxHeartbeats 4000000 in
set_option maxRecDepth 100000 in
/-- Sets.hasPlace, in range: true -/
theorem c_hasPlace (l : Launch) (D : va_G) (c : Nat → ClassId) (h : Nat) (w : Nat) (n : Nat) (f : Nat → Int64) (i : Nat) (o : Nat) (hn : n < 100000) (hi : i < n) (ho : o < 256) : Met l y_Se_hasPlace w_Se_hasPlace rm_hasPlace (va_Pc [.ref h, .int (zI ((i : Nat) : Int)), .int (zI ((o : Nat) : Int))] (fun U => va_P D vwCl [(h, .inr (3, [.ref w])), (w, .inl (c 2, 4 * n, .inr (.inl f)))] U.heap ∧ zK D c U)) (vp_Si (fun r => r = (zB true))) 0 0 (fun _ => False) := by
  refine Met.ofW (cc := b_Se_hasPlace) (maxL := 3) (ret := (some .boolean)) (by decide) rfl ?_
  intro p e s m args below meth c0 s₁ B hml hv
  obtain ⟨rfl, hP, hKN⟩ := hv
  have hK := hKN.1
  have hN := hKN.2
  have hx := B.exec
  have hb := B.bytes
  have hr := B.returns
  have hts := atoms_spec (ws := w_Se_hasPlace) B.pre
  have hw : ∀ {w : Cond}, w ∈ ALLW → w.before _ s = true := fun h => hts _ (List.mem_cons_of_mem _ h)
  have hown : s.vm.findClass R_Se = some m.cls := findClass_of_methodNamed B.named
  have hlocks := B.notSynchronized
  have hl := lv_entry ([.ref h, .int (zI ((i : Nat) : Int)), .int (zI ((o : Nat) : Int))]) (n := 3) (Nat.le_of_ble_eq_true rfl)
  rw [lg_entry_eq]
  generalize (lg_sl ([.ref h, .int (zI ((i : Nat) : Int)), .int (zI ((o : Nat) : Int))]) ++ List.replicate (3 - (lg_sl ([.ref h, .int (zI ((i : Nat) : Int)), .int (zI ((o : Nat) : Int))])).length) Slot.unset).toArray = ls at hl ⊢
  have hl : lv_has ls 3 [(0, .ref h), (1, .int (zI ((i : Nat) : Int))), (2, .int (zI ((o : Nat) : Int)))] := hl
  generalize hQ : MQ below _ _ _ _ _ _ = Q
  refine lv_aload_n hx hb d_Se_hasPlace_0 rfl (lv_at hl 0 rfl) ?_
  refine lv_iload_n hx hb d_Se_hasPlace_1 rfl (lv_at hl 1 rfl) ?_
  have hPc : va_P D vwCl [(h, .inr (3, [.ref w])), (w, .inl (c 2, 4 * n, .inr (.inl f)))] s.heap := hP.sub (ws' := [(h, .inr (3, [.ref w])), (w, .inl (c 2, 4 * n, .inr (.inl f)))]) [0, 1] rfl
  refine vp_callSi (va_runV (rm := rm_hasSet) (As := [.int (zI ((i : Nat) : Int))]) (rest := []) ⟨hx, hb, hml, hown, hts⟩ (c_hasSet l D c h w n f i (by omega) (by omega)) (cwV 1 hts (gWV k_Se_m24 k_i_Se_hasSet k_v_Se_hasSet k_n_Se k_c_Se_hasSet) rfl rfl rfl (by decide +kernel) ⟨Nat.le_of_ble_eq_true rfl, Nat.le_of_ble_eq_true rfl⟩) ⟨zblind, va_recv hK hPc (ci := 3) (q0 := 0) rfl rfl, fun U hU hW => ⟨rfl, by rw [hU]; exact hPc, hKN.moved hW⟩⟩ rfl rfl hl.1 rfl (lv_room (Nat.le_of_ble_eq_true rfl)) d_Se_hasPlace_2 ⟨Nat.zero_le _, Nat.zero_le _⟩).run (fun r hr_1 => ?_)
  subst hr_1
  refine z_ifeq_B (tgt := 23) hx hb d_Se_hasPlace_5 (by decide) (fun hc_5 => absurd hc_5 (by simp_all)) (fun hc_5 => ?_)
  refine lv_iload_n hx hb d_Se_hasPlace_8 rfl (lv_at hl 2 rfl) ?_
  refine z_if_lt (tgt := 23) hx hb (by omega) d_Se_hasPlace_9 (by decide) (fun hc_9 => absurd hc_9 (by omega)) (fun hc_9 => ?_)
  refine lv_iload_n hx hb d_Se_hasPlace_12 rfl (lv_at hl 2 rfl) ?_
  refine lv_sipush (v := zI 255) hx hb d_Se_hasPlace_13 (by decide) ?_
  refine z_icmp_gt (tgt := 23) hx hb (by omega) d_Se_hasPlace_16 (by decide) (fun hc_16 => absurd hc_16 (by omega)) (fun hc_16 => ?_)
  refine lv_iconst (v := zI 1) hx hb d_Se_hasPlace_19 (by decide) ?_
  refine lv_goto (tgt := 24) hx hb d_Se_hasPlace_20 (by decide) ?_
  subst hQ
  exact W.zret (ty := .boolean) (v := (zI 1)) hx hb hr (by decide) (fun t9 ht hW => ⟨_, rfl, (by decide), ht⟩) (fun q hq => absurd hq List.not_mem_nil) d_Se_hasPlace_24

def rm_holds : Room := { frames := 2, cells := 0, slots := 0, locals := 43 }
set_option maxHeartbeats 4000000 in
set_option maxRecDepth 100000 in
/-- Sets.holds, in range: the bit -/
theorem c_holds (l : Launch) (D : va_G) (c : Nat → ClassId) (h : Nat) (w : Nat) (n : Nat) (f : Nat → Int64) (i : Nat) (o : Nat) (hn : n < 100000) (hi : i < n) (ho : o < 256) : Met l y_Se_holds w_Se_holds rm_holds (va_Pc [.ref h, .int (zI ((i : Nat) : Int)), .int (zI ((o : Nat) : Int))] (fun U => va_P D vwCl [(h, .inr (3, [.ref w])), (w, .inl (c 2, 4 * n, .inr (.inl f)))] U.heap ∧ zK D c U)) (vp_Si (fun r => r = (zB (zbt f i o)))) 0 0 (fun _ => False) := by
  refine Met.ofW (cc := b_Se_holds) (maxL := 3) (ret := (some .boolean)) (by decide) rfl ?_
  intro p e s m args below meth c0 s₁ B hml hv
  obtain ⟨rfl, hP, hKN⟩ := hv
  have hK := hKN.1
  have hN := hKN.2
  have hx := B.exec
  have hb := B.bytes
  have hr := B.returns
  have hts := atoms_spec (ws := w_Se_holds) B.pre
  have hw : ∀ {w : Cond}, w ∈ ALLW → w.before _ s = true := fun h => hts _ (List.mem_cons_of_mem _ h)
  have hown : s.vm.findClass R_Se = some m.cls := findClass_of_methodNamed B.named
  have hlocks := B.notSynchronized
  have hl := lv_entry ([.ref h, .int (zI ((i : Nat) : Int)), .int (zI ((o : Nat) : Int))]) (n := 3) (Nat.le_of_ble_eq_true rfl)
  rw [lg_entry_eq]
  generalize (lg_sl ([.ref h, .int (zI ((i : Nat) : Int)), .int (zI ((o : Nat) : Int))]) ++ List.replicate (3 - (lg_sl ([.ref h, .int (zI ((i : Nat) : Int)), .int (zI ((o : Nat) : Int))])).length) Slot.unset).toArray = ls at hl ⊢
  have hl : lv_has ls 3 [(0, .ref h), (1, .int (zI ((i : Nat) : Int))), (2, .int (zI ((o : Nat) : Int)))] := hl
  generalize hQ : MQ below _ _ _ _ _ _ = Q
  refine lv_aload_n hx hb d_Se_holds_0 rfl (lv_at hl 0 rfl) ?_
  refine lv_iload_n hx hb d_Se_holds_1 rfl (lv_at hl 1 rfl) ?_
  refine lv_iload_n hx hb d_Se_holds_2 rfl (lv_at hl 2 rfl) ?_
  have hPc : va_P D vwCl [(h, .inr (3, [.ref w])), (w, .inl (c 2, 4 * n, .inr (.inl f)))] s.heap := hP.sub (ws' := [(h, .inr (3, [.ref w])), (w, .inl (c 2, 4 * n, .inr (.inl f)))]) [0, 1] rfl
  refine vp_callSi (va_runV (rm := rm_hasPlace) (As := [.int (zI ((i : Nat) : Int)), .int (zI ((o : Nat) : Int))]) (rest := []) ⟨hx, hb, hml, hown, hts⟩ (c_hasPlace l D c h w n f i o (by omega) (by omega) (by omega)) (cwV 2 hts (gWV k_Se_m28 k_i_Se_hasPlace k_v_Se_hasPlace k_n_Se k_c_Se_hasPlace) rfl rfl rfl (by decide +kernel) ⟨Nat.le_of_ble_eq_true rfl, Nat.le_of_ble_eq_true rfl⟩) ⟨zblind, va_recv hK hPc (ci := 3) (q0 := 0) rfl rfl, fun U hU hW => ⟨rfl, by rw [hU]; exact hPc, hKN.moved hW⟩⟩ rfl rfl hl.1 rfl (lv_room (Nat.le_of_ble_eq_true rfl)) d_Se_holds_3 ⟨Nat.zero_le _, Nat.zero_le _⟩).run (fun r hr_1 => ?_)
  subst hr_1
  refine z_ifne_B (tgt := 11) hx hb d_Se_holds_6 (by decide) (fun hc_6 => ?_) (fun hc_6 => absurd hc_6 (by simp_all))
  refine lv_aload_n hx hb d_Se_holds_11 rfl (lv_at hl 0 rfl) ?_
  refine va_get (D := D) (ci := 3) (v := .ref w) (C := R_Se) (T := T_Se) (N := 1) hx hb hts (fun w h => List.mem_cons_of_mem _ (inA_Se w h)) hown hK hP 0 rfl rfl 0 (by decide) (hw k_Se_f20) (fun _ h9 => h9) rfl d_Se_holds_12 ?_
  refine lv_iload_n hx hb d_Se_holds_15 rfl (lv_at hl 1 rfl) ?_
  refine lv_iconst (v := zI 4) hx hb d_Se_holds_16 (by decide) ?_
  refine z_imul hx hb d_Se_holds_17 ?_
  refine lv_iload_n hx hb d_Se_holds_18 rfl (lv_at hl 2 rfl) ?_
  refine lv_bipush (v := zI 6) hx hb d_Se_holds_19 (by decide) ?_
  refine lv_ishr hx hb d_Se_holds_21 ?_
  refine z_top (v2 := .int (zI ((o / 64 : Nat) : Int))) (congrArg Value.int (z_shr6 _ (by omega))) ?_
  refine z_iadd hx hb d_Se_holds_22 ?_
  refine z_lald hx hb hK hP 1 2 rfl rfl (4 * i + o / 64) (by omega) (by omega) (by omega) d_Se_holds_23 ?_
  refine lv_iload_n hx hb d_Se_holds_24 rfl (lv_at hl 2 rfl) ?_
  refine lv_lushr (v := ((f (4 * i + o / 64)).toUInt64 >>> ((zI ((o : Nat) : Int)).toInt64.toUInt64 &&& Int64.toUInt64 63)).toInt64) hx hb d_Se_holds_25 rfl ?_
  refine lv_lconst (v := 1) hx hb d_Se_holds_26 (by decide) ?_
  refine lv_land hx hb d_Se_holds_27 ?_
  refine lv_lconst (v := 0) hx hb d_Se_holds_28 (by decide) ?_
  refine W.lcmp hx hb d_Se_holds_29 ?_
  refine z_top (v2 := .int (zB (zbt f i o))) (congrArg Value.int (z_bit _ _ ho)) ?_
  refine z_ifeq_B (tgt := 37) hx hb d_Se_holds_30 (by decide) (fun hc_30 => ?_) (fun hc_30 => ?_)
  · refine lv_iconst (v := zI 0) hx hb d_Se_holds_37 (by decide) ?_
    subst hQ
    exact W.zret (ty := .boolean) (v := (zI 0)) hx hb hr (by decide) (fun t9 ht hW => ⟨_, rfl, (by rw [hc_30]; decide), ht⟩) (fun q hq => absurd hq List.not_mem_nil) d_Se_holds_38
  · refine lv_iconst (v := zI 1) hx hb d_Se_holds_33 (by decide) ?_
    refine lv_goto (tgt := 38) hx hb d_Se_holds_34 (by decide) ?_
    subst hQ
    exact W.zret (ty := .boolean) (v := (zI 1)) hx hb hr (by decide) (fun t9 ht hW => ⟨_, rfl, (by rw [hc_30]; decide), ht⟩) (fun q hq => absurd hq List.not_mem_nil) d_Se_holds_38

def rm_add : Room := { frames := 2, cells := 0, slots := 0, locals := 43 }
set_option maxHeartbeats 4000000 in
set_option maxRecDepth 100000 in
/-- Sets.add, in range -/
theorem c_add (l : Launch) (D : va_G) (c : Nat → ClassId) (h : Nat) (w : Nat) (n : Nat) (f : Nat → Int64) (i : Nat) (o : Nat) (hn : n < 100000) (hi : i < n) (ho : o < 256) : Met l y_Se_add w_Se_add rm_add (va_Pc [.ref h, .int (zI ((i : Nat) : Int)), .int (zI ((o : Nat) : Int))] (fun U => (va_P D vwCl [(h, .inr (3, [.ref w])), (w, .inl (c 2, 4 * n, .inr (.inl f)))] U.heap ∧ va_D (fun _ => True) [(h, .inr (3, [.ref w])), (w, .inl (c 2, 4 * n, .inr (.inl f)))]) ∧ zK D c U)) (va_Qv (fun (u : Unit) => True) (fun (u : Unit) t9 => va_P D vwCl [(h, .inr (3, [.ref w])), (w, .inl (c 2, 4 * n, .inr (.inl (zadd f i o))))] t9.heap) (zA [(h, .inr (3, [.ref w])), (w, .inl (c 2, 4 * n, .inr (.inl f)))])) 0 0 (zA [(h, .inr (3, [.ref w])), (w, .inl (c 2, 4 * n, .inr (.inl f)))]) := by
  refine Met.ofW (cc := b_Se_add) (maxL := 3) (ret := none) (by decide) rfl ?_
  intro p e s m args below meth c0 s₁ B hml hv
  obtain ⟨rfl, ⟨hP, hD0⟩, hKN⟩ := hv
  have hK := hKN.1
  have hN := hKN.2
  have hx := B.exec
  have hb := B.bytes
  have hr := B.returns
  have hts := atoms_spec (ws := w_Se_add) B.pre
  have hw : ∀ {w : Cond}, w ∈ ALLW → w.before _ s = true := fun h => hts _ (List.mem_cons_of_mem _ h)
  have hown : s.vm.findClass R_Se = some m.cls := findClass_of_methodNamed B.named
  have hlocks := B.notSynchronized
  have hD : va_D (zA [(h, .inr (3, [.ref w])), (w, .inl (c 2, 4 * n, .inr (.inl f)))]) [(h, .inr (3, [.ref w])), (w, .inl (c 2, 4 * n, .inr (.inl f)))] := ⟨hD0.1, fun k q h => List.mem_map.mpr ⟨q, List.mem_of_getElem? h, rfl⟩⟩
  generalize hAe : zA [(h, .inr (3, [.ref w])), (w, .inl (c 2, 4 * n, .inr (.inl f)))] = A at hD ⊢
  have hS : va_S A s.heap s.heap [] := va_S.rf
  have hP : va_P D vwCl [(h, .inr (3, [.ref w])), (w, .inl (c 2, 4 * n, .inr (.inl f)))] s.heap := hP
  have hl := lv_entry ([.ref h, .int (zI ((i : Nat) : Int)), .int (zI ((o : Nat) : Int))]) (n := 3) (Nat.le_of_ble_eq_true rfl)
  rw [lg_entry_eq]
  generalize (lg_sl ([.ref h, .int (zI ((i : Nat) : Int)), .int (zI ((o : Nat) : Int))]) ++ List.replicate (3 - (lg_sl ([.ref h, .int (zI ((i : Nat) : Int)), .int (zI ((o : Nat) : Int))])).length) Slot.unset).toArray = ls at hl ⊢
  have hl : lv_has ls 3 [(0, .ref h), (1, .int (zI ((i : Nat) : Int))), (2, .int (zI ((o : Nat) : Int)))] := hl
  generalize hQ : MQ below _ _ _ _ _ _ = Q
  refine lv_aload_n hx hb d_Se_add_0 rfl (lv_at hl 0 rfl) ?_
  refine lv_iload_n hx hb d_Se_add_1 rfl (lv_at hl 1 rfl) ?_
  refine lv_iload_n hx hb d_Se_add_2 rfl (lv_at hl 2 rfl) ?_
  have hPc : va_P D vwCl [(h, .inr (3, [.ref w])), (w, .inl (c 2, 4 * n, .inr (.inl f)))] s.heap := hP.sub (ws' := [(h, .inr (3, [.ref w])), (w, .inl (c 2, 4 * n, .inr (.inl f)))]) [0, 1] rfl
  refine vp_callSi (va_runV (rm := rm_hasPlace) (As := [.int (zI ((i : Nat) : Int)), .int (zI ((o : Nat) : Int))]) (rest := []) ⟨hx, hb, hml, hown, hts⟩ (c_hasPlace l D c h w n f i o (by omega) (by omega) (by omega)) (cwV 2 hts (gWV k_Se_m28 k_i_Se_hasPlace k_v_Se_hasPlace k_n_Se k_c_Se_hasPlace) rfl rfl rfl (by decide +kernel) ⟨Nat.le_of_ble_eq_true rfl, Nat.le_of_ble_eq_true rfl⟩) ⟨zblind, va_recv hK hPc (ci := 3) (q0 := 0) rfl rfl, fun U hU hW => ⟨rfl, by rw [hU]; exact hPc, hKN.moved hW⟩⟩ rfl rfl hl.1 rfl (lv_room (Nat.le_of_ble_eq_true rfl)) d_Se_add_3 ⟨Nat.zero_le _, Nat.zero_le _⟩).run (fun r hr_1 => ?_)
  subst hr_1
  refine z_ifeq_B (tgt := 28) hx hb d_Se_add_6 (by decide) (fun hc_6 => absurd hc_6 (by simp_all)) (fun hc_6 => ?_)
  refine lv_aload_n hx hb d_Se_add_9 rfl (lv_at hl 0 rfl) ?_
  refine va_get (D := D) (ci := 3) (v := .ref w) (C := R_Se) (T := T_Se) (N := 1) hx hb hts (fun w h => List.mem_cons_of_mem _ (inA_Se w h)) hown hK hP 0 rfl rfl 0 (by decide) (hw k_Se_f20) (fun _ h9 => h9) rfl d_Se_add_10 ?_
  refine lv_iload_n hx hb d_Se_add_13 rfl (lv_at hl 1 rfl) ?_
  refine lv_iconst (v := zI 4) hx hb d_Se_add_14 (by decide) ?_
  refine z_imul hx hb d_Se_add_15 ?_
  refine lv_iload_n hx hb d_Se_add_16 rfl (lv_at hl 2 rfl) ?_
  refine lv_bipush (v := zI 6) hx hb d_Se_add_17 (by decide) ?_
  refine lv_ishr hx hb d_Se_add_19 ?_
  refine z_top (v2 := .int (zI ((o / 64 : Nat) : Int))) (congrArg Value.int (z_shr6 _ (by omega))) ?_
  refine z_iadd hx hb d_Se_add_20 ?_
  refine lv_dup2_11 hx hb d_Se_add_21 rfl rfl ?_
  refine z_lald hx hb hK hP 1 2 rfl rfl (4 * i + o / 64) (by omega) (by omega) (by omega) d_Se_add_22 ?_
  refine lv_lconst (v := 1) hx hb d_Se_add_23 (by decide) ?_
  refine lv_iload_n hx hb d_Se_add_24 rfl (lv_at hl 2 rfl) ?_
  refine lv_lshl (v := (1 : Int64) <<< ((zI ((o : Nat) : Int)).toInt64 &&& 63)) hx hb d_Se_add_25 rfl ?_
  refine lv_lor hx hb d_Se_add_26 ?_
  refine z_last hx hb hK hP hD hS 1 2 rfl rfl (4 * i + o / 64) (by omega) (by omega) (by omega) d_Se_add_27 (fun H locs hP hD hS => ?_)
  have hP : va_P D vwCl [(h, .inr (3, [.ref w])), (w, .inl (c 2, 4 * n, .inr (.inl (vp_updL f (4 * i + o / 64) ((f (4 * i + o / 64)) ||| ((1 : Int64) <<< ((zI ((o : Nat) : Int)).toInt64 &&& 63)))))))] H := hP
  have hD : va_D A [(h, .inr (3, [.ref w])), (w, .inl (c 2, 4 * n, .inr (.inl (vp_updL f (4 * i + o / 64) ((f (4 * i + o / 64)) ||| ((1 : Int64) <<< ((zI ((o : Nat) : Int)).toInt64 &&& 63)))))))] := hD
  subst hQ
  exact W.vret hx hb hr (fun t9 ht hW => ⟨⟨(), rfl, trivial, by show va_P _ _ _ t9.heap; rw [ht]; exact hP⟩, hS.F ht⟩) hS.2.2 d_Se_add_28

def rm_removeAll : Room := { frames := 1, cells := 0, slots := 0, locals := 21 }
set_option maxHeartbeats 4000000 in
set_option maxRecDepth 100000 in
/-- Sets.removeAll, in range -/
theorem c_removeAll (l : Launch) (D : va_G) (c : Nat → ClassId) (h : Nat) (w : Nat) (n : Nat) (f : Nat → Int64) (i : Nat) (hn : n < 100000) (hi : i < n) : Met l y_Se_removeAll w_Se_removeAll rm_removeAll (va_Pc [.ref h, .int (zI ((i : Nat) : Int))] (fun U => (va_P D vwCl [(h, .inr (3, [.ref w])), (w, .inl (c 2, 4 * n, .inr (.inl f)))] U.heap ∧ va_D (fun _ => True) [(h, .inr (3, [.ref w])), (w, .inl (c 2, 4 * n, .inr (.inl f)))]) ∧ zK D c U)) (va_Qv (fun (u : Unit) => True) (fun (u : Unit) t9 => va_P D vwCl [(h, .inr (3, [.ref w])), (w, .inl (c 2, 4 * n, .inr (.inl (zclr f i))))] t9.heap) (zA [(h, .inr (3, [.ref w])), (w, .inl (c 2, 4 * n, .inr (.inl f)))])) 0 0 (zA [(h, .inr (3, [.ref w])), (w, .inl (c 2, 4 * n, .inr (.inl f)))]) := by
  refine Met.ofW (cc := b_Se_removeAll) (maxL := 3) (ret := none) (by decide) rfl ?_
  intro p e s m args below meth c0 s₁ B hml hv
  obtain ⟨rfl, ⟨hP, hD0⟩, hKN⟩ := hv
  have hK := hKN.1
  have hN := hKN.2
  have hx := B.exec
  have hb := B.bytes
  have hr := B.returns
  have hts := atoms_spec (ws := w_Se_removeAll) B.pre
  have hw : ∀ {w : Cond}, w ∈ ALLW → w.before _ s = true := fun h => hts _ (List.mem_cons_of_mem _ h)
  have hown : s.vm.findClass R_Se = some m.cls := findClass_of_methodNamed B.named
  have hlocks := B.notSynchronized
  have hD : va_D (zA [(h, .inr (3, [.ref w])), (w, .inl (c 2, 4 * n, .inr (.inl f)))]) [(h, .inr (3, [.ref w])), (w, .inl (c 2, 4 * n, .inr (.inl f)))] := ⟨hD0.1, fun k q h => List.mem_map.mpr ⟨q, List.mem_of_getElem? h, rfl⟩⟩
  generalize hAe : zA [(h, .inr (3, [.ref w])), (w, .inl (c 2, 4 * n, .inr (.inl f)))] = A at hD ⊢
  have hS : va_S A s.heap s.heap [] := va_S.rf
  have hP : va_P D vwCl [(h, .inr (3, [.ref w])), (w, .inl (c 2, 4 * n, .inr (.inl f)))] s.heap := hP
  have hl := lv_entry ([.ref h, .int (zI ((i : Nat) : Int))]) (n := 3) (Nat.le_of_ble_eq_true rfl)
  rw [lg_entry_eq]
  generalize (lg_sl ([.ref h, .int (zI ((i : Nat) : Int))]) ++ List.replicate (3 - (lg_sl ([.ref h, .int (zI ((i : Nat) : Int))])).length) Slot.unset).toArray = ls at hl ⊢
  have hl : lv_has ls 3 [(0, .ref h), (1, .int (zI ((i : Nat) : Int)))] := hl
  generalize hQ : MQ below _ _ _ _ _ _ = Q
  refine lv_aload_n hx hb d_Se_removeAll_0 rfl (lv_at hl 0 rfl) ?_
  refine lv_iload_n hx hb d_Se_removeAll_1 rfl (lv_at hl 1 rfl) ?_
  have hPc : va_P D vwCl [(h, .inr (3, [.ref w])), (w, .inl (c 2, 4 * n, .inr (.inl f)))] s.heap := hP.sub (ws' := [(h, .inr (3, [.ref w])), (w, .inl (c 2, 4 * n, .inr (.inl f)))]) [0, 1] rfl
  refine vp_callSi (va_runV (rm := rm_hasSet) (As := [.int (zI ((i : Nat) : Int))]) (rest := []) ⟨hx, hb, hml, hown, hts⟩ (c_hasSet l D c h w n f i (by omega) (by omega)) (cwV 1 hts (gWV k_Se_m24 k_i_Se_hasSet k_v_Se_hasSet k_n_Se k_c_Se_hasSet) rfl rfl rfl (by decide +kernel) ⟨Nat.le_of_ble_eq_true rfl, Nat.le_of_ble_eq_true rfl⟩) ⟨zblind, va_recv hK hPc (ci := 3) (q0 := 0) rfl rfl, fun U hU hW => ⟨rfl, by rw [hU]; exact hPc, hKN.moved hW⟩⟩ rfl rfl hl.1 rfl (lv_room (Nat.le_of_ble_eq_true rfl)) d_Se_removeAll_2 ⟨Nat.zero_le _, Nat.zero_le _⟩).run (fun r hr_1 => ?_)
  subst hr_1
  refine z_ifeq_B (tgt := 32) hx hb d_Se_removeAll_5 (by decide) (fun hc_5 => absurd hc_5 (by simp_all)) (fun hc_5 => ?_)
  refine lv_iconst (v := zI 0) hx hb d_Se_removeAll_8 (by decide) ?_
  refine lv_istore_n (lv' := [(2, .int (zI 0)), (0, .ref h), (1, .int (zI ((i : Nat) : Int)))]) hx hb d_Se_removeAll_9 rfl hl (by decide) rfl (fun ls hl => ?_)
  have lp_10 : ∀ (k_ : Nat) (v : Nat), 4 - v < k_ → (v ≤ 4) → ∀ (H : Heap) (locs : List Loc), va_P D vwCl [(h, .inr (3, [.ref w])), (w, .inl (c 2, 4 * n, .inr (.inl (fun j => if 4 * i ≤ j ∧ j < 4 * i + v then 0 else f j))))] H → va_D A [(h, .inr (3, [.ref w])), (w, .inl (c 2, 4 * n, .inr (.inl (fun j => if 4 * i ≤ j ∧ j < 4 * i + v then 0 else f j))))] → va_S A s.heap H locs → ∀ ls : Array Slot, lv_has ls 3 [(2, .int (zI ((v : Nat) : Int))), (0, .ref h), (1, .int (zI ((i : Nat) : Int)))] → W p l e (headSpec w_Se_removeAll rm_removeAll).room s m ([.ref h, .int (zI ((i : Nat) : Int))] : List Value).toArray below meth c0 H locs 0 0 Q (F0 m 10 ls []) := by
    intro k_
    induction k_ with
    | zero => intro v hk_; exact absurd hk_ (Nat.not_lt_zero _)
    | succ k_ ih_10 =>
      intro v hk_ hv H locs hP hD hS ls hl
      refine lv_iload_n hx hb d_Se_removeAll_10 rfl (lv_at hl 0 rfl) ?_
      refine lv_iconst (v := zI 4) hx hb d_Se_removeAll_11 (by decide) ?_
      refine z_icmp_ge (tgt := 32) hx hb (by omega) d_Se_removeAll_12 (by decide) (fun hc_12 => ?_) (fun hc_12 => ?_)
      · obtain rfl : v = 4 := by omega
        subst hQ
        exact W.vret hx hb hr (fun t9 ht hW => ⟨⟨(), rfl, trivial, by show va_P _ _ _ t9.heap; rw [ht]; exact hP⟩, hS.F ht⟩) hS.2.2 d_Se_removeAll_32
      · refine lv_aload_n hx hb d_Se_removeAll_15 rfl (lv_at hl 1 rfl) ?_
        refine va_get (D := D) (ci := 3) (v := .ref w) (C := R_Se) (T := T_Se) (N := 1) hx hb hts (fun w h => List.mem_cons_of_mem _ (inA_Se w h)) hown hK hP 0 rfl rfl 0 (by decide) (hw k_Se_f20) (fun _ h9 => h9) rfl d_Se_removeAll_16 ?_
        refine lv_iload_n hx hb d_Se_removeAll_19 rfl (lv_at hl 2 rfl) ?_
        refine lv_iconst (v := zI 4) hx hb d_Se_removeAll_20 (by decide) ?_
        refine z_imul hx hb d_Se_removeAll_21 ?_
        refine lv_iload_n hx hb d_Se_removeAll_22 rfl (lv_at hl 0 rfl) ?_
        refine z_iadd hx hb d_Se_removeAll_23 ?_
        refine lv_lconst (v := 0) hx hb d_Se_removeAll_24 (by decide) ?_
        refine z_last hx hb hK hP hD hS 1 2 rfl rfl (4 * i + v) (by omega) (by omega) (by omega) d_Se_removeAll_25 (fun H locs hP hD hS => ?_)
        have hP : va_P D vwCl [(h, .inr (3, [.ref w])), (w, .inl (c 2, 4 * n, .inr (.inl (vp_updL (fun j => if 4 * i ≤ j ∧ j < 4 * i + v then 0 else f j) (4 * i + v) 0))))] H := hP
        have hD : va_D A [(h, .inr (3, [.ref w])), (w, .inl (c 2, 4 * n, .inr (.inl (vp_updL (fun j => if 4 * i ≤ j ∧ j < 4 * i + v then 0 else f j) (4 * i + v) 0))))] := hD
        refine lv_iinc (v := zI ((v + 1 : Nat) : Int)) (lv' := [(2, .int (zI ((v + 1 : Nat) : Int))), (0, .ref h), (1, .int (zI ((i : Nat) : Int)))]) hx hb d_Se_removeAll_26 hl (k := 0) rfl (z_incN _ 1) (by decide) rfl (fun ls hl => ?_)
        refine lv_goto (tgt := 10) hx hb d_Se_removeAll_29 (by decide) ?_
        exact ih_10 (v + 1) (by omega) (by omega) _ _ (by rw [← z_clr_step]; exact hP) (z_D_congr (by rfl) hD) hS _ (lv_sub hl [0, 1, 2] rfl)
  exact lp_10 _ 0 (Nat.lt_succ_self _) (by omega) _ _ (by rw [show (fun j => if 4 * i ≤ j ∧ j < 4 * i + 0 then (0 : Int64) else f j) = f from funext fun j => if_neg (by omega)]; exact hP) (z_D_congr (by rfl) hD) hS _ (lv_sub hl [0, 1, 2] rfl)

def rm_addAll : Room := { frames := 1, cells := 0, slots := 0, locals := 21 }
set_option maxHeartbeats 4000000 in
set_option maxRecDepth 100000 in
/-- Sets.addAll, another object, in range -/
theorem c_addAll (l : Launch) (D : va_G) (c : Nat → ClassId) (h : Nat) (w : Nat) (n : Nat) (f : Nat → Int64) (i : Nat) (h2 : Nat) (w2 : Nat) (n2 : Nat) (g : Nat → Int64) (k : Nat) (hn : n < 100000) (hi : i < n) (hn2 : n2 < 100000) (hk : k < n2) : Met l y_Se_addAll w_Se_addAll rm_addAll (va_Pc [.ref h, .int (zI ((i : Nat) : Int)), .ref h2, .int (zI ((k : Nat) : Int))] (fun U => (va_P D vwCl [(h, .inr (3, [.ref w])), (w, .inl (c 2, 4 * n, .inr (.inl f))), (h2, .inr (3, [.ref w2])), (w2, .inl (c 2, 4 * n2, .inr (.inl g)))] U.heap ∧ va_D (fun _ => True) [(h, .inr (3, [.ref w])), (w, .inl (c 2, 4 * n, .inr (.inl f))), (h2, .inr (3, [.ref w2])), (w2, .inl (c 2, 4 * n2, .inr (.inl g)))]) ∧ zK D c U)) (va_Qv (fun (u : Unit) => True) (fun (u : Unit) t9 => va_P D vwCl [(h, .inr (3, [.ref w])), (w, .inl (c 2, 4 * n, .inr (.inl (zor f i g k)))), (h2, .inr (3, [.ref w2])), (w2, .inl (c 2, 4 * n2, .inr (.inl g)))] t9.heap) (zA [(h, .inr (3, [.ref w])), (w, .inl (c 2, 4 * n, .inr (.inl f))), (h2, .inr (3, [.ref w2])), (w2, .inl (c 2, 4 * n2, .inr (.inl g)))])) 0 0 (zA [(h, .inr (3, [.ref w])), (w, .inl (c 2, 4 * n, .inr (.inl f))), (h2, .inr (3, [.ref w2])), (w2, .inl (c 2, 4 * n2, .inr (.inl g)))]) := by
  refine Met.ofW (cc := b_Se_addAll) (maxL := 5) (ret := none) (by decide) rfl ?_
  intro p e s m args below meth c0 s₁ B hml hv
  obtain ⟨rfl, ⟨hP, hD0⟩, hKN⟩ := hv
  have hK := hKN.1
  have hN := hKN.2
  have hx := B.exec
  have hb := B.bytes
  have hr := B.returns
  have hts := atoms_spec (ws := w_Se_addAll) B.pre
  have hw : ∀ {w : Cond}, w ∈ ALLW → w.before _ s = true := fun h => hts _ (List.mem_cons_of_mem _ h)
  have hown : s.vm.findClass R_Se = some m.cls := findClass_of_methodNamed B.named
  have hlocks := B.notSynchronized
  have hD : va_D (zA [(h, .inr (3, [.ref w])), (w, .inl (c 2, 4 * n, .inr (.inl f))), (h2, .inr (3, [.ref w2])), (w2, .inl (c 2, 4 * n2, .inr (.inl g)))]) [(h, .inr (3, [.ref w])), (w, .inl (c 2, 4 * n, .inr (.inl f))), (h2, .inr (3, [.ref w2])), (w2, .inl (c 2, 4 * n2, .inr (.inl g)))] := ⟨hD0.1, fun k q h => List.mem_map.mpr ⟨q, List.mem_of_getElem? h, rfl⟩⟩
  generalize hAe : zA [(h, .inr (3, [.ref w])), (w, .inl (c 2, 4 * n, .inr (.inl f))), (h2, .inr (3, [.ref w2])), (w2, .inl (c 2, 4 * n2, .inr (.inl g)))] = A at hD ⊢
  have hS : va_S A s.heap s.heap [] := va_S.rf
  have hP : va_P D vwCl [(h, .inr (3, [.ref w])), (w, .inl (c 2, 4 * n, .inr (.inl f))), (h2, .inr (3, [.ref w2])), (w2, .inl (c 2, 4 * n2, .inr (.inl g)))] s.heap := hP
  have hl := lv_entry ([.ref h, .int (zI ((i : Nat) : Int)), .ref h2, .int (zI ((k : Nat) : Int))]) (n := 5) (Nat.le_of_ble_eq_true rfl)
  rw [lg_entry_eq]
  generalize (lg_sl ([.ref h, .int (zI ((i : Nat) : Int)), .ref h2, .int (zI ((k : Nat) : Int))]) ++ List.replicate (5 - (lg_sl ([.ref h, .int (zI ((i : Nat) : Int)), .ref h2, .int (zI ((k : Nat) : Int))])).length) Slot.unset).toArray = ls at hl ⊢
  have hl : lv_has ls 5 [(0, .ref h), (1, .int (zI ((i : Nat) : Int))), (2, .ref h2), (3, .int (zI ((k : Nat) : Int)))] := hl
  generalize hQ : MQ below _ _ _ _ _ _ = Q
  refine lv_aload_n hx hb d_Se_addAll_0 rfl (lv_at hl 0 rfl) ?_
  refine lv_iload_n hx hb d_Se_addAll_1 rfl (lv_at hl 1 rfl) ?_
  have hPc : va_P D vwCl [(h, .inr (3, [.ref w])), (w, .inl (c 2, 4 * n, .inr (.inl f)))] s.heap := hP.sub (ws' := [(h, .inr (3, [.ref w])), (w, .inl (c 2, 4 * n, .inr (.inl f)))]) [0, 1] rfl
  refine vp_callSi (va_runV (rm := rm_hasSet) (As := [.int (zI ((i : Nat) : Int))]) (rest := []) ⟨hx, hb, hml, hown, hts⟩ (c_hasSet l D c h w n f i (by omega) (by omega)) (cwV 1 hts (gWV k_Se_m24 k_i_Se_hasSet k_v_Se_hasSet k_n_Se k_c_Se_hasSet) rfl rfl rfl (by decide +kernel) ⟨Nat.le_of_ble_eq_true rfl, Nat.le_of_ble_eq_true rfl⟩) ⟨zblind, va_recv hK hPc (ci := 3) (q0 := 0) rfl rfl, fun U hU hW => ⟨rfl, by rw [hU]; exact hPc, hKN.moved hW⟩⟩ rfl rfl hl.1 rfl (lv_room (Nat.le_of_ble_eq_true rfl)) d_Se_addAll_2 ⟨Nat.zero_le _, Nat.zero_le _⟩).run (fun r hr_1 => ?_)
  subst hr_1
  refine z_ifeq_B (tgt := 56) hx hb d_Se_addAll_5 (by decide) (fun hc_5 => absurd hc_5 (by simp_all)) (fun hc_5 => ?_)
  refine lv_aload_n hx hb d_Se_addAll_8 rfl (lv_at hl 2 rfl) ?_
  refine lv_iload_n hx hb d_Se_addAll_9 rfl (lv_at hl 3 rfl) ?_
  have hPc : va_P D vwCl [(h2, .inr (3, [.ref w2])), (w2, .inl (c 2, 4 * n2, .inr (.inl g)))] s.heap := hP.sub (ws' := [(h2, .inr (3, [.ref w2])), (w2, .inl (c 2, 4 * n2, .inr (.inl g)))]) [2, 3] rfl
  refine vp_callSi (va_runV (rm := rm_hasSet) (As := [.int (zI ((k : Nat) : Int))]) (rest := []) ⟨hx, hb, hml, hown, hts⟩ (c_hasSet l D c h2 w2 n2 g k (by omega) (by omega)) (cwV 1 hts (gWV k_Se_m24 k_i_Se_hasSet k_v_Se_hasSet k_n_Se k_c_Se_hasSet) rfl rfl rfl (by decide +kernel) ⟨Nat.le_of_ble_eq_true rfl, Nat.le_of_ble_eq_true rfl⟩) ⟨zblind, va_recv hK hPc (ci := 3) (q0 := 0) rfl rfl, fun U hU hW => ⟨rfl, by rw [hU]; exact hPc, hKN.moved hW⟩⟩ rfl rfl hl.1 rfl (lv_room (Nat.le_of_ble_eq_true rfl)) d_Se_addAll_10 ⟨Nat.zero_le _, Nat.zero_le _⟩).run (fun r hr_2 => ?_)
  subst hr_2
  refine z_ifeq_B (tgt := 56) hx hb d_Se_addAll_13 (by decide) (fun hc_13 => absurd hc_13 (by simp_all)) (fun hc_13 => ?_)
  refine lv_iconst (v := zI 0) hx hb d_Se_addAll_16 (by decide) ?_
  refine lv_istore (lv' := [(4, .int (zI 0)), (0, .ref h), (1, .int (zI ((i : Nat) : Int))), (2, .ref h2), (3, .int (zI ((k : Nat) : Int)))]) hx hb d_Se_addAll_17 hl (by decide) rfl (fun ls hl => ?_)
  have lp_19 : ∀ (k_ : Nat) (v : Nat), 4 - v < k_ → (v ≤ 4) → ∀ (H : Heap) (locs : List Loc), va_P D vwCl [(h, .inr (3, [.ref w])), (w, .inl (c 2, 4 * n, .inr (.inl (fun j => if 4 * i ≤ j ∧ j < 4 * i + v then f j ||| g (4 * k + (j - 4 * i)) else f j)))), (h2, .inr (3, [.ref w2])), (w2, .inl (c 2, 4 * n2, .inr (.inl g)))] H → va_D A [(h, .inr (3, [.ref w])), (w, .inl (c 2, 4 * n, .inr (.inl (fun j => if 4 * i ≤ j ∧ j < 4 * i + v then f j ||| g (4 * k + (j - 4 * i)) else f j)))), (h2, .inr (3, [.ref w2])), (w2, .inl (c 2, 4 * n2, .inr (.inl g)))] → va_S A s.heap H locs → ∀ ls : Array Slot, lv_has ls 5 [(4, .int (zI ((v : Nat) : Int))), (0, .ref h), (1, .int (zI ((i : Nat) : Int))), (2, .ref h2), (3, .int (zI ((k : Nat) : Int)))] → W p l e (headSpec w_Se_addAll rm_addAll).room s m ([.ref h, .int (zI ((i : Nat) : Int)), .ref h2, .int (zI ((k : Nat) : Int))] : List Value).toArray below meth c0 H locs 0 0 Q (F0 m 19 ls []) := by
    intro k_
    induction k_ with
    | zero => intro v hk_; exact absurd hk_ (Nat.not_lt_zero _)
    | succ k_ ih_19 =>
      intro v hk_ hv H locs hP hD hS ls hl
      refine lv_iload hx hb d_Se_addAll_19 (lv_at hl 0 rfl) ?_
      refine lv_iconst (v := zI 4) hx hb d_Se_addAll_21 (by decide) ?_
      refine z_icmp_ge (tgt := 56) hx hb (by omega) d_Se_addAll_22 (by decide) (fun hc_22 => ?_) (fun hc_22 => ?_)
      · obtain rfl : v = 4 := by omega
        subst hQ
        exact W.vret hx hb hr (fun t9 ht hW => ⟨⟨(), rfl, trivial, by show va_P _ _ _ t9.heap; rw [ht]; exact hP⟩, hS.F ht⟩) hS.2.2 d_Se_addAll_56
      · refine lv_aload_n hx hb d_Se_addAll_25 rfl (lv_at hl 1 rfl) ?_
        refine va_get (D := D) (ci := 3) (v := .ref w) (C := R_Se) (T := T_Se) (N := 1) hx hb hts (fun w h => List.mem_cons_of_mem _ (inA_Se w h)) hown hK hP 0 rfl rfl 0 (by decide) (hw k_Se_f20) (fun _ h9 => h9) rfl d_Se_addAll_26 ?_
        refine lv_iload_n hx hb d_Se_addAll_29 rfl (lv_at hl 2 rfl) ?_
        refine lv_iconst (v := zI 4) hx hb d_Se_addAll_30 (by decide) ?_
        refine z_imul hx hb d_Se_addAll_31 ?_
        refine lv_iload hx hb d_Se_addAll_32 (lv_at hl 0 rfl) ?_
        refine z_iadd hx hb d_Se_addAll_34 ?_
        refine lv_dup2_11 hx hb d_Se_addAll_35 rfl rfl ?_
        refine z_lald hx hb hK hP 1 2 rfl rfl (4 * i + v) (by omega) (by omega) (by omega) d_Se_addAll_36 ?_
        refine lv_aload_n hx hb d_Se_addAll_37 rfl (lv_at hl 3 rfl) ?_
        refine va_get (D := D) (ci := 3) (v := .ref w2) (C := R_Se) (T := T_Se) (N := 1) hx hb hts (fun w h => List.mem_cons_of_mem _ (inA_Se w h)) hown hK hP 2 rfl rfl 0 (by decide) (hw k_Se_f20) (fun _ h9 => h9) rfl d_Se_addAll_38 ?_
        refine lv_iload_n hx hb d_Se_addAll_41 rfl (lv_at hl 4 rfl) ?_
        refine lv_iconst (v := zI 4) hx hb d_Se_addAll_42 (by decide) ?_
        refine z_imul hx hb d_Se_addAll_43 ?_
        refine lv_iload hx hb d_Se_addAll_44 (lv_at hl 0 rfl) ?_
        refine z_iadd hx hb d_Se_addAll_46 ?_
        refine z_lald hx hb hK hP 3 2 rfl rfl (4 * k + v) (by omega) (by omega) (by omega) d_Se_addAll_47 ?_
        refine lv_lor hx hb d_Se_addAll_48 ?_
        refine z_last hx hb hK hP hD hS 1 2 rfl rfl (4 * i + v) (by omega) (by omega) (by omega) d_Se_addAll_49 (fun H locs hP hD hS => ?_)
        have hP : va_P D vwCl [(h, .inr (3, [.ref w])), (w, .inl (c 2, 4 * n, .inr (.inl (vp_updL (fun j => if 4 * i ≤ j ∧ j < 4 * i + v then f j ||| g (4 * k + (j - 4 * i)) else f j) (4 * i + v) (((fun j => if 4 * i ≤ j ∧ j < 4 * i + v then f j ||| g (4 * k + (j - 4 * i)) else f j) (4 * i + v)) ||| (g (4 * k + v))))))), (h2, .inr (3, [.ref w2])), (w2, .inl (c 2, 4 * n2, .inr (.inl g)))] H := hP
        have hD : va_D A [(h, .inr (3, [.ref w])), (w, .inl (c 2, 4 * n, .inr (.inl (vp_updL (fun j => if 4 * i ≤ j ∧ j < 4 * i + v then f j ||| g (4 * k + (j - 4 * i)) else f j) (4 * i + v) (((fun j => if 4 * i ≤ j ∧ j < 4 * i + v then f j ||| g (4 * k + (j - 4 * i)) else f j) (4 * i + v)) ||| (g (4 * k + v))))))), (h2, .inr (3, [.ref w2])), (w2, .inl (c 2, 4 * n2, .inr (.inl g)))] := hD
        refine lv_iinc (v := zI ((v + 1 : Nat) : Int)) (lv' := [(4, .int (zI ((v + 1 : Nat) : Int))), (0, .ref h), (1, .int (zI ((i : Nat) : Int))), (2, .ref h2), (3, .int (zI ((k : Nat) : Int)))]) hx hb d_Se_addAll_50 hl (k := 0) rfl (z_incN _ 1) (by decide) rfl (fun ls hl => ?_)
        refine lv_goto (tgt := 19) hx hb d_Se_addAll_53 (by decide) ?_
        exact ih_19 (v + 1) (by omega) (by omega) _ _ (by rw [← z_or_step]; dsimp only at hP; rw [if_neg (show ¬ (4 * i ≤ 4 * i + v ∧ 4 * i + v < 4 * i + v) by omega)] at hP; exact hP) (z_D_congr (by rfl) hD) hS _ (lv_sub hl [0, 1, 2, 3, 4] rfl)
  exact lp_19 _ 0 (Nat.lt_succ_self _) (by omega) _ _ (by rw [show (fun j => if 4 * i ≤ j ∧ j < 4 * i + 0 then f j ||| g (4 * k + (j - 4 * i)) else f j) = f from funext fun j => if_neg (by omega)]; exact hP) (z_D_congr (by rfl) hD) hS _ (lv_sub hl [0, 1, 2, 3, 4] rfl)

def rm_addSelf : Room := { frames := 1, cells := 0, slots := 0, locals := 21 }
set_option maxHeartbeats 4000000 in
set_option maxRecDepth 100000 in
/-- Sets.addAll of a set of its own, in range -/
theorem c_addSelf (l : Launch) (D : va_G) (c : Nat → ClassId) (h : Nat) (w : Nat) (n : Nat) (f : Nat → Int64) (i : Nat) (k : Nat) (hn : n < 100000) (hi : i < n) (hk : k < n) : Met l y_Se_addAll w_Se_addAll rm_addSelf (va_Pc [.ref h, .int (zI ((i : Nat) : Int)), .ref h, .int (zI ((k : Nat) : Int))] (fun U => (va_P D vwCl [(h, .inr (3, [.ref w])), (w, .inl (c 2, 4 * n, .inr (.inl f)))] U.heap ∧ va_D (fun _ => True) [(h, .inr (3, [.ref w])), (w, .inl (c 2, 4 * n, .inr (.inl f)))]) ∧ zK D c U)) (va_Qv (fun (u : Unit) => True) (fun (u : Unit) t9 => va_P D vwCl [(h, .inr (3, [.ref w])), (w, .inl (c 2, 4 * n, .inr (.inl (zor f i f k))))] t9.heap) (zA [(h, .inr (3, [.ref w])), (w, .inl (c 2, 4 * n, .inr (.inl f)))])) 0 0 (zA [(h, .inr (3, [.ref w])), (w, .inl (c 2, 4 * n, .inr (.inl f)))]) := by
  refine Met.ofW (cc := b_Se_addAll) (maxL := 5) (ret := none) (by decide) rfl ?_
  intro p e s m args below meth c0 s₁ B hml hv
  obtain ⟨rfl, ⟨hP, hD0⟩, hKN⟩ := hv
  have hK := hKN.1
  have hN := hKN.2
  have hx := B.exec
  have hb := B.bytes
  have hr := B.returns
  have hts := atoms_spec (ws := w_Se_addAll) B.pre
  have hw : ∀ {w : Cond}, w ∈ ALLW → w.before _ s = true := fun h => hts _ (List.mem_cons_of_mem _ h)
  have hown : s.vm.findClass R_Se = some m.cls := findClass_of_methodNamed B.named
  have hlocks := B.notSynchronized
  have hD : va_D (zA [(h, .inr (3, [.ref w])), (w, .inl (c 2, 4 * n, .inr (.inl f)))]) [(h, .inr (3, [.ref w])), (w, .inl (c 2, 4 * n, .inr (.inl f)))] := ⟨hD0.1, fun k q h => List.mem_map.mpr ⟨q, List.mem_of_getElem? h, rfl⟩⟩
  generalize hAe : zA [(h, .inr (3, [.ref w])), (w, .inl (c 2, 4 * n, .inr (.inl f)))] = A at hD ⊢
  have hS : va_S A s.heap s.heap [] := va_S.rf
  have hP : va_P D vwCl [(h, .inr (3, [.ref w])), (w, .inl (c 2, 4 * n, .inr (.inl f)))] s.heap := hP
  have hl := lv_entry ([.ref h, .int (zI ((i : Nat) : Int)), .ref h, .int (zI ((k : Nat) : Int))]) (n := 5) (Nat.le_of_ble_eq_true rfl)
  rw [lg_entry_eq]
  generalize (lg_sl ([.ref h, .int (zI ((i : Nat) : Int)), .ref h, .int (zI ((k : Nat) : Int))]) ++ List.replicate (5 - (lg_sl ([.ref h, .int (zI ((i : Nat) : Int)), .ref h, .int (zI ((k : Nat) : Int))])).length) Slot.unset).toArray = ls at hl ⊢
  have hl : lv_has ls 5 [(0, .ref h), (1, .int (zI ((i : Nat) : Int))), (2, .ref h), (3, .int (zI ((k : Nat) : Int)))] := hl
  generalize hQ : MQ below _ _ _ _ _ _ = Q
  refine lv_aload_n hx hb d_Se_addAll_0 rfl (lv_at hl 0 rfl) ?_
  refine lv_iload_n hx hb d_Se_addAll_1 rfl (lv_at hl 1 rfl) ?_
  have hPc : va_P D vwCl [(h, .inr (3, [.ref w])), (w, .inl (c 2, 4 * n, .inr (.inl f)))] s.heap := hP.sub (ws' := [(h, .inr (3, [.ref w])), (w, .inl (c 2, 4 * n, .inr (.inl f)))]) [0, 1] rfl
  refine vp_callSi (va_runV (rm := rm_hasSet) (As := [.int (zI ((i : Nat) : Int))]) (rest := []) ⟨hx, hb, hml, hown, hts⟩ (c_hasSet l D c h w n f i (by omega) (by omega)) (cwV 1 hts (gWV k_Se_m24 k_i_Se_hasSet k_v_Se_hasSet k_n_Se k_c_Se_hasSet) rfl rfl rfl (by decide +kernel) ⟨Nat.le_of_ble_eq_true rfl, Nat.le_of_ble_eq_true rfl⟩) ⟨zblind, va_recv hK hPc (ci := 3) (q0 := 0) rfl rfl, fun U hU hW => ⟨rfl, by rw [hU]; exact hPc, hKN.moved hW⟩⟩ rfl rfl hl.1 rfl (lv_room (Nat.le_of_ble_eq_true rfl)) d_Se_addAll_2 ⟨Nat.zero_le _, Nat.zero_le _⟩).run (fun r hr_1 => ?_)
  subst hr_1
  refine z_ifeq_B (tgt := 56) hx hb d_Se_addAll_5 (by decide) (fun hc_5 => absurd hc_5 (by simp_all)) (fun hc_5 => ?_)
  refine lv_aload_n hx hb d_Se_addAll_8 rfl (lv_at hl 2 rfl) ?_
  refine lv_iload_n hx hb d_Se_addAll_9 rfl (lv_at hl 3 rfl) ?_
  have hPc : va_P D vwCl [(h, .inr (3, [.ref w])), (w, .inl (c 2, 4 * n, .inr (.inl f)))] s.heap := hP.sub (ws' := [(h, .inr (3, [.ref w])), (w, .inl (c 2, 4 * n, .inr (.inl f)))]) [0, 1] rfl
  refine vp_callSi (va_runV (rm := rm_hasSet) (As := [.int (zI ((k : Nat) : Int))]) (rest := []) ⟨hx, hb, hml, hown, hts⟩ (c_hasSet l D c h w n f k (by omega) (by omega)) (cwV 1 hts (gWV k_Se_m24 k_i_Se_hasSet k_v_Se_hasSet k_n_Se k_c_Se_hasSet) rfl rfl rfl (by decide +kernel) ⟨Nat.le_of_ble_eq_true rfl, Nat.le_of_ble_eq_true rfl⟩) ⟨zblind, va_recv hK hPc (ci := 3) (q0 := 0) rfl rfl, fun U hU hW => ⟨rfl, by rw [hU]; exact hPc, hKN.moved hW⟩⟩ rfl rfl hl.1 rfl (lv_room (Nat.le_of_ble_eq_true rfl)) d_Se_addAll_10 ⟨Nat.zero_le _, Nat.zero_le _⟩).run (fun r hr_2 => ?_)
  subst hr_2
  refine z_ifeq_B (tgt := 56) hx hb d_Se_addAll_13 (by decide) (fun hc_13 => absurd hc_13 (by simp_all)) (fun hc_13 => ?_)
  refine lv_iconst (v := zI 0) hx hb d_Se_addAll_16 (by decide) ?_
  refine lv_istore (lv' := [(4, .int (zI 0)), (0, .ref h), (1, .int (zI ((i : Nat) : Int))), (2, .ref h), (3, .int (zI ((k : Nat) : Int)))]) hx hb d_Se_addAll_17 hl (by decide) rfl (fun ls hl => ?_)
  have lp_19 : ∀ (k_ : Nat) (v : Nat), 4 - v < k_ → (v ≤ 4) → ∀ (H : Heap) (locs : List Loc), va_P D vwCl [(h, .inr (3, [.ref w])), (w, .inl (c 2, 4 * n, .inr (.inl (fun j => if 4 * i ≤ j ∧ j < 4 * i + v then f j ||| f (4 * k + (j - 4 * i)) else f j))))] H → va_D A [(h, .inr (3, [.ref w])), (w, .inl (c 2, 4 * n, .inr (.inl (fun j => if 4 * i ≤ j ∧ j < 4 * i + v then f j ||| f (4 * k + (j - 4 * i)) else f j))))] → va_S A s.heap H locs → ∀ ls : Array Slot, lv_has ls 5 [(4, .int (zI ((v : Nat) : Int))), (0, .ref h), (1, .int (zI ((i : Nat) : Int))), (2, .ref h), (3, .int (zI ((k : Nat) : Int)))] → W p l e (headSpec w_Se_addAll rm_addSelf).room s m ([.ref h, .int (zI ((i : Nat) : Int)), .ref h, .int (zI ((k : Nat) : Int))] : List Value).toArray below meth c0 H locs 0 0 Q (F0 m 19 ls []) := by
    intro k_
    induction k_ with
    | zero => intro v hk_; exact absurd hk_ (Nat.not_lt_zero _)
    | succ k_ ih_19 =>
      intro v hk_ hv H locs hP hD hS ls hl
      refine lv_iload hx hb d_Se_addAll_19 (lv_at hl 0 rfl) ?_
      refine lv_iconst (v := zI 4) hx hb d_Se_addAll_21 (by decide) ?_
      refine z_icmp_ge (tgt := 56) hx hb (by omega) d_Se_addAll_22 (by decide) (fun hc_22 => ?_) (fun hc_22 => ?_)
      · obtain rfl : v = 4 := by omega
        subst hQ
        exact W.vret hx hb hr (fun t9 ht hW => ⟨⟨(), rfl, trivial, by show va_P _ _ _ t9.heap; rw [ht]; exact hP⟩, hS.F ht⟩) hS.2.2 d_Se_addAll_56
      · refine lv_aload_n hx hb d_Se_addAll_25 rfl (lv_at hl 1 rfl) ?_
        refine va_get (D := D) (ci := 3) (v := .ref w) (C := R_Se) (T := T_Se) (N := 1) hx hb hts (fun w h => List.mem_cons_of_mem _ (inA_Se w h)) hown hK hP 0 rfl rfl 0 (by decide) (hw k_Se_f20) (fun _ h9 => h9) rfl d_Se_addAll_26 ?_
        refine lv_iload_n hx hb d_Se_addAll_29 rfl (lv_at hl 2 rfl) ?_
        refine lv_iconst (v := zI 4) hx hb d_Se_addAll_30 (by decide) ?_
        refine z_imul hx hb d_Se_addAll_31 ?_
        refine lv_iload hx hb d_Se_addAll_32 (lv_at hl 0 rfl) ?_
        refine z_iadd hx hb d_Se_addAll_34 ?_
        refine lv_dup2_11 hx hb d_Se_addAll_35 rfl rfl ?_
        refine z_lald hx hb hK hP 1 2 rfl rfl (4 * i + v) (by omega) (by omega) (by omega) d_Se_addAll_36 ?_
        refine lv_aload_n hx hb d_Se_addAll_37 rfl (lv_at hl 3 rfl) ?_
        refine va_get (D := D) (ci := 3) (v := .ref w) (C := R_Se) (T := T_Se) (N := 1) hx hb hts (fun w h => List.mem_cons_of_mem _ (inA_Se w h)) hown hK hP 0 rfl rfl 0 (by decide) (hw k_Se_f20) (fun _ h9 => h9) rfl d_Se_addAll_38 ?_
        refine lv_iload_n hx hb d_Se_addAll_41 rfl (lv_at hl 4 rfl) ?_
        refine lv_iconst (v := zI 4) hx hb d_Se_addAll_42 (by decide) ?_
        refine z_imul hx hb d_Se_addAll_43 ?_
        refine lv_iload hx hb d_Se_addAll_44 (lv_at hl 0 rfl) ?_
        refine z_iadd hx hb d_Se_addAll_46 ?_
        refine z_lald hx hb hK hP 1 2 rfl rfl (4 * k + v) (by omega) (by omega) (by omega) d_Se_addAll_47 ?_
        refine lv_lor hx hb d_Se_addAll_48 ?_
        refine z_last hx hb hK hP hD hS 1 2 rfl rfl (4 * i + v) (by omega) (by omega) (by omega) d_Se_addAll_49 (fun H locs hP hD hS => ?_)
        have hP : va_P D vwCl [(h, .inr (3, [.ref w])), (w, .inl (c 2, 4 * n, .inr (.inl (vp_updL (fun j => if 4 * i ≤ j ∧ j < 4 * i + v then f j ||| f (4 * k + (j - 4 * i)) else f j) (4 * i + v) (((fun j => if 4 * i ≤ j ∧ j < 4 * i + v then f j ||| f (4 * k + (j - 4 * i)) else f j) (4 * i + v)) ||| ((fun j => if 4 * i ≤ j ∧ j < 4 * i + v then f j ||| f (4 * k + (j - 4 * i)) else f j) (4 * k + v)))))))] H := hP
        have hD : va_D A [(h, .inr (3, [.ref w])), (w, .inl (c 2, 4 * n, .inr (.inl (vp_updL (fun j => if 4 * i ≤ j ∧ j < 4 * i + v then f j ||| f (4 * k + (j - 4 * i)) else f j) (4 * i + v) (((fun j => if 4 * i ≤ j ∧ j < 4 * i + v then f j ||| f (4 * k + (j - 4 * i)) else f j) (4 * i + v)) ||| ((fun j => if 4 * i ≤ j ∧ j < 4 * i + v then f j ||| f (4 * k + (j - 4 * i)) else f j) (4 * k + v)))))))] := hD
        refine lv_iinc (v := zI ((v + 1 : Nat) : Int)) (lv' := [(4, .int (zI ((v + 1 : Nat) : Int))), (0, .ref h), (1, .int (zI ((i : Nat) : Int))), (2, .ref h), (3, .int (zI ((k : Nat) : Int)))]) hx hb d_Se_addAll_50 hl (k := 0) rfl (z_incN _ 1) (by decide) rfl (fun ls hl => ?_)
        refine lv_goto (tgt := 19) hx hb d_Se_addAll_53 (by decide) ?_
        exact ih_19 (v + 1) (by omega) (by omega) _ _ (by rw [← z_or_step]; dsimp only at hP; rw [if_neg (show ¬ (4 * i ≤ 4 * i + v ∧ 4 * i + v < 4 * i + v) by omega), if_neg (show ¬ (4 * i ≤ 4 * k + v ∧ 4 * k + v < 4 * i + v) by omega)] at hP; exact hP) (z_D_congr (by rfl) hD) hS _ (lv_sub hl [0, 1, 2, 3, 4] rfl)
  exact lp_19 _ 0 (Nat.lt_succ_self _) (by omega) _ _ (by rw [show (fun j => if 4 * i ≤ j ∧ j < 4 * i + 0 then f j ||| f (4 * k + (j - 4 * i)) else f j) = f from funext fun j => if_neg (by omega)]; exact hP) (z_D_congr (by rfl) hD) hS _ (lv_sub hl [0, 1, 2, 3, 4] rfl)
