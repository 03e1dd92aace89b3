def lfw (fw iw lw : Nat → Int64) (i k : Nat) : Nat → (Nat → Int64)
  | 0 => fw
  | n + 1 => if zbt lw i n = true then zor (lfw fw iw lw i k n) n iw k else lfw fw iw lw i k n
theorem lfw_T {fw iw lw : Nat → Int64} {i k n : Nat} (h : zbt lw i n = true) : lfw fw iw lw i k (n + 1) = zor (lfw fw iw lw i k n) n iw k := by rw [lfw, if_pos h]
theorem lfw_F {fw iw lw : Nat → Int64} {i k n : Nat} (h : zbt lw i n = false) : lfw fw iw lw i k (n + 1) = lfw fw iw lw i k n := by rw [lfw, if_neg (by rw [h]; decide)]
def jrI (iw : Nat → Int64) (mb : Nat → Bool) (q : Nat) : Nat → Int64 := if mb q = true then zor iw q iw (q + 1) else iw
theorem jrI_T {iw : Nat → Int64} {mb : Nat → Bool} {q : Nat} (h : mb q = true) : jrI iw mb q = zor iw q iw (q + 1) := if_pos h
theorem jrI_F {iw : Nat → Int64} {mb : Nat → Bool} {q : Nat} (h : mb q = false) : jrI iw mb q = iw := if_neg (by rw [h]; decide)
def jrL0 (lw : Nat → Int64) (mb : Nat → Bool) (q : Nat) : Nat → Int64 := if mb (q + 1) = true then lw else zclr lw q
theorem jrL0_T {lw : Nat → Int64} {mb : Nat → Bool} {q : Nat} (h : mb (q + 1) = true) : jrL0 lw mb q = lw := if_pos h
theorem jrL0_F {lw : Nat → Int64} {mb : Nat → Bool} {q : Nat} (h : mb (q + 1) = false) : jrL0 lw mb q = zclr lw q := if_neg (by rw [h]; decide)

def rm_hasPart : Room := { frames := 0, cells := 0, slots := 0, locals := 0 }
set_option maxHeartbeats 4000000 in
set_option maxRecDepth 100000 in
/-- Draft.hasPart -/
theorem c_hasPart (l : Launch) (D : va_G) (c : Nat → ClassId) (d : Nat) (dn : Nat) (df : Nat) (dfw : Nat) (di : Nat) (diw : Nat) (dl : Nat) (dlw : Nat) (dm : Nat) (nm : Nat → Nat) (fw : Nat → Int64) (iw : Nat → Int64) (lw : Nat → Int64) (mb : Nat → Bool) (nc : Nat) (pp : Nat) (z : Int) (hp : pp ≤ 40) (hz : -10 ≤ z ∧ z < 100) : Met l y_Dr_hasPart w_Dr_hasPart rm_hasPart (va_Pc [.ref d, .int (zI z)] (fun U => va_P D vwCl [(d, .inr (0, [.ref dn, .ref df, .ref di, .ref dl, .ref dm, .int (zI ((nc : Nat) : Int)), .int (zI ((pp : Nat) : Int))])), (dm, .inl (c 1, 40, .inl (fun j => zB (mb j))))] U.heap ∧ zK D c U)) (vp_Si (fun r => r = (zB (decide (0 ≤ z ∧ z < ((pp : Nat) : Int)))))) 0 0 (fun _ => False) := by
  refine Met.ofW (cc := b_Dr_hasPart) (maxL := 2) (ret := (some .boolean)) (by decide) rfl ?_
  intro p e s m args below meth c0 s₁ B hml hv
  obtain ⟨rfl, hP, hKN⟩ := hv
  have hK := hKN.1
  have hN := hKN.2
  have hx := B.exec
  have hb := B.bytes
  have hr := B.returns
  have hts := atoms_spec (ws := w_Dr_hasPart) B.pre
  have hw : ∀ {w : Cond}, w ∈ ALLW → w.before _ s = true := fun h => hts _ (List.mem_cons_of_mem _ h)
  have hown : s.vm.findClass R_Dr = some m.cls := findClass_of_methodNamed B.named
  have hlocks := B.notSynchronized
  have hl := lv_entry ([.ref d, .int (zI z)]) (n := 2) (Nat.le_of_ble_eq_true rfl)
  rw [lg_entry_eq]
  generalize (lg_sl ([.ref d, .int (zI z)]) ++ List.replicate (2 - (lg_sl ([.ref d, .int (zI z)])).length) Slot.unset).toArray = ls at hl ⊢
  have hl : lv_has ls 2 [(0, .ref d), (1, .int (zI z))] := hl
  generalize hQ : MQ below _ _ _ _ _ _ = Q
  refine lv_iload_n hx hb d_Dr_hasPart_0 rfl (lv_at hl 1 rfl) ?_
  refine z_if_lt (tgt := 25) hx hb (by omega) d_Dr_hasPart_1 (by decide) (fun hc_1 => ?_) (fun hc_1 => ?_)
  · refine lv_iconst (v := zI 0) hx hb d_Dr_hasPart_25 (by decide) ?_
    subst hQ
    exact W.zret (ty := .boolean) (v := (zI 0)) hx hb hr (by decide) (fun t9 ht hW => ⟨_, rfl, (by rw [decide_eq_false (by omega)]; decide), ht⟩) (fun q hq => absurd hq List.not_mem_nil) d_Dr_hasPart_26
  · refine lv_iload_n hx hb d_Dr_hasPart_4 rfl (lv_at hl 1 rfl) ?_
    refine lv_aload_n hx hb d_Dr_hasPart_5 rfl (lv_at hl 0 rfl) ?_
    refine va_get (D := D) (ci := 0) (v := .int (zI ((pp : Nat) : Int))) (C := R_Dr) (T := T_Dr) (N := 7) hx hb hts (fun w h => List.mem_cons_of_mem _ (inA_Dr w h)) hown hK hP 0 rfl rfl 6 (by decide) (hw k_Dr_f34) (fun _ h9 => h9) rfl d_Dr_hasPart_6 ?_
    refine z_icmp_ge (tgt := 25) hx hb (by omega) d_Dr_hasPart_9 (by decide) (fun hc_9 => ?_) (fun hc_9 => ?_)
    · refine lv_iconst (v := zI 0) hx hb d_Dr_hasPart_25 (by decide) ?_
      subst hQ
      exact W.zret (ty := .boolean) (v := (zI 0)) hx hb hr (by decide) (fun t9 ht hW => ⟨_, rfl, (by rw [decide_eq_false (by omega)]; decide), ht⟩) (fun q hq => absurd hq List.not_mem_nil) d_Dr_hasPart_26
    · refine lv_iload_n hx hb d_Dr_hasPart_12 rfl (lv_at hl 1 rfl) ?_
      refine lv_aload_n hx hb d_Dr_hasPart_13 rfl (lv_at hl 0 rfl) ?_
      refine va_get (D := D) (ci := 0) (v := .ref dm) (C := R_Dr) (T := T_Dr) (N := 7) hx hb hts (fun w h => List.mem_cons_of_mem _ (inA_Dr w h)) hown hK hP 0 rfl rfl 4 (by decide) (hw k_Dr_f30) (fun _ h9 => h9) rfl d_Dr_hasPart_14 ?_
      refine z_alen hx hb hK hP 1 1 rfl rfl d_Dr_hasPart_17 ?_
      refine z_top (v2 := .int (zI (40 : Int))) rfl ?_
      refine z_icmp_ge (tgt := 25) hx hb (by omega) d_Dr_hasPart_18 (by decide) (fun hc_18 => absurd hc_18 (by omega)) (fun hc_18 => ?_)
      refine lv_iconst (v := zI 1) hx hb d_Dr_hasPart_21 (by decide) ?_
      refine lv_goto (tgt := 26) hx hb d_Dr_hasPart_22 (by decide) ?_
      subst hQ
      exact W.zret (ty := .boolean) (v := (zI 1)) hx hb hr (by decide) (fun t9 ht hW => ⟨_, rfl, (by rw [decide_eq_true (by omega)]; decide), ht⟩) (fun q hq => absurd hq List.not_mem_nil) d_Dr_hasPart_26

def rm_letFollow : Room := { frames := 3, cells := 0, slots := 0, locals := 65 }
set_option maxHeartbeats 4000000 in
set_option maxRecDepth 100000 in
/-- Draft.letFollow -/
theorem c_letFollow (l : Launch) (D : va_G) (c : Nat → ClassId) (d : Nat) (dn : Nat) (df : Nat) (dfw : Nat) (di : Nat) (diw : Nat) (dl : Nat) (dlw : Nat) (dm : Nat) (nm : Nat → Nat) (fw : Nat → Int64) (iw : Nat → Int64) (lw : Nat → Int64) (mb : Nat → Bool) (nc : Nat) (pp : Nat) (i : Nat) (k : Nat) (hc : nc ≤ 255) (hi : i < 40) (hk : k < 40) : Met l y_Dr_letFollow w_Dr_letFollow rm_letFollow (va_Pc [.ref d, .int (zI ((i : Nat) : Int)), .int (zI ((k : Nat) : Int))] (fun U => (va_P D vwCl [(d, .inr (0, [.ref dn, .ref df, .ref di, .ref dl, .ref dm, .int (zI ((nc : Nat) : Int)), .int (zI ((pp : Nat) : Int))])), (df, .inr (3, [.ref dfw])), (dfw, .inl (c 2, 4 * 255, .inr (.inl fw))), (di, .inr (3, [.ref diw])), (diw, .inl (c 2, 4 * 40, .inr (.inl iw))), (dl, .inr (3, [.ref dlw])), (dlw, .inl (c 2, 4 * 40, .inr (.inl lw)))] U.heap ∧ va_D (fun _ => True) [(d, .inr (0, [.ref dn, .ref df, .ref di, .ref dl, .ref dm, .int (zI ((nc : Nat) : Int)), .int (zI ((pp : Nat) : Int))])), (df, .inr (3, [.ref dfw])), (dfw, .inl (c 2, 4 * 255, .inr (.inl fw))), (di, .inr (3, [.ref diw])), (diw, .inl (c 2, 4 * 40, .inr (.inl iw))), (dl, .inr (3, [.ref dlw])), (dlw, .inl (c 2, 4 * 40, .inr (.inl lw)))]) ∧ zK D c U)) (va_Qv (fun (u : Unit) => True) (fun (u : Unit) t9 => va_P D vwCl [(d, .inr (0, [.ref dn, .ref df, .ref di, .ref dl, .ref dm, .int (zI ((nc : Nat) : Int)), .int (zI ((pp : Nat) : Int))])), (df, .inr (3, [.ref dfw])), (dfw, .inl (c 2, 4 * 255, .inr (.inl (lfw fw iw lw i k nc)))), (di, .inr (3, [.ref diw])), (diw, .inl (c 2, 4 * 40, .inr (.inl iw))), (dl, .inr (3, [.ref dlw])), (dlw, .inl (c 2, 4 * 40, .inr (.inl lw)))] t9.heap) (zA [(d, .inr (0, [.ref dn, .ref df, .ref di, .ref dl, .ref dm, .int (zI ((nc : Nat) : Int)), .int (zI ((pp : Nat) : Int))])), (df, .inr (3, [.ref dfw])), (dfw, .inl (c 2, 4 * 255, .inr (.inl fw))), (di, .inr (3, [.ref diw])), (diw, .inl (c 2, 4 * 40, .inr (.inl iw))), (dl, .inr (3, [.ref dlw])), (dlw, .inl (c 2, 4 * 40, .inr (.inl lw)))])) 0 0 (zA [(d, .inr (0, [.ref dn, .ref df, .ref di, .ref dl, .ref dm, .int (zI ((nc : Nat) : Int)), .int (zI ((pp : Nat) : Int))])), (df, .inr (3, [.ref dfw])), (dfw, .inl (c 2, 4 * 255, .inr (.inl fw))), (di, .inr (3, [.ref diw])), (diw, .inl (c 2, 4 * 40, .inr (.inl iw))), (dl, .inr (3, [.ref dlw])), (dlw, .inl (c 2, 4 * 40, .inr (.inl lw)))]) := by
  refine Met.ofW (cc := b_Dr_letFollow) (maxL := 4) (ret := none) (by decide) rfl ?_
  intro p e s m args below meth c0 s₁ B hml hv
  obtain ⟨rfl, ⟨hP, hD0⟩, hKN⟩ := hv
  have hK := hKN.1
  have hN := hKN.2
  have hx := B.exec
  have hb := B.bytes
  have hr := B.returns
  have hts := atoms_spec (ws := w_Dr_letFollow) B.pre
  have hw : ∀ {w : Cond}, w ∈ ALLW → w.before _ s = true := fun h => hts _ (List.mem_cons_of_mem _ h)
  have hown : s.vm.findClass R_Dr = some m.cls := findClass_of_methodNamed B.named
  have hlocks := B.notSynchronized
  have hD : va_D (zA [(d, .inr (0, [.ref dn, .ref df, .ref di, .ref dl, .ref dm, .int (zI ((nc : Nat) : Int)), .int (zI ((pp : Nat) : Int))])), (df, .inr (3, [.ref dfw])), (dfw, .inl (c 2, 4 * 255, .inr (.inl fw))), (di, .inr (3, [.ref diw])), (diw, .inl (c 2, 4 * 40, .inr (.inl iw))), (dl, .inr (3, [.ref dlw])), (dlw, .inl (c 2, 4 * 40, .inr (.inl lw)))]) [(d, .inr (0, [.ref dn, .ref df, .ref di, .ref dl, .ref dm, .int (zI ((nc : Nat) : Int)), .int (zI ((pp : Nat) : Int))])), (df, .inr (3, [.ref dfw])), (dfw, .inl (c 2, 4 * 255, .inr (.inl fw))), (di, .inr (3, [.ref diw])), (diw, .inl (c 2, 4 * 40, .inr (.inl iw))), (dl, .inr (3, [.ref dlw])), (dlw, .inl (c 2, 4 * 40, .inr (.inl lw)))] := ⟨hD0.1, fun k q h => List.mem_map.mpr ⟨q, List.mem_of_getElem? h, rfl⟩⟩
  generalize hAe : zA [(d, .inr (0, [.ref dn, .ref df, .ref di, .ref dl, .ref dm, .int (zI ((nc : Nat) : Int)), .int (zI ((pp : Nat) : Int))])), (df, .inr (3, [.ref dfw])), (dfw, .inl (c 2, 4 * 255, .inr (.inl fw))), (di, .inr (3, [.ref diw])), (diw, .inl (c 2, 4 * 40, .inr (.inl iw))), (dl, .inr (3, [.ref dlw])), (dlw, .inl (c 2, 4 * 40, .inr (.inl lw)))] = A at hD ⊢
  have hS : va_S A s.heap s.heap [] := va_S.rf
  have hP : va_P D vwCl [(d, .inr (0, [.ref dn, .ref df, .ref di, .ref dl, .ref dm, .int (zI ((nc : Nat) : Int)), .int (zI ((pp : Nat) : Int))])), (df, .inr (3, [.ref dfw])), (dfw, .inl (c 2, 4 * 255, .inr (.inl fw))), (di, .inr (3, [.ref diw])), (diw, .inl (c 2, 4 * 40, .inr (.inl iw))), (dl, .inr (3, [.ref dlw])), (dlw, .inl (c 2, 4 * 40, .inr (.inl lw)))] s.heap := hP
  have hl := lv_entry ([.ref d, .int (zI ((i : Nat) : Int)), .int (zI ((k : Nat) : Int))]) (n := 4) (Nat.le_of_ble_eq_true rfl)
  rw [lg_entry_eq]
  generalize (lg_sl ([.ref d, .int (zI ((i : Nat) : Int)), .int (zI ((k : Nat) : Int))]) ++ List.replicate (4 - (lg_sl ([.ref d, .int (zI ((i : Nat) : Int)), .int (zI ((k : Nat) : Int))])).length) Slot.unset).toArray = ls at hl ⊢
  have hl : lv_has ls 4 [(0, .ref d), (1, .int (zI ((i : Nat) : Int))), (2, .int (zI ((k : Nat) : Int)))] := hl
  generalize hQ : MQ below _ _ _ _ _ _ = Q
  refine lv_iconst (v := zI 0) hx hb d_Dr_letFollow_0 (by decide) ?_
  refine lv_istore_n (lv' := [(3, .int (zI 0)), (0, .ref d), (1, .int (zI ((i : Nat) : Int))), (2, .int (zI ((k : Nat) : Int)))]) hx hb d_Dr_letFollow_1 rfl hl (by decide) rfl (fun ls hl => ?_)
  have lp_2 : ∀ (k_ : Nat) (v : Nat), nc - v < k_ → (v ≤ nc) → ∀ (H : Heap) (locs : List Loc), va_P D vwCl [(d, .inr (0, [.ref dn, .ref df, .ref di, .ref dl, .ref dm, .int (zI ((nc : Nat) : Int)), .int (zI ((pp : Nat) : Int))])), (df, .inr (3, [.ref dfw])), (dfw, .inl (c 2, 4 * 255, .inr (.inl (lfw fw iw lw i k v)))), (di, .inr (3, [.ref diw])), (diw, .inl (c 2, 4 * 40, .inr (.inl iw))), (dl, .inr (3, [.ref dlw])), (dlw, .inl (c 2, 4 * 40, .inr (.inl lw)))] H → va_D A [(d, .inr (0, [.ref dn, .ref df, .ref di, .ref dl, .ref dm, .int (zI ((nc : Nat) : Int)), .int (zI ((pp : Nat) : Int))])), (df, .inr (3, [.ref dfw])), (dfw, .inl (c 2, 4 * 255, .inr (.inl (lfw fw iw lw i k v)))), (di, .inr (3, [.ref diw])), (diw, .inl (c 2, 4 * 40, .inr (.inl iw))), (dl, .inr (3, [.ref dlw])), (dlw, .inl (c 2, 4 * 40, .inr (.inl lw)))] → va_S A s.heap H locs → ∀ ls : Array Slot, lv_has ls 4 [(3, .int (zI ((v : Nat) : Int))), (0, .ref d), (1, .int (zI ((i : Nat) : Int))), (2, .int (zI ((k : Nat) : Int)))] → W p l e (headSpec w_Dr_letFollow rm_letFollow).room s m ([.ref d, .int (zI ((i : Nat) : Int)), .int (zI ((k : Nat) : Int))] : List Value).toArray below meth c0 H locs 0 0 Q (F0 m 2 ls []) := by
    intro k_
    induction k_ with
    | zero => intro v hk_; exact absurd hk_ (Nat.not_lt_zero _)
    | succ k_ ih_2 =>
      intro v hk_ hv H locs hP hD hS ls hl
      refine lv_iload_n hx hb d_Dr_letFollow_2 rfl (lv_at hl 0 rfl) ?_
      refine lv_aload_n hx hb d_Dr_letFollow_3 rfl (lv_at hl 1 rfl) ?_
      refine va_get (D := D) (ci := 0) (v := .int (zI ((nc : Nat) : Int))) (C := R_Dr) (T := T_Dr) (N := 7) hx hb hts (fun w h => List.mem_cons_of_mem _ (inA_Dr w h)) hown hK hP 0 rfl rfl 5 (by decide) (hw k_Dr_f38) (fun _ h9 => h9) rfl d_Dr_letFollow_4 ?_
      refine z_icmp_ge (tgt := 41) hx hb (by omega) d_Dr_letFollow_7 (by decide) (fun hc_7 => ?_) (fun hc_7 => ?_)
      · have e_ : v = nc := by omega
        rw [e_] at hP
        subst hQ
        exact W.vret hx hb hr (fun t9 ht hW => ⟨⟨(), rfl, trivial, by show va_P _ _ _ t9.heap; rw [ht]; exact hP⟩, hS.F ht⟩) hS.2.2 d_Dr_letFollow_41
      · refine lv_aload_n hx hb d_Dr_letFollow_10 rfl (lv_at hl 1 rfl) ?_
        refine va_get (D := D) (ci := 0) (v := .ref dl) (C := R_Dr) (T := T_Dr) (N := 7) hx hb hts (fun w h => List.mem_cons_of_mem _ (inA_Dr w h)) hown hK hP 0 rfl rfl 3 (by decide) (hw k_Dr_f27) (fun _ h9 => h9) rfl d_Dr_letFollow_11 ?_
        refine lv_iload_n hx hb d_Dr_letFollow_14 rfl (lv_at hl 2 rfl) ?_
        refine lv_iload_n hx hb d_Dr_letFollow_15 rfl (lv_at hl 0 rfl) ?_
        have hPc : va_P D vwCl [(dl, .inr (3, [.ref dlw])), (dlw, .inl (c 2, 4 * 40, .inr (.inl lw)))] H := hP.sub (ws' := [(dl, .inr (3, [.ref dlw])), (dlw, .inl (c 2, 4 * 40, .inr (.inl lw)))]) [5, 6] rfl
        refine vp_callSi (va_runV (rm := rm_holds) (As := [.int (zI ((i : Nat) : Int)), .int (zI ((v : Nat) : Int))]) (rest := []) ⟨hx, hb, hml, hown, hts⟩ (c_holds l D c dl dlw 40 lw i v (by omega) (by omega) (by omega)) (cwV 2 hts (gWV k_Dr_m59 k_i_Se_holds k_v_Se_holds k_n_Se k_c_Se_holds) rfl rfl rfl (by decide +kernel) ⟨Nat.le_of_ble_eq_true rfl, Nat.le_of_ble_eq_true rfl⟩) ⟨zblind, va_recv hK hPc (ci := 3) (q0 := 0) rfl rfl, fun U hU hW => ⟨rfl, by rw [hU]; exact hPc, hKN.moved hW⟩⟩ rfl rfl hl.1 rfl (lv_room (Nat.le_of_ble_eq_true rfl)) d_Dr_letFollow_16 ⟨Nat.zero_le _, Nat.zero_le _⟩).run (fun r hr_1 => ?_)
        subst hr_1
        refine z_ifeq_B (tgt := 35) hx hb d_Dr_letFollow_19 (by decide) (fun hc_19 => ?_) (fun hc_19 => ?_)
        · refine lv_iinc (v := zI ((v + 1 : Nat) : Int)) (lv' := [(3, .int (zI ((v + 1 : Nat) : Int))), (0, .ref d), (1, .int (zI ((i : Nat) : Int))), (2, .int (zI ((k : Nat) : Int)))]) hx hb d_Dr_letFollow_35 hl (k := 0) rfl (z_incN _ 1) (by decide) rfl (fun ls hl => ?_)
          refine lv_goto (tgt := 2) hx hb d_Dr_letFollow_38 (by decide) ?_
          exact ih_2 (v + 1) (by omega) (by omega) _ _ (by rw [lfw_F hc_19]; exact hP) (z_D_congr (by rfl) hD) hS _ (lv_sub hl [0, 1, 2, 3] rfl)
        · refine lv_aload_n hx hb d_Dr_letFollow_22 rfl (lv_at hl 1 rfl) ?_
          refine va_get (D := D) (ci := 0) (v := .ref df) (C := R_Dr) (T := T_Dr) (N := 7) hx hb hts (fun w h => List.mem_cons_of_mem _ (inA_Dr w h)) hown hK hP 0 rfl rfl 1 (by decide) (hw k_Dr_f20) (fun _ h9 => h9) rfl d_Dr_letFollow_23 ?_
          refine lv_iload_n hx hb d_Dr_letFollow_26 rfl (lv_at hl 0 rfl) ?_
          refine lv_aload_n hx hb d_Dr_letFollow_27 rfl (lv_at hl 1 rfl) ?_
          refine va_get (D := D) (ci := 0) (v := .ref di) (C := R_Dr) (T := T_Dr) (N := 7) hx hb hts (fun w h => List.mem_cons_of_mem _ (inA_Dr w h)) hown hK hP 0 rfl rfl 2 (by decide) (hw k_Dr_f24) (fun _ h9 => h9) rfl d_Dr_letFollow_28 ?_
          refine lv_iload_n hx hb d_Dr_letFollow_31 rfl (lv_at hl 3 rfl) ?_
          have hPc : va_P D vwCl [(df, .inr (3, [.ref dfw])), (dfw, .inl (c 2, 4 * 255, .inr (.inl (lfw fw iw lw i k v)))), (di, .inr (3, [.ref diw])), (diw, .inl (c 2, 4 * 40, .inr (.inl iw)))] H := hP.sub (ws' := [(df, .inr (3, [.ref dfw])), (dfw, .inl (c 2, 4 * 255, .inr (.inl (lfw fw iw lw i k v)))), (di, .inr (3, [.ref diw])), (diw, .inl (c 2, 4 * 40, .inr (.inl iw)))]) [1, 2, 3, 4] rfl
          have hDc : va_D A [(df, .inr (3, [.ref dfw])), (dfw, .inl (c 2, 4 * 255, .inr (.inl (lfw fw iw lw i k v)))), (di, .inr (3, [.ref diw])), (diw, .inl (c 2, 4 * 40, .inr (.inl iw)))] := hD.sub (ws' := [(df, .inr (3, [.ref dfw])), (dfw, .inl (c 2, 4 * 255, .inr (.inl (lfw fw iw lw i k v)))), (di, .inr (3, [.ref diw])), (diw, .inl (c 2, 4 * 40, .inr (.inl iw)))]) [1, 2, 3, 4] (by decide) rfl
          have hDt : va_D (fun _ => True) [(df, .inr (3, [.ref dfw])), (dfw, .inl (c 2, 4 * 255, .inr (.inl (lfw fw iw lw i k v)))), (di, .inr (3, [.ref diw])), (diw, .inl (c 2, 4 * 40, .inr (.inl iw)))] := hDc.weaken (fun _ _ _ _ => trivial)
          refine z_callv (S := Unit) (w1 := fun u => [(df, .inr (3, [.ref dfw])), (dfw, .inl (c 2, 4 * 255, .inr (.inl (zor (lfw fw iw lw i k v) v iw k)))), (di, .inr (3, [.ref diw])), (diw, .inl (c 2, 4 * 40, .inr (.inl iw)))]) (post := fun u => True) (wc := [(df, .inr (3, [.ref dfw])), (dfw, .inl (c 2, 4 * 255, .inr (.inl (lfw fw iw lw i k v)))), (di, .inr (3, [.ref diw])), (diw, .inl (c 2, 4 * 40, .inr (.inl iw)))]) [1, 2, 3, 4] rfl (fun _ => rfl) hP hD hS (va_runV (rm := rm_addAll) (As := [.int (zI ((v : Nat) : Int)), .ref di, .int (zI ((k : Nat) : Int))]) (rest := []) ⟨hx, hb, hml, hown, hts⟩ (c_addAll l D c df dfw 255 (lfw fw iw lw i k v) v di diw 40 iw k (by omega) (by omega) (by omega) (by omega)) (cwV 3 hts (gWV k_Dr_m55 k_i_Se_addAll k_v_Se_addAll k_n_Se k_c_Se_addAll) rfl rfl rfl (by decide +kernel) ⟨Nat.le_of_ble_eq_true rfl, Nat.le_of_ble_eq_true rfl⟩) ⟨zblindW, va_recv hK hPc (ci := 3) (q0 := 0) rfl rfl, fun U hU hW => ⟨rfl, ⟨by rw [hU]; exact hPc, hDt⟩, hKN.moved hW⟩⟩ rfl rfl hl.1 rfl (lv_room (Nat.le_of_ble_eq_true rfl)) d_Dr_letFollow_32 ⟨Nat.zero_le _, Nat.zero_le _⟩) (fun u H locs hp_2 hP hD hS => ?_)
          have hP : va_P D vwCl [(d, .inr (0, [.ref dn, .ref df, .ref di, .ref dl, .ref dm, .int (zI ((nc : Nat) : Int)), .int (zI ((pp : Nat) : Int))])), (df, .inr (3, [.ref dfw])), (dfw, .inl (c 2, 4 * 255, .inr (.inl (zor (lfw fw iw lw i k v) v iw k)))), (di, .inr (3, [.ref diw])), (diw, .inl (c 2, 4 * 40, .inr (.inl iw))), (dl, .inr (3, [.ref dlw])), (dlw, .inl (c 2, 4 * 40, .inr (.inl lw)))] H := hP
          have hD : va_D A [(d, .inr (0, [.ref dn, .ref df, .ref di, .ref dl, .ref dm, .int (zI ((nc : Nat) : Int)), .int (zI ((pp : Nat) : Int))])), (df, .inr (3, [.ref dfw])), (dfw, .inl (c 2, 4 * 255, .inr (.inl (zor (lfw fw iw lw i k v) v iw k)))), (di, .inr (3, [.ref diw])), (diw, .inl (c 2, 4 * 40, .inr (.inl iw))), (dl, .inr (3, [.ref dlw])), (dlw, .inl (c 2, 4 * 40, .inr (.inl lw)))] := hD
          refine lv_iinc (v := zI ((v + 1 : Nat) : Int)) (lv' := [(3, .int (zI ((v + 1 : Nat) : Int))), (0, .ref d), (1, .int (zI ((i : Nat) : Int))), (2, .int (zI ((k : Nat) : Int)))]) hx hb d_Dr_letFollow_35 hl (k := 0) rfl (z_incN _ 1) (by decide) rfl (fun ls hl => ?_)
          refine lv_goto (tgt := 2) hx hb d_Dr_letFollow_38 (by decide) ?_
          exact ih_2 (v + 1) (by omega) (by omega) _ _ (by rw [lfw_T hc_19]; exact hP) (z_D_congr (by rfl) hD) hS _ (lv_sub hl [0, 1, 2, 3] rfl)
  exact lp_2 _ 0 (Nat.lt_succ_self _) (by omega) _ _ hP hD hS _ (lv_sub hl [0, 1, 2, 3] rfl)

def rm_dropAll : Room := { frames := 0, cells := 0, slots := 0, locals := 0 }
set_option maxHeartbeats 4000000 in
set_option maxRecDepth 100000 in
/-- Draft.dropAll -/
theorem c_dropAll (l : Launch) (D : va_G) (c : Nat → ClassId) (d : Nat) (dn : Nat) (df : Nat) (dfw : Nat) (di : Nat) (diw : Nat) (dl : Nat) (dlw : Nat) (dm : Nat) (nm : Nat → Nat) (fw : Nat → Int64) (iw : Nat → Int64) (lw : Nat → Int64) (mb : Nat → Bool) (nc : Nat) (pp : Nat)  : Met l y_Dr_dropAll w_Dr_dropAll rm_dropAll (va_Pc [.ref d] (fun U => (va_P D vwCl [(d, .inr (0, [.ref dn, .ref df, .ref di, .ref dl, .ref dm, .int (zI ((nc : Nat) : Int)), .int (zI ((pp : Nat) : Int))]))] U.heap ∧ va_D (fun _ => True) [(d, .inr (0, [.ref dn, .ref df, .ref di, .ref dl, .ref dm, .int (zI ((nc : Nat) : Int)), .int (zI ((pp : Nat) : Int))]))]) ∧ zK D c U)) (va_Qv (fun (u : Unit) => True) (fun (u : Unit) t9 => va_P D vwCl [(d, .inr (0, [.ref dn, .ref df, .ref di, .ref dl, .ref dm, .int (zI 0), .int (zI 0)]))] t9.heap) (zA [(d, .inr (0, [.ref dn, .ref df, .ref di, .ref dl, .ref dm, .int (zI ((nc : Nat) : Int)), .int (zI ((pp : Nat) : Int))]))])) 0 0 (zA [(d, .inr (0, [.ref dn, .ref df, .ref di, .ref dl, .ref dm, .int (zI ((nc : Nat) : Int)), .int (zI ((pp : Nat) : Int))]))]) := by
  refine Met.ofW (cc := b_Dr_dropAll) (maxL := 1) (ret := none) (by decide) rfl ?_
  intro p e s m args below meth c0 s₁ B hml hv
  obtain ⟨rfl, ⟨hP, hD0⟩, hKN⟩ := hv
  have hK := hKN.1
  have hN := hKN.2
  have hx := B.exec
  have hb := B.bytes
  have hr := B.returns
  have hts := atoms_spec (ws := w_Dr_dropAll) B.pre
  have hw : ∀ {w : Cond}, w ∈ ALLW → w.before _ s = true := fun h => hts _ (List.mem_cons_of_mem _ h)
  have hown : s.vm.findClass R_Dr = some m.cls := findClass_of_methodNamed B.named
  have hlocks := B.notSynchronized
  have hD : va_D (zA [(d, .inr (0, [.ref dn, .ref df, .ref di, .ref dl, .ref dm, .int (zI ((nc : Nat) : Int)), .int (zI ((pp : Nat) : Int))]))]) [(d, .inr (0, [.ref dn, .ref df, .ref di, .ref dl, .ref dm, .int (zI ((nc : Nat) : Int)), .int (zI ((pp : Nat) : Int))]))] := ⟨hD0.1, fun k q h => List.mem_map.mpr ⟨q, List.mem_of_getElem? h, rfl⟩⟩
  generalize hAe : zA [(d, .inr (0, [.ref dn, .ref df, .ref di, .ref dl, .ref dm, .int (zI ((nc : Nat) : Int)), .int (zI ((pp : Nat) : Int))]))] = A at hD ⊢
  have hS : va_S A s.heap s.heap [] := va_S.rf
  have hP : va_P D vwCl [(d, .inr (0, [.ref dn, .ref df, .ref di, .ref dl, .ref dm, .int (zI ((nc : Nat) : Int)), .int (zI ((pp : Nat) : Int))]))] s.heap := hP
  have hl := lv_entry ([.ref d]) (n := 1) (Nat.le_of_ble_eq_true rfl)
  rw [lg_entry_eq]
  generalize (lg_sl ([.ref d]) ++ List.replicate (1 - (lg_sl ([.ref d])).length) Slot.unset).toArray = ls at hl ⊢
  have hl : lv_has ls 1 [(0, .ref d)] := hl
  generalize hQ : MQ below _ _ _ _ _ _ = Q
  refine lv_aload_n hx hb d_Dr_dropAll_0 rfl (lv_at hl 0 rfl) ?_
  refine lv_iconst (v := zI 0) hx hb d_Dr_dropAll_1 (by decide) ?_
  refine va_put (D := D) (ci := 0) (v := .int (zI 0)) (ty := .int) (C := R_Dr) (T := T_Dr) (N := 7) hx hb hts (fun w h => List.mem_cons_of_mem _ (inA_Dr w h)) ty_Dr tyok_Dr nm_Dr hown hK hP hD hS 0 rfl rfl 5 (by decide) (hw k_Dr_f38) (fun _ h9 => h9) rfl (by decide +kernel) rfl rfl (Nat.le_of_ble_eq_true rfl) d_Dr_dropAll_2 (fun H locs hP hD hS => ?_)
  have hP : va_P D vwCl [(d, .inr (0, [.ref dn, .ref df, .ref di, .ref dl, .ref dm, .int (zI 0), .int (zI ((pp : Nat) : Int))]))] H := hP
  have hD : va_D A [(d, .inr (0, [.ref dn, .ref df, .ref di, .ref dl, .ref dm, .int (zI 0), .int (zI ((pp : Nat) : Int))]))] := hD
  refine lv_aload_n hx hb d_Dr_dropAll_5 rfl (lv_at hl 0 rfl) ?_
  refine lv_iconst (v := zI 0) hx hb d_Dr_dropAll_6 (by decide) ?_
  refine va_put (D := D) (ci := 0) (v := .int (zI 0)) (ty := .int) (C := R_Dr) (T := T_Dr) (N := 7) hx hb hts (fun w h => List.mem_cons_of_mem _ (inA_Dr w h)) ty_Dr tyok_Dr nm_Dr hown hK hP hD hS 0 rfl rfl 6 (by decide) (hw k_Dr_f34) (fun _ h9 => h9) rfl (by decide +kernel) rfl rfl (Nat.le_of_ble_eq_true rfl) d_Dr_dropAll_7 (fun H locs hP hD hS => ?_)
  have hP : va_P D vwCl [(d, .inr (0, [.ref dn, .ref df, .ref di, .ref dl, .ref dm, .int (zI 0), .int (zI 0)]))] H := hP
  have hD : va_D A [(d, .inr (0, [.ref dn, .ref df, .ref di, .ref dl, .ref dm, .int (zI 0), .int (zI 0)]))] := hD
  subst hQ
  exact W.vret hx hb hr (fun t9 ht hW => ⟨⟨(), rfl, trivial, by show va_P _ _ _ t9.heap; rw [ht]; exact hP⟩, hS.F ht⟩) hS.2.2 d_Dr_dropAll_10

def rm_addName_no : Room := { frames := 0, cells := 0, slots := 0, locals := 0 }
set_option maxHeartbeats 4000000 in
set_option maxRecDepth 100000 in
/-- Draft.addName, refused -/
theorem c_addName_no (l : Launch) (D : va_G) (c : Nat → ClassId) (d : Nat) (dn : Nat) (df : Nat) (dfw : Nat) (di : Nat) (diw : Nat) (dl : Nat) (dlw : Nat) (dm : Nat) (nm : Nat → Nat) (fw : Nat → Int64) (iw : Nat → Int64) (lw : Nat → Int64) (mb : Nat → Bool) (nc : Nat) (pp : Nat) (x : Nat) (hp : pp ≤ 40) (hc : nc ≤ 255) (hno : pp = 40 ∨ nc = 255) : Met l y_Dr_addName w_Dr_addName rm_addName_no (va_Pc [.ref d, .int (zI ((x : Nat) : Int))] (fun U => va_P D vwCl [(d, .inr (0, [.ref dn, .ref df, .ref di, .ref dl, .ref dm, .int (zI ((nc : Nat) : Int)), .int (zI ((pp : Nat) : Int))])), (dn, .inl (c 0, 255, .inl (fun j => zI ((nm j : Nat) : Int)))), (dm, .inl (c 1, 40, .inl (fun j => zB (mb j))))] U.heap ∧ zK D c U)) (vp_Si (fun r => r = (zB false))) 0 0 (fun _ => False) := by
  refine Met.ofW (cc := b_Dr_addName) (maxL := 4) (ret := (some .boolean)) (by decide) rfl ?_
  intro p e s m args below meth c0 s₁ B hml hv
  obtain ⟨rfl, hP, hKN⟩ := hv
  have hK := hKN.1
  have hN := hKN.2
  have hx := B.exec
  have hb := B.bytes
  have hr := B.returns
  have hts := atoms_spec (ws := w_Dr_addName) B.pre
  have hw : ∀ {w : Cond}, w ∈ ALLW → w.before _ s = true := fun h => hts _ (List.mem_cons_of_mem _ h)
  have hown : s.vm.findClass R_Dr = some m.cls := findClass_of_methodNamed B.named
  have hlocks := B.notSynchronized
  have hl := lv_entry ([.ref d, .int (zI ((x : Nat) : Int))]) (n := 4) (Nat.le_of_ble_eq_true rfl)
  rw [lg_entry_eq]
  generalize (lg_sl ([.ref d, .int (zI ((x : Nat) : Int))]) ++ List.replicate (4 - (lg_sl ([.ref d, .int (zI ((x : Nat) : Int))])).length) Slot.unset).toArray = ls at hl ⊢
  have hl : lv_has ls 4 [(0, .ref d), (1, .int (zI ((x : Nat) : Int)))] := hl
  generalize hQ : MQ below _ _ _ _ _ _ = Q
  refine lv_aload_n hx hb d_Dr_addName_0 rfl (lv_at hl 0 rfl) ?_
  refine va_get (D := D) (ci := 0) (v := .int (zI ((nc : Nat) : Int))) (C := R_Dr) (T := T_Dr) (N := 7) hx hb hts (fun w h => List.mem_cons_of_mem _ (inA_Dr w h)) hown hK hP 0 rfl rfl 5 (by decide) (hw k_Dr_f38) (fun _ h9 => h9) rfl d_Dr_addName_1 ?_
  refine lv_istore_n (lv' := [(2, .int (zI ((nc : Nat) : Int))), (0, .ref d), (1, .int (zI ((x : Nat) : Int)))]) hx hb d_Dr_addName_4 rfl hl (by decide) rfl (fun ls hl => ?_)
  refine lv_aload_n hx hb d_Dr_addName_5 rfl (lv_at hl 1 rfl) ?_
  refine va_get (D := D) (ci := 0) (v := .int (zI ((pp : Nat) : Int))) (C := R_Dr) (T := T_Dr) (N := 7) hx hb hts (fun w h => List.mem_cons_of_mem _ (inA_Dr w h)) hown hK hP 0 rfl rfl 6 (by decide) (hw k_Dr_f34) (fun _ h9 => h9) rfl d_Dr_addName_6 ?_
  refine lv_istore_n (lv' := [(3, .int (zI ((pp : Nat) : Int))), (2, .int (zI ((nc : Nat) : Int))), (0, .ref d), (1, .int (zI ((x : Nat) : Int)))]) hx hb d_Dr_addName_9 rfl hl (by decide) rfl (fun ls hl => ?_)
  refine lv_iload_n hx hb d_Dr_addName_10 rfl (lv_at hl 0 rfl) ?_
  refine z_if_lt (tgt := 36) hx hb (by omega) d_Dr_addName_11 (by decide) (fun hc_11 => absurd hc_11 (by omega)) (fun hc_11 => ?_)
  refine lv_iload_n hx hb d_Dr_addName_14 rfl (lv_at hl 0 rfl) ?_
  refine lv_aload_n hx hb d_Dr_addName_15 rfl (lv_at hl 2 rfl) ?_
  refine va_get (D := D) (ci := 0) (v := .ref dm) (C := R_Dr) (T := T_Dr) (N := 7) hx hb hts (fun w h => List.mem_cons_of_mem _ (inA_Dr w h)) hown hK hP 0 rfl rfl 4 (by decide) (hw k_Dr_f30) (fun _ h9 => h9) rfl d_Dr_addName_16 ?_
  refine z_alen hx hb hK hP 2 1 rfl rfl d_Dr_addName_19 ?_
  refine z_top (v2 := .int (zI (40 : Int))) rfl ?_
  refine z_icmp_ge (tgt := 36) hx hb (by omega) d_Dr_addName_20 (by decide) (fun hc_20 => ?_) (fun hc_20 => ?_)
  · refine lv_iconst (v := zI 0) hx hb d_Dr_addName_36 (by decide) ?_
    subst hQ
    exact W.zret (ty := .boolean) (v := (zI 0)) hx hb hr (by decide) (fun t9 ht hW => ⟨_, rfl, (by decide), ht⟩) (fun q hq => absurd hq List.not_mem_nil) d_Dr_addName_37
  · refine lv_iload_n hx hb d_Dr_addName_23 rfl (lv_at hl 1 rfl) ?_
    refine z_if_lt (tgt := 36) hx hb (by omega) d_Dr_addName_24 (by decide) (fun hc_24 => absurd hc_24 (by omega)) (fun hc_24 => ?_)
    refine lv_iload_n hx hb d_Dr_addName_27 rfl (lv_at hl 1 rfl) ?_
    refine lv_aload_n hx hb d_Dr_addName_28 rfl (lv_at hl 2 rfl) ?_
    refine va_get (D := D) (ci := 0) (v := .ref dn) (C := R_Dr) (T := T_Dr) (N := 7) hx hb hts (fun w h => List.mem_cons_of_mem _ (inA_Dr w h)) hown hK hP 0 rfl rfl 0 (by decide) (hw k_Dr_f9) (fun _ h9 => h9) rfl d_Dr_addName_29 ?_
    refine z_alen hx hb hK hP 1 0 rfl rfl d_Dr_addName_32 ?_
    refine z_top (v2 := .int (zI (255 : Int))) rfl ?_
    refine z_icmp_lt (tgt := 38) hx hb (by omega) d_Dr_addName_33 (by decide) (fun hc_33 => absurd hc_33 (by omega)) (fun hc_33 => ?_)
    refine lv_iconst (v := zI 0) hx hb d_Dr_addName_36 (by decide) ?_
    subst hQ
    exact W.zret (ty := .boolean) (v := (zI 0)) hx hb hr (by decide) (fun t9 ht hW => ⟨_, rfl, (by decide), ht⟩) (fun q hq => absurd hq List.not_mem_nil) d_Dr_addName_37

def rm_addName : Room := { frames := 3, cells := 0, slots := 0, locals := 65 }
set_option maxHeartbeats 4000000 in
set_option maxRecDepth 100000 in
/-- Draft.addName -/
theorem c_addName (l : Launch) (D : va_G) (c : Nat → ClassId) (d : Nat) (dn : Nat) (df : Nat) (dfw : Nat) (di : Nat) (diw : Nat) (dl : Nat) (dlw : Nat) (dm : Nat) (nm : Nat → Nat) (fw : Nat → Int64) (iw : Nat → Int64) (lw : Nat → Int64) (mb : Nat → Bool) (nc : Nat) (pp : Nat) (x : Nat) (hp : pp < 40) (hc : nc < 255) : Met l y_Dr_addName w_Dr_addName rm_addName (va_Pc [.ref d, .int (zI ((x : Nat) : Int))] (fun U => (va_P D vwCl [(d, .inr (0, [.ref dn, .ref df, .ref di, .ref dl, .ref dm, .int (zI ((nc : Nat) : Int)), .int (zI ((pp : Nat) : Int))])), (dn, .inl (c 0, 255, .inl (fun j => zI ((nm j : Nat) : Int)))), (df, .inr (3, [.ref dfw])), (dfw, .inl (c 2, 4 * 255, .inr (.inl fw))), (di, .inr (3, [.ref diw])), (diw, .inl (c 2, 4 * 40, .inr (.inl iw))), (dl, .inr (3, [.ref dlw])), (dlw, .inl (c 2, 4 * 40, .inr (.inl lw))), (dm, .inl (c 1, 40, .inl (fun j => zB (mb j))))] U.heap ∧ va_D (fun _ => True) [(d, .inr (0, [.ref dn, .ref df, .ref di, .ref dl, .ref dm, .int (zI ((nc : Nat) : Int)), .int (zI ((pp : Nat) : Int))])), (dn, .inl (c 0, 255, .inl (fun j => zI ((nm j : Nat) : Int)))), (df, .inr (3, [.ref dfw])), (dfw, .inl (c 2, 4 * 255, .inr (.inl fw))), (di, .inr (3, [.ref diw])), (diw, .inl (c 2, 4 * 40, .inr (.inl iw))), (dl, .inr (3, [.ref dlw])), (dlw, .inl (c 2, 4 * 40, .inr (.inl lw))), (dm, .inl (c 1, 40, .inl (fun j => zB (mb j))))]) ∧ zK D c U)) (va_Qi (fun (r : Int32) (u : Unit) => r = (zB true) ∧ True) (fun (u : Unit) t9 => va_P D vwCl [(d, .inr (0, [.ref dn, .ref df, .ref di, .ref dl, .ref dm, .int (zI ((nc + 1 : Nat) : Int)), .int (zI ((pp + 1 : Nat) : Int))])), (dn, .inl (c 0, 255, .inl (fun j => zI (((va_up nm nc x) j : Nat) : Int)))), (df, .inr (3, [.ref dfw])), (dfw, .inl (c 2, 4 * 255, .inr (.inl (zclr fw nc)))), (di, .inr (3, [.ref diw])), (diw, .inl (c 2, 4 * 40, .inr (.inl (zadd (zclr iw pp) pp nc)))), (dl, .inr (3, [.ref dlw])), (dlw, .inl (c 2, 4 * 40, .inr (.inl (zadd (zclr lw pp) pp nc)))), (dm, .inl (c 1, 40, .inl (fun j => zB ((va_up mb pp false) j))))] t9.heap) (zA [(d, .inr (0, [.ref dn, .ref df, .ref di, .ref dl, .ref dm, .int (zI ((nc : Nat) : Int)), .int (zI ((pp : Nat) : Int))])), (dn, .inl (c 0, 255, .inl (fun j => zI ((nm j : Nat) : Int)))), (df, .inr (3, [.ref dfw])), (dfw, .inl (c 2, 4 * 255, .inr (.inl fw))), (di, .inr (3, [.ref diw])), (diw, .inl (c 2, 4 * 40, .inr (.inl iw))), (dl, .inr (3, [.ref dlw])), (dlw, .inl (c 2, 4 * 40, .inr (.inl lw))), (dm, .inl (c 1, 40, .inl (fun j => zB (mb j))))])) 0 0 (zA [(d, .inr (0, [.ref dn, .ref df, .ref di, .ref dl, .ref dm, .int (zI ((nc : Nat) : Int)), .int (zI ((pp : Nat) : Int))])), (dn, .inl (c 0, 255, .inl (fun j => zI ((nm j : Nat) : Int)))), (df, .inr (3, [.ref dfw])), (dfw, .inl (c 2, 4 * 255, .inr (.inl fw))), (di, .inr (3, [.ref diw])), (diw, .inl (c 2, 4 * 40, .inr (.inl iw))), (dl, .inr (3, [.ref dlw])), (dlw, .inl (c 2, 4 * 40, .inr (.inl lw))), (dm, .inl (c 1, 40, .inl (fun j => zB (mb j))))]) := by
  refine Met.ofW (cc := b_Dr_addName) (maxL := 4) (ret := (some .boolean)) (by decide) rfl ?_
  intro p e s m args below meth c0 s₁ B hml hv
  obtain ⟨rfl, ⟨hP, hD0⟩, hKN⟩ := hv
  have hK := hKN.1
  have hN := hKN.2
  have hx := B.exec
  have hb := B.bytes
  have hr := B.returns
  have hts := atoms_spec (ws := w_Dr_addName) B.pre
  have hw : ∀ {w : Cond}, w ∈ ALLW → w.before _ s = true := fun h => hts _ (List.mem_cons_of_mem _ h)
  have hown : s.vm.findClass R_Dr = some m.cls := findClass_of_methodNamed B.named
  have hlocks := B.notSynchronized
  have hD : va_D (zA [(d, .inr (0, [.ref dn, .ref df, .ref di, .ref dl, .ref dm, .int (zI ((nc : Nat) : Int)), .int (zI ((pp : Nat) : Int))])), (dn, .inl (c 0, 255, .inl (fun j => zI ((nm j : Nat) : Int)))), (df, .inr (3, [.ref dfw])), (dfw, .inl (c 2, 4 * 255, .inr (.inl fw))), (di, .inr (3, [.ref diw])), (diw, .inl (c 2, 4 * 40, .inr (.inl iw))), (dl, .inr (3, [.ref dlw])), (dlw, .inl (c 2, 4 * 40, .inr (.inl lw))), (dm, .inl (c 1, 40, .inl (fun j => zB (mb j))))]) [(d, .inr (0, [.ref dn, .ref df, .ref di, .ref dl, .ref dm, .int (zI ((nc : Nat) : Int)), .int (zI ((pp : Nat) : Int))])), (dn, .inl (c 0, 255, .inl (fun j => zI ((nm j : Nat) : Int)))), (df, .inr (3, [.ref dfw])), (dfw, .inl (c 2, 4 * 255, .inr (.inl fw))), (di, .inr (3, [.ref diw])), (diw, .inl (c 2, 4 * 40, .inr (.inl iw))), (dl, .inr (3, [.ref dlw])), (dlw, .inl (c 2, 4 * 40, .inr (.inl lw))), (dm, .inl (c 1, 40, .inl (fun j => zB (mb j))))] := ⟨hD0.1, fun k q h => List.mem_map.mpr ⟨q, List.mem_of_getElem? h, rfl⟩⟩
  generalize hAe : zA [(d, .inr (0, [.ref dn, .ref df, .ref di, .ref dl, .ref dm, .int (zI ((nc : Nat) : Int)), .int (zI ((pp : Nat) : Int))])), (dn, .inl (c 0, 255, .inl (fun j => zI ((nm j : Nat) : Int)))), (df, .inr (3, [.ref dfw])), (dfw, .inl (c 2, 4 * 255, .inr (.inl fw))), (di, .inr (3, [.ref diw])), (diw, .inl (c 2, 4 * 40, .inr (.inl iw))), (dl, .inr (3, [.ref dlw])), (dlw, .inl (c 2, 4 * 40, .inr (.inl lw))), (dm, .inl (c 1, 40, .inl (fun j => zB (mb j))))] = A at hD ⊢
  have hS : va_S A s.heap s.heap [] := va_S.rf
  have hP : va_P D vwCl [(d, .inr (0, [.ref dn, .ref df, .ref di, .ref dl, .ref dm, .int (zI ((nc : Nat) : Int)), .int (zI ((pp : Nat) : Int))])), (dn, .inl (c 0, 255, .inl (fun j => zI ((nm j : Nat) : Int)))), (df, .inr (3, [.ref dfw])), (dfw, .inl (c 2, 4 * 255, .inr (.inl fw))), (di, .inr (3, [.ref diw])), (diw, .inl (c 2, 4 * 40, .inr (.inl iw))), (dl, .inr (3, [.ref dlw])), (dlw, .inl (c 2, 4 * 40, .inr (.inl lw))), (dm, .inl (c 1, 40, .inl (fun j => zB (mb j))))] s.heap := hP
  have hl := lv_entry ([.ref d, .int (zI ((x : Nat) : Int))]) (n := 4) (Nat.le_of_ble_eq_true rfl)
  rw [lg_entry_eq]
  generalize (lg_sl ([.ref d, .int (zI ((x : Nat) : Int))]) ++ List.replicate (4 - (lg_sl ([.ref d, .int (zI ((x : Nat) : Int))])).length) Slot.unset).toArray = ls at hl ⊢
  have hl : lv_has ls 4 [(0, .ref d), (1, .int (zI ((x : Nat) : Int)))] := hl
  generalize hQ : MQ below _ _ _ _ _ _ = Q
  refine lv_aload_n hx hb d_Dr_addName_0 rfl (lv_at hl 0 rfl) ?_
  refine va_get (D := D) (ci := 0) (v := .int (zI ((nc : Nat) : Int))) (C := R_Dr) (T := T_Dr) (N := 7) hx hb hts (fun w h => List.mem_cons_of_mem _ (inA_Dr w h)) hown hK hP 0 rfl rfl 5 (by decide) (hw k_Dr_f38) (fun _ h9 => h9) rfl d_Dr_addName_1 ?_
  refine lv_istore_n (lv' := [(2, .int (zI ((nc : Nat) : Int))), (0, .ref d), (1, .int (zI ((x : Nat) : Int)))]) hx hb d_Dr_addName_4 rfl hl (by decide) rfl (fun ls hl => ?_)
  refine lv_aload_n hx hb d_Dr_addName_5 rfl (lv_at hl 1 rfl) ?_
  refine va_get (D := D) (ci := 0) (v := .int (zI ((pp : Nat) : Int))) (C := R_Dr) (T := T_Dr) (N := 7) hx hb hts (fun w h => List.mem_cons_of_mem _ (inA_Dr w h)) hown hK hP 0 rfl rfl 6 (by decide) (hw k_Dr_f34) (fun _ h9 => h9) rfl d_Dr_addName_6 ?_
  refine lv_istore_n (lv' := [(3, .int (zI ((pp : Nat) : Int))), (2, .int (zI ((nc : Nat) : Int))), (0, .ref d), (1, .int (zI ((x : Nat) : Int)))]) hx hb d_Dr_addName_9 rfl hl (by decide) rfl (fun ls hl => ?_)
  refine lv_iload_n hx hb d_Dr_addName_10 rfl (lv_at hl 0 rfl) ?_
  refine z_if_lt (tgt := 36) hx hb (by omega) d_Dr_addName_11 (by decide) (fun hc_11 => absurd hc_11 (by omega)) (fun hc_11 => ?_)
  refine lv_iload_n hx hb d_Dr_addName_14 rfl (lv_at hl 0 rfl) ?_
  refine lv_aload_n hx hb d_Dr_addName_15 rfl (lv_at hl 2 rfl) ?_
  refine va_get (D := D) (ci := 0) (v := .ref dm) (C := R_Dr) (T := T_Dr) (N := 7) hx hb hts (fun w h => List.mem_cons_of_mem _ (inA_Dr w h)) hown hK hP 0 rfl rfl 4 (by decide) (hw k_Dr_f30) (fun _ h9 => h9) rfl d_Dr_addName_16 ?_
  refine z_alen hx hb hK hP 8 1 rfl rfl d_Dr_addName_19 ?_
  refine z_top (v2 := .int (zI (40 : Int))) rfl ?_
  refine z_icmp_ge (tgt := 36) hx hb (by omega) d_Dr_addName_20 (by decide) (fun hc_20 => absurd hc_20 (by omega)) (fun hc_20 => ?_)
  refine lv_iload_n hx hb d_Dr_addName_23 rfl (lv_at hl 1 rfl) ?_
  refine z_if_lt (tgt := 36) hx hb (by omega) d_Dr_addName_24 (by decide) (fun hc_24 => absurd hc_24 (by omega)) (fun hc_24 => ?_)
  refine lv_iload_n hx hb d_Dr_addName_27 rfl (lv_at hl 1 rfl) ?_
  refine lv_aload_n hx hb d_Dr_addName_28 rfl (lv_at hl 2 rfl) ?_
  refine va_get (D := D) (ci := 0) (v := .ref dn) (C := R_Dr) (T := T_Dr) (N := 7) hx hb hts (fun w h => List.mem_cons_of_mem _ (inA_Dr w h)) hown hK hP 0 rfl rfl 0 (by decide) (hw k_Dr_f9) (fun _ h9 => h9) rfl d_Dr_addName_29 ?_
  refine z_alen hx hb hK hP 1 0 rfl rfl d_Dr_addName_32 ?_
  refine z_top (v2 := .int (zI (255 : Int))) rfl ?_
  refine z_icmp_lt (tgt := 38) hx hb (by omega) d_Dr_addName_33 (by decide) (fun hc_33 => ?_) (fun hc_33 => absurd hc_33 (by omega))
  refine lv_aload_n hx hb d_Dr_addName_38 rfl (lv_at hl 2 rfl) ?_
  refine va_get (D := D) (ci := 0) (v := .ref dn) (C := R_Dr) (T := T_Dr) (N := 7) hx hb hts (fun w h => List.mem_cons_of_mem _ (inA_Dr w h)) hown hK hP 0 rfl rfl 0 (by decide) (hw k_Dr_f9) (fun _ h9 => h9) rfl d_Dr_addName_39 ?_
  refine lv_iload_n hx hb d_Dr_addName_42 rfl (lv_at hl 1 rfl) ?_
  refine lv_iload_n hx hb d_Dr_addName_43 rfl (lv_at hl 3 rfl) ?_
  refine z_uast hx hb hK hP hD hS 1 0 rfl rfl (nc) (by omega) (by omega) (by omega) d_Dr_addName_44 (fun H locs hP hD hS => ?_)
  have hP : va_P D vwCl [(d, .inr (0, [.ref dn, .ref df, .ref di, .ref dl, .ref dm, .int (zI ((nc : Nat) : Int)), .int (zI ((pp : Nat) : Int))])), (dn, .inl (c 0, 255, .inl (fun j => zI (((va_up nm nc x) j : Nat) : Int)))), (df, .inr (3, [.ref dfw])), (dfw, .inl (c 2, 4 * 255, .inr (.inl fw))), (di, .inr (3, [.ref diw])), (diw, .inl (c 2, 4 * 40, .inr (.inl iw))), (dl, .inr (3, [.ref dlw])), (dlw, .inl (c 2, 4 * 40, .inr (.inl lw))), (dm, .inl (c 1, 40, .inl (fun j => zB (mb j))))] H := hP
  have hD : va_D A [(d, .inr (0, [.ref dn, .ref df, .ref di, .ref dl, .ref dm, .int (zI ((nc : Nat) : Int)), .int (zI ((pp : Nat) : Int))])), (dn, .inl (c 0, 255, .inl (fun j => zI (((va_up nm nc x) j : Nat) : Int)))), (df, .inr (3, [.ref dfw])), (dfw, .inl (c 2, 4 * 255, .inr (.inl fw))), (di, .inr (3, [.ref diw])), (diw, .inl (c 2, 4 * 40, .inr (.inl iw))), (dl, .inr (3, [.ref dlw])), (dlw, .inl (c 2, 4 * 40, .inr (.inl lw))), (dm, .inl (c 1, 40, .inl (fun j => zB (mb j))))] := hD
  refine lv_aload_n hx hb d_Dr_addName_45 rfl (lv_at hl 2 rfl) ?_
  refine va_get (D := D) (ci := 0) (v := .ref df) (C := R_Dr) (T := T_Dr) (N := 7) hx hb hts (fun w h => List.mem_cons_of_mem _ (inA_Dr w h)) hown hK hP 0 rfl rfl 1 (by decide) (hw k_Dr_f20) (fun _ h9 => h9) rfl d_Dr_addName_46 ?_
  refine lv_iload_n hx hb d_Dr_addName_49 rfl (lv_at hl 1 rfl) ?_
  have hPc : va_P D vwCl [(df, .inr (3, [.ref dfw])), (dfw, .inl (c 2, 4 * 255, .inr (.inl fw)))] H := hP.sub (ws' := [(df, .inr (3, [.ref dfw])), (dfw, .inl (c 2, 4 * 255, .inr (.inl fw)))]) [2, 3] rfl
  have hDc : va_D A [(df, .inr (3, [.ref dfw])), (dfw, .inl (c 2, 4 * 255, .inr (.inl fw)))] := hD.sub (ws' := [(df, .inr (3, [.ref dfw])), (dfw, .inl (c 2, 4 * 255, .inr (.inl fw)))]) [2, 3] (by decide) rfl
  have hDt : va_D (fun _ => True) [(df, .inr (3, [.ref dfw])), (dfw, .inl (c 2, 4 * 255, .inr (.inl fw)))] := hDc.weaken (fun _ _ _ _ => trivial)
  refine z_callv (S := Unit) (w1 := fun u => [(df, .inr (3, [.ref dfw])), (dfw, .inl (c 2, 4 * 255, .inr (.inl (zclr fw nc))))]) (post := fun u => True) (wc := [(df, .inr (3, [.ref dfw])), (dfw, .inl (c 2, 4 * 255, .inr (.inl fw)))]) [2, 3] rfl (fun _ => rfl) hP hD hS (va_runV (rm := rm_removeAll) (As := [.int (zI ((nc : Nat) : Int))]) (rest := []) ⟨hx, hb, hml, hown, hts⟩ (c_removeAll l D c df dfw 255 fw nc (by omega) (by omega)) (cwV 1 hts (gWV k_Dr_m41 k_i_Se_removeAll k_v_Se_removeAll k_n_Se k_c_Se_removeAll) rfl rfl rfl (by decide +kernel) ⟨Nat.le_of_ble_eq_true rfl, Nat.le_of_ble_eq_true rfl⟩) ⟨zblindW, va_recv hK hPc (ci := 3) (q0 := 0) rfl rfl, fun U hU hW => ⟨rfl, ⟨by rw [hU]; exact hPc, hDt⟩, hKN.moved hW⟩⟩ rfl rfl hl.1 rfl (lv_room (Nat.le_of_ble_eq_true rfl)) d_Dr_addName_50 ⟨Nat.zero_le _, Nat.zero_le _⟩) (fun u H locs hp_1 hP hD hS => ?_)
  have hP : va_P D vwCl [(d, .inr (0, [.ref dn, .ref df, .ref di, .ref dl, .ref dm, .int (zI ((nc : Nat) : Int)), .int (zI ((pp : Nat) : Int))])), (dn, .inl (c 0, 255, .inl (fun j => zI (((va_up nm nc x) j : Nat) : Int)))), (df, .inr (3, [.ref dfw])), (dfw, .inl (c 2, 4 * 255, .inr (.inl (zclr fw nc)))), (di, .inr (3, [.ref diw])), (diw, .inl (c 2, 4 * 40, .inr (.inl iw))), (dl, .inr (3, [.ref dlw])), (dlw, .inl (c 2, 4 * 40, .inr (.inl lw))), (dm, .inl (c 1, 40, .inl (fun j => zB (mb j))))] H := hP
  have hD : va_D A [(d, .inr (0, [.ref dn, .ref df, .ref di, .ref dl, .ref dm, .int (zI ((nc : Nat) : Int)), .int (zI ((pp : Nat) : Int))])), (dn, .inl (c 0, 255, .inl (fun j => zI (((va_up nm nc x) j : Nat) : Int)))), (df, .inr (3, [.ref dfw])), (dfw, .inl (c 2, 4 * 255, .inr (.inl (zclr fw nc)))), (di, .inr (3, [.ref diw])), (diw, .inl (c 2, 4 * 40, .inr (.inl iw))), (dl, .inr (3, [.ref dlw])), (dlw, .inl (c 2, 4 * 40, .inr (.inl lw))), (dm, .inl (c 1, 40, .inl (fun j => zB (mb j))))] := hD
  refine lv_aload_n hx hb d_Dr_addName_53 rfl (lv_at hl 2 rfl) ?_
  refine va_get (D := D) (ci := 0) (v := .ref di) (C := R_Dr) (T := T_Dr) (N := 7) hx hb hts (fun w h => List.mem_cons_of_mem _ (inA_Dr w h)) hown hK hP 0 rfl rfl 2 (by decide) (hw k_Dr_f24) (fun _ h9 => h9) rfl d_Dr_addName_54 ?_
  refine lv_iload_n hx hb d_Dr_addName_57 rfl (lv_at hl 0 rfl) ?_
  have hPc : va_P D vwCl [(di, .inr (3, [.ref diw])), (diw, .inl (c 2, 4 * 40, .inr (.inl iw)))] H := hP.sub (ws' := [(di, .inr (3, [.ref diw])), (diw, .inl (c 2, 4 * 40, .inr (.inl iw)))]) [4, 5] rfl
  have hDc : va_D A [(di, .inr (3, [.ref diw])), (diw, .inl (c 2, 4 * 40, .inr (.inl iw)))] := hD.sub (ws' := [(di, .inr (3, [.ref diw])), (diw, .inl (c 2, 4 * 40, .inr (.inl iw)))]) [4, 5] (by decide) rfl
  have hDt : va_D (fun _ => True) [(di, .inr (3, [.ref diw])), (diw, .inl (c 2, 4 * 40, .inr (.inl iw)))] := hDc.weaken (fun _ _ _ _ => trivial)
  refine z_callv (S := Unit) (w1 := fun u => [(di, .inr (3, [.ref diw])), (diw, .inl (c 2, 4 * 40, .inr (.inl (zclr iw pp))))]) (post := fun u => True) (wc := [(di, .inr (3, [.ref diw])), (diw, .inl (c 2, 4 * 40, .inr (.inl iw)))]) [4, 5] rfl (fun _ => rfl) hP hD hS (va_runV (rm := rm_removeAll) (As := [.int (zI ((pp : Nat) : Int))]) (rest := []) ⟨hx, hb, hml, hown, hts⟩ (c_removeAll l D c di diw 40 iw pp (by omega) (by omega)) (cwV 1 hts (gWV k_Dr_m41 k_i_Se_removeAll k_v_Se_removeAll k_n_Se k_c_Se_removeAll) rfl rfl rfl (by decide +kernel) ⟨Nat.le_of_ble_eq_true rfl, Nat.le_of_ble_eq_true rfl⟩) ⟨zblindW, va_recv hK hPc (ci := 3) (q0 := 0) rfl rfl, fun U hU hW => ⟨rfl, ⟨by rw [hU]; exact hPc, hDt⟩, hKN.moved hW⟩⟩ rfl rfl hl.1 rfl (lv_room (Nat.le_of_ble_eq_true rfl)) d_Dr_addName_58 ⟨Nat.zero_le _, Nat.zero_le _⟩) (fun u H locs hp_2 hP hD hS => ?_)
  have hP : va_P D vwCl [(d, .inr (0, [.ref dn, .ref df, .ref di, .ref dl, .ref dm, .int (zI ((nc : Nat) : Int)), .int (zI ((pp : Nat) : Int))])), (dn, .inl (c 0, 255, .inl (fun j => zI (((va_up nm nc x) j : Nat) : Int)))), (df, .inr (3, [.ref dfw])), (dfw, .inl (c 2, 4 * 255, .inr (.inl (zclr fw nc)))), (di, .inr (3, [.ref diw])), (diw, .inl (c 2, 4 * 40, .inr (.inl (zclr iw pp)))), (dl, .inr (3, [.ref dlw])), (dlw, .inl (c 2, 4 * 40, .inr (.inl lw))), (dm, .inl (c 1, 40, .inl (fun j => zB (mb j))))] H := hP
  have hD : va_D A [(d, .inr (0, [.ref dn, .ref df, .ref di, .ref dl, .ref dm, .int (zI ((nc : Nat) : Int)), .int (zI ((pp : Nat) : Int))])), (dn, .inl (c 0, 255, .inl (fun j => zI (((va_up nm nc x) j : Nat) : Int)))), (df, .inr (3, [.ref dfw])), (dfw, .inl (c 2, 4 * 255, .inr (.inl (zclr fw nc)))), (di, .inr (3, [.ref diw])), (diw, .inl (c 2, 4 * 40, .inr (.inl (zclr iw pp)))), (dl, .inr (3, [.ref dlw])), (dlw, .inl (c 2, 4 * 40, .inr (.inl lw))), (dm, .inl (c 1, 40, .inl (fun j => zB (mb j))))] := hD
  refine lv_aload_n hx hb d_Dr_addName_61 rfl (lv_at hl 2 rfl) ?_
  refine va_get (D := D) (ci := 0) (v := .ref di) (C := R_Dr) (T := T_Dr) (N := 7) hx hb hts (fun w h => List.mem_cons_of_mem _ (inA_Dr w h)) hown hK hP 0 rfl rfl 2 (by decide) (hw k_Dr_f24) (fun _ h9 => h9) rfl d_Dr_addName_62 ?_
  refine lv_iload_n hx hb d_Dr_addName_65 rfl (lv_at hl 0 rfl) ?_
  refine lv_iload_n hx hb d_Dr_addName_66 rfl (lv_at hl 1 rfl) ?_
  have hPc : va_P D vwCl [(di, .inr (3, [.ref diw])), (diw, .inl (c 2, 4 * 40, .inr (.inl (zclr iw pp))))] H := hP.sub (ws' := [(di, .inr (3, [.ref diw])), (diw, .inl (c 2, 4 * 40, .inr (.inl (zclr iw pp))))]) [4, 5] rfl
  have hDc : va_D A [(di, .inr (3, [.ref diw])), (diw, .inl (c 2, 4 * 40, .inr (.inl (zclr iw pp))))] := hD.sub (ws' := [(di, .inr (3, [.ref diw])), (diw, .inl (c 2, 4 * 40, .inr (.inl (zclr iw pp))))]) [4, 5] (by decide) rfl
  have hDt : va_D (fun _ => True) [(di, .inr (3, [.ref diw])), (diw, .inl (c 2, 4 * 40, .inr (.inl (zclr iw pp))))] := hDc.weaken (fun _ _ _ _ => trivial)
  refine z_callv (S := Unit) (w1 := fun u => [(di, .inr (3, [.ref diw])), (diw, .inl (c 2, 4 * 40, .inr (.inl (zadd (zclr iw pp) pp nc))))]) (post := fun u => True) (wc := [(di, .inr (3, [.ref diw])), (diw, .inl (c 2, 4 * 40, .inr (.inl (zclr iw pp))))]) [4, 5] rfl (fun _ => rfl) hP hD hS (va_runV (rm := rm_add) (As := [.int (zI ((pp : Nat) : Int)), .int (zI ((nc : Nat) : Int))]) (rest := []) ⟨hx, hb, hml, hown, hts⟩ (c_add l D c di diw 40 (zclr iw pp) pp nc (by omega) (by omega) (by omega)) (cwV 2 hts (gWV k_Dr_m44 k_i_Se_add k_v_Se_add k_n_Se k_c_Se_add) rfl rfl rfl (by decide +kernel) ⟨Nat.le_of_ble_eq_true rfl, Nat.le_of_ble_eq_true rfl⟩) ⟨zblindW, va_recv hK hPc (ci := 3) (q0 := 0) rfl rfl, fun U hU hW => ⟨rfl, ⟨by rw [hU]; exact hPc, hDt⟩, hKN.moved hW⟩⟩ rfl rfl hl.1 rfl (lv_room (Nat.le_of_ble_eq_true rfl)) d_Dr_addName_67 ⟨Nat.zero_le _, Nat.zero_le _⟩) (fun u H locs hp_3 hP hD hS => ?_)
  have hP : va_P D vwCl [(d, .inr (0, [.ref dn, .ref df, .ref di, .ref dl, .ref dm, .int (zI ((nc : Nat) : Int)), .int (zI ((pp : Nat) : Int))])), (dn, .inl (c 0, 255, .inl (fun j => zI (((va_up nm nc x) j : Nat) : Int)))), (df, .inr (3, [.ref dfw])), (dfw, .inl (c 2, 4 * 255, .inr (.inl (zclr fw nc)))), (di, .inr (3, [.ref diw])), (diw, .inl (c 2, 4 * 40, .inr (.inl (zadd (zclr iw pp) pp nc)))), (dl, .inr (3, [.ref dlw])), (dlw, .inl (c 2, 4 * 40, .inr (.inl lw))), (dm, .inl (c 1, 40, .inl (fun j => zB (mb j))))] H := hP
  have hD : va_D A [(d, .inr (0, [.ref dn, .ref df, .ref di, .ref dl, .ref dm, .int (zI ((nc : Nat) : Int)), .int (zI ((pp : Nat) : Int))])), (dn, .inl (c 0, 255, .inl (fun j => zI (((va_up nm nc x) j : Nat) : Int)))), (df, .inr (3, [.ref dfw])), (dfw, .inl (c 2, 4 * 255, .inr (.inl (zclr fw nc)))), (di, .inr (3, [.ref diw])), (diw, .inl (c 2, 4 * 40, .inr (.inl (zadd (zclr iw pp) pp nc)))), (dl, .inr (3, [.ref dlw])), (dlw, .inl (c 2, 4 * 40, .inr (.inl lw))), (dm, .inl (c 1, 40, .inl (fun j => zB (mb j))))] := hD
  refine lv_aload_n hx hb d_Dr_addName_70 rfl (lv_at hl 2 rfl) ?_
  refine va_get (D := D) (ci := 0) (v := .ref dl) (C := R_Dr) (T := T_Dr) (N := 7) hx hb hts (fun w h => List.mem_cons_of_mem _ (inA_Dr w h)) hown hK hP 0 rfl rfl 3 (by decide) (hw k_Dr_f27) (fun _ h9 => h9) rfl d_Dr_addName_71 ?_
  refine lv_iload_n hx hb d_Dr_addName_74 rfl (lv_at hl 0 rfl) ?_
  have hPc : va_P D vwCl [(dl, .inr (3, [.ref dlw])), (dlw, .inl (c 2, 4 * 40, .inr (.inl lw)))] H := hP.sub (ws' := [(dl, .inr (3, [.ref dlw])), (dlw, .inl (c 2, 4 * 40, .inr (.inl lw)))]) [6, 7] rfl
  have hDc : va_D A [(dl, .inr (3, [.ref dlw])), (dlw, .inl (c 2, 4 * 40, .inr (.inl lw)))] := hD.sub (ws' := [(dl, .inr (3, [.ref dlw])), (dlw, .inl (c 2, 4 * 40, .inr (.inl lw)))]) [6, 7] (by decide) rfl
  have hDt : va_D (fun _ => True) [(dl, .inr (3, [.ref dlw])), (dlw, .inl (c 2, 4 * 40, .inr (.inl lw)))] := hDc.weaken (fun _ _ _ _ => trivial)
  refine z_callv (S := Unit) (w1 := fun u => [(dl, .inr (3, [.ref dlw])), (dlw, .inl (c 2, 4 * 40, .inr (.inl (zclr lw pp))))]) (post := fun u => True) (wc := [(dl, .inr (3, [.ref dlw])), (dlw, .inl (c 2, 4 * 40, .inr (.inl lw)))]) [6, 7] rfl (fun _ => rfl) hP hD hS (va_runV (rm := rm_removeAll) (As := [.int (zI ((pp : Nat) : Int))]) (rest := []) ⟨hx, hb, hml, hown, hts⟩ (c_removeAll l D c dl dlw 40 lw pp (by omega) (by omega)) (cwV 1 hts (gWV k_Dr_m41 k_i_Se_removeAll k_v_Se_removeAll k_n_Se k_c_Se_removeAll) rfl rfl rfl (by decide +kernel) ⟨Nat.le_of_ble_eq_true rfl, Nat.le_of_ble_eq_true rfl⟩) ⟨zblindW, va_recv hK hPc (ci := 3) (q0 := 0) rfl rfl, fun U hU hW => ⟨rfl, ⟨by rw [hU]; exact hPc, hDt⟩, hKN.moved hW⟩⟩ rfl rfl hl.1 rfl (lv_room (Nat.le_of_ble_eq_true rfl)) d_Dr_addName_75 ⟨Nat.zero_le _, Nat.zero_le _⟩) (fun u H locs hp_4 hP hD hS => ?_)
  have hP : va_P D vwCl [(d, .inr (0, [.ref dn, .ref df, .ref di, .ref dl, .ref dm, .int (zI ((nc : Nat) : Int)), .int (zI ((pp : Nat) : Int))])), (dn, .inl (c 0, 255, .inl (fun j => zI (((va_up nm nc x) j : Nat) : Int)))), (df, .inr (3, [.ref dfw])), (dfw, .inl (c 2, 4 * 255, .inr (.inl (zclr fw nc)))), (di, .inr (3, [.ref diw])), (diw, .inl (c 2, 4 * 40, .inr (.inl (zadd (zclr iw pp) pp nc)))), (dl, .inr (3, [.ref dlw])), (dlw, .inl (c 2, 4 * 40, .inr (.inl (zclr lw pp)))), (dm, .inl (c 1, 40, .inl (fun j => zB (mb j))))] H := hP
  have hD : va_D A [(d, .inr (0, [.ref dn, .ref df, .ref di, .ref dl, .ref dm, .int (zI ((nc : Nat) : Int)), .int (zI ((pp : Nat) : Int))])), (dn, .inl (c 0, 255, .inl (fun j => zI (((va_up nm nc x) j : Nat) : Int)))), (df, .inr (3, [.ref dfw])), (dfw, .inl (c 2, 4 * 255, .inr (.inl (zclr fw nc)))), (di, .inr (3, [.ref diw])), (diw, .inl (c 2, 4 * 40, .inr (.inl (zadd (zclr iw pp) pp nc)))), (dl, .inr (3, [.ref dlw])), (dlw, .inl (c 2, 4 * 40, .inr (.inl (zclr lw pp)))), (dm, .inl (c 1, 40, .inl (fun j => zB (mb j))))] := hD
  refine lv_aload_n hx hb d_Dr_addName_78 rfl (lv_at hl 2 rfl) ?_
  refine va_get (D := D) (ci := 0) (v := .ref dl) (C := R_Dr) (T := T_Dr) (N := 7) hx hb hts (fun w h => List.mem_cons_of_mem _ (inA_Dr w h)) hown hK hP 0 rfl rfl 3 (by decide) (hw k_Dr_f27) (fun _ h9 => h9) rfl d_Dr_addName_79 ?_
  refine lv_iload_n hx hb d_Dr_addName_82 rfl (lv_at hl 0 rfl) ?_
  refine lv_iload_n hx hb d_Dr_addName_83 rfl (lv_at hl 1 rfl) ?_
  have hPc : va_P D vwCl [(dl, .inr (3, [.ref dlw])), (dlw, .inl (c 2, 4 * 40, .inr (.inl (zclr lw pp))))] H := hP.sub (ws' := [(dl, .inr (3, [.ref dlw])), (dlw, .inl (c 2, 4 * 40, .inr (.inl (zclr lw pp))))]) [6, 7] rfl
  have hDc : va_D A [(dl, .inr (3, [.ref dlw])), (dlw, .inl (c 2, 4 * 40, .inr (.inl (zclr lw pp))))] := hD.sub (ws' := [(dl, .inr (3, [.ref dlw])), (dlw, .inl (c 2, 4 * 40, .inr (.inl (zclr lw pp))))]) [6, 7] (by decide) rfl
  have hDt : va_D (fun _ => True) [(dl, .inr (3, [.ref dlw])), (dlw, .inl (c 2, 4 * 40, .inr (.inl (zclr lw pp))))] := hDc.weaken (fun _ _ _ _ => trivial)
  refine z_callv (S := Unit) (w1 := fun u => [(dl, .inr (3, [.ref dlw])), (dlw, .inl (c 2, 4 * 40, .inr (.inl (zadd (zclr lw pp) pp nc))))]) (post := fun u => True) (wc := [(dl, .inr (3, [.ref dlw])), (dlw, .inl (c 2, 4 * 40, .inr (.inl (zclr lw pp))))]) [6, 7] rfl (fun _ => rfl) hP hD hS (va_runV (rm := rm_add) (As := [.int (zI ((pp : Nat) : Int)), .int (zI ((nc : Nat) : Int))]) (rest := []) ⟨hx, hb, hml, hown, hts⟩ (c_add l D c dl dlw 40 (zclr lw pp) pp nc (by omega) (by omega) (by omega)) (cwV 2 hts (gWV k_Dr_m44 k_i_Se_add k_v_Se_add k_n_Se k_c_Se_add) rfl rfl rfl (by decide +kernel) ⟨Nat.le_of_ble_eq_true rfl, Nat.le_of_ble_eq_true rfl⟩) ⟨zblindW, va_recv hK hPc (ci := 3) (q0 := 0) rfl rfl, fun U hU hW => ⟨rfl, ⟨by rw [hU]; exact hPc, hDt⟩, hKN.moved hW⟩⟩ rfl rfl hl.1 rfl (lv_room (Nat.le_of_ble_eq_true rfl)) d_Dr_addName_84 ⟨Nat.zero_le _, Nat.zero_le _⟩) (fun u H locs hp_5 hP hD hS => ?_)
  have hP : va_P D vwCl [(d, .inr (0, [.ref dn, .ref df, .ref di, .ref dl, .ref dm, .int (zI ((nc : Nat) : Int)), .int (zI ((pp : Nat) : Int))])), (dn, .inl (c 0, 255, .inl (fun j => zI (((va_up nm nc x) j : Nat) : Int)))), (df, .inr (3, [.ref dfw])), (dfw, .inl (c 2, 4 * 255, .inr (.inl (zclr fw nc)))), (di, .inr (3, [.ref diw])), (diw, .inl (c 2, 4 * 40, .inr (.inl (zadd (zclr iw pp) pp nc)))), (dl, .inr (3, [.ref dlw])), (dlw, .inl (c 2, 4 * 40, .inr (.inl (zadd (zclr lw pp) pp nc)))), (dm, .inl (c 1, 40, .inl (fun j => zB (mb j))))] H := hP
  have hD : va_D A [(d, .inr (0, [.ref dn, .ref df, .ref di, .ref dl, .ref dm, .int (zI ((nc : Nat) : Int)), .int (zI ((pp : Nat) : Int))])), (dn, .inl (c 0, 255, .inl (fun j => zI (((va_up nm nc x) j : Nat) : Int)))), (df, .inr (3, [.ref dfw])), (dfw, .inl (c 2, 4 * 255, .inr (.inl (zclr fw nc)))), (di, .inr (3, [.ref diw])), (diw, .inl (c 2, 4 * 40, .inr (.inl (zadd (zclr iw pp) pp nc)))), (dl, .inr (3, [.ref dlw])), (dlw, .inl (c 2, 4 * 40, .inr (.inl (zadd (zclr lw pp) pp nc)))), (dm, .inl (c 1, 40, .inl (fun j => zB (mb j))))] := hD
  refine lv_aload_n hx hb d_Dr_addName_87 rfl (lv_at hl 2 rfl) ?_
  refine va_get (D := D) (ci := 0) (v := .ref dm) (C := R_Dr) (T := T_Dr) (N := 7) hx hb hts (fun w h => List.mem_cons_of_mem _ (inA_Dr w h)) hown hK hP 0 rfl rfl 4 (by decide) (hw k_Dr_f30) (fun _ h9 => h9) rfl d_Dr_addName_88 ?_
  refine lv_iload_n hx hb d_Dr_addName_91 rfl (lv_at hl 0 rfl) ?_
  refine lv_iconst (v := zI 0) hx hb d_Dr_addName_92 (by decide) ?_
  refine z_top (v2 := .int (zB false)) (congrArg Value.int (by decide)) ?_
  refine z_zast hx hb hK hP hD hS 8 1 rfl rfl (pp) (by omega) (by omega) (by omega) d_Dr_addName_93 (fun H locs hP hD hS => ?_)
  have hP : va_P D vwCl [(d, .inr (0, [.ref dn, .ref df, .ref di, .ref dl, .ref dm, .int (zI ((nc : Nat) : Int)), .int (zI ((pp : Nat) : Int))])), (dn, .inl (c 0, 255, .inl (fun j => zI (((va_up nm nc x) j : Nat) : Int)))), (df, .inr (3, [.ref dfw])), (dfw, .inl (c 2, 4 * 255, .inr (.inl (zclr fw nc)))), (di, .inr (3, [.ref diw])), (diw, .inl (c 2, 4 * 40, .inr (.inl (zadd (zclr iw pp) pp nc)))), (dl, .inr (3, [.ref dlw])), (dlw, .inl (c 2, 4 * 40, .inr (.inl (zadd (zclr lw pp) pp nc)))), (dm, .inl (c 1, 40, .inl (fun j => zB ((va_up mb pp false) j))))] H := hP
  have hD : va_D A [(d, .inr (0, [.ref dn, .ref df, .ref di, .ref dl, .ref dm, .int (zI ((nc : Nat) : Int)), .int (zI ((pp : Nat) : Int))])), (dn, .inl (c 0, 255, .inl (fun j => zI (((va_up nm nc x) j : Nat) : Int)))), (df, .inr (3, [.ref dfw])), (dfw, .inl (c 2, 4 * 255, .inr (.inl (zclr fw nc)))), (di, .inr (3, [.ref diw])), (diw, .inl (c 2, 4 * 40, .inr (.inl (zadd (zclr iw pp) pp nc)))), (dl, .inr (3, [.ref dlw])), (dlw, .inl (c 2, 4 * 40, .inr (.inl (zadd (zclr lw pp) pp nc)))), (dm, .inl (c 1, 40, .inl (fun j => zB ((va_up mb pp false) j))))] := hD
  refine lv_aload_n hx hb d_Dr_addName_94 rfl (lv_at hl 2 rfl) ?_
  refine lv_iload_n hx hb d_Dr_addName_95 rfl (lv_at hl 1 rfl) ?_
  refine lv_iconst (v := zI 1) hx hb d_Dr_addName_96 (by decide) ?_
  refine z_iadd hx hb d_Dr_addName_97 ?_
  refine z_top (v2 := .int (zI ((nc + 1 : Nat) : Int))) (congrArg Value.int (congrArg zI (by omega))) ?_
  refine va_put (D := D) (ci := 0) (v := .int (zI ((nc + 1 : Nat) : Int))) (ty := .int) (C := R_Dr) (T := T_Dr) (N := 7) hx hb hts (fun w h => List.mem_cons_of_mem _ (inA_Dr w h)) ty_Dr tyok_Dr nm_Dr hown hK hP hD hS 0 rfl rfl 5 (by decide) (hw k_Dr_f38) (fun _ h9 => h9) rfl (by decide +kernel) rfl rfl (Nat.le_of_ble_eq_true rfl) d_Dr_addName_98 (fun H locs hP hD hS => ?_)
  have hP : va_P D vwCl [(d, .inr (0, [.ref dn, .ref df, .ref di, .ref dl, .ref dm, .int (zI ((nc + 1 : Nat) : Int)), .int (zI ((pp : Nat) : Int))])), (dn, .inl (c 0, 255, .inl (fun j => zI (((va_up nm nc x) j : Nat) : Int)))), (df, .inr (3, [.ref dfw])), (dfw, .inl (c 2, 4 * 255, .inr (.inl (zclr fw nc)))), (di, .inr (3, [.ref diw])), (diw, .inl (c 2, 4 * 40, .inr (.inl (zadd (zclr iw pp) pp nc)))), (dl, .inr (3, [.ref dlw])), (dlw, .inl (c 2, 4 * 40, .inr (.inl (zadd (zclr lw pp) pp nc)))), (dm, .inl (c 1, 40, .inl (fun j => zB ((va_up mb pp false) j))))] H := hP
  have hD : va_D A [(d, .inr (0, [.ref dn, .ref df, .ref di, .ref dl, .ref dm, .int (zI ((nc + 1 : Nat) : Int)), .int (zI ((pp : Nat) : Int))])), (dn, .inl (c 0, 255, .inl (fun j => zI (((va_up nm nc x) j : Nat) : Int)))), (df, .inr (3, [.ref dfw])), (dfw, .inl (c 2, 4 * 255, .inr (.inl (zclr fw nc)))), (di, .inr (3, [.ref diw])), (diw, .inl (c 2, 4 * 40, .inr (.inl (zadd (zclr iw pp) pp nc)))), (dl, .inr (3, [.ref dlw])), (dlw, .inl (c 2, 4 * 40, .inr (.inl (zadd (zclr lw pp) pp nc)))), (dm, .inl (c 1, 40, .inl (fun j => zB ((va_up mb pp false) j))))] := hD
  refine lv_aload_n hx hb d_Dr_addName_101 rfl (lv_at hl 2 rfl) ?_
  refine lv_iload_n hx hb d_Dr_addName_102 rfl (lv_at hl 0 rfl) ?_
  refine lv_iconst (v := zI 1) hx hb d_Dr_addName_103 (by decide) ?_
  refine z_iadd hx hb d_Dr_addName_104 ?_
  refine z_top (v2 := .int (zI ((pp + 1 : Nat) : Int))) (congrArg Value.int (congrArg zI (by omega))) ?_
  refine va_put (D := D) (ci := 0) (v := .int (zI ((pp + 1 : Nat) : Int))) (ty := .int) (C := R_Dr) (T := T_Dr) (N := 7) hx hb hts (fun w h => List.mem_cons_of_mem _ (inA_Dr w h)) ty_Dr tyok_Dr nm_Dr hown hK hP hD hS 0 rfl rfl 6 (by decide) (hw k_Dr_f34) (fun _ h9 => h9) rfl (by decide +kernel) rfl rfl (Nat.le_of_ble_eq_true rfl) d_Dr_addName_105 (fun H locs hP hD hS => ?_)
  have hP : va_P D vwCl [(d, .inr (0, [.ref dn, .ref df, .ref di, .ref dl, .ref dm, .int (zI ((nc + 1 : Nat) : Int)), .int (zI ((pp + 1 : Nat) : Int))])), (dn, .inl (c 0, 255, .inl (fun j => zI (((va_up nm nc x) j : Nat) : Int)))), (df, .inr (3, [.ref dfw])), (dfw, .inl (c 2, 4 * 255, .inr (.inl (zclr fw nc)))), (di, .inr (3, [.ref diw])), (diw, .inl (c 2, 4 * 40, .inr (.inl (zadd (zclr iw pp) pp nc)))), (dl, .inr (3, [.ref dlw])), (dlw, .inl (c 2, 4 * 40, .inr (.inl (zadd (zclr lw pp) pp nc)))), (dm, .inl (c 1, 40, .inl (fun j => zB ((va_up mb pp false) j))))] H := hP
  have hD : va_D A [(d, .inr (0, [.ref dn, .ref df, .ref di, .ref dl, .ref dm, .int (zI ((nc + 1 : Nat) : Int)), .int (zI ((pp + 1 : Nat) : Int))])), (dn, .inl (c 0, 255, .inl (fun j => zI (((va_up nm nc x) j : Nat) : Int)))), (df, .inr (3, [.ref dfw])), (dfw, .inl (c 2, 4 * 255, .inr (.inl (zclr fw nc)))), (di, .inr (3, [.ref diw])), (diw, .inl (c 2, 4 * 40, .inr (.inl (zadd (zclr iw pp) pp nc)))), (dl, .inr (3, [.ref dlw])), (dlw, .inl (c 2, 4 * 40, .inr (.inl (zadd (zclr lw pp) pp nc)))), (dm, .inl (c 1, 40, .inl (fun j => zB ((va_up mb pp false) j))))] := hD
  refine lv_iconst (v := zI 1) hx hb d_Dr_addName_108 (by decide) ?_
  subst hQ
  exact W.zret (ty := .boolean) (v := (zI 1)) hx hb hr (by decide) (fun t9 ht hW => ⟨⟨_, (), rfl, ⟨(by decide), trivial⟩, by show va_P _ _ _ t9.heap; rw [ht]; exact hP⟩, hS.F ht⟩) hS.2.2 d_Dr_addName_109

def rm_joinToRow_no : Room := { frames := 1, cells := 0, slots := 0, locals := 21 }
set_option maxHeartbeats 4000000 in
set_option maxRecDepth 100000 in
/-- Draft.joinToRow, refused -/
theorem c_joinToRow_no (l : Launch) (D : va_G) (c : Nat → ClassId) (d : Nat) (dn : Nat) (df : Nat) (dfw : Nat) (di : Nat) (diw : Nat) (dl : Nat) (dlw : Nat) (dm : Nat) (nm : Nat → Nat) (fw : Nat → Int64) (iw : Nat → Int64) (lw : Nat → Int64) (mb : Nat → Bool) (nc : Nat) (pp : Nat) (hp : pp < 2) : Met l y_Dr_joinToRow w_Dr_joinToRow rm_joinToRow_no (va_Pc [.ref d] (fun U => va_P D vwCl [(d, .inr (0, [.ref dn, .ref df, .ref di, .ref dl, .ref dm, .int (zI ((nc : Nat) : Int)), .int (zI ((pp : Nat) : Int))])), (dm, .inl (c 1, 40, .inl (fun j => zB (mb j))))] U.heap ∧ zK D c U)) (vp_Si (fun r => r = (zB false))) 0 0 (fun _ => False) := by
  refine Met.ofW (cc := b_Dr_joinToRow) (maxL := 3) (ret := (some .boolean)) (by decide) rfl ?_
  intro p e s m args below meth c0 s₁ B hml hv
  obtain ⟨rfl, hP, hKN⟩ := hv
  have hK := hKN.1
  have hN := hKN.2
  have hx := B.exec
  have hb := B.bytes
  have hr := B.returns
  have hts := atoms_spec (ws := w_Dr_joinToRow) B.pre
  have hw : ∀ {w : Cond}, w ∈ ALLW → w.before _ s = true := fun h => hts _ (List.mem_cons_of_mem _ h)
  have hown : s.vm.findClass R_Dr = some m.cls := findClass_of_methodNamed B.named
  have hlocks := B.notSynchronized
  have hl := lv_entry ([.ref d]) (n := 3) (Nat.le_of_ble_eq_true rfl)
  rw [lg_entry_eq]
  generalize (lg_sl ([.ref d]) ++ List.replicate (3 - (lg_sl ([.ref d])).length) Slot.unset).toArray = ls at hl ⊢
  have hl : lv_has ls 3 [(0, .ref d)] := hl
  generalize hQ : MQ below _ _ _ _ _ _ = Q
  refine lv_aload_n hx hb d_Dr_joinToRow_0 rfl (lv_at hl 0 rfl) ?_
  refine va_get (D := D) (ci := 0) (v := .int (zI ((pp : Nat) : Int))) (C := R_Dr) (T := T_Dr) (N := 7) hx hb hts (fun w h => List.mem_cons_of_mem _ (inA_Dr w h)) hown hK hP 0 rfl rfl 6 (by decide) (hw k_Dr_f34) (fun _ h9 => h9) rfl d_Dr_joinToRow_1 ?_
  refine lv_iconst (v := zI 1) hx hb d_Dr_joinToRow_4 (by decide) ?_
  refine z_isub hx hb d_Dr_joinToRow_5 ?_
  refine lv_istore_n (lv' := [(1, .int (zI (((pp : Nat) : Int) - 1))), (0, .ref d)]) hx hb d_Dr_joinToRow_6 rfl hl (by decide) rfl (fun ls hl => ?_)
  refine lv_iload_n hx hb d_Dr_joinToRow_7 rfl (lv_at hl 0 rfl) ?_
  refine lv_iconst (v := zI 1) hx hb d_Dr_joinToRow_8 (by decide) ?_
  refine z_isub hx hb d_Dr_joinToRow_9 ?_
  refine lv_istore_n (lv' := [(2, .int (zI ((((pp : Nat) : Int) - 1) - 1))), (1, .int (zI (((pp : Nat) : Int) - 1))), (0, .ref d)]) hx hb d_Dr_joinToRow_10 rfl hl (by decide) rfl (fun ls hl => ?_)
  refine lv_aload_n hx hb d_Dr_joinToRow_11 rfl (lv_at hl 2 rfl) ?_
  refine lv_iload_n hx hb d_Dr_joinToRow_12 rfl (lv_at hl 0 rfl) ?_
  have hPc : va_P D vwCl [(d, .inr (0, [.ref dn, .ref df, .ref di, .ref dl, .ref dm, .int (zI ((nc : Nat) : Int)), .int (zI ((pp : Nat) : Int))])), (dm, .inl (c 1, 40, .inl (fun j => zB (mb j))))] s.heap := hP.sub (ws' := [(d, .inr (0, [.ref dn, .ref df, .ref di, .ref dl, .ref dm, .int (zI ((nc : Nat) : Int)), .int (zI ((pp : Nat) : Int))])), (dm, .inl (c 1, 40, .inl (fun j => zB (mb j))))]) [0, 1] rfl
  refine vp_callSi (va_runV (rm := rm_hasPart) (As := [.int (zI ((((pp : Nat) : Int) - 1) - 1))]) (rest := []) ⟨hx, hb, hml, hown, hts⟩ (c_hasPart l D c d dn df dfw di diw dl dlw dm nm fw iw lw mb nc pp (((pp : Nat) : Int) - 1 - 1) (by omega) (by omega)) (cwV 1 hts (gWV k_Dr_m48 k_i_Dr_hasPart k_v_Dr_hasPart k_n_Dr k_c_Dr_hasPart) rfl rfl rfl (by decide +kernel) ⟨Nat.le_of_ble_eq_true rfl, Nat.le_of_ble_eq_true rfl⟩) ⟨zblind, va_recv hK hPc (ci := 0) (q0 := 0) rfl rfl, fun U hU hW => ⟨rfl, by rw [hU]; exact hPc, hKN.moved hW⟩⟩ rfl rfl hl.1 rfl (lv_room (Nat.le_of_ble_eq_true rfl)) d_Dr_joinToRow_13 ⟨Nat.zero_le _, Nat.zero_le _⟩).run (fun r hr_1 => ?_)
  subst hr_1
  refine z_ifeq_B (tgt := 27) hx hb d_Dr_joinToRow_16 (by decide) (fun hc_16 => ?_) (fun hc_16 => (absurd hc_16 (by rw [decide_eq_false (by omega)]; decide)))
  refine lv_iconst (v := zI 0) hx hb d_Dr_joinToRow_27 (by decide) ?_
  subst hQ
  exact W.zret (ty := .boolean) (v := (zI 0)) hx hb hr (by decide) (fun t9 ht hW => ⟨_, rfl, (by decide), ht⟩) (fun q hq => absurd hq List.not_mem_nil) d_Dr_joinToRow_28

def rm_joinToChoice_no : Room := { frames := 1, cells := 0, slots := 0, locals := 21 }
set_option maxHeartbeats 4000000 in
set_option maxRecDepth 100000 in
/-- Draft.joinToChoice, refused -/
theorem c_joinToChoice_no (l : Launch) (D : va_G) (c : Nat → ClassId) (d : Nat) (dn : Nat) (df : Nat) (dfw : Nat) (di : Nat) (diw : Nat) (dl : Nat) (dlw : Nat) (dm : Nat) (nm : Nat → Nat) (fw : Nat → Int64) (iw : Nat → Int64) (lw : Nat → Int64) (mb : Nat → Bool) (nc : Nat) (pp : Nat) (hp : pp < 2) : Met l y_Dr_joinToChoice w_Dr_joinToChoice rm_joinToChoice_no (va_Pc [.ref d] (fun U => va_P D vwCl [(d, .inr (0, [.ref dn, .ref df, .ref di, .ref dl, .ref dm, .int (zI ((nc : Nat) : Int)), .int (zI ((pp : Nat) : Int))])), (dm, .inl (c 1, 40, .inl (fun j => zB (mb j))))] U.heap ∧ zK D c U)) (vp_Si (fun r => r = (zB false))) 0 0 (fun _ => False) := by
  refine Met.ofW (cc := b_Dr_joinToChoice) (maxL := 3) (ret := (some .boolean)) (by decide) rfl ?_
  intro p e s m args below meth c0 s₁ B hml hv
  obtain ⟨rfl, hP, hKN⟩ := hv
  have hK := hKN.1
  have hN := hKN.2
  have hx := B.exec
  have hb := B.bytes
  have hr := B.returns
  have hts := atoms_spec (ws := w_Dr_joinToChoice) B.pre
  have hw : ∀ {w : Cond}, w ∈ ALLW → w.before _ s = true := fun h => hts _ (List.mem_cons_of_mem _ h)
  have hown : s.vm.findClass R_Dr = some m.cls := findClass_of_methodNamed B.named
  have hlocks := B.notSynchronized
  have hl := lv_entry ([.ref d]) (n := 3) (Nat.le_of_ble_eq_true rfl)
  rw [lg_entry_eq]
  generalize (lg_sl ([.ref d]) ++ List.replicate (3 - (lg_sl ([.ref d])).length) Slot.unset).toArray = ls at hl ⊢
  have hl : lv_has ls 3 [(0, .ref d)] := hl
  generalize hQ : MQ below _ _ _ _ _ _ = Q
  refine lv_aload_n hx hb d_Dr_joinToChoice_0 rfl (lv_at hl 0 rfl) ?_
  refine va_get (D := D) (ci := 0) (v := .int (zI ((pp : Nat) : Int))) (C := R_Dr) (T := T_Dr) (N := 7) hx hb hts (fun w h => List.mem_cons_of_mem _ (inA_Dr w h)) hown hK hP 0 rfl rfl 6 (by decide) (hw k_Dr_f34) (fun _ h9 => h9) rfl d_Dr_joinToChoice_1 ?_
  refine lv_iconst (v := zI 1) hx hb d_Dr_joinToChoice_4 (by decide) ?_
  refine z_isub hx hb d_Dr_joinToChoice_5 ?_
  refine lv_istore_n (lv' := [(1, .int (zI (((pp : Nat) : Int) - 1))), (0, .ref d)]) hx hb d_Dr_joinToChoice_6 rfl hl (by decide) rfl (fun ls hl => ?_)
  refine lv_iload_n hx hb d_Dr_joinToChoice_7 rfl (lv_at hl 0 rfl) ?_
  refine lv_iconst (v := zI 1) hx hb d_Dr_joinToChoice_8 (by decide) ?_
  refine z_isub hx hb d_Dr_joinToChoice_9 ?_
  refine lv_istore_n (lv' := [(2, .int (zI ((((pp : Nat) : Int) - 1) - 1))), (1, .int (zI (((pp : Nat) : Int) - 1))), (0, .ref d)]) hx hb d_Dr_joinToChoice_10 rfl hl (by decide) rfl (fun ls hl => ?_)
  refine lv_aload_n hx hb d_Dr_joinToChoice_11 rfl (lv_at hl 2 rfl) ?_
  refine lv_iload_n hx hb d_Dr_joinToChoice_12 rfl (lv_at hl 0 rfl) ?_
  have hPc : va_P D vwCl [(d, .inr (0, [.ref dn, .ref df, .ref di, .ref dl, .ref dm, .int (zI ((nc : Nat) : Int)), .int (zI ((pp : Nat) : Int))])), (dm, .inl (c 1, 40, .inl (fun j => zB (mb j))))] s.heap := hP.sub (ws' := [(d, .inr (0, [.ref dn, .ref df, .ref di, .ref dl, .ref dm, .int (zI ((nc : Nat) : Int)), .int (zI ((pp : Nat) : Int))])), (dm, .inl (c 1, 40, .inl (fun j => zB (mb j))))]) [0, 1] rfl
  refine vp_callSi (va_runV (rm := rm_hasPart) (As := [.int (zI ((((pp : Nat) : Int) - 1) - 1))]) (rest := []) ⟨hx, hb, hml, hown, hts⟩ (c_hasPart l D c d dn df dfw di diw dl dlw dm nm fw iw lw mb nc pp (((pp : Nat) : Int) - 1 - 1) (by omega) (by omega)) (cwV 1 hts (gWV k_Dr_m48 k_i_Dr_hasPart k_v_Dr_hasPart k_n_Dr k_c_Dr_hasPart) rfl rfl rfl (by decide +kernel) ⟨Nat.le_of_ble_eq_true rfl, Nat.le_of_ble_eq_true rfl⟩) ⟨zblind, va_recv hK hPc (ci := 0) (q0 := 0) rfl rfl, fun U hU hW => ⟨rfl, by rw [hU]; exact hPc, hKN.moved hW⟩⟩ rfl rfl hl.1 rfl (lv_room (Nat.le_of_ble_eq_true rfl)) d_Dr_joinToChoice_13 ⟨Nat.zero_le _, Nat.zero_le _⟩).run (fun r hr_1 => ?_)
  subst hr_1
  refine z_ifeq_B (tgt := 27) hx hb d_Dr_joinToChoice_16 (by decide) (fun hc_16 => ?_) (fun hc_16 => (absurd hc_16 (by rw [decide_eq_false (by omega)]; decide)))
  refine lv_iconst (v := zI 0) hx hb d_Dr_joinToChoice_27 (by decide) ?_
  subst hQ
  exact W.zret (ty := .boolean) (v := (zI 0)) hx hb hr (by decide) (fun t9 ht hW => ⟨_, rfl, (by decide), ht⟩) (fun q hq => absurd hq List.not_mem_nil) d_Dr_joinToChoice_28

def rm_joinToRow : Room := { frames := 4, cells := 0, slots := 0, locals := 88 }
set_option maxHeartbeats 4000000 in
set_option maxRecDepth 100000 in
/-- Draft.joinToRow -/
theorem c_joinToRow (l : Launch) (D : va_G) (c : Nat → ClassId) (d : Nat) (dn : Nat) (df : Nat) (dfw : Nat) (di : Nat) (diw : Nat) (dl : Nat) (dlw : Nat) (dm : Nat) (nm : Nat → Nat) (fw : Nat → Int64) (iw : Nat → Int64) (lw : Nat → Int64) (mb : Nat → Bool) (nc : Nat) (q : Nat) (hp : q + 2 ≤ 40) (hc : nc ≤ 255) : Met l y_Dr_joinToRow w_Dr_joinToRow rm_joinToRow (va_Pc [.ref d] (fun U => (va_P D vwCl [(d, .inr (0, [.ref dn, .ref df, .ref di, .ref dl, .ref dm, .int (zI ((nc : Nat) : Int)), .int (zI ((q + 2 : Nat) : Int))])), (df, .inr (3, [.ref dfw])), (dfw, .inl (c 2, 4 * 255, .inr (.inl fw))), (di, .inr (3, [.ref diw])), (diw, .inl (c 2, 4 * 40, .inr (.inl iw))), (dl, .inr (3, [.ref dlw])), (dlw, .inl (c 2, 4 * 40, .inr (.inl lw))), (dm, .inl (c 1, 40, .inl (fun j => zB (mb j))))] U.heap ∧ va_D (fun _ => True) [(d, .inr (0, [.ref dn, .ref df, .ref di, .ref dl, .ref dm, .int (zI ((nc : Nat) : Int)), .int (zI ((q + 2 : Nat) : Int))])), (df, .inr (3, [.ref dfw])), (dfw, .inl (c 2, 4 * 255, .inr (.inl fw))), (di, .inr (3, [.ref diw])), (diw, .inl (c 2, 4 * 40, .inr (.inl iw))), (dl, .inr (3, [.ref dlw])), (dlw, .inl (c 2, 4 * 40, .inr (.inl lw))), (dm, .inl (c 1, 40, .inl (fun j => zB (mb j))))]) ∧ zK D c U)) (va_Qi (fun (r : Int32) (u : Unit) => r = (zB true) ∧ True) (fun (u : Unit) t9 => va_P D vwCl [(d, .inr (0, [.ref dn, .ref df, .ref di, .ref dl, .ref dm, .int (zI ((nc : Nat) : Int)), .int (zI ((q + 1 : Nat) : Int))])), (df, .inr (3, [.ref dfw])), (dfw, .inl (c 2, 4 * 255, .inr (.inl (lfw fw iw lw q (q + 1) nc)))), (di, .inr (3, [.ref diw])), (diw, .inl (c 2, 4 * 40, .inr (.inl (jrI iw mb q)))), (dl, .inr (3, [.ref dlw])), (dlw, .inl (c 2, 4 * 40, .inr (.inl (zor (jrL0 lw mb q) q (jrL0 lw mb q) (q + 1))))), (dm, .inl (c 1, 40, .inl (fun j => zB ((va_up mb q (mb q && mb (q + 1))) j))))] t9.heap) (zA [(d, .inr (0, [.ref dn, .ref df, .ref di, .ref dl, .ref dm, .int (zI ((nc : Nat) : Int)), .int (zI ((q + 2 : Nat) : Int))])), (df, .inr (3, [.ref dfw])), (dfw, .inl (c 2, 4 * 255, .inr (.inl fw))), (di, .inr (3, [.ref diw])), (diw, .inl (c 2, 4 * 40, .inr (.inl iw))), (dl, .inr (3, [.ref dlw])), (dlw, .inl (c 2, 4 * 40, .inr (.inl lw))), (dm, .inl (c 1, 40, .inl (fun j => zB (mb j))))])) 0 0 (zA [(d, .inr (0, [.ref dn, .ref df, .ref di, .ref dl, .ref dm, .int (zI ((nc : Nat) : Int)), .int (zI ((q + 2 : Nat) : Int))])), (df, .inr (3, [.ref dfw])), (dfw, .inl (c 2, 4 * 255, .inr (.inl fw))), (di, .inr (3, [.ref diw])), (diw, .inl (c 2, 4 * 40, .inr (.inl iw))), (dl, .inr (3, [.ref dlw])), (dlw, .inl (c 2, 4 * 40, .inr (.inl lw))), (dm, .inl (c 1, 40, .inl (fun j => zB (mb j))))]) := by
  refine Met.ofW (cc := b_Dr_joinToRow) (maxL := 3) (ret := (some .boolean)) (by decide) rfl ?_
  intro p e s m args below meth c0 s₁ B hml hv
  obtain ⟨rfl, ⟨hP, hD0⟩, hKN⟩ := hv
  have hK := hKN.1
  have hN := hKN.2
  have hx := B.exec
  have hb := B.bytes
  have hr := B.returns
  have hts := atoms_spec (ws := w_Dr_joinToRow) B.pre
  have hw : ∀ {w : Cond}, w ∈ ALLW → w.before _ s = true := fun h => hts _ (List.mem_cons_of_mem _ h)
  have hown : s.vm.findClass R_Dr = some m.cls := findClass_of_methodNamed B.named
  have hlocks := B.notSynchronized
  have hD : va_D (zA [(d, .inr (0, [.ref dn, .ref df, .ref di, .ref dl, .ref dm, .int (zI ((nc : Nat) : Int)), .int (zI ((q + 2 : Nat) : Int))])), (df, .inr (3, [.ref dfw])), (dfw, .inl (c 2, 4 * 255, .inr (.inl fw))), (di, .inr (3, [.ref diw])), (diw, .inl (c 2, 4 * 40, .inr (.inl iw))), (dl, .inr (3, [.ref dlw])), (dlw, .inl (c 2, 4 * 40, .inr (.inl lw))), (dm, .inl (c 1, 40, .inl (fun j => zB (mb j))))]) [(d, .inr (0, [.ref dn, .ref df, .ref di, .ref dl, .ref dm, .int (zI ((nc : Nat) : Int)), .int (zI ((q + 2 : Nat) : Int))])), (df, .inr (3, [.ref dfw])), (dfw, .inl (c 2, 4 * 255, .inr (.inl fw))), (di, .inr (3, [.ref diw])), (diw, .inl (c 2, 4 * 40, .inr (.inl iw))), (dl, .inr (3, [.ref dlw])), (dlw, .inl (c 2, 4 * 40, .inr (.inl lw))), (dm, .inl (c 1, 40, .inl (fun j => zB (mb j))))] := ⟨hD0.1, fun k q h => List.mem_map.mpr ⟨q, List.mem_of_getElem? h, rfl⟩⟩
  generalize hAe : zA [(d, .inr (0, [.ref dn, .ref df, .ref di, .ref dl, .ref dm, .int (zI ((nc : Nat) : Int)), .int (zI ((q + 2 : Nat) : Int))])), (df, .inr (3, [.ref dfw])), (dfw, .inl (c 2, 4 * 255, .inr (.inl fw))), (di, .inr (3, [.ref diw])), (diw, .inl (c 2, 4 * 40, .inr (.inl iw))), (dl, .inr (3, [.ref dlw])), (dlw, .inl (c 2, 4 * 40, .inr (.inl lw))), (dm, .inl (c 1, 40, .inl (fun j => zB (mb j))))] = A at hD ⊢
  have hS : va_S A s.heap s.heap [] := va_S.rf
  have hP : va_P D vwCl [(d, .inr (0, [.ref dn, .ref df, .ref di, .ref dl, .ref dm, .int (zI ((nc : Nat) : Int)), .int (zI ((q + 2 : Nat) : Int))])), (df, .inr (3, [.ref dfw])), (dfw, .inl (c 2, 4 * 255, .inr (.inl fw))), (di, .inr (3, [.ref diw])), (diw, .inl (c 2, 4 * 40, .inr (.inl iw))), (dl, .inr (3, [.ref dlw])), (dlw, .inl (c 2, 4 * 40, .inr (.inl lw))), (dm, .inl (c 1, 40, .inl (fun j => zB (mb j))))] s.heap := hP
  have hl := lv_entry ([.ref d]) (n := 3) (Nat.le_of_ble_eq_true rfl)
  rw [lg_entry_eq]
  generalize (lg_sl ([.ref d]) ++ List.replicate (3 - (lg_sl ([.ref d])).length) Slot.unset).toArray = ls at hl ⊢
  have hl : lv_has ls 3 [(0, .ref d)] := hl
  generalize hQ : MQ below _ _ _ _ _ _ = Q
  refine lv_aload_n hx hb d_Dr_joinToRow_0 rfl (lv_at hl 0 rfl) ?_
  refine va_get (D := D) (ci := 0) (v := .int (zI ((q + 2 : Nat) : Int))) (C := R_Dr) (T := T_Dr) (N := 7) hx hb hts (fun w h => List.mem_cons_of_mem _ (inA_Dr w h)) hown hK hP 0 rfl rfl 6 (by decide) (hw k_Dr_f34) (fun _ h9 => h9) rfl d_Dr_joinToRow_1 ?_
  refine lv_iconst (v := zI 1) hx hb d_Dr_joinToRow_4 (by decide) ?_
  refine z_isub hx hb d_Dr_joinToRow_5 ?_
  refine z_top (v2 := .int (zI ((q + 1 : Nat) : Int))) (congrArg Value.int (congrArg zI (by omega))) ?_
  refine lv_istore_n (lv' := [(1, .int (zI ((q + 1 : Nat) : Int))), (0, .ref d)]) hx hb d_Dr_joinToRow_6 rfl hl (by decide) rfl (fun ls hl => ?_)
  refine lv_iload_n hx hb d_Dr_joinToRow_7 rfl (lv_at hl 0 rfl) ?_
  refine lv_iconst (v := zI 1) hx hb d_Dr_joinToRow_8 (by decide) ?_
  refine z_isub hx hb d_Dr_joinToRow_9 ?_
  refine z_top (v2 := .int (zI ((q : Nat) : Int))) (congrArg Value.int (congrArg zI (by omega))) ?_
  refine lv_istore_n (lv' := [(2, .int (zI ((q : Nat) : Int))), (1, .int (zI ((q + 1 : Nat) : Int))), (0, .ref d)]) hx hb d_Dr_joinToRow_10 rfl hl (by decide) rfl (fun ls hl => ?_)
  refine lv_aload_n hx hb d_Dr_joinToRow_11 rfl (lv_at hl 2 rfl) ?_
  refine lv_iload_n hx hb d_Dr_joinToRow_12 rfl (lv_at hl 0 rfl) ?_
  have hPc : va_P D vwCl [(d, .inr (0, [.ref dn, .ref df, .ref di, .ref dl, .ref dm, .int (zI ((nc : Nat) : Int)), .int (zI (((q + 2) : Nat) : Int))])), (dm, .inl (c 1, 40, .inl (fun j => zB (mb j))))] s.heap := hP.sub (ws' := [(d, .inr (0, [.ref dn, .ref df, .ref di, .ref dl, .ref dm, .int (zI ((nc : Nat) : Int)), .int (zI (((q + 2) : Nat) : Int))])), (dm, .inl (c 1, 40, .inl (fun j => zB (mb j))))]) [0, 7] rfl
  refine vp_callSi (va_runV (rm := rm_hasPart) (As := [.int (zI ((q : Nat) : Int))]) (rest := []) ⟨hx, hb, hml, hown, hts⟩ (c_hasPart l D c d dn df dfw di diw dl dlw dm nm fw iw lw mb nc (q + 2) ((q : Nat) : Int) (by omega) (by omega)) (cwV 1 hts (gWV k_Dr_m48 k_i_Dr_hasPart k_v_Dr_hasPart k_n_Dr k_c_Dr_hasPart) rfl rfl rfl (by decide +kernel) ⟨Nat.le_of_ble_eq_true rfl, Nat.le_of_ble_eq_true rfl⟩) ⟨zblind, va_recv hK hPc (ci := 0) (q0 := 0) rfl rfl, fun U hU hW => ⟨rfl, by rw [hU]; exact hPc, hKN.moved hW⟩⟩ rfl rfl hl.1 rfl (lv_room (Nat.le_of_ble_eq_true rfl)) d_Dr_joinToRow_13 ⟨Nat.zero_le _, Nat.zero_le _⟩).run (fun r hr_1 => ?_)
  subst hr_1
  refine z_ifeq_B (tgt := 27) hx hb d_Dr_joinToRow_16 (by decide) (fun hc_16 => (absurd hc_16 (by rw [decide_eq_true (by omega)]; decide))) (fun hc_16 => ?_)
  refine lv_aload_n hx hb d_Dr_joinToRow_19 rfl (lv_at hl 2 rfl) ?_
  refine lv_iload_n hx hb d_Dr_joinToRow_20 rfl (lv_at hl 1 rfl) ?_
  have hPc : va_P D vwCl [(d, .inr (0, [.ref dn, .ref df, .ref di, .ref dl, .ref dm, .int (zI ((nc : Nat) : Int)), .int (zI (((q + 2) : Nat) : Int))])), (dm, .inl (c 1, 40, .inl (fun j => zB (mb j))))] s.heap := hP.sub (ws' := [(d, .inr (0, [.ref dn, .ref df, .ref di, .ref dl, .ref dm, .int (zI ((nc : Nat) : Int)), .int (zI (((q + 2) : Nat) : Int))])), (dm, .inl (c 1, 40, .inl (fun j => zB (mb j))))]) [0, 7] rfl
  refine vp_callSi (va_runV (rm := rm_hasPart) (As := [.int (zI ((q + 1 : Nat) : Int))]) (rest := []) ⟨hx, hb, hml, hown, hts⟩ (c_hasPart l D c d dn df dfw di diw dl dlw dm nm fw iw lw mb nc (q + 2) ((q + 1 : Nat) : Int) (by omega) (by omega)) (cwV 1 hts (gWV k_Dr_m48 k_i_Dr_hasPart k_v_Dr_hasPart k_n_Dr k_c_Dr_hasPart) rfl rfl rfl (by decide +kernel) ⟨Nat.le_of_ble_eq_true rfl, Nat.le_of_ble_eq_true rfl⟩) ⟨zblind, va_recv hK hPc (ci := 0) (q0 := 0) rfl rfl, fun U hU hW => ⟨rfl, by rw [hU]; exact hPc, hKN.moved hW⟩⟩ rfl rfl hl.1 rfl (lv_room (Nat.le_of_ble_eq_true rfl)) d_Dr_joinToRow_21 ⟨Nat.zero_le _, Nat.zero_le _⟩).run (fun r hr_2 => ?_)
  subst hr_2
  refine z_ifne_B (tgt := 29) hx hb d_Dr_joinToRow_24 (by decide) (fun hc_24 => ?_) (fun hc_24 => (absurd hc_24 (by rw [decide_eq_true (by omega)]; decide)))
  refine lv_aload_n hx hb d_Dr_joinToRow_29 rfl (lv_at hl 2 rfl) ?_
  refine lv_iload_n hx hb d_Dr_joinToRow_30 rfl (lv_at hl 0 rfl) ?_
  refine lv_iload_n hx hb d_Dr_joinToRow_31 rfl (lv_at hl 1 rfl) ?_
  have hPc : va_P D vwCl [(d, .inr (0, [.ref dn, .ref df, .ref di, .ref dl, .ref dm, .int (zI ((nc : Nat) : Int)), .int (zI (((q + 2) : Nat) : Int))])), (df, .inr (3, [.ref dfw])), (dfw, .inl (c 2, 4 * 255, .inr (.inl fw))), (di, .inr (3, [.ref diw])), (diw, .inl (c 2, 4 * 40, .inr (.inl iw))), (dl, .inr (3, [.ref dlw])), (dlw, .inl (c 2, 4 * 40, .inr (.inl lw)))] s.heap := hP.sub (ws' := [(d, .inr (0, [.ref dn, .ref df, .ref di, .ref dl, .ref dm, .int (zI ((nc : Nat) : Int)), .int (zI (((q + 2) : Nat) : Int))])), (df, .inr (3, [.ref dfw])), (dfw, .inl (c 2, 4 * 255, .inr (.inl fw))), (di, .inr (3, [.ref diw])), (diw, .inl (c 2, 4 * 40, .inr (.inl iw))), (dl, .inr (3, [.ref dlw])), (dlw, .inl (c 2, 4 * 40, .inr (.inl lw)))]) [0, 1, 2, 3, 4, 5, 6] rfl
  have hDc : va_D A [(d, .inr (0, [.ref dn, .ref df, .ref di, .ref dl, .ref dm, .int (zI ((nc : Nat) : Int)), .int (zI (((q + 2) : Nat) : Int))])), (df, .inr (3, [.ref dfw])), (dfw, .inl (c 2, 4 * 255, .inr (.inl fw))), (di, .inr (3, [.ref diw])), (diw, .inl (c 2, 4 * 40, .inr (.inl iw))), (dl, .inr (3, [.ref dlw])), (dlw, .inl (c 2, 4 * 40, .inr (.inl lw)))] := hD.sub (ws' := [(d, .inr (0, [.ref dn, .ref df, .ref di, .ref dl, .ref dm, .int (zI ((nc : Nat) : Int)), .int (zI (((q + 2) : Nat) : Int))])), (df, .inr (3, [.ref dfw])), (dfw, .inl (c 2, 4 * 255, .inr (.inl fw))), (di, .inr (3, [.ref diw])), (diw, .inl (c 2, 4 * 40, .inr (.inl iw))), (dl, .inr (3, [.ref dlw])), (dlw, .inl (c 2, 4 * 40, .inr (.inl lw)))]) [0, 1, 2, 3, 4, 5, 6] (by decide) rfl
  have hDt : va_D (fun _ => True) [(d, .inr (0, [.ref dn, .ref df, .ref di, .ref dl, .ref dm, .int (zI ((nc : Nat) : Int)), .int (zI (((q + 2) : Nat) : Int))])), (df, .inr (3, [.ref dfw])), (dfw, .inl (c 2, 4 * 255, .inr (.inl fw))), (di, .inr (3, [.ref diw])), (diw, .inl (c 2, 4 * 40, .inr (.inl iw))), (dl, .inr (3, [.ref dlw])), (dlw, .inl (c 2, 4 * 40, .inr (.inl lw)))] := hDc.weaken (fun _ _ _ _ => trivial)
  refine z_callv (S := Unit) (w1 := fun u => [(d, .inr (0, [.ref dn, .ref df, .ref di, .ref dl, .ref dm, .int (zI ((nc : Nat) : Int)), .int (zI (((q + 2) : Nat) : Int))])), (df, .inr (3, [.ref dfw])), (dfw, .inl (c 2, 4 * 255, .inr (.inl (lfw fw iw lw q (q + 1) nc)))), (di, .inr (3, [.ref diw])), (diw, .inl (c 2, 4 * 40, .inr (.inl iw))), (dl, .inr (3, [.ref dlw])), (dlw, .inl (c 2, 4 * 40, .inr (.inl lw)))]) (post := fun u => True) (wc := [(d, .inr (0, [.ref dn, .ref df, .ref di, .ref dl, .ref dm, .int (zI ((nc : Nat) : Int)), .int (zI (((q + 2) : Nat) : Int))])), (df, .inr (3, [.ref dfw])), (dfw, .inl (c 2, 4 * 255, .inr (.inl fw))), (di, .inr (3, [.ref diw])), (diw, .inl (c 2, 4 * 40, .inr (.inl iw))), (dl, .inr (3, [.ref dlw])), (dlw, .inl (c 2, 4 * 40, .inr (.inl lw)))]) [0, 1, 2, 3, 4, 5, 6] rfl (fun _ => rfl) hP hD hS (va_runV (rm := rm_letFollow) (As := [.int (zI ((q : Nat) : Int)), .int (zI ((q + 1 : Nat) : Int))]) (rest := []) ⟨hx, hb, hml, hown, hts⟩ (c_letFollow l D c d dn df dfw di diw dl dlw dm nm fw iw lw mb nc (q + 2) q (q + 1) (by omega) (by omega) (by omega)) (cwV 2 hts (gWV k_Dr_m52 k_i_Dr_letFollow k_v_Dr_letFollow k_n_Dr k_c_Dr_letFollow) rfl rfl rfl (by decide +kernel) ⟨Nat.le_of_ble_eq_true rfl, Nat.le_of_ble_eq_true rfl⟩) ⟨zblindW, va_recv hK hPc (ci := 0) (q0 := 0) rfl rfl, fun U hU hW => ⟨rfl, ⟨by rw [hU]; exact hPc, hDt⟩, hKN.moved hW⟩⟩ rfl rfl hl.1 rfl (lv_room (Nat.le_of_ble_eq_true rfl)) d_Dr_joinToRow_32 ⟨Nat.zero_le _, Nat.zero_le _⟩) (fun u H locs hp_3 hP hD hS => ?_)
  have hP : va_P D vwCl [(d, .inr (0, [.ref dn, .ref df, .ref di, .ref dl, .ref dm, .int (zI ((nc : Nat) : Int)), .int (zI (((q + 2) : Nat) : Int))])), (df, .inr (3, [.ref dfw])), (dfw, .inl (c 2, 4 * 255, .inr (.inl (lfw fw iw lw q (q + 1) nc)))), (di, .inr (3, [.ref diw])), (diw, .inl (c 2, 4 * 40, .inr (.inl iw))), (dl, .inr (3, [.ref dlw])), (dlw, .inl (c 2, 4 * 40, .inr (.inl lw))), (dm, .inl (c 1, 40, .inl (fun j => zB (mb j))))] H := hP
  have hD : va_D A [(d, .inr (0, [.ref dn, .ref df, .ref di, .ref dl, .ref dm, .int (zI ((nc : Nat) : Int)), .int (zI (((q + 2) : Nat) : Int))])), (df, .inr (3, [.ref dfw])), (dfw, .inl (c 2, 4 * 255, .inr (.inl (lfw fw iw lw q (q + 1) nc)))), (di, .inr (3, [.ref diw])), (diw, .inl (c 2, 4 * 40, .inr (.inl iw))), (dl, .inr (3, [.ref dlw])), (dlw, .inl (c 2, 4 * 40, .inr (.inl lw))), (dm, .inl (c 1, 40, .inl (fun j => zB (mb j))))] := hD
  refine lv_aload_n hx hb d_Dr_joinToRow_35 rfl (lv_at hl 2 rfl) ?_
  refine va_get (D := D) (ci := 0) (v := .ref dm) (C := R_Dr) (T := T_Dr) (N := 7) hx hb hts (fun w h => List.mem_cons_of_mem _ (inA_Dr w h)) hown hK hP 0 rfl rfl 4 (by decide) (hw k_Dr_f30) (fun _ h9 => h9) rfl d_Dr_joinToRow_36 ?_
  refine lv_iload_n hx hb d_Dr_joinToRow_39 rfl (lv_at hl 0 rfl) ?_
  refine z_zald hx hb hK hP 7 1 rfl rfl (q) (by omega) (by omega) (by omega) d_Dr_joinToRow_40 ?_
  refine z_ifeq_B (tgt := 57) hx hb d_Dr_joinToRow_41 (by decide) (fun hc_41 => ?_) (fun hc_41 => ?_)
  · refine lv_aload_n hx hb d_Dr_joinToRow_57 rfl (lv_at hl 2 rfl) ?_
    refine va_get (D := D) (ci := 0) (v := .ref dm) (C := R_Dr) (T := T_Dr) (N := 7) hx hb hts (fun w h => List.mem_cons_of_mem _ (inA_Dr w h)) hown hK hP 0 rfl rfl 4 (by decide) (hw k_Dr_f30) (fun _ h9 => h9) rfl d_Dr_joinToRow_58 ?_
    refine lv_iload_n hx hb d_Dr_joinToRow_61 rfl (lv_at hl 1 rfl) ?_
    refine z_zald hx hb hK hP 7 1 rfl rfl (q + 1) (by omega) (by omega) (by omega) d_Dr_joinToRow_62 ?_
    refine z_ifne_B (tgt := 74) hx hb d_Dr_joinToRow_63 (by decide) (fun hc_63 => ?_) (fun hc_63 => ?_)
    · refine lv_aload_n hx hb d_Dr_joinToRow_74 rfl (lv_at hl 2 rfl) ?_
      refine va_get (D := D) (ci := 0) (v := .ref dl) (C := R_Dr) (T := T_Dr) (N := 7) hx hb hts (fun w h => List.mem_cons_of_mem _ (inA_Dr w h)) hown hK hP 0 rfl rfl 3 (by decide) (hw k_Dr_f27) (fun _ h9 => h9) rfl d_Dr_joinToRow_75 ?_
      refine lv_iload_n hx hb d_Dr_joinToRow_78 rfl (lv_at hl 0 rfl) ?_
      refine lv_aload_n hx hb d_Dr_joinToRow_79 rfl (lv_at hl 2 rfl) ?_
      refine va_get (D := D) (ci := 0) (v := .ref dl) (C := R_Dr) (T := T_Dr) (N := 7) hx hb hts (fun w h => List.mem_cons_of_mem _ (inA_Dr w h)) hown hK hP 0 rfl rfl 3 (by decide) (hw k_Dr_f27) (fun _ h9 => h9) rfl d_Dr_joinToRow_80 ?_
      refine lv_iload_n hx hb d_Dr_joinToRow_83 rfl (lv_at hl 1 rfl) ?_
      have hPc : va_P D vwCl [(dl, .inr (3, [.ref dlw])), (dlw, .inl (c 2, 4 * 40, .inr (.inl lw)))] H := hP.sub (ws' := [(dl, .inr (3, [.ref dlw])), (dlw, .inl (c 2, 4 * 40, .inr (.inl lw)))]) [5, 6] rfl
      have hDc : va_D A [(dl, .inr (3, [.ref dlw])), (dlw, .inl (c 2, 4 * 40, .inr (.inl lw)))] := hD.sub (ws' := [(dl, .inr (3, [.ref dlw])), (dlw, .inl (c 2, 4 * 40, .inr (.inl lw)))]) [5, 6] (by decide) rfl
      have hDt : va_D (fun _ => True) [(dl, .inr (3, [.ref dlw])), (dlw, .inl (c 2, 4 * 40, .inr (.inl lw)))] := hDc.weaken (fun _ _ _ _ => trivial)
      refine z_callv (S := Unit) (w1 := fun u => [(dl, .inr (3, [.ref dlw])), (dlw, .inl (c 2, 4 * 40, .inr (.inl (zor lw q lw (q + 1)))))]) (post := fun u => True) (wc := [(dl, .inr (3, [.ref dlw])), (dlw, .inl (c 2, 4 * 40, .inr (.inl lw)))]) [5, 6] rfl (fun _ => rfl) hP hD hS (va_runV (rm := rm_addSelf) (As := [.int (zI ((q : Nat) : Int)), .ref dl, .int (zI ((q + 1 : Nat) : Int))]) (rest := []) ⟨hx, hb, hml, hown, hts⟩ (c_addSelf l D c dl dlw 40 lw q (q + 1) (by omega) (by omega) (by omega)) (cwV 3 hts (gWV k_Dr_m55 k_i_Se_addAll k_v_Se_addAll k_n_Se k_c_Se_addAll) rfl rfl rfl (by decide +kernel) ⟨Nat.le_of_ble_eq_true rfl, Nat.le_of_ble_eq_true rfl⟩) ⟨zblindW, va_recv hK hPc (ci := 3) (q0 := 0) rfl rfl, fun U hU hW => ⟨rfl, ⟨by rw [hU]; exact hPc, hDt⟩, hKN.moved hW⟩⟩ rfl rfl hl.1 rfl (lv_room (Nat.le_of_ble_eq_true rfl)) d_Dr_joinToRow_84 ⟨Nat.zero_le _, Nat.zero_le _⟩) (fun u H locs hp_4 hP hD hS => ?_)
      have hP : va_P D vwCl [(d, .inr (0, [.ref dn, .ref df, .ref di, .ref dl, .ref dm, .int (zI ((nc : Nat) : Int)), .int (zI (((q + 2) : Nat) : Int))])), (df, .inr (3, [.ref dfw])), (dfw, .inl (c 2, 4 * 255, .inr (.inl (lfw fw iw lw q (q + 1) nc)))), (di, .inr (3, [.ref diw])), (diw, .inl (c 2, 4 * 40, .inr (.inl iw))), (dl, .inr (3, [.ref dlw])), (dlw, .inl (c 2, 4 * 40, .inr (.inl (zor lw q lw (q + 1))))), (dm, .inl (c 1, 40, .inl (fun j => zB (mb j))))] H := hP
      have hD : va_D A [(d, .inr (0, [.ref dn, .ref df, .ref di, .ref dl, .ref dm, .int (zI ((nc : Nat) : Int)), .int (zI (((q + 2) : Nat) : Int))])), (df, .inr (3, [.ref dfw])), (dfw, .inl (c 2, 4 * 255, .inr (.inl (lfw fw iw lw q (q + 1) nc)))), (di, .inr (3, [.ref diw])), (diw, .inl (c 2, 4 * 40, .inr (.inl iw))), (dl, .inr (3, [.ref dlw])), (dlw, .inl (c 2, 4 * 40, .inr (.inl (zor lw q lw (q + 1))))), (dm, .inl (c 1, 40, .inl (fun j => zB (mb j))))] := hD
      refine lv_aload_n hx hb d_Dr_joinToRow_87 rfl (lv_at hl 2 rfl) ?_
      refine va_get (D := D) (ci := 0) (v := .ref dm) (C := R_Dr) (T := T_Dr) (N := 7) hx hb hts (fun w h => List.mem_cons_of_mem _ (inA_Dr w h)) hown hK hP 0 rfl rfl 4 (by decide) (hw k_Dr_f30) (fun _ h9 => h9) rfl d_Dr_joinToRow_88 ?_
      refine lv_iload_n hx hb d_Dr_joinToRow_91 rfl (lv_at hl 0 rfl) ?_
      refine lv_aload_n hx hb d_Dr_joinToRow_92 rfl (lv_at hl 2 rfl) ?_
      refine va_get (D := D) (ci := 0) (v := .ref dm) (C := R_Dr) (T := T_Dr) (N := 7) hx hb hts (fun w h => List.mem_cons_of_mem _ (inA_Dr w h)) hown hK hP 0 rfl rfl 4 (by decide) (hw k_Dr_f30) (fun _ h9 => h9) rfl d_Dr_joinToRow_93 ?_
      refine lv_iload_n hx hb d_Dr_joinToRow_96 rfl (lv_at hl 0 rfl) ?_
      refine z_zald hx hb hK hP 7 1 rfl rfl (q) (by omega) (by omega) (by omega) d_Dr_joinToRow_97 ?_
      refine z_ifeq_B (tgt := 114) hx hb d_Dr_joinToRow_98 (by decide) (fun hc_98 => ?_) (fun hc_98 => ?_)
      · refine lv_iconst (v := zI 0) hx hb d_Dr_joinToRow_114 (by decide) ?_
        refine z_top (v2 := .int (zB false)) (congrArg Value.int (by decide)) ?_
        refine z_zast hx hb hK hP hD hS 7 1 rfl rfl (q) (by omega) (by omega) (by omega) d_Dr_joinToRow_115 (fun H locs hP hD hS => ?_)
        have hP : va_P D vwCl [(d, .inr (0, [.ref dn, .ref df, .ref di, .ref dl, .ref dm, .int (zI ((nc : Nat) : Int)), .int (zI (((q + 2) : Nat) : Int))])), (df, .inr (3, [.ref dfw])), (dfw, .inl (c 2, 4 * 255, .inr (.inl (lfw fw iw lw q (q + 1) nc)))), (di, .inr (3, [.ref diw])), (diw, .inl (c 2, 4 * 40, .inr (.inl iw))), (dl, .inr (3, [.ref dlw])), (dlw, .inl (c 2, 4 * 40, .inr (.inl (zor lw q lw (q + 1))))), (dm, .inl (c 1, 40, .inl (fun j => zB ((va_up mb q false) j))))] H := hP
        have hD : va_D A [(d, .inr (0, [.ref dn, .ref df, .ref di, .ref dl, .ref dm, .int (zI ((nc : Nat) : Int)), .int (zI (((q + 2) : Nat) : Int))])), (df, .inr (3, [.ref dfw])), (dfw, .inl (c 2, 4 * 255, .inr (.inl (lfw fw iw lw q (q + 1) nc)))), (di, .inr (3, [.ref diw])), (diw, .inl (c 2, 4 * 40, .inr (.inl iw))), (dl, .inr (3, [.ref dlw])), (dlw, .inl (c 2, 4 * 40, .inr (.inl (zor lw q lw (q + 1))))), (dm, .inl (c 1, 40, .inl (fun j => zB ((va_up mb q false) j))))] := hD
        refine lv_aload_n hx hb d_Dr_joinToRow_116 rfl (lv_at hl 2 rfl) ?_
        refine lv_iload_n hx hb d_Dr_joinToRow_117 rfl (lv_at hl 1 rfl) ?_
        refine va_put (D := D) (ci := 0) (v := .int (zI ((q + 1 : Nat) : Int))) (ty := .int) (C := R_Dr) (T := T_Dr) (N := 7) hx hb hts (fun w h => List.mem_cons_of_mem _ (inA_Dr w h)) ty_Dr tyok_Dr nm_Dr hown hK hP hD hS 0 rfl rfl 6 (by decide) (hw k_Dr_f34) (fun _ h9 => h9) rfl (by decide +kernel) rfl rfl (Nat.le_of_ble_eq_true rfl) d_Dr_joinToRow_118 (fun H locs hP hD hS => ?_)
        have hP : va_P D vwCl [(d, .inr (0, [.ref dn, .ref df, .ref di, .ref dl, .ref dm, .int (zI ((nc : Nat) : Int)), .int (zI ((q + 1 : Nat) : Int))])), (df, .inr (3, [.ref dfw])), (dfw, .inl (c 2, 4 * 255, .inr (.inl (lfw fw iw lw q (q + 1) nc)))), (di, .inr (3, [.ref diw])), (diw, .inl (c 2, 4 * 40, .inr (.inl iw))), (dl, .inr (3, [.ref dlw])), (dlw, .inl (c 2, 4 * 40, .inr (.inl (zor lw q lw (q + 1))))), (dm, .inl (c 1, 40, .inl (fun j => zB ((va_up mb q false) j))))] H := hP
        have hD : va_D A [(d, .inr (0, [.ref dn, .ref df, .ref di, .ref dl, .ref dm, .int (zI ((nc : Nat) : Int)), .int (zI ((q + 1 : Nat) : Int))])), (df, .inr (3, [.ref dfw])), (dfw, .inl (c 2, 4 * 255, .inr (.inl (lfw fw iw lw q (q + 1) nc)))), (di, .inr (3, [.ref diw])), (diw, .inl (c 2, 4 * 40, .inr (.inl iw))), (dl, .inr (3, [.ref dlw])), (dlw, .inl (c 2, 4 * 40, .inr (.inl (zor lw q lw (q + 1))))), (dm, .inl (c 1, 40, .inl (fun j => zB ((va_up mb q false) j))))] := hD
        refine lv_iconst (v := zI 1) hx hb d_Dr_joinToRow_121 (by decide) ?_
        subst hQ
        exact W.zret (ty := .boolean) (v := (zI 1)) hx hb hr (by decide) (fun t9 ht hW => ⟨⟨_, (), rfl, ⟨(by decide), trivial⟩, by show va_P _ _ _ t9.heap; rw [ht]; rw [jrI_F hc_41, jrL0_T hc_63, show (mb q && mb (q + 1)) = false by first | (simp [*]; done) | (exfalso; rw [hc_41] at hc_98; cases hc_98; done) | (exfalso; rw [hc_63] at hc_107; cases hc_107; done)]; exact hP⟩, hS.F ht⟩) hS.2.2 d_Dr_joinToRow_122
      · refine lv_aload_n hx hb d_Dr_joinToRow_101 rfl (lv_at hl 2 rfl) ?_
        refine va_get (D := D) (ci := 0) (v := .ref dm) (C := R_Dr) (T := T_Dr) (N := 7) hx hb hts (fun w h => List.mem_cons_of_mem _ (inA_Dr w h)) hown hK hP 0 rfl rfl 4 (by decide) (hw k_Dr_f30) (fun _ h9 => h9) rfl d_Dr_joinToRow_102 ?_
        refine lv_iload_n hx hb d_Dr_joinToRow_105 rfl (lv_at hl 1 rfl) ?_
        refine z_zald hx hb hK hP 7 1 rfl rfl (q + 1) (by omega) (by omega) (by omega) d_Dr_joinToRow_106 ?_
        refine z_ifeq_B (tgt := 114) hx hb d_Dr_joinToRow_107 (by decide) (fun hc_107 => ?_) (fun hc_107 => ?_)
        · refine lv_iconst (v := zI 0) hx hb d_Dr_joinToRow_114 (by decide) ?_
          refine z_top (v2 := .int (zB false)) (congrArg Value.int (by decide)) ?_
          refine z_zast hx hb hK hP hD hS 7 1 rfl rfl (q) (by omega) (by omega) (by omega) d_Dr_joinToRow_115 (fun H locs hP hD hS => ?_)
          have hP : va_P D vwCl [(d, .inr (0, [.ref dn, .ref df, .ref di, .ref dl, .ref dm, .int (zI ((nc : Nat) : Int)), .int (zI (((q + 2) : Nat) : Int))])), (df, .inr (3, [.ref dfw])), (dfw, .inl (c 2, 4 * 255, .inr (.inl (lfw fw iw lw q (q + 1) nc)))), (di, .inr (3, [.ref diw])), (diw, .inl (c 2, 4 * 40, .inr (.inl iw))), (dl, .inr (3, [.ref dlw])), (dlw, .inl (c 2, 4 * 40, .inr (.inl (zor lw q lw (q + 1))))), (dm, .inl (c 1, 40, .inl (fun j => zB ((va_up mb q false) j))))] H := hP
          have hD : va_D A [(d, .inr (0, [.ref dn, .ref df, .ref di, .ref dl, .ref dm, .int (zI ((nc : Nat) : Int)), .int (zI (((q + 2) : Nat) : Int))])), (df, .inr (3, [.ref dfw])), (dfw, .inl (c 2, 4 * 255, .inr (.inl (lfw fw iw lw q (q + 1) nc)))), (di, .inr (3, [.ref diw])), (diw, .inl (c 2, 4 * 40, .inr (.inl iw))), (dl, .inr (3, [.ref dlw])), (dlw, .inl (c 2, 4 * 40, .inr (.inl (zor lw q lw (q + 1))))), (dm, .inl (c 1, 40, .inl (fun j => zB ((va_up mb q false) j))))] := hD
          refine lv_aload_n hx hb d_Dr_joinToRow_116 rfl (lv_at hl 2 rfl) ?_
          refine lv_iload_n hx hb d_Dr_joinToRow_117 rfl (lv_at hl 1 rfl) ?_
          refine va_put (D := D) (ci := 0) (v := .int (zI ((q + 1 : Nat) : Int))) (ty := .int) (C := R_Dr) (T := T_Dr) (N := 7) hx hb hts (fun w h => List.mem_cons_of_mem _ (inA_Dr w h)) ty_Dr tyok_Dr nm_Dr hown hK hP hD hS 0 rfl rfl 6 (by decide) (hw k_Dr_f34) (fun _ h9 => h9) rfl (by decide +kernel) rfl rfl (Nat.le_of_ble_eq_true rfl) d_Dr_joinToRow_118 (fun H locs hP hD hS => ?_)
          have hP : va_P D vwCl [(d, .inr (0, [.ref dn, .ref df, .ref di, .ref dl, .ref dm, .int (zI ((nc : Nat) : Int)), .int (zI ((q + 1 : Nat) : Int))])), (df, .inr (3, [.ref dfw])), (dfw, .inl (c 2, 4 * 255, .inr (.inl (lfw fw iw lw q (q + 1) nc)))), (di, .inr (3, [.ref diw])), (diw, .inl (c 2, 4 * 40, .inr (.inl iw))), (dl, .inr (3, [.ref dlw])), (dlw, .inl (c 2, 4 * 40, .inr (.inl (zor lw q lw (q + 1))))), (dm, .inl (c 1, 40, .inl (fun j => zB ((va_up mb q false) j))))] H := hP
          have hD : va_D A [(d, .inr (0, [.ref dn, .ref df, .ref di, .ref dl, .ref dm, .int (zI ((nc : Nat) : Int)), .int (zI ((q + 1 : Nat) : Int))])), (df, .inr (3, [.ref dfw])), (dfw, .inl (c 2, 4 * 255, .inr (.inl (lfw fw iw lw q (q + 1) nc)))), (di, .inr (3, [.ref diw])), (diw, .inl (c 2, 4 * 40, .inr (.inl iw))), (dl, .inr (3, [.ref dlw])), (dlw, .inl (c 2, 4 * 40, .inr (.inl (zor lw q lw (q + 1))))), (dm, .inl (c 1, 40, .inl (fun j => zB ((va_up mb q false) j))))] := hD
          refine lv_iconst (v := zI 1) hx hb d_Dr_joinToRow_121 (by decide) ?_
          subst hQ
          exact W.zret (ty := .boolean) (v := (zI 1)) hx hb hr (by decide) (fun t9 ht hW => ⟨⟨_, (), rfl, ⟨(by decide), trivial⟩, by show va_P _ _ _ t9.heap; rw [ht]; rw [jrI_F hc_41, jrL0_T hc_63, show (mb q && mb (q + 1)) = false by first | (simp [*]; done) | (exfalso; rw [hc_41] at hc_98; cases hc_98; done) | (exfalso; rw [hc_63] at hc_107; cases hc_107; done)]; exact hP⟩, hS.F ht⟩) hS.2.2 d_Dr_joinToRow_122
        · refine lv_iconst (v := zI 1) hx hb d_Dr_joinToRow_110 (by decide) ?_
          refine lv_goto (tgt := 115) hx hb d_Dr_joinToRow_111 (by decide) ?_
          refine z_top (v2 := .int (zB true)) (congrArg Value.int (by decide)) ?_
          refine z_zast hx hb hK hP hD hS 7 1 rfl rfl (q) (by omega) (by omega) (by omega) d_Dr_joinToRow_115 (fun H locs hP hD hS => ?_)
          have hP : va_P D vwCl [(d, .inr (0, [.ref dn, .ref df, .ref di, .ref dl, .ref dm, .int (zI ((nc : Nat) : Int)), .int (zI (((q + 2) : Nat) : Int))])), (df, .inr (3, [.ref dfw])), (dfw, .inl (c 2, 4 * 255, .inr (.inl (lfw fw iw lw q (q + 1) nc)))), (di, .inr (3, [.ref diw])), (diw, .inl (c 2, 4 * 40, .inr (.inl iw))), (dl, .inr (3, [.ref dlw])), (dlw, .inl (c 2, 4 * 40, .inr (.inl (zor lw q lw (q + 1))))), (dm, .inl (c 1, 40, .inl (fun j => zB ((va_up mb q true) j))))] H := hP
          have hD : va_D A [(d, .inr (0, [.ref dn, .ref df, .ref di, .ref dl, .ref dm, .int (zI ((nc : Nat) : Int)), .int (zI (((q + 2) : Nat) : Int))])), (df, .inr (3, [.ref dfw])), (dfw, .inl (c 2, 4 * 255, .inr (.inl (lfw fw iw lw q (q + 1) nc)))), (di, .inr (3, [.ref diw])), (diw, .inl (c 2, 4 * 40, .inr (.inl iw))), (dl, .inr (3, [.ref dlw])), (dlw, .inl (c 2, 4 * 40, .inr (.inl (zor lw q lw (q + 1))))), (dm, .inl (c 1, 40, .inl (fun j => zB ((va_up mb q true) j))))] := hD
          refine lv_aload_n hx hb d_Dr_joinToRow_116 rfl (lv_at hl 2 rfl) ?_
          refine lv_iload_n hx hb d_Dr_joinToRow_117 rfl (lv_at hl 1 rfl) ?_
          refine va_put (D := D) (ci := 0) (v := .int (zI ((q + 1 : Nat) : Int))) (ty := .int) (C := R_Dr) (T := T_Dr) (N := 7) hx hb hts (fun w h => List.mem_cons_of_mem _ (inA_Dr w h)) ty_Dr tyok_Dr nm_Dr hown hK hP hD hS 0 rfl rfl 6 (by decide) (hw k_Dr_f34) (fun _ h9 => h9) rfl (by decide +kernel) rfl rfl (Nat.le_of_ble_eq_true rfl) d_Dr_joinToRow_118 (fun H locs hP hD hS => ?_)
          have hP : va_P D vwCl [(d, .inr (0, [.ref dn, .ref df, .ref di, .ref dl, .ref dm, .int (zI ((nc : Nat) : Int)), .int (zI ((q + 1 : Nat) : Int))])), (df, .inr (3, [.ref dfw])), (dfw, .inl (c 2, 4 * 255, .inr (.inl (lfw fw iw lw q (q + 1) nc)))), (di, .inr (3, [.ref diw])), (diw, .inl (c 2, 4 * 40, .inr (.inl iw))), (dl, .inr (3, [.ref dlw])), (dlw, .inl (c 2, 4 * 40, .inr (.inl (zor lw q lw (q + 1))))), (dm, .inl (c 1, 40, .inl (fun j => zB ((va_up mb q true) j))))] H := hP
          have hD : va_D A [(d, .inr (0, [.ref dn, .ref df, .ref di, .ref dl, .ref dm, .int (zI ((nc : Nat) : Int)), .int (zI ((q + 1 : Nat) : Int))])), (df, .inr (3, [.ref dfw])), (dfw, .inl (c 2, 4 * 255, .inr (.inl (lfw fw iw lw q (q + 1) nc)))), (di, .inr (3, [.ref diw])), (diw, .inl (c 2, 4 * 40, .inr (.inl iw))), (dl, .inr (3, [.ref dlw])), (dlw, .inl (c 2, 4 * 40, .inr (.inl (zor lw q lw (q + 1))))), (dm, .inl (c 1, 40, .inl (fun j => zB ((va_up mb q true) j))))] := hD
          refine lv_iconst (v := zI 1) hx hb d_Dr_joinToRow_121 (by decide) ?_
          subst hQ
          exact W.zret (ty := .boolean) (v := (zI 1)) hx hb hr (by decide) (fun t9 ht hW => ⟨⟨_, (), rfl, ⟨(by decide), trivial⟩, by show va_P _ _ _ t9.heap; rw [ht]; rw [jrI_F hc_41, jrL0_T hc_63, show (mb q && mb (q + 1)) = true by first | (simp [*]; done) | (exfalso; rw [hc_41] at hc_98; cases hc_98; done) | (exfalso; rw [hc_63] at hc_107; cases hc_107; done)]; exact hP⟩, hS.F ht⟩) hS.2.2 d_Dr_joinToRow_122
    · refine lv_aload_n hx hb d_Dr_joinToRow_66 rfl (lv_at hl 2 rfl) ?_
      refine va_get (D := D) (ci := 0) (v := .ref dl) (C := R_Dr) (T := T_Dr) (N := 7) hx hb hts (fun w h => List.mem_cons_of_mem _ (inA_Dr w h)) hown hK hP 0 rfl rfl 3 (by decide) (hw k_Dr_f27) (fun _ h9 => h9) rfl d_Dr_joinToRow_67 ?_
      refine lv_iload_n hx hb d_Dr_joinToRow_70 rfl (lv_at hl 0 rfl) ?_
      have hPc : va_P D vwCl [(dl, .inr (3, [.ref dlw])), (dlw, .inl (c 2, 4 * 40, .inr (.inl lw)))] H := hP.sub (ws' := [(dl, .inr (3, [.ref dlw])), (dlw, .inl (c 2, 4 * 40, .inr (.inl lw)))]) [5, 6] rfl
      have hDc : va_D A [(dl, .inr (3, [.ref dlw])), (dlw, .inl (c 2, 4 * 40, .inr (.inl lw)))] := hD.sub (ws' := [(dl, .inr (3, [.ref dlw])), (dlw, .inl (c 2, 4 * 40, .inr (.inl lw)))]) [5, 6] (by decide) rfl
      have hDt : va_D (fun _ => True) [(dl, .inr (3, [.ref dlw])), (dlw, .inl (c 2, 4 * 40, .inr (.inl lw)))] := hDc.weaken (fun _ _ _ _ => trivial)
      refine z_callv (S := Unit) (w1 := fun u => [(dl, .inr (3, [.ref dlw])), (dlw, .inl (c 2, 4 * 40, .inr (.inl (zclr lw q))))]) (post := fun u => True) (wc := [(dl, .inr (3, [.ref dlw])), (dlw, .inl (c 2, 4 * 40, .inr (.inl lw)))]) [5, 6] rfl (fun _ => rfl) hP hD hS (va_runV (rm := rm_removeAll) (As := [.int (zI ((q : Nat) : Int))]) (rest := []) ⟨hx, hb, hml, hown, hts⟩ (c_removeAll l D c dl dlw 40 lw q (by omega) (by omega)) (cwV 1 hts (gWV k_Dr_m41 k_i_Se_removeAll k_v_Se_removeAll k_n_Se k_c_Se_removeAll) rfl rfl rfl (by decide +kernel) ⟨Nat.le_of_ble_eq_true rfl, Nat.le_of_ble_eq_true rfl⟩) ⟨zblindW, va_recv hK hPc (ci := 3) (q0 := 0) rfl rfl, fun U hU hW => ⟨rfl, ⟨by rw [hU]; exact hPc, hDt⟩, hKN.moved hW⟩⟩ rfl rfl hl.1 rfl (lv_room (Nat.le_of_ble_eq_true rfl)) d_Dr_joinToRow_71 ⟨Nat.zero_le _, Nat.zero_le _⟩) (fun u H locs hp_5 hP hD hS => ?_)
      have hP : va_P D vwCl [(d, .inr (0, [.ref dn, .ref df, .ref di, .ref dl, .ref dm, .int (zI ((nc : Nat) : Int)), .int (zI (((q + 2) : Nat) : Int))])), (df, .inr (3, [.ref dfw])), (dfw, .inl (c 2, 4 * 255, .inr (.inl (lfw fw iw lw q (q + 1) nc)))), (di, .inr (3, [.ref diw])), (diw, .inl (c 2, 4 * 40, .inr (.inl iw))), (dl, .inr (3, [.ref dlw])), (dlw, .inl (c 2, 4 * 40, .inr (.inl (zclr lw q)))), (dm, .inl (c 1, 40, .inl (fun j => zB (mb j))))] H := hP
      have hD : va_D A [(d, .inr (0, [.ref dn, .ref df, .ref di, .ref dl, .ref dm, .int (zI ((nc : Nat) : Int)), .int (zI (((q + 2) : Nat) : Int))])), (df, .inr (3, [.ref dfw])), (dfw, .inl (c 2, 4 * 255, .inr (.inl (lfw fw iw lw q (q + 1) nc)))), (di, .inr (3, [.ref diw])), (diw, .inl (c 2, 4 * 40, .inr (.inl iw))), (dl, .inr (3, [.ref dlw])), (dlw, .inl (c 2, 4 * 40, .inr (.inl (zclr lw q)))), (dm, .inl (c 1, 40, .inl (fun j => zB (mb j))))] := hD
      refine lv_aload_n hx hb d_Dr_joinToRow_74 rfl (lv_at hl 2 rfl) ?_
      refine va_get (D := D) (ci := 0) (v := .ref dl) (C := R_Dr) (T := T_Dr) (N := 7) hx hb hts (fun w h => List.mem_cons_of_mem _ (inA_Dr w h)) hown hK hP 0 rfl rfl 3 (by decide) (hw k_Dr_f27) (fun _ h9 => h9) rfl d_Dr_joinToRow_75 ?_
      refine lv_iload_n hx hb d_Dr_joinToRow_78 rfl (lv_at hl 0 rfl) ?_
      refine lv_aload_n hx hb d_Dr_joinToRow_79 rfl (lv_at hl 2 rfl) ?_
      refine va_get (D := D) (ci := 0) (v := .ref dl) (C := R_Dr) (T := T_Dr) (N := 7) hx hb hts (fun w h => List.mem_cons_of_mem _ (inA_Dr w h)) hown hK hP 0 rfl rfl 3 (by decide) (hw k_Dr_f27) (fun _ h9 => h9) rfl d_Dr_joinToRow_80 ?_
      refine lv_iload_n hx hb d_Dr_joinToRow_83 rfl (lv_at hl 1 rfl) ?_
      have hPc : va_P D vwCl [(dl, .inr (3, [.ref dlw])), (dlw, .inl (c 2, 4 * 40, .inr (.inl (zclr lw q))))] H := hP.sub (ws' := [(dl, .inr (3, [.ref dlw])), (dlw, .inl (c 2, 4 * 40, .inr (.inl (zclr lw q))))]) [5, 6] rfl
      have hDc : va_D A [(dl, .inr (3, [.ref dlw])), (dlw, .inl (c 2, 4 * 40, .inr (.inl (zclr lw q))))] := hD.sub (ws' := [(dl, .inr (3, [.ref dlw])), (dlw, .inl (c 2, 4 * 40, .inr (.inl (zclr lw q))))]) [5, 6] (by decide) rfl
      have hDt : va_D (fun _ => True) [(dl, .inr (3, [.ref dlw])), (dlw, .inl (c 2, 4 * 40, .inr (.inl (zclr lw q))))] := hDc.weaken (fun _ _ _ _ => trivial)
      refine z_callv (S := Unit) (w1 := fun u => [(dl, .inr (3, [.ref dlw])), (dlw, .inl (c 2, 4 * 40, .inr (.inl (zor (zclr lw q) q (zclr lw q) (q + 1)))))]) (post := fun u => True) (wc := [(dl, .inr (3, [.ref dlw])), (dlw, .inl (c 2, 4 * 40, .inr (.inl (zclr lw q))))]) [5, 6] rfl (fun _ => rfl) hP hD hS (va_runV (rm := rm_addSelf) (As := [.int (zI ((q : Nat) : Int)), .ref dl, .int (zI ((q + 1 : Nat) : Int))]) (rest := []) ⟨hx, hb, hml, hown, hts⟩ (c_addSelf l D c dl dlw 40 (zclr lw q) q (q + 1) (by omega) (by omega) (by omega)) (cwV 3 hts (gWV k_Dr_m55 k_i_Se_addAll k_v_Se_addAll k_n_Se k_c_Se_addAll) rfl rfl rfl (by decide +kernel) ⟨Nat.le_of_ble_eq_true rfl, Nat.le_of_ble_eq_true rfl⟩) ⟨zblindW, va_recv hK hPc (ci := 3) (q0 := 0) rfl rfl, fun U hU hW => ⟨rfl, ⟨by rw [hU]; exact hPc, hDt⟩, hKN.moved hW⟩⟩ rfl rfl hl.1 rfl (lv_room (Nat.le_of_ble_eq_true rfl)) d_Dr_joinToRow_84 ⟨Nat.zero_le _, Nat.zero_le _⟩) (fun u H locs hp_6 hP hD hS => ?_)
      have hP : va_P D vwCl [(d, .inr (0, [.ref dn, .ref df, .ref di, .ref dl, .ref dm, .int (zI ((nc : Nat) : Int)), .int (zI (((q + 2) : Nat) : Int))])), (df, .inr (3, [.ref dfw])), (dfw, .inl (c 2, 4 * 255, .inr (.inl (lfw fw iw lw q (q + 1) nc)))), (di, .inr (3, [.ref diw])), (diw, .inl (c 2, 4 * 40, .inr (.inl iw))), (dl, .inr (3, [.ref dlw])), (dlw, .inl (c 2, 4 * 40, .inr (.inl (zor (zclr lw q) q (zclr lw q) (q + 1))))), (dm, .inl (c 1, 40, .inl (fun j => zB (mb j))))] H := hP
      have hD : va_D A [(d, .inr (0, [.ref dn, .ref df, .ref di, .ref dl, .ref dm, .int (zI ((nc : Nat) : Int)), .int (zI (((q + 2) : Nat) : Int))])), (df, .inr (3, [.ref dfw])), (dfw, .inl (c 2, 4 * 255, .inr (.inl (lfw fw iw lw q (q + 1) nc)))), (di, .inr (3, [.ref diw])), (diw, .inl (c 2, 4 * 40, .inr (.inl iw))), (dl, .inr (3, [.ref dlw])), (dlw, .inl (c 2, 4 * 40, .inr (.inl (zor (zclr lw q) q (zclr lw q) (q + 1))))), (dm, .inl (c 1, 40, .inl (fun j => zB (mb j))))] := hD
      refine lv_aload_n hx hb d_Dr_joinToRow_87 rfl (lv_at hl 2 rfl) ?_
      refine va_get (D := D) (ci := 0) (v := .ref dm) (C := R_Dr) (T := T_Dr) (N := 7) hx hb hts (fun w h => List.mem_cons_of_mem _ (inA_Dr w h)) hown hK hP 0 rfl rfl 4 (by decide) (hw k_Dr_f30) (fun _ h9 => h9) rfl d_Dr_joinToRow_88 ?_
      refine lv_iload_n hx hb d_Dr_joinToRow_91 rfl (lv_at hl 0 rfl) ?_
      refine lv_aload_n hx hb d_Dr_joinToRow_92 rfl (lv_at hl 2 rfl) ?_
      refine va_get (D := D) (ci := 0) (v := .ref dm) (C := R_Dr) (T := T_Dr) (N := 7) hx hb hts (fun w h => List.mem_cons_of_mem _ (inA_Dr w h)) hown hK hP 0 rfl rfl 4 (by decide) (hw k_Dr_f30) (fun _ h9 => h9) rfl d_Dr_joinToRow_93 ?_
      refine lv_iload_n hx hb d_Dr_joinToRow_96 rfl (lv_at hl 0 rfl) ?_
      refine z_zald hx hb hK hP 7 1 rfl rfl (q) (by omega) (by omega) (by omega) d_Dr_joinToRow_97 ?_
      refine z_ifeq_B (tgt := 114) hx hb d_Dr_joinToRow_98 (by decide) (fun hc_98 => ?_) (fun hc_98 => ?_)
      · refine lv_iconst (v := zI 0) hx hb d_Dr_joinToRow_114 (by decide) ?_
        refine z_top (v2 := .int (zB false)) (congrArg Value.int (by decide)) ?_
        refine z_zast hx hb hK hP hD hS 7 1 rfl rfl (q) (by omega) (by omega) (by omega) d_Dr_joinToRow_115 (fun H locs hP hD hS => ?_)
        have hP : va_P D vwCl [(d, .inr (0, [.ref dn, .ref df, .ref di, .ref dl, .ref dm, .int (zI ((nc : Nat) : Int)), .int (zI (((q + 2) : Nat) : Int))])), (df, .inr (3, [.ref dfw])), (dfw, .inl (c 2, 4 * 255, .inr (.inl (lfw fw iw lw q (q + 1) nc)))), (di, .inr (3, [.ref diw])), (diw, .inl (c 2, 4 * 40, .inr (.inl iw))), (dl, .inr (3, [.ref dlw])), (dlw, .inl (c 2, 4 * 40, .inr (.inl (zor (zclr lw q) q (zclr lw q) (q + 1))))), (dm, .inl (c 1, 40, .inl (fun j => zB ((va_up mb q false) j))))] H := hP
        have hD : va_D A [(d, .inr (0, [.ref dn, .ref df, .ref di, .ref dl, .ref dm, .int (zI ((nc : Nat) : Int)), .int (zI (((q + 2) : Nat) : Int))])), (df, .inr (3, [.ref dfw])), (dfw, .inl (c 2, 4 * 255, .inr (.inl (lfw fw iw lw q (q + 1) nc)))), (di, .inr (3, [.ref diw])), (diw, .inl (c 2, 4 * 40, .inr (.inl iw))), (dl, .inr (3, [.ref dlw])), (dlw, .inl (c 2, 4 * 40, .inr (.inl (zor (zclr lw q) q (zclr lw q) (q + 1))))), (dm, .inl (c 1, 40, .inl (fun j => zB ((va_up mb q false) j))))] := hD
        refine lv_aload_n hx hb d_Dr_joinToRow_116 rfl (lv_at hl 2 rfl) ?_
        refine lv_iload_n hx hb d_Dr_joinToRow_117 rfl (lv_at hl 1 rfl) ?_
        refine va_put (D := D) (ci := 0) (v := .int (zI ((q + 1 : Nat) : Int))) (ty := .int) (C := R_Dr) (T := T_Dr) (N := 7) hx hb hts (fun w h => List.mem_cons_of_mem _ (inA_Dr w h)) ty_Dr tyok_Dr nm_Dr hown hK hP hD hS 0 rfl rfl 6 (by decide) (hw k_Dr_f34) (fun _ h9 => h9) rfl (by decide +kernel) rfl rfl (Nat.le_of_ble_eq_true rfl) d_Dr_joinToRow_118 (fun H locs hP hD hS => ?_)
        have hP : va_P D vwCl [(d, .inr (0, [.ref dn, .ref df, .ref di, .ref dl, .ref dm, .int (zI ((nc : Nat) : Int)), .int (zI ((q + 1 : Nat) : Int))])), (df, .inr (3, [.ref dfw])), (dfw, .inl (c 2, 4 * 255, .inr (.inl (lfw fw iw lw q (q + 1) nc)))), (di, .inr (3, [.ref diw])), (diw, .inl (c 2, 4 * 40, .inr (.inl iw))), (dl, .inr (3, [.ref dlw])), (dlw, .inl (c 2, 4 * 40, .inr (.inl (zor (zclr lw q) q (zclr lw q) (q + 1))))), (dm, .inl (c 1, 40, .inl (fun j => zB ((va_up mb q false) j))))] H := hP
        have hD : va_D A [(d, .inr (0, [.ref dn, .ref df, .ref di, .ref dl, .ref dm, .int (zI ((nc : Nat) : Int)), .int (zI ((q + 1 : Nat) : Int))])), (df, .inr (3, [.ref dfw])), (dfw, .inl (c 2, 4 * 255, .inr (.inl (lfw fw iw lw q (q + 1) nc)))), (di, .inr (3, [.ref diw])), (diw, .inl (c 2, 4 * 40, .inr (.inl iw))), (dl, .inr (3, [.ref dlw])), (dlw, .inl (c 2, 4 * 40, .inr (.inl (zor (zclr lw q) q (zclr lw q) (q + 1))))), (dm, .inl (c 1, 40, .inl (fun j => zB ((va_up mb q false) j))))] := hD
        refine lv_iconst (v := zI 1) hx hb d_Dr_joinToRow_121 (by decide) ?_
        subst hQ
        exact W.zret (ty := .boolean) (v := (zI 1)) hx hb hr (by decide) (fun t9 ht hW => ⟨⟨_, (), rfl, ⟨(by decide), trivial⟩, by show va_P _ _ _ t9.heap; rw [ht]; rw [jrI_F hc_41, jrL0_F hc_63, show (mb q && mb (q + 1)) = false by first | (simp [*]; done) | (exfalso; rw [hc_41] at hc_98; cases hc_98; done) | (exfalso; rw [hc_63] at hc_107; cases hc_107; done)]; exact hP⟩, hS.F ht⟩) hS.2.2 d_Dr_joinToRow_122
      · refine lv_aload_n hx hb d_Dr_joinToRow_101 rfl (lv_at hl 2 rfl) ?_
        refine va_get (D := D) (ci := 0) (v := .ref dm) (C := R_Dr) (T := T_Dr) (N := 7) hx hb hts (fun w h => List.mem_cons_of_mem _ (inA_Dr w h)) hown hK hP 0 rfl rfl 4 (by decide) (hw k_Dr_f30) (fun _ h9 => h9) rfl d_Dr_joinToRow_102 ?_
        refine lv_iload_n hx hb d_Dr_joinToRow_105 rfl (lv_at hl 1 rfl) ?_
        refine z_zald hx hb hK hP 7 1 rfl rfl (q + 1) (by omega) (by omega) (by omega) d_Dr_joinToRow_106 ?_
        refine z_ifeq_B (tgt := 114) hx hb d_Dr_joinToRow_107 (by decide) (fun hc_107 => ?_) (fun hc_107 => ?_)
        · refine lv_iconst (v := zI 0) hx hb d_Dr_joinToRow_114 (by decide) ?_
          refine z_top (v2 := .int (zB false)) (congrArg Value.int (by decide)) ?_
          refine z_zast hx hb hK hP hD hS 7 1 rfl rfl (q) (by omega) (by omega) (by omega) d_Dr_joinToRow_115 (fun H locs hP hD hS => ?_)
          have hP : va_P D vwCl [(d, .inr (0, [.ref dn, .ref df, .ref di, .ref dl, .ref dm, .int (zI ((nc : Nat) : Int)), .int (zI (((q + 2) : Nat) : Int))])), (df, .inr (3, [.ref dfw])), (dfw, .inl (c 2, 4 * 255, .inr (.inl (lfw fw iw lw q (q + 1) nc)))), (di, .inr (3, [.ref diw])), (diw, .inl (c 2, 4 * 40, .inr (.inl iw))), (dl, .inr (3, [.ref dlw])), (dlw, .inl (c 2, 4 * 40, .inr (.inl (zor (zclr lw q) q (zclr lw q) (q + 1))))), (dm, .inl (c 1, 40, .inl (fun j => zB ((va_up mb q false) j))))] H := hP
          have hD : va_D A [(d, .inr (0, [.ref dn, .ref df, .ref di, .ref dl, .ref dm, .int (zI ((nc : Nat) : Int)), .int (zI (((q + 2) : Nat) : Int))])), (df, .inr (3, [.ref dfw])), (dfw, .inl (c 2, 4 * 255, .inr (.inl (lfw fw iw lw q (q + 1) nc)))), (di, .inr (3, [.ref diw])), (diw, .inl (c 2, 4 * 40, .inr (.inl iw))), (dl, .inr (3, [.ref dlw])), (dlw, .inl (c 2, 4 * 40, .inr (.inl (zor (zclr lw q) q (zclr lw q) (q + 1))))), (dm, .inl (c 1, 40, .inl (fun j => zB ((va_up mb q false) j))))] := hD
          refine lv_aload_n hx hb d_Dr_joinToRow_116 rfl (lv_at hl 2 rfl) ?_
          refine lv_iload_n hx hb d_Dr_joinToRow_117 rfl (lv_at hl 1 rfl) ?_
          refine va_put (D := D) (ci := 0) (v := .int (zI ((q + 1 : Nat) : Int))) (ty := .int) (C := R_Dr) (T := T_Dr) (N := 7) hx hb hts (fun w h => List.mem_cons_of_mem _ (inA_Dr w h)) ty_Dr tyok_Dr nm_Dr hown hK hP hD hS 0 rfl rfl 6 (by decide) (hw k_Dr_f34) (fun _ h9 => h9) rfl (by decide +kernel) rfl rfl (Nat.le_of_ble_eq_true rfl) d_Dr_joinToRow_118 (fun H locs hP hD hS => ?_)
          have hP : va_P D vwCl [(d, .inr (0, [.ref dn, .ref df, .ref di, .ref dl, .ref dm, .int (zI ((nc : Nat) : Int)), .int (zI ((q + 1 : Nat) : Int))])), (df, .inr (3, [.ref dfw])), (dfw, .inl (c 2, 4 * 255, .inr (.inl (lfw fw iw lw q (q + 1) nc)))), (di, .inr (3, [.ref diw])), (diw, .inl (c 2, 4 * 40, .inr (.inl iw))), (dl, .inr (3, [.ref dlw])), (dlw, .inl (c 2, 4 * 40, .inr (.inl (zor (zclr lw q) q (zclr lw q) (q + 1))))), (dm, .inl (c 1, 40, .inl (fun j => zB ((va_up mb q false) j))))] H := hP
          have hD : va_D A [(d, .inr (0, [.ref dn, .ref df, .ref di, .ref dl, .ref dm, .int (zI ((nc : Nat) : Int)), .int (zI ((q + 1 : Nat) : Int))])), (df, .inr (3, [.ref dfw])), (dfw, .inl (c 2, 4 * 255, .inr (.inl (lfw fw iw lw q (q + 1) nc)))), (di, .inr (3, [.ref diw])), (diw, .inl (c 2, 4 * 40, .inr (.inl iw))), (dl, .inr (3, [.ref dlw])), (dlw, .inl (c 2, 4 * 40, .inr (.inl (zor (zclr lw q) q (zclr lw q) (q + 1))))), (dm, .inl (c 1, 40, .inl (fun j => zB ((va_up mb q false) j))))] := hD
          refine lv_iconst (v := zI 1) hx hb d_Dr_joinToRow_121 (by decide) ?_
          subst hQ
          exact W.zret (ty := .boolean) (v := (zI 1)) hx hb hr (by decide) (fun t9 ht hW => ⟨⟨_, (), rfl, ⟨(by decide), trivial⟩, by show va_P _ _ _ t9.heap; rw [ht]; rw [jrI_F hc_41, jrL0_F hc_63, show (mb q && mb (q + 1)) = false by first | (simp [*]; done) | (exfalso; rw [hc_41] at hc_98; cases hc_98; done) | (exfalso; rw [hc_63] at hc_107; cases hc_107; done)]; exact hP⟩, hS.F ht⟩) hS.2.2 d_Dr_joinToRow_122
        · refine lv_iconst (v := zI 1) hx hb d_Dr_joinToRow_110 (by decide) ?_
          refine lv_goto (tgt := 115) hx hb d_Dr_joinToRow_111 (by decide) ?_
          refine z_top (v2 := .int (zB true)) (congrArg Value.int (by decide)) ?_
          refine z_zast hx hb hK hP hD hS 7 1 rfl rfl (q) (by omega) (by omega) (by omega) d_Dr_joinToRow_115 (fun H locs hP hD hS => ?_)
          have hP : va_P D vwCl [(d, .inr (0, [.ref dn, .ref df, .ref di, .ref dl, .ref dm, .int (zI ((nc : Nat) : Int)), .int (zI (((q + 2) : Nat) : Int))])), (df, .inr (3, [.ref dfw])), (dfw, .inl (c 2, 4 * 255, .inr (.inl (lfw fw iw lw q (q + 1) nc)))), (di, .inr (3, [.ref diw])), (diw, .inl (c 2, 4 * 40, .inr (.inl iw))), (dl, .inr (3, [.ref dlw])), (dlw, .inl (c 2, 4 * 40, .inr (.inl (zor (zclr lw q) q (zclr lw q) (q + 1))))), (dm, .inl (c 1, 40, .inl (fun j => zB ((va_up mb q true) j))))] H := hP
          have hD : va_D A [(d, .inr (0, [.ref dn, .ref df, .ref di, .ref dl, .ref dm, .int (zI ((nc : Nat) : Int)), .int (zI (((q + 2) : Nat) : Int))])), (df, .inr (3, [.ref dfw])), (dfw, .inl (c 2, 4 * 255, .inr (.inl (lfw fw iw lw q (q + 1) nc)))), (di, .inr (3, [.ref diw])), (diw, .inl (c 2, 4 * 40, .inr (.inl iw))), (dl, .inr (3, [.ref dlw])), (dlw, .inl (c 2, 4 * 40, .inr (.inl (zor (zclr lw q) q (zclr lw q) (q + 1))))), (dm, .inl (c 1, 40, .inl (fun j => zB ((va_up mb q true) j))))] := hD
          refine lv_aload_n hx hb d_Dr_joinToRow_116 rfl (lv_at hl 2 rfl) ?_
          refine lv_iload_n hx hb d_Dr_joinToRow_117 rfl (lv_at hl 1 rfl) ?_
          refine va_put (D := D) (ci := 0) (v := .int (zI ((q + 1 : Nat) : Int))) (ty := .int) (C := R_Dr) (T := T_Dr) (N := 7) hx hb hts (fun w h => List.mem_cons_of_mem _ (inA_Dr w h)) ty_Dr tyok_Dr nm_Dr hown hK hP hD hS 0 rfl rfl 6 (by decide) (hw k_Dr_f34) (fun _ h9 => h9) rfl (by decide +kernel) rfl rfl (Nat.le_of_ble_eq_true rfl) d_Dr_joinToRow_118 (fun H locs hP hD hS => ?_)
          have hP : va_P D vwCl [(d, .inr (0, [.ref dn, .ref df, .ref di, .ref dl, .ref dm, .int (zI ((nc : Nat) : Int)), .int (zI ((q + 1 : Nat) : Int))])), (df, .inr (3, [.ref dfw])), (dfw, .inl (c 2, 4 * 255, .inr (.inl (lfw fw iw lw q (q + 1) nc)))), (di, .inr (3, [.ref diw])), (diw, .inl (c 2, 4 * 40, .inr (.inl iw))), (dl, .inr (3, [.ref dlw])), (dlw, .inl (c 2, 4 * 40, .inr (.inl (zor (zclr lw q) q (zclr lw q) (q + 1))))), (dm, .inl (c 1, 40, .inl (fun j => zB ((va_up mb q true) j))))] H := hP
          have hD : va_D A [(d, .inr (0, [.ref dn, .ref df, .ref di, .ref dl, .ref dm, .int (zI ((nc : Nat) : Int)), .int (zI ((q + 1 : Nat) : Int))])), (df, .inr (3, [.ref dfw])), (dfw, .inl (c 2, 4 * 255, .inr (.inl (lfw fw iw lw q (q + 1) nc)))), (di, .inr (3, [.ref diw])), (diw, .inl (c 2, 4 * 40, .inr (.inl iw))), (dl, .inr (3, [.ref dlw])), (dlw, .inl (c 2, 4 * 40, .inr (.inl (zor (zclr lw q) q (zclr lw q) (q + 1))))), (dm, .inl (c 1, 40, .inl (fun j => zB ((va_up mb q true) j))))] := hD
          refine lv_iconst (v := zI 1) hx hb d_Dr_joinToRow_121 (by decide) ?_
          subst hQ
          exact W.zret (ty := .boolean) (v := (zI 1)) hx hb hr (by decide) (fun t9 ht hW => ⟨⟨_, (), rfl, ⟨(by decide), trivial⟩, by show va_P _ _ _ t9.heap; rw [ht]; rw [jrI_F hc_41, jrL0_F hc_63, show (mb q && mb (q + 1)) = true by first | (simp [*]; done) | (exfalso; rw [hc_41] at hc_98; cases hc_98; done) | (exfalso; rw [hc_63] at hc_107; cases hc_107; done)]; exact hP⟩, hS.F ht⟩) hS.2.2 d_Dr_joinToRow_122
  · refine lv_aload_n hx hb d_Dr_joinToRow_44 rfl (lv_at hl 2 rfl) ?_
    refine va_get (D := D) (ci := 0) (v := .ref di) (C := R_Dr) (T := T_Dr) (N := 7) hx hb hts (fun w h => List.mem_cons_of_mem _ (inA_Dr w h)) hown hK hP 0 rfl rfl 2 (by decide) (hw k_Dr_f24) (fun _ h9 => h9) rfl d_Dr_joinToRow_45 ?_
    refine lv_iload_n hx hb d_Dr_joinToRow_48 rfl (lv_at hl 0 rfl) ?_
    refine lv_aload_n hx hb d_Dr_joinToRow_49 rfl (lv_at hl 2 rfl) ?_
    refine va_get (D := D) (ci := 0) (v := .ref di) (C := R_Dr) (T := T_Dr) (N := 7) hx hb hts (fun w h => List.mem_cons_of_mem _ (inA_Dr w h)) hown hK hP 0 rfl rfl 2 (by decide) (hw k_Dr_f24) (fun _ h9 => h9) rfl d_Dr_joinToRow_50 ?_
    refine lv_iload_n hx hb d_Dr_joinToRow_53 rfl (lv_at hl 1 rfl) ?_
    have hPc : va_P D vwCl [(di, .inr (3, [.ref diw])), (diw, .inl (c 2, 4 * 40, .inr (.inl iw)))] H := hP.sub (ws' := [(di, .inr (3, [.ref diw])), (diw, .inl (c 2, 4 * 40, .inr (.inl iw)))]) [3, 4] rfl
    have hDc : va_D A [(di, .inr (3, [.ref diw])), (diw, .inl (c 2, 4 * 40, .inr (.inl iw)))] := hD.sub (ws' := [(di, .inr (3, [.ref diw])), (diw, .inl (c 2, 4 * 40, .inr (.inl iw)))]) [3, 4] (by decide) rfl
    have hDt : va_D (fun _ => True) [(di, .inr (3, [.ref diw])), (diw, .inl (c 2, 4 * 40, .inr (.inl iw)))] := hDc.weaken (fun _ _ _ _ => trivial)
    refine z_callv (S := Unit) (w1 := fun u => [(di, .inr (3, [.ref diw])), (diw, .inl (c 2, 4 * 40, .inr (.inl (zor iw q iw (q + 1)))))]) (post := fun u => True) (wc := [(di, .inr (3, [.ref diw])), (diw, .inl (c 2, 4 * 40, .inr (.inl iw)))]) [3, 4] rfl (fun _ => rfl) hP hD hS (va_runV (rm := rm_addSelf) (As := [.int (zI ((q : Nat) : Int)), .ref di, .int (zI ((q + 1 : Nat) : Int))]) (rest := []) ⟨hx, hb, hml, hown, hts⟩ (c_addSelf l D c di diw 40 iw q (q + 1) (by omega) (by omega) (by omega)) (cwV 3 hts (gWV k_Dr_m55 k_i_Se_addAll k_v_Se_addAll k_n_Se k_c_Se_addAll) rfl rfl rfl (by decide +kernel) ⟨Nat.le_of_ble_eq_true rfl, Nat.le_of_ble_eq_true rfl⟩) ⟨zblindW, va_recv hK hPc (ci := 3) (q0 := 0) rfl rfl, fun U hU hW => ⟨rfl, ⟨by rw [hU]; exact hPc, hDt⟩, hKN.moved hW⟩⟩ rfl rfl hl.1 rfl (lv_room (Nat.le_of_ble_eq_true rfl)) d_Dr_joinToRow_54 ⟨Nat.zero_le _, Nat.zero_le _⟩) (fun u H locs hp_7 hP hD hS => ?_)
    have hP : va_P D vwCl [(d, .inr (0, [.ref dn, .ref df, .ref di, .ref dl, .ref dm, .int (zI ((nc : Nat) : Int)), .int (zI (((q + 2) : Nat) : Int))])), (df, .inr (3, [.ref dfw])), (dfw, .inl (c 2, 4 * 255, .inr (.inl (lfw fw iw lw q (q + 1) nc)))), (di, .inr (3, [.ref diw])), (diw, .inl (c 2, 4 * 40, .inr (.inl (zor iw q iw (q + 1))))), (dl, .inr (3, [.ref dlw])), (dlw, .inl (c 2, 4 * 40, .inr (.inl lw))), (dm, .inl (c 1, 40, .inl (fun j => zB (mb j))))] H := hP
    have hD : va_D A [(d, .inr (0, [.ref dn, .ref df, .ref di, .ref dl, .ref dm, .int (zI ((nc : Nat) : Int)), .int (zI (((q + 2) : Nat) : Int))])), (df, .inr (3, [.ref dfw])), (dfw, .inl (c 2, 4 * 255, .inr (.inl (lfw fw iw lw q (q + 1) nc)))), (di, .inr (3, [.ref diw])), (diw, .inl (c 2, 4 * 40, .inr (.inl (zor iw q iw (q + 1))))), (dl, .inr (3, [.ref dlw])), (dlw, .inl (c 2, 4 * 40, .inr (.inl lw))), (dm, .inl (c 1, 40, .inl (fun j => zB (mb j))))] := hD
    refine lv_aload_n hx hb d_Dr_joinToRow_57 rfl (lv_at hl 2 rfl) ?_
    refine va_get (D := D) (ci := 0) (v := .ref dm) (C := R_Dr) (T := T_Dr) (N := 7) hx hb hts (fun w h => List.mem_cons_of_mem _ (inA_Dr w h)) hown hK hP 0 rfl rfl 4 (by decide) (hw k_Dr_f30) (fun _ h9 => h9) rfl d_Dr_joinToRow_58 ?_
    refine lv_iload_n hx hb d_Dr_joinToRow_61 rfl (lv_at hl 1 rfl) ?_
    refine z_zald hx hb hK hP 7 1 rfl rfl (q + 1) (by omega) (by omega) (by omega) d_Dr_joinToRow_62 ?_
    refine z_ifne_B (tgt := 74) hx hb d_Dr_joinToRow_63 (by decide) (fun hc_63 => ?_) (fun hc_63 => ?_)
    · refine lv_aload_n hx hb d_Dr_joinToRow_74 rfl (lv_at hl 2 rfl) ?_
      refine va_get (D := D) (ci := 0) (v := .ref dl) (C := R_Dr) (T := T_Dr) (N := 7) hx hb hts (fun w h => List.mem_cons_of_mem _ (inA_Dr w h)) hown hK hP 0 rfl rfl 3 (by decide) (hw k_Dr_f27) (fun _ h9 => h9) rfl d_Dr_joinToRow_75 ?_
      refine lv_iload_n hx hb d_Dr_joinToRow_78 rfl (lv_at hl 0 rfl) ?_
      refine lv_aload_n hx hb d_Dr_joinToRow_79 rfl (lv_at hl 2 rfl) ?_
      refine va_get (D := D) (ci := 0) (v := .ref dl) (C := R_Dr) (T := T_Dr) (N := 7) hx hb hts (fun w h => List.mem_cons_of_mem _ (inA_Dr w h)) hown hK hP 0 rfl rfl 3 (by decide) (hw k_Dr_f27) (fun _ h9 => h9) rfl d_Dr_joinToRow_80 ?_
      refine lv_iload_n hx hb d_Dr_joinToRow_83 rfl (lv_at hl 1 rfl) ?_
      have hPc : va_P D vwCl [(dl, .inr (3, [.ref dlw])), (dlw, .inl (c 2, 4 * 40, .inr (.inl lw)))] H := hP.sub (ws' := [(dl, .inr (3, [.ref dlw])), (dlw, .inl (c 2, 4 * 40, .inr (.inl lw)))]) [5, 6] rfl
      have hDc : va_D A [(dl, .inr (3, [.ref dlw])), (dlw, .inl (c 2, 4 * 40, .inr (.inl lw)))] := hD.sub (ws' := [(dl, .inr (3, [.ref dlw])), (dlw, .inl (c 2, 4 * 40, .inr (.inl lw)))]) [5, 6] (by decide) rfl
      have hDt : va_D (fun _ => True) [(dl, .inr (3, [.ref dlw])), (dlw, .inl (c 2, 4 * 40, .inr (.inl lw)))] := hDc.weaken (fun _ _ _ _ => trivial)
      refine z_callv (S := Unit) (w1 := fun u => [(dl, .inr (3, [.ref dlw])), (dlw, .inl (c 2, 4 * 40, .inr (.inl (zor lw q lw (q + 1)))))]) (post := fun u => True) (wc := [(dl, .inr (3, [.ref dlw])), (dlw, .inl (c 2, 4 * 40, .inr (.inl lw)))]) [5, 6] rfl (fun _ => rfl) hP hD hS (va_runV (rm := rm_addSelf) (As := [.int (zI ((q : Nat) : Int)), .ref dl, .int (zI ((q + 1 : Nat) : Int))]) (rest := []) ⟨hx, hb, hml, hown, hts⟩ (c_addSelf l D c dl dlw 40 lw q (q + 1) (by omega) (by omega) (by omega)) (cwV 3 hts (gWV k_Dr_m55 k_i_Se_addAll k_v_Se_addAll k_n_Se k_c_Se_addAll) rfl rfl rfl (by decide +kernel) ⟨Nat.le_of_ble_eq_true rfl, Nat.le_of_ble_eq_true rfl⟩) ⟨zblindW, va_recv hK hPc (ci := 3) (q0 := 0) rfl rfl, fun U hU hW => ⟨rfl, ⟨by rw [hU]; exact hPc, hDt⟩, hKN.moved hW⟩⟩ rfl rfl hl.1 rfl (lv_room (Nat.le_of_ble_eq_true rfl)) d_Dr_joinToRow_84 ⟨Nat.zero_le _, Nat.zero_le _⟩) (fun u H locs hp_8 hP hD hS => ?_)
      have hP : va_P D vwCl [(d, .inr (0, [.ref dn, .ref df, .ref di, .ref dl, .ref dm, .int (zI ((nc : Nat) : Int)), .int (zI (((q + 2) : Nat) : Int))])), (df, .inr (3, [.ref dfw])), (dfw, .inl (c 2, 4 * 255, .inr (.inl (lfw fw iw lw q (q + 1) nc)))), (di, .inr (3, [.ref diw])), (diw, .inl (c 2, 4 * 40, .inr (.inl (zor iw q iw (q + 1))))), (dl, .inr (3, [.ref dlw])), (dlw, .inl (c 2, 4 * 40, .inr (.inl (zor lw q lw (q + 1))))), (dm, .inl (c 1, 40, .inl (fun j => zB (mb j))))] H := hP
      have hD : va_D A [(d, .inr (0, [.ref dn, .ref df, .ref di, .ref dl, .ref dm, .int (zI ((nc : Nat) : Int)), .int (zI (((q + 2) : Nat) : Int))])), (df, .inr (3, [.ref dfw])), (dfw, .inl (c 2, 4 * 255, .inr (.inl (lfw fw iw lw q (q + 1) nc)))), (di, .inr (3, [.ref diw])), (diw, .inl (c 2, 4 * 40, .inr (.inl (zor iw q iw (q + 1))))), (dl, .inr (3, [.ref dlw])), (dlw, .inl (c 2, 4 * 40, .inr (.inl (zor lw q lw (q + 1))))), (dm, .inl (c 1, 40, .inl (fun j => zB (mb j))))] := hD
      refine lv_aload_n hx hb d_Dr_joinToRow_87 rfl (lv_at hl 2 rfl) ?_
      refine va_get (D := D) (ci := 0) (v := .ref dm) (C := R_Dr) (T := T_Dr) (N := 7) hx hb hts (fun w h => List.mem_cons_of_mem _ (inA_Dr w h)) hown hK hP 0 rfl rfl 4 (by decide) (hw k_Dr_f30) (fun _ h9 => h9) rfl d_Dr_joinToRow_88 ?_
      refine lv_iload_n hx hb d_Dr_joinToRow_91 rfl (lv_at hl 0 rfl) ?_
      refine lv_aload_n hx hb d_Dr_joinToRow_92 rfl (lv_at hl 2 rfl) ?_
      refine va_get (D := D) (ci := 0) (v := .ref dm) (C := R_Dr) (T := T_Dr) (N := 7) hx hb hts (fun w h => List.mem_cons_of_mem _ (inA_Dr w h)) hown hK hP 0 rfl rfl 4 (by decide) (hw k_Dr_f30) (fun _ h9 => h9) rfl d_Dr_joinToRow_93 ?_
      refine lv_iload_n hx hb d_Dr_joinToRow_96 rfl (lv_at hl 0 rfl) ?_
      refine z_zald hx hb hK hP 7 1 rfl rfl (q) (by omega) (by omega) (by omega) d_Dr_joinToRow_97 ?_
      refine z_ifeq_B (tgt := 114) hx hb d_Dr_joinToRow_98 (by decide) (fun hc_98 => ?_) (fun hc_98 => ?_)
      · refine lv_iconst (v := zI 0) hx hb d_Dr_joinToRow_114 (by decide) ?_
        refine z_top (v2 := .int (zB false)) (congrArg Value.int (by decide)) ?_
        refine z_zast hx hb hK hP hD hS 7 1 rfl rfl (q) (by omega) (by omega) (by omega) d_Dr_joinToRow_115 (fun H locs hP hD hS => ?_)
        have hP : va_P D vwCl [(d, .inr (0, [.ref dn, .ref df, .ref di, .ref dl, .ref dm, .int (zI ((nc : Nat) : Int)), .int (zI (((q + 2) : Nat) : Int))])), (df, .inr (3, [.ref dfw])), (dfw, .inl (c 2, 4 * 255, .inr (.inl (lfw fw iw lw q (q + 1) nc)))), (di, .inr (3, [.ref diw])), (diw, .inl (c 2, 4 * 40, .inr (.inl (zor iw q iw (q + 1))))), (dl, .inr (3, [.ref dlw])), (dlw, .inl (c 2, 4 * 40, .inr (.inl (zor lw q lw (q + 1))))), (dm, .inl (c 1, 40, .inl (fun j => zB ((va_up mb q false) j))))] H := hP
        have hD : va_D A [(d, .inr (0, [.ref dn, .ref df, .ref di, .ref dl, .ref dm, .int (zI ((nc : Nat) : Int)), .int (zI (((q + 2) : Nat) : Int))])), (df, .inr (3, [.ref dfw])), (dfw, .inl (c 2, 4 * 255, .inr (.inl (lfw fw iw lw q (q + 1) nc)))), (di, .inr (3, [.ref diw])), (diw, .inl (c 2, 4 * 40, .inr (.inl (zor iw q iw (q + 1))))), (dl, .inr (3, [.ref dlw])), (dlw, .inl (c 2, 4 * 40, .inr (.inl (zor lw q lw (q + 1))))), (dm, .inl (c 1, 40, .inl (fun j => zB ((va_up mb q false) j))))] := hD
        refine lv_aload_n hx hb d_Dr_joinToRow_116 rfl (lv_at hl 2 rfl) ?_
        refine lv_iload_n hx hb d_Dr_joinToRow_117 rfl (lv_at hl 1 rfl) ?_
        refine va_put (D := D) (ci := 0) (v := .int (zI ((q + 1 : Nat) : Int))) (ty := .int) (C := R_Dr) (T := T_Dr) (N := 7) hx hb hts (fun w h => List.mem_cons_of_mem _ (inA_Dr w h)) ty_Dr tyok_Dr nm_Dr hown hK hP hD hS 0 rfl rfl 6 (by decide) (hw k_Dr_f34) (fun _ h9 => h9) rfl (by decide +kernel) rfl rfl (Nat.le_of_ble_eq_true rfl) d_Dr_joinToRow_118 (fun H locs hP hD hS => ?_)
        have hP : va_P D vwCl [(d, .inr (0, [.ref dn, .ref df, .ref di, .ref dl, .ref dm, .int (zI ((nc : Nat) : Int)), .int (zI ((q + 1 : Nat) : Int))])), (df, .inr (3, [.ref dfw])), (dfw, .inl (c 2, 4 * 255, .inr (.inl (lfw fw iw lw q (q + 1) nc)))), (di, .inr (3, [.ref diw])), (diw, .inl (c 2, 4 * 40, .inr (.inl (zor iw q iw (q + 1))))), (dl, .inr (3, [.ref dlw])), (dlw, .inl (c 2, 4 * 40, .inr (.inl (zor lw q lw (q + 1))))), (dm, .inl (c 1, 40, .inl (fun j => zB ((va_up mb q false) j))))] H := hP
        have hD : va_D A [(d, .inr (0, [.ref dn, .ref df, .ref di, .ref dl, .ref dm, .int (zI ((nc : Nat) : Int)), .int (zI ((q + 1 : Nat) : Int))])), (df, .inr (3, [.ref dfw])), (dfw, .inl (c 2, 4 * 255, .inr (.inl (lfw fw iw lw q (q + 1) nc)))), (di, .inr (3, [.ref diw])), (diw, .inl (c 2, 4 * 40, .inr (.inl (zor iw q iw (q + 1))))), (dl, .inr (3, [.ref dlw])), (dlw, .inl (c 2, 4 * 40, .inr (.inl (zor lw q lw (q + 1))))), (dm, .inl (c 1, 40, .inl (fun j => zB ((va_up mb q false) j))))] := hD
        refine lv_iconst (v := zI 1) hx hb d_Dr_joinToRow_121 (by decide) ?_
        subst hQ
        exact W.zret (ty := .boolean) (v := (zI 1)) hx hb hr (by decide) (fun t9 ht hW => ⟨⟨_, (), rfl, ⟨(by decide), trivial⟩, by show va_P _ _ _ t9.heap; rw [ht]; rw [jrI_T hc_41, jrL0_T hc_63, show (mb q && mb (q + 1)) = false by first | (simp [*]; done) | (exfalso; rw [hc_41] at hc_98; cases hc_98; done) | (exfalso; rw [hc_63] at hc_107; cases hc_107; done)]; exact hP⟩, hS.F ht⟩) hS.2.2 d_Dr_joinToRow_122
      · refine lv_aload_n hx hb d_Dr_joinToRow_101 rfl (lv_at hl 2 rfl) ?_
        refine va_get (D := D) (ci := 0) (v := .ref dm) (C := R_Dr) (T := T_Dr) (N := 7) hx hb hts (fun w h => List.mem_cons_of_mem _ (inA_Dr w h)) hown hK hP 0 rfl rfl 4 (by decide) (hw k_Dr_f30) (fun _ h9 => h9) rfl d_Dr_joinToRow_102 ?_
        refine lv_iload_n hx hb d_Dr_joinToRow_105 rfl (lv_at hl 1 rfl) ?_
        refine z_zald hx hb hK hP 7 1 rfl rfl (q + 1) (by omega) (by omega) (by omega) d_Dr_joinToRow_106 ?_
        refine z_ifeq_B (tgt := 114) hx hb d_Dr_joinToRow_107 (by decide) (fun hc_107 => ?_) (fun hc_107 => ?_)
        · refine lv_iconst (v := zI 0) hx hb d_Dr_joinToRow_114 (by decide) ?_
          refine z_top (v2 := .int (zB false)) (congrArg Value.int (by decide)) ?_
          refine z_zast hx hb hK hP hD hS 7 1 rfl rfl (q) (by omega) (by omega) (by omega) d_Dr_joinToRow_115 (fun H locs hP hD hS => ?_)
          have hP : va_P D vwCl [(d, .inr (0, [.ref dn, .ref df, .ref di, .ref dl, .ref dm, .int (zI ((nc : Nat) : Int)), .int (zI (((q + 2) : Nat) : Int))])), (df, .inr (3, [.ref dfw])), (dfw, .inl (c 2, 4 * 255, .inr (.inl (lfw fw iw lw q (q + 1) nc)))), (di, .inr (3, [.ref diw])), (diw, .inl (c 2, 4 * 40, .inr (.inl (zor iw q iw (q + 1))))), (dl, .inr (3, [.ref dlw])), (dlw, .inl (c 2, 4 * 40, .inr (.inl (zor lw q lw (q + 1))))), (dm, .inl (c 1, 40, .inl (fun j => zB ((va_up mb q false) j))))] H := hP
          have hD : va_D A [(d, .inr (0, [.ref dn, .ref df, .ref di, .ref dl, .ref dm, .int (zI ((nc : Nat) : Int)), .int (zI (((q + 2) : Nat) : Int))])), (df, .inr (3, [.ref dfw])), (dfw, .inl (c 2, 4 * 255, .inr (.inl (lfw fw iw lw q (q + 1) nc)))), (di, .inr (3, [.ref diw])), (diw, .inl (c 2, 4 * 40, .inr (.inl (zor iw q iw (q + 1))))), (dl, .inr (3, [.ref dlw])), (dlw, .inl (c 2, 4 * 40, .inr (.inl (zor lw q lw (q + 1))))), (dm, .inl (c 1, 40, .inl (fun j => zB ((va_up mb q false) j))))] := hD
          refine lv_aload_n hx hb d_Dr_joinToRow_116 rfl (lv_at hl 2 rfl) ?_
          refine lv_iload_n hx hb d_Dr_joinToRow_117 rfl (lv_at hl 1 rfl) ?_
          refine va_put (D := D) (ci := 0) (v := .int (zI ((q + 1 : Nat) : Int))) (ty := .int) (C := R_Dr) (T := T_Dr) (N := 7) hx hb hts (fun w h => List.mem_cons_of_mem _ (inA_Dr w h)) ty_Dr tyok_Dr nm_Dr hown hK hP hD hS 0 rfl rfl 6 (by decide) (hw k_Dr_f34) (fun _ h9 => h9) rfl (by decide +kernel) rfl rfl (Nat.le_of_ble_eq_true rfl) d_Dr_joinToRow_118 (fun H locs hP hD hS => ?_)
          have hP : va_P D vwCl [(d, .inr (0, [.ref dn, .ref df, .ref di, .ref dl, .ref dm, .int (zI ((nc : Nat) : Int)), .int (zI ((q + 1 : Nat) : Int))])), (df, .inr (3, [.ref dfw])), (dfw, .inl (c 2, 4 * 255, .inr (.inl (lfw fw iw lw q (q + 1) nc)))), (di, .inr (3, [.ref diw])), (diw, .inl (c 2, 4 * 40, .inr (.inl (zor iw q iw (q + 1))))), (dl, .inr (3, [.ref dlw])), (dlw, .inl (c 2, 4 * 40, .inr (.inl (zor lw q lw (q + 1))))), (dm, .inl (c 1, 40, .inl (fun j => zB ((va_up mb q false) j))))] H := hP
          have hD : va_D A [(d, .inr (0, [.ref dn, .ref df, .ref di, .ref dl, .ref dm, .int (zI ((nc : Nat) : Int)), .int (zI ((q + 1 : Nat) : Int))])), (df, .inr (3, [.ref dfw])), (dfw, .inl (c 2, 4 * 255, .inr (.inl (lfw fw iw lw q (q + 1) nc)))), (di, .inr (3, [.ref diw])), (diw, .inl (c 2, 4 * 40, .inr (.inl (zor iw q iw (q + 1))))), (dl, .inr (3, [.ref dlw])), (dlw, .inl (c 2, 4 * 40, .inr (.inl (zor lw q lw (q + 1))))), (dm, .inl (c 1, 40, .inl (fun j => zB ((va_up mb q false) j))))] := hD
          refine lv_iconst (v := zI 1) hx hb d_Dr_joinToRow_121 (by decide) ?_
          subst hQ
          exact W.zret (ty := .boolean) (v := (zI 1)) hx hb hr (by decide) (fun t9 ht hW => ⟨⟨_, (), rfl, ⟨(by decide), trivial⟩, by show va_P _ _ _ t9.heap; rw [ht]; rw [jrI_T hc_41, jrL0_T hc_63, show (mb q && mb (q + 1)) = false by first | (simp [*]; done) | (exfalso; rw [hc_41] at hc_98; cases hc_98; done) | (exfalso; rw [hc_63] at hc_107; cases hc_107; done)]; exact hP⟩, hS.F ht⟩) hS.2.2 d_Dr_joinToRow_122
        · refine lv_iconst (v := zI 1) hx hb d_Dr_joinToRow_110 (by decide) ?_
          refine lv_goto (tgt := 115) hx hb d_Dr_joinToRow_111 (by decide) ?_
          refine z_top (v2 := .int (zB true)) (congrArg Value.int (by decide)) ?_
          refine z_zast hx hb hK hP hD hS 7 1 rfl rfl (q) (by omega) (by omega) (by omega) d_Dr_joinToRow_115 (fun H locs hP hD hS => ?_)
          have hP : va_P D vwCl [(d, .inr (0, [.ref dn, .ref df, .ref di, .ref dl, .ref dm, .int (zI ((nc : Nat) : Int)), .int (zI (((q + 2) : Nat) : Int))])), (df, .inr (3, [.ref dfw])), (dfw, .inl (c 2, 4 * 255, .inr (.inl (lfw fw iw lw q (q + 1) nc)))), (di, .inr (3, [.ref diw])), (diw, .inl (c 2, 4 * 40, .inr (.inl (zor iw q iw (q + 1))))), (dl, .inr (3, [.ref dlw])), (dlw, .inl (c 2, 4 * 40, .inr (.inl (zor lw q lw (q + 1))))), (dm, .inl (c 1, 40, .inl (fun j => zB ((va_up mb q true) j))))] H := hP
          have hD : va_D A [(d, .inr (0, [.ref dn, .ref df, .ref di, .ref dl, .ref dm, .int (zI ((nc : Nat) : Int)), .int (zI (((q + 2) : Nat) : Int))])), (df, .inr (3, [.ref dfw])), (dfw, .inl (c 2, 4 * 255, .inr (.inl (lfw fw iw lw q (q + 1) nc)))), (di, .inr (3, [.ref diw])), (diw, .inl (c 2, 4 * 40, .inr (.inl (zor iw q iw (q + 1))))), (dl, .inr (3, [.ref dlw])), (dlw, .inl (c 2, 4 * 40, .inr (.inl (zor lw q lw (q + 1))))), (dm, .inl (c 1, 40, .inl (fun j => zB ((va_up mb q true) j))))] := hD
          refine lv_aload_n hx hb d_Dr_joinToRow_116 rfl (lv_at hl 2 rfl) ?_
          refine lv_iload_n hx hb d_Dr_joinToRow_117 rfl (lv_at hl 1 rfl) ?_
          refine va_put (D := D) (ci := 0) (v := .int (zI ((q + 1 : Nat) : Int))) (ty := .int) (C := R_Dr) (T := T_Dr) (N := 7) hx hb hts (fun w h => List.mem_cons_of_mem _ (inA_Dr w h)) ty_Dr tyok_Dr nm_Dr hown hK hP hD hS 0 rfl rfl 6 (by decide) (hw k_Dr_f34) (fun _ h9 => h9) rfl (by decide +kernel) rfl rfl (Nat.le_of_ble_eq_true rfl) d_Dr_joinToRow_118 (fun H locs hP hD hS => ?_)
          have hP : va_P D vwCl [(d, .inr (0, [.ref dn, .ref df, .ref di, .ref dl, .ref dm, .int (zI ((nc : Nat) : Int)), .int (zI ((q + 1 : Nat) : Int))])), (df, .inr (3, [.ref dfw])), (dfw, .inl (c 2, 4 * 255, .inr (.inl (lfw fw iw lw q (q + 1) nc)))), (di, .inr (3, [.ref diw])), (diw, .inl (c 2, 4 * 40, .inr (.inl (zor iw q iw (q + 1))))), (dl, .inr (3, [.ref dlw])), (dlw, .inl (c 2, 4 * 40, .inr (.inl (zor lw q lw (q + 1))))), (dm, .inl (c 1, 40, .inl (fun j => zB ((va_up mb q true) j))))] H := hP
          have hD : va_D A [(d, .inr (0, [.ref dn, .ref df, .ref di, .ref dl, .ref dm, .int (zI ((nc : Nat) : Int)), .int (zI ((q + 1 : Nat) : Int))])), (df, .inr (3, [.ref dfw])), (dfw, .inl (c 2, 4 * 255, .inr (.inl (lfw fw iw lw q (q + 1) nc)))), (di, .inr (3, [.ref diw])), (diw, .inl (c 2, 4 * 40, .inr (.inl (zor iw q iw (q + 1))))), (dl, .inr (3, [.ref dlw])), (dlw, .inl (c 2, 4 * 40, .inr (.inl (zor lw q lw (q + 1))))), (dm, .inl (c 1, 40, .inl (fun j => zB ((va_up mb q true) j))))] := hD
          refine lv_iconst (v := zI 1) hx hb d_Dr_joinToRow_121 (by decide) ?_
          subst hQ
          exact W.zret (ty := .boolean) (v := (zI 1)) hx hb hr (by decide) (fun t9 ht hW => ⟨⟨_, (), rfl, ⟨(by decide), trivial⟩, by show va_P _ _ _ t9.heap; rw [ht]; rw [jrI_T hc_41, jrL0_T hc_63, show (mb q && mb (q + 1)) = true by first | (simp [*]; done) | (exfalso; rw [hc_41] at hc_98; cases hc_98; done) | (exfalso; rw [hc_63] at hc_107; cases hc_107; done)]; exact hP⟩, hS.F ht⟩) hS.2.2 d_Dr_joinToRow_122
    · refine lv_aload_n hx hb d_Dr_joinToRow_66 rfl (lv_at hl 2 rfl) ?_
      refine va_get (D := D) (ci := 0) (v := .ref dl) (C := R_Dr) (T := T_Dr) (N := 7) hx hb hts (fun w h => List.mem_cons_of_mem _ (inA_Dr w h)) hown hK hP 0 rfl rfl 3 (by decide) (hw k_Dr_f27) (fun _ h9 => h9) rfl d_Dr_joinToRow_67 ?_
      refine lv_iload_n hx hb d_Dr_joinToRow_70 rfl (lv_at hl 0 rfl) ?_
      have hPc : va_P D vwCl [(dl, .inr (3, [.ref dlw])), (dlw, .inl (c 2, 4 * 40, .inr (.inl lw)))] H := hP.sub (ws' := [(dl, .inr (3, [.ref dlw])), (dlw, .inl (c 2, 4 * 40, .inr (.inl lw)))]) [5, 6] rfl
      have hDc : va_D A [(dl, .inr (3, [.ref dlw])), (dlw, .inl (c 2, 4 * 40, .inr (.inl lw)))] := hD.sub (ws' := [(dl, .inr (3, [.ref dlw])), (dlw, .inl (c 2, 4 * 40, .inr (.inl lw)))]) [5, 6] (by decide) rfl
      have hDt : va_D (fun _ => True) [(dl, .inr (3, [.ref dlw])), (dlw, .inl (c 2, 4 * 40, .inr (.inl lw)))] := hDc.weaken (fun _ _ _ _ => trivial)
      refine z_callv (S := Unit) (w1 := fun u => [(dl, .inr (3, [.ref dlw])), (dlw, .inl (c 2, 4 * 40, .inr (.inl (zclr lw q))))]) (post := fun u => True) (wc := [(dl, .inr (3, [.ref dlw])), (dlw, .inl (c 2, 4 * 40, .inr (.inl lw)))]) [5, 6] rfl (fun _ => rfl) hP hD hS (va_runV (rm := rm_removeAll) (As := [.int (zI ((q : Nat) : Int))]) (rest := []) ⟨hx, hb, hml, hown, hts⟩ (c_removeAll l D c dl dlw 40 lw q (by omega) (by omega)) (cwV 1 hts (gWV k_Dr_m41 k_i_Se_removeAll k_v_Se_removeAll k_n_Se k_c_Se_removeAll) rfl rfl rfl (by decide +kernel) ⟨Nat.le_of_ble_eq_true rfl, Nat.le_of_ble_eq_true rfl⟩) ⟨zblindW, va_recv hK hPc (ci := 3) (q0 := 0) rfl rfl, fun U hU hW => ⟨rfl, ⟨by rw [hU]; exact hPc, hDt⟩, hKN.moved hW⟩⟩ rfl rfl hl.1 rfl (lv_room (Nat.le_of_ble_eq_true rfl)) d_Dr_joinToRow_71 ⟨Nat.zero_le _, Nat.zero_le _⟩) (fun u H locs hp_9 hP hD hS => ?_)
      have hP : va_P D vwCl [(d, .inr (0, [.ref dn, .ref df, .ref di, .ref dl, .ref dm, .int (zI ((nc : Nat) : Int)), .int (zI (((q + 2) : Nat) : Int))])), (df, .inr (3, [.ref dfw])), (dfw, .inl (c 2, 4 * 255, .inr (.inl (lfw fw iw lw q (q + 1) nc)))), (di, .inr (3, [.ref diw])), (diw, .inl (c 2, 4 * 40, .inr (.inl (zor iw q iw (q + 1))))), (dl, .inr (3, [.ref dlw])), (dlw, .inl (c 2, 4 * 40, .inr (.inl (zclr lw q)))), (dm, .inl (c 1, 40, .inl (fun j => zB (mb j))))] H := hP
      have hD : va_D A [(d, .inr (0, [.ref dn, .ref df, .ref di, .ref dl, .ref dm, .int (zI ((nc : Nat) : Int)), .int (zI (((q + 2) : Nat) : Int))])), (df, .inr (3, [.ref dfw])), (dfw, .inl (c 2, 4 * 255, .inr (.inl (lfw fw iw lw q (q + 1) nc)))), (di, .inr (3, [.ref diw])), (diw, .inl (c 2, 4 * 40, .inr (.inl (zor iw q iw (q + 1))))), (dl, .inr (3, [.ref dlw])), (dlw, .inl (c 2, 4 * 40, .inr (.inl (zclr lw q)))), (dm, .inl (c 1, 40, .inl (fun j => zB (mb j))))] := hD
      refine lv_aload_n hx hb d_Dr_joinToRow_74 rfl (lv_at hl 2 rfl) ?_
      refine va_get (D := D) (ci := 0) (v := .ref dl) (C := R_Dr) (T := T_Dr) (N := 7) hx hb hts (fun w h => List.mem_cons_of_mem _ (inA_Dr w h)) hown hK hP 0 rfl rfl 3 (by decide) (hw k_Dr_f27) (fun _ h9 => h9) rfl d_Dr_joinToRow_75 ?_
      refine lv_iload_n hx hb d_Dr_joinToRow_78 rfl (lv_at hl 0 rfl) ?_
      refine lv_aload_n hx hb d_Dr_joinToRow_79 rfl (lv_at hl 2 rfl) ?_
      refine va_get (D := D) (ci := 0) (v := .ref dl) (C := R_Dr) (T := T_Dr) (N := 7) hx hb hts (fun w h => List.mem_cons_of_mem _ (inA_Dr w h)) hown hK hP 0 rfl rfl 3 (by decide) (hw k_Dr_f27) (fun _ h9 => h9) rfl d_Dr_joinToRow_80 ?_
      refine lv_iload_n hx hb d_Dr_joinToRow_83 rfl (lv_at hl 1 rfl) ?_
      have hPc : va_P D vwCl [(dl, .inr (3, [.ref dlw])), (dlw, .inl (c 2, 4 * 40, .inr (.inl (zclr lw q))))] H := hP.sub (ws' := [(dl, .inr (3, [.ref dlw])), (dlw, .inl (c 2, 4 * 40, .inr (.inl (zclr lw q))))]) [5, 6] rfl
      have hDc : va_D A [(dl, .inr (3, [.ref dlw])), (dlw, .inl (c 2, 4 * 40, .inr (.inl (zclr lw q))))] := hD.sub (ws' := [(dl, .inr (3, [.ref dlw])), (dlw, .inl (c 2, 4 * 40, .inr (.inl (zclr lw q))))]) [5, 6] (by decide) rfl
      have hDt : va_D (fun _ => True) [(dl, .inr (3, [.ref dlw])), (dlw, .inl (c 2, 4 * 40, .inr (.inl (zclr lw q))))] := hDc.weaken (fun _ _ _ _ => trivial)
      refine z_callv (S := Unit) (w1 := fun u => [(dl, .inr (3, [.ref dlw])), (dlw, .inl (c 2, 4 * 40, .inr (.inl (zor (zclr lw q) q (zclr lw q) (q + 1)))))]) (post := fun u => True) (wc := [(dl, .inr (3, [.ref dlw])), (dlw, .inl (c 2, 4 * 40, .inr (.inl (zclr lw q))))]) [5, 6] rfl (fun _ => rfl) hP hD hS (va_runV (rm := rm_addSelf) (As := [.int (zI ((q : Nat) : Int)), .ref dl, .int (zI ((q + 1 : Nat) : Int))]) (rest := []) ⟨hx, hb, hml, hown, hts⟩ (c_addSelf l D c dl dlw 40 (zclr lw q) q (q + 1) (by omega) (by omega) (by omega)) (cwV 3 hts (gWV k_Dr_m55 k_i_Se_addAll k_v_Se_addAll k_n_Se k_c_Se_addAll) rfl rfl rfl (by decide +kernel) ⟨Nat.le_of_ble_eq_true rfl, Nat.le_of_ble_eq_true rfl⟩) ⟨zblindW, va_recv hK hPc (ci := 3) (q0 := 0) rfl rfl, fun U hU hW => ⟨rfl, ⟨by rw [hU]; exact hPc, hDt⟩, hKN.moved hW⟩⟩ rfl rfl hl.1 rfl (lv_room (Nat.le_of_ble_eq_true rfl)) d_Dr_joinToRow_84 ⟨Nat.zero_le _, Nat.zero_le _⟩) (fun u H locs hp_10 hP hD hS => ?_)
      have hP : va_P D vwCl [(d, .inr (0, [.ref dn, .ref df, .ref di, .ref dl, .ref dm, .int (zI ((nc : Nat) : Int)), .int (zI (((q + 2) : Nat) : Int))])), (df, .inr (3, [.ref dfw])), (dfw, .inl (c 2, 4 * 255, .inr (.inl (lfw fw iw lw q (q + 1) nc)))), (di, .inr (3, [.ref diw])), (diw, .inl (c 2, 4 * 40, .inr (.inl (zor iw q iw (q + 1))))), (dl, .inr (3, [.ref dlw])), (dlw, .inl (c 2, 4 * 40, .inr (.inl (zor (zclr lw q) q (zclr lw q) (q + 1))))), (dm, .inl (c 1, 40, .inl (fun j => zB (mb j))))] H := hP
      have hD : va_D A [(d, .inr (0, [.ref dn, .ref df, .ref di, .ref dl, .ref dm, .int (zI ((nc : Nat) : Int)), .int (zI (((q + 2) : Nat) : Int))])), (df, .inr (3, [.ref dfw])), (dfw, .inl (c 2, 4 * 255, .inr (.inl (lfw fw iw lw q (q + 1) nc)))), (di, .inr (3, [.ref diw])), (diw, .inl (c 2, 4 * 40, .inr (.inl (zor iw q iw (q + 1))))), (dl, .inr (3, [.ref dlw])), (dlw, .inl (c 2, 4 * 40, .inr (.inl (zor (zclr lw q) q (zclr lw q) (q + 1))))), (dm, .inl (c 1, 40, .inl (fun j => zB (mb j))))] := hD
      refine lv_aload_n hx hb d_Dr_joinToRow_87 rfl (lv_at hl 2 rfl) ?_
      refine va_get (D := D) (ci := 0) (v := .ref dm) (C := R_Dr) (T := T_Dr) (N := 7) hx hb hts (fun w h => List.mem_cons_of_mem _ (inA_Dr w h)) hown hK hP 0 rfl rfl 4 (by decide) (hw k_Dr_f30) (fun _ h9 => h9) rfl d_Dr_joinToRow_88 ?_
      refine lv_iload_n hx hb d_Dr_joinToRow_91 rfl (lv_at hl 0 rfl) ?_
      refine lv_aload_n hx hb d_Dr_joinToRow_92 rfl (lv_at hl 2 rfl) ?_
      refine va_get (D := D) (ci := 0) (v := .ref dm) (C := R_Dr) (T := T_Dr) (N := 7) hx hb hts (fun w h => List.mem_cons_of_mem _ (inA_Dr w h)) hown hK hP 0 rfl rfl 4 (by decide) (hw k_Dr_f30) (fun _ h9 => h9) rfl d_Dr_joinToRow_93 ?_
      refine lv_iload_n hx hb d_Dr_joinToRow_96 rfl (lv_at hl 0 rfl) ?_
      refine z_zald hx hb hK hP 7 1 rfl rfl (q) (by omega) (by omega) (by omega) d_Dr_joinToRow_97 ?_
      refine z_ifeq_B (tgt := 114) hx hb d_Dr_joinToRow_98 (by decide) (fun hc_98 => ?_) (fun hc_98 => ?_)
      · refine lv_iconst (v := zI 0) hx hb d_Dr_joinToRow_114 (by decide) ?_
        refine z_top (v2 := .int (zB false)) (congrArg Value.int (by decide)) ?_
        refine z_zast hx hb hK hP hD hS 7 1 rfl rfl (q) (by omega) (by omega) (by omega) d_Dr_joinToRow_115 (fun H locs hP hD hS => ?_)
        have hP : va_P D vwCl [(d, .inr (0, [.ref dn, .ref df, .ref di, .ref dl, .ref dm, .int (zI ((nc : Nat) : Int)), .int (zI (((q + 2) : Nat) : Int))])), (df, .inr (3, [.ref dfw])), (dfw, .inl (c 2, 4 * 255, .inr (.inl (lfw fw iw lw q (q + 1) nc)))), (di, .inr (3, [.ref diw])), (diw, .inl (c 2, 4 * 40, .inr (.inl (zor iw q iw (q + 1))))), (dl, .inr (3, [.ref dlw])), (dlw, .inl (c 2, 4 * 40, .inr (.inl (zor (zclr lw q) q (zclr lw q) (q + 1))))), (dm, .inl (c 1, 40, .inl (fun j => zB ((va_up mb q false) j))))] H := hP
        have hD : va_D A [(d, .inr (0, [.ref dn, .ref df, .ref di, .ref dl, .ref dm, .int (zI ((nc : Nat) : Int)), .int (zI (((q + 2) : Nat) : Int))])), (df, .inr (3, [.ref dfw])), (dfw, .inl (c 2, 4 * 255, .inr (.inl (lfw fw iw lw q (q + 1) nc)))), (di, .inr (3, [.ref diw])), (diw, .inl (c 2, 4 * 40, .inr (.inl (zor iw q iw (q + 1))))), (dl, .inr (3, [.ref dlw])), (dlw, .inl (c 2, 4 * 40, .inr (.inl (zor (zclr lw q) q (zclr lw q) (q + 1))))), (dm, .inl (c 1, 40, .inl (fun j => zB ((va_up mb q false) j))))] := hD
        refine lv_aload_n hx hb d_Dr_joinToRow_116 rfl (lv_at hl 2 rfl) ?_
        refine lv_iload_n hx hb d_Dr_joinToRow_117 rfl (lv_at hl 1 rfl) ?_
        refine va_put (D := D) (ci := 0) (v := .int (zI ((q + 1 : Nat) : Int))) (ty := .int) (C := R_Dr) (T := T_Dr) (N := 7) hx hb hts (fun w h => List.mem_cons_of_mem _ (inA_Dr w h)) ty_Dr tyok_Dr nm_Dr hown hK hP hD hS 0 rfl rfl 6 (by decide) (hw k_Dr_f34) (fun _ h9 => h9) rfl (by decide +kernel) rfl rfl (Nat.le_of_ble_eq_true rfl) d_Dr_joinToRow_118 (fun H locs hP hD hS => ?_)
        have hP : va_P D vwCl [(d, .inr (0, [.ref dn, .ref df, .ref di, .ref dl, .ref dm, .int (zI ((nc : Nat) : Int)), .int (zI ((q + 1 : Nat) : Int))])), (df, .inr (3, [.ref dfw])), (dfw, .inl (c 2, 4 * 255, .inr (.inl (lfw fw iw lw q (q + 1) nc)))), (di, .inr (3, [.ref diw])), (diw, .inl (c 2, 4 * 40, .inr (.inl (zor iw q iw (q + 1))))), (dl, .inr (3, [.ref dlw])), (dlw, .inl (c 2, 4 * 40, .inr (.inl (zor (zclr lw q) q (zclr lw q) (q + 1))))), (dm, .inl (c 1, 40, .inl (fun j => zB ((va_up mb q false) j))))] H := hP
        have hD : va_D A [(d, .inr (0, [.ref dn, .ref df, .ref di, .ref dl, .ref dm, .int (zI ((nc : Nat) : Int)), .int (zI ((q + 1 : Nat) : Int))])), (df, .inr (3, [.ref dfw])), (dfw, .inl (c 2, 4 * 255, .inr (.inl (lfw fw iw lw q (q + 1) nc)))), (di, .inr (3, [.ref diw])), (diw, .inl (c 2, 4 * 40, .inr (.inl (zor iw q iw (q + 1))))), (dl, .inr (3, [.ref dlw])), (dlw, .inl (c 2, 4 * 40, .inr (.inl (zor (zclr lw q) q (zclr lw q) (q + 1))))), (dm, .inl (c 1, 40, .inl (fun j => zB ((va_up mb q false) j))))] := hD
        refine lv_iconst (v := zI 1) hx hb d_Dr_joinToRow_121 (by decide) ?_
        subst hQ
        exact W.zret (ty := .boolean) (v := (zI 1)) hx hb hr (by decide) (fun t9 ht hW => ⟨⟨_, (), rfl, ⟨(by decide), trivial⟩, by show va_P _ _ _ t9.heap; rw [ht]; rw [jrI_T hc_41, jrL0_F hc_63, show (mb q && mb (q + 1)) = false by first | (simp [*]; done) | (exfalso; rw [hc_41] at hc_98; cases hc_98; done) | (exfalso; rw [hc_63] at hc_107; cases hc_107; done)]; exact hP⟩, hS.F ht⟩) hS.2.2 d_Dr_joinToRow_122
      · refine lv_aload_n hx hb d_Dr_joinToRow_101 rfl (lv_at hl 2 rfl) ?_
        refine va_get (D := D) (ci := 0) (v := .ref dm) (C := R_Dr) (T := T_Dr) (N := 7) hx hb hts (fun w h => List.mem_cons_of_mem _ (inA_Dr w h)) hown hK hP 0 rfl rfl 4 (by decide) (hw k_Dr_f30) (fun _ h9 => h9) rfl d_Dr_joinToRow_102 ?_
        refine lv_iload_n hx hb d_Dr_joinToRow_105 rfl (lv_at hl 1 rfl) ?_
        refine z_zald hx hb hK hP 7 1 rfl rfl (q + 1) (by omega) (by omega) (by omega) d_Dr_joinToRow_106 ?_
        refine z_ifeq_B (tgt := 114) hx hb d_Dr_joinToRow_107 (by decide) (fun hc_107 => ?_) (fun hc_107 => ?_)
        · refine lv_iconst (v := zI 0) hx hb d_Dr_joinToRow_114 (by decide) ?_
          refine z_top (v2 := .int (zB false)) (congrArg Value.int (by decide)) ?_
          refine z_zast hx hb hK hP hD hS 7 1 rfl rfl (q) (by omega) (by omega) (by omega) d_Dr_joinToRow_115 (fun H locs hP hD hS => ?_)
          have hP : va_P D vwCl [(d, .inr (0, [.ref dn, .ref df, .ref di, .ref dl, .ref dm, .int (zI ((nc : Nat) : Int)), .int (zI (((q + 2) : Nat) : Int))])), (df, .inr (3, [.ref dfw])), (dfw, .inl (c 2, 4 * 255, .inr (.inl (lfw fw iw lw q (q + 1) nc)))), (di, .inr (3, [.ref diw])), (diw, .inl (c 2, 4 * 40, .inr (.inl (zor iw q iw (q + 1))))), (dl, .inr (3, [.ref dlw])), (dlw, .inl (c 2, 4 * 40, .inr (.inl (zor (zclr lw q) q (zclr lw q) (q + 1))))), (dm, .inl (c 1, 40, .inl (fun j => zB ((va_up mb q false) j))))] H := hP
          have hD : va_D A [(d, .inr (0, [.ref dn, .ref df, .ref di, .ref dl, .ref dm, .int (zI ((nc : Nat) : Int)), .int (zI (((q + 2) : Nat) : Int))])), (df, .inr (3, [.ref dfw])), (dfw, .inl (c 2, 4 * 255, .inr (.inl (lfw fw iw lw q (q + 1) nc)))), (di, .inr (3, [.ref diw])), (diw, .inl (c 2, 4 * 40, .inr (.inl (zor iw q iw (q + 1))))), (dl, .inr (3, [.ref dlw])), (dlw, .inl (c 2, 4 * 40, .inr (.inl (zor (zclr lw q) q (zclr lw q) (q + 1))))), (dm, .inl (c 1, 40, .inl (fun j => zB ((va_up mb q false) j))))] := hD
          refine lv_aload_n hx hb d_Dr_joinToRow_116 rfl (lv_at hl 2 rfl) ?_
          refine lv_iload_n hx hb d_Dr_joinToRow_117 rfl (lv_at hl 1 rfl) ?_
          refine va_put (D := D) (ci := 0) (v := .int (zI ((q + 1 : Nat) : Int))) (ty := .int) (C := R_Dr) (T := T_Dr) (N := 7) hx hb hts (fun w h => List.mem_cons_of_mem _ (inA_Dr w h)) ty_Dr tyok_Dr nm_Dr hown hK hP hD hS 0 rfl rfl 6 (by decide) (hw k_Dr_f34) (fun _ h9 => h9) rfl (by decide +kernel) rfl rfl (Nat.le_of_ble_eq_true rfl) d_Dr_joinToRow_118 (fun H locs hP hD hS => ?_)
          have hP : va_P D vwCl [(d, .inr (0, [.ref dn, .ref df, .ref di, .ref dl, .ref dm, .int (zI ((nc : Nat) : Int)), .int (zI ((q + 1 : Nat) : Int))])), (df, .inr (3, [.ref dfw])), (dfw, .inl (c 2, 4 * 255, .inr (.inl (lfw fw iw lw q (q + 1) nc)))), (di, .inr (3, [.ref diw])), (diw, .inl (c 2, 4 * 40, .inr (.inl (zor iw q iw (q + 1))))), (dl, .inr (3, [.ref dlw])), (dlw, .inl (c 2, 4 * 40, .inr (.inl (zor (zclr lw q) q (zclr lw q) (q + 1))))), (dm, .inl (c 1, 40, .inl (fun j => zB ((va_up mb q false) j))))] H := hP
          have hD : va_D A [(d, .inr (0, [.ref dn, .ref df, .ref di, .ref dl, .ref dm, .int (zI ((nc : Nat) : Int)), .int (zI ((q + 1 : Nat) : Int))])), (df, .inr (3, [.ref dfw])), (dfw, .inl (c 2, 4 * 255, .inr (.inl (lfw fw iw lw q (q + 1) nc)))), (di, .inr (3, [.ref diw])), (diw, .inl (c 2, 4 * 40, .inr (.inl (zor iw q iw (q + 1))))), (dl, .inr (3, [.ref dlw])), (dlw, .inl (c 2, 4 * 40, .inr (.inl (zor (zclr lw q) q (zclr lw q) (q + 1))))), (dm, .inl (c 1, 40, .inl (fun j => zB ((va_up mb q false) j))))] := hD
          refine lv_iconst (v := zI 1) hx hb d_Dr_joinToRow_121 (by decide) ?_
          subst hQ
          exact W.zret (ty := .boolean) (v := (zI 1)) hx hb hr (by decide) (fun t9 ht hW => ⟨⟨_, (), rfl, ⟨(by decide), trivial⟩, by show va_P _ _ _ t9.heap; rw [ht]; rw [jrI_T hc_41, jrL0_F hc_63, show (mb q && mb (q + 1)) = false by first | (simp [*]; done) | (exfalso; rw [hc_41] at hc_98; cases hc_98; done) | (exfalso; rw [hc_63] at hc_107; cases hc_107; done)]; exact hP⟩, hS.F ht⟩) hS.2.2 d_Dr_joinToRow_122
        · refine lv_iconst (v := zI 1) hx hb d_Dr_joinToRow_110 (by decide) ?_
          refine lv_goto (tgt := 115) hx hb d_Dr_joinToRow_111 (by decide) ?_
          refine z_top (v2 := .int (zB true)) (congrArg Value.int (by decide)) ?_
          refine z_zast hx hb hK hP hD hS 7 1 rfl rfl (q) (by omega) (by omega) (by omega) d_Dr_joinToRow_115 (fun H locs hP hD hS => ?_)
          have hP : va_P D vwCl [(d, .inr (0, [.ref dn, .ref df, .ref di, .ref dl, .ref dm, .int (zI ((nc : Nat) : Int)), .int (zI (((q + 2) : Nat) : Int))])), (df, .inr (3, [.ref dfw])), (dfw, .inl (c 2, 4 * 255, .inr (.inl (lfw fw iw lw q (q + 1) nc)))), (di, .inr (3, [.ref diw])), (diw, .inl (c 2, 4 * 40, .inr (.inl (zor iw q iw (q + 1))))), (dl, .inr (3, [.ref dlw])), (dlw, .inl (c 2, 4 * 40, .inr (.inl (zor (zclr lw q) q (zclr lw q) (q + 1))))), (dm, .inl (c 1, 40, .inl (fun j => zB ((va_up mb q true) j))))] H := hP
          have hD : va_D A [(d, .inr (0, [.ref dn, .ref df, .ref di, .ref dl, .ref dm, .int (zI ((nc : Nat) : Int)), .int (zI (((q + 2) : Nat) : Int))])), (df, .inr (3, [.ref dfw])), (dfw, .inl (c 2, 4 * 255, .inr (.inl (lfw fw iw lw q (q + 1) nc)))), (di, .inr (3, [.ref diw])), (diw, .inl (c 2, 4 * 40, .inr (.inl (zor iw q iw (q + 1))))), (dl, .inr (3, [.ref dlw])), (dlw, .inl (c 2, 4 * 40, .inr (.inl (zor (zclr lw q) q (zclr lw q) (q + 1))))), (dm, .inl (c 1, 40, .inl (fun j => zB ((va_up mb q true) j))))] := hD
          refine lv_aload_n hx hb d_Dr_joinToRow_116 rfl (lv_at hl 2 rfl) ?_
          refine lv_iload_n hx hb d_Dr_joinToRow_117 rfl (lv_at hl 1 rfl) ?_
          refine va_put (D := D) (ci := 0) (v := .int (zI ((q + 1 : Nat) : Int))) (ty := .int) (C := R_Dr) (T := T_Dr) (N := 7) hx hb hts (fun w h => List.mem_cons_of_mem _ (inA_Dr w h)) ty_Dr tyok_Dr nm_Dr hown hK hP hD hS 0 rfl rfl 6 (by decide) (hw k_Dr_f34) (fun _ h9 => h9) rfl (by decide +kernel) rfl rfl (Nat.le_of_ble_eq_true rfl) d_Dr_joinToRow_118 (fun H locs hP hD hS => ?_)
          have hP : va_P D vwCl [(d, .inr (0, [.ref dn, .ref df, .ref di, .ref dl, .ref dm, .int (zI ((nc : Nat) : Int)), .int (zI ((q + 1 : Nat) : Int))])), (df, .inr (3, [.ref dfw])), (dfw, .inl (c 2, 4 * 255, .inr (.inl (lfw fw iw lw q (q + 1) nc)))), (di, .inr (3, [.ref diw])), (diw, .inl (c 2, 4 * 40, .inr (.inl (zor iw q iw (q + 1))))), (dl, .inr (3, [.ref dlw])), (dlw, .inl (c 2, 4 * 40, .inr (.inl (zor (zclr lw q) q (zclr lw q) (q + 1))))), (dm, .inl (c 1, 40, .inl (fun j => zB ((va_up mb q true) j))))] H := hP
          have hD : va_D A [(d, .inr (0, [.ref dn, .ref df, .ref di, .ref dl, .ref dm, .int (zI ((nc : Nat) : Int)), .int (zI ((q + 1 : Nat) : Int))])), (df, .inr (3, [.ref dfw])), (dfw, .inl (c 2, 4 * 255, .inr (.inl (lfw fw iw lw q (q + 1) nc)))), (di, .inr (3, [.ref diw])), (diw, .inl (c 2, 4 * 40, .inr (.inl (zor iw q iw (q + 1))))), (dl, .inr (3, [.ref dlw])), (dlw, .inl (c 2, 4 * 40, .inr (.inl (zor (zclr lw q) q (zclr lw q) (q + 1))))), (dm, .inl (c 1, 40, .inl (fun j => zB ((va_up mb q true) j))))] := hD
          refine lv_iconst (v := zI 1) hx hb d_Dr_joinToRow_121 (by decide) ?_
          subst hQ
          exact W.zret (ty := .boolean) (v := (zI 1)) hx hb hr (by decide) (fun t9 ht hW => ⟨⟨_, (), rfl, ⟨(by decide), trivial⟩, by show va_P _ _ _ t9.heap; rw [ht]; rw [jrI_T hc_41, jrL0_F hc_63, show (mb q && mb (q + 1)) = true by first | (simp [*]; done) | (exfalso; rw [hc_41] at hc_98; cases hc_98; done) | (exfalso; rw [hc_63] at hc_107; cases hc_107; done)]; exact hP⟩, hS.F ht⟩) hS.2.2 d_Dr_joinToRow_122

def rm_joinToChoice : Room := { frames := 2, cells := 0, slots := 0, locals := 45 }
set_option maxHeartbeats 4000000 in
set_option maxRecDepth 100000 in
/-- Draft.joinToChoice -/
theorem c_joinToChoice (l : Launch) (D : va_G) (c : Nat → ClassId) (d : Nat) (dn : Nat) (df : Nat) (dfw : Nat) (di : Nat) (diw : Nat) (dl : Nat) (dlw : Nat) (dm : Nat) (nm : Nat → Nat) (fw : Nat → Int64) (iw : Nat → Int64) (lw : Nat → Int64) (mb : Nat → Bool) (nc : Nat) (q : Nat) (hp : q + 2 ≤ 40) : Met l y_Dr_joinToChoice w_Dr_joinToChoice rm_joinToChoice (va_Pc [.ref d] (fun U => (va_P D vwCl [(d, .inr (0, [.ref dn, .ref df, .ref di, .ref dl, .ref dm, .int (zI ((nc : Nat) : Int)), .int (zI ((q + 2 : Nat) : Int))])), (di, .inr (3, [.ref diw])), (diw, .inl (c 2, 4 * 40, .inr (.inl iw))), (dl, .inr (3, [.ref dlw])), (dlw, .inl (c 2, 4 * 40, .inr (.inl lw))), (dm, .inl (c 1, 40, .inl (fun j => zB (mb j))))] U.heap ∧ va_D (fun _ => True) [(d, .inr (0, [.ref dn, .ref df, .ref di, .ref dl, .ref dm, .int (zI ((nc : Nat) : Int)), .int (zI ((q + 2 : Nat) : Int))])), (di, .inr (3, [.ref diw])), (diw, .inl (c 2, 4 * 40, .inr (.inl iw))), (dl, .inr (3, [.ref dlw])), (dlw, .inl (c 2, 4 * 40, .inr (.inl lw))), (dm, .inl (c 1, 40, .inl (fun j => zB (mb j))))]) ∧ zK D c U)) (va_Qi (fun (r : Int32) (u : Unit) => r = (zB true) ∧ True) (fun (u : Unit) t9 => va_P D vwCl [(d, .inr (0, [.ref dn, .ref df, .ref di, .ref dl, .ref dm, .int (zI ((nc : Nat) : Int)), .int (zI ((q + 1 : Nat) : Int))])), (di, .inr (3, [.ref diw])), (diw, .inl (c 2, 4 * 40, .inr (.inl (zor iw q iw (q + 1))))), (dl, .inr (3, [.ref dlw])), (dlw, .inl (c 2, 4 * 40, .inr (.inl (zor lw q lw (q + 1))))), (dm, .inl (c 1, 40, .inl (fun j => zB ((va_up mb q (mb q || mb (q + 1))) j))))] t9.heap) (zA [(d, .inr (0, [.ref dn, .ref df, .ref di, .ref dl, .ref dm, .int (zI ((nc : Nat) : Int)), .int (zI ((q + 2 : Nat) : Int))])), (di, .inr (3, [.ref diw])), (diw, .inl (c 2, 4 * 40, .inr (.inl iw))), (dl, .inr (3, [.ref dlw])), (dlw, .inl (c 2, 4 * 40, .inr (.inl lw))), (dm, .inl (c 1, 40, .inl (fun j => zB (mb j))))])) 0 0 (zA [(d, .inr (0, [.ref dn, .ref df, .ref di, .ref dl, .ref dm, .int (zI ((nc : Nat) : Int)), .int (zI ((q + 2 : Nat) : Int))])), (di, .inr (3, [.ref diw])), (diw, .inl (c 2, 4 * 40, .inr (.inl iw))), (dl, .inr (3, [.ref dlw])), (dlw, .inl (c 2, 4 * 40, .inr (.inl lw))), (dm, .inl (c 1, 40, .inl (fun j => zB (mb j))))]) := by
  refine Met.ofW (cc := b_Dr_joinToChoice) (maxL := 3) (ret := (some .boolean)) (by decide) rfl ?_
  intro p e s m args below meth c0 s₁ B hml hv
  obtain ⟨rfl, ⟨hP, hD0⟩, hKN⟩ := hv
  have hK := hKN.1
  have hN := hKN.2
  have hx := B.exec
  have hb := B.bytes
  have hr := B.returns
  have hts := atoms_spec (ws := w_Dr_joinToChoice) B.pre
  have hw : ∀ {w : Cond}, w ∈ ALLW → w.before _ s = true := fun h => hts _ (List.mem_cons_of_mem _ h)
  have hown : s.vm.findClass R_Dr = some m.cls := findClass_of_methodNamed B.named
  have hlocks := B.notSynchronized
  have hD : va_D (zA [(d, .inr (0, [.ref dn, .ref df, .ref di, .ref dl, .ref dm, .int (zI ((nc : Nat) : Int)), .int (zI ((q + 2 : Nat) : Int))])), (di, .inr (3, [.ref diw])), (diw, .inl (c 2, 4 * 40, .inr (.inl iw))), (dl, .inr (3, [.ref dlw])), (dlw, .inl (c 2, 4 * 40, .inr (.inl lw))), (dm, .inl (c 1, 40, .inl (fun j => zB (mb j))))]) [(d, .inr (0, [.ref dn, .ref df, .ref di, .ref dl, .ref dm, .int (zI ((nc : Nat) : Int)), .int (zI ((q + 2 : Nat) : Int))])), (di, .inr (3, [.ref diw])), (diw, .inl (c 2, 4 * 40, .inr (.inl iw))), (dl, .inr (3, [.ref dlw])), (dlw, .inl (c 2, 4 * 40, .inr (.inl lw))), (dm, .inl (c 1, 40, .inl (fun j => zB (mb j))))] := ⟨hD0.1, fun k q h => List.mem_map.mpr ⟨q, List.mem_of_getElem? h, rfl⟩⟩
  generalize hAe : zA [(d, .inr (0, [.ref dn, .ref df, .ref di, .ref dl, .ref dm, .int (zI ((nc : Nat) : Int)), .int (zI ((q + 2 : Nat) : Int))])), (di, .inr (3, [.ref diw])), (diw, .inl (c 2, 4 * 40, .inr (.inl iw))), (dl, .inr (3, [.ref dlw])), (dlw, .inl (c 2, 4 * 40, .inr (.inl lw))), (dm, .inl (c 1, 40, .inl (fun j => zB (mb j))))] = A at hD ⊢
  have hS : va_S A s.heap s.heap [] := va_S.rf
  have hP : va_P D vwCl [(d, .inr (0, [.ref dn, .ref df, .ref di, .ref dl, .ref dm, .int (zI ((nc : Nat) : Int)), .int (zI ((q + 2 : Nat) : Int))])), (di, .inr (3, [.ref diw])), (diw, .inl (c 2, 4 * 40, .inr (.inl iw))), (dl, .inr (3, [.ref dlw])), (dlw, .inl (c 2, 4 * 40, .inr (.inl lw))), (dm, .inl (c 1, 40, .inl (fun j => zB (mb j))))] s.heap := hP
  have hl := lv_entry ([.ref d]) (n := 3) (Nat.le_of_ble_eq_true rfl)
  rw [lg_entry_eq]
  generalize (lg_sl ([.ref d]) ++ List.replicate (3 - (lg_sl ([.ref d])).length) Slot.unset).toArray = ls at hl ⊢
  have hl : lv_has ls 3 [(0, .ref d)] := hl
  generalize hQ : MQ below _ _ _ _ _ _ = Q
  refine lv_aload_n hx hb d_Dr_joinToChoice_0 rfl (lv_at hl 0 rfl) ?_
  refine va_get (D := D) (ci := 0) (v := .int (zI ((q + 2 : Nat) : Int))) (C := R_Dr) (T := T_Dr) (N := 7) hx hb hts (fun w h => List.mem_cons_of_mem _ (inA_Dr w h)) hown hK hP 0 rfl rfl 6 (by decide) (hw k_Dr_f34) (fun _ h9 => h9) rfl d_Dr_joinToChoice_1 ?_
  refine lv_iconst (v := zI 1) hx hb d_Dr_joinToChoice_4 (by decide) ?_
  refine z_isub hx hb d_Dr_joinToChoice_5 ?_
  refine z_top (v2 := .int (zI ((q + 1 : Nat) : Int))) (congrArg Value.int (congrArg zI (by omega))) ?_
  refine lv_istore_n (lv' := [(1, .int (zI ((q + 1 : Nat) : Int))), (0, .ref d)]) hx hb d_Dr_joinToChoice_6 rfl hl (by decide) rfl (fun ls hl => ?_)
  refine lv_iload_n hx hb d_Dr_joinToChoice_7 rfl (lv_at hl 0 rfl) ?_
  refine lv_iconst (v := zI 1) hx hb d_Dr_joinToChoice_8 (by decide) ?_
  refine z_isub hx hb d_Dr_joinToChoice_9 ?_
  refine z_top (v2 := .int (zI ((q : Nat) : Int))) (congrArg Value.int (congrArg zI (by omega))) ?_
  refine lv_istore_n (lv' := [(2, .int (zI ((q : Nat) : Int))), (1, .int (zI ((q + 1 : Nat) : Int))), (0, .ref d)]) hx hb d_Dr_joinToChoice_10 rfl hl (by decide) rfl (fun ls hl => ?_)
  refine lv_aload_n hx hb d_Dr_joinToChoice_11 rfl (lv_at hl 2 rfl) ?_
  refine lv_iload_n hx hb d_Dr_joinToChoice_12 rfl (lv_at hl 0 rfl) ?_
  have hPc : va_P D vwCl [(d, .inr (0, [.ref dn, .ref df, .ref di, .ref dl, .ref dm, .int (zI ((nc : Nat) : Int)), .int (zI (((q + 2) : Nat) : Int))])), (dm, .inl (c 1, 40, .inl (fun j => zB (mb j))))] s.heap := hP.sub (ws' := [(d, .inr (0, [.ref dn, .ref df, .ref di, .ref dl, .ref dm, .int (zI ((nc : Nat) : Int)), .int (zI (((q + 2) : Nat) : Int))])), (dm, .inl (c 1, 40, .inl (fun j => zB (mb j))))]) [0, 5] rfl
  refine vp_callSi (va_runV (rm := rm_hasPart) (As := [.int (zI ((q : Nat) : Int))]) (rest := []) ⟨hx, hb, hml, hown, hts⟩ (c_hasPart l D c d dn df dfw di diw dl dlw dm nm fw iw lw mb nc (q + 2) ((q : Nat) : Int) (by omega) (by omega)) (cwV 1 hts (gWV k_Dr_m48 k_i_Dr_hasPart k_v_Dr_hasPart k_n_Dr k_c_Dr_hasPart) rfl rfl rfl (by decide +kernel) ⟨Nat.le_of_ble_eq_true rfl, Nat.le_of_ble_eq_true rfl⟩) ⟨zblind, va_recv hK hPc (ci := 0) (q0 := 0) rfl rfl, fun U hU hW => ⟨rfl, by rw [hU]; exact hPc, hKN.moved hW⟩⟩ rfl rfl hl.1 rfl (lv_room (Nat.le_of_ble_eq_true rfl)) d_Dr_joinToChoice_13 ⟨Nat.zero_le _, Nat.zero_le _⟩).run (fun r hr_1 => ?_)
  subst hr_1
  refine z_ifeq_B (tgt := 27) hx hb d_Dr_joinToChoice_16 (by decide) (fun hc_16 => (absurd hc_16 (by rw [decide_eq_true (by omega)]; decide))) (fun hc_16 => ?_)
  refine lv_aload_n hx hb d_Dr_joinToChoice_19 rfl (lv_at hl 2 rfl) ?_
  refine lv_iload_n hx hb d_Dr_joinToChoice_20 rfl (lv_at hl 1 rfl) ?_
  have hPc : va_P D vwCl [(d, .inr (0, [.ref dn, .ref df, .ref di, .ref dl, .ref dm, .int (zI ((nc : Nat) : Int)), .int (zI (((q + 2) : Nat) : Int))])), (dm, .inl (c 1, 40, .inl (fun j => zB (mb j))))] s.heap := hP.sub (ws' := [(d, .inr (0, [.ref dn, .ref df, .ref di, .ref dl, .ref dm, .int (zI ((nc : Nat) : Int)), .int (zI (((q + 2) : Nat) : Int))])), (dm, .inl (c 1, 40, .inl (fun j => zB (mb j))))]) [0, 5] rfl
  refine vp_callSi (va_runV (rm := rm_hasPart) (As := [.int (zI ((q + 1 : Nat) : Int))]) (rest := []) ⟨hx, hb, hml, hown, hts⟩ (c_hasPart l D c d dn df dfw di diw dl dlw dm nm fw iw lw mb nc (q + 2) ((q + 1 : Nat) : Int) (by omega) (by omega)) (cwV 1 hts (gWV k_Dr_m48 k_i_Dr_hasPart k_v_Dr_hasPart k_n_Dr k_c_Dr_hasPart) rfl rfl rfl (by decide +kernel) ⟨Nat.le_of_ble_eq_true rfl, Nat.le_of_ble_eq_true rfl⟩) ⟨zblind, va_recv hK hPc (ci := 0) (q0 := 0) rfl rfl, fun U hU hW => ⟨rfl, by rw [hU]; exact hPc, hKN.moved hW⟩⟩ rfl rfl hl.1 rfl (lv_room (Nat.le_of_ble_eq_true rfl)) d_Dr_joinToChoice_21 ⟨Nat.zero_le _, Nat.zero_le _⟩).run (fun r hr_2 => ?_)
  subst hr_2
  refine z_ifne_B (tgt := 29) hx hb d_Dr_joinToChoice_24 (by decide) (fun hc_24 => ?_) (fun hc_24 => (absurd hc_24 (by rw [decide_eq_true (by omega)]; decide)))
  refine lv_aload_n hx hb d_Dr_joinToChoice_29 rfl (lv_at hl 2 rfl) ?_
  refine va_get (D := D) (ci := 0) (v := .ref di) (C := R_Dr) (T := T_Dr) (N := 7) hx hb hts (fun w h => List.mem_cons_of_mem _ (inA_Dr w h)) hown hK hP 0 rfl rfl 2 (by decide) (hw k_Dr_f24) (fun _ h9 => h9) rfl d_Dr_joinToChoice_30 ?_
  refine lv_iload_n hx hb d_Dr_joinToChoice_33 rfl (lv_at hl 0 rfl) ?_
  refine lv_aload_n hx hb d_Dr_joinToChoice_34 rfl (lv_at hl 2 rfl) ?_
  refine va_get (D := D) (ci := 0) (v := .ref di) (C := R_Dr) (T := T_Dr) (N := 7) hx hb hts (fun w h => List.mem_cons_of_mem _ (inA_Dr w h)) hown hK hP 0 rfl rfl 2 (by decide) (hw k_Dr_f24) (fun _ h9 => h9) rfl d_Dr_joinToChoice_35 ?_
  refine lv_iload_n hx hb d_Dr_joinToChoice_38 rfl (lv_at hl 1 rfl) ?_
  have hPc : va_P D vwCl [(di, .inr (3, [.ref diw])), (diw, .inl (c 2, 4 * 40, .inr (.inl iw)))] s.heap := hP.sub (ws' := [(di, .inr (3, [.ref diw])), (diw, .inl (c 2, 4 * 40, .inr (.inl iw)))]) [1, 2] rfl
  have hDc : va_D A [(di, .inr (3, [.ref diw])), (diw, .inl (c 2, 4 * 40, .inr (.inl iw)))] := hD.sub (ws' := [(di, .inr (3, [.ref diw])), (diw, .inl (c 2, 4 * 40, .inr (.inl iw)))]) [1, 2] (by decide) rfl
  have hDt : va_D (fun _ => True) [(di, .inr (3, [.ref diw])), (diw, .inl (c 2, 4 * 40, .inr (.inl iw)))] := hDc.weaken (fun _ _ _ _ => trivial)
  refine z_callv (S := Unit) (w1 := fun u => [(di, .inr (3, [.ref diw])), (diw, .inl (c 2, 4 * 40, .inr (.inl (zor iw q iw (q + 1)))))]) (post := fun u => True) (wc := [(di, .inr (3, [.ref diw])), (diw, .inl (c 2, 4 * 40, .inr (.inl iw)))]) [1, 2] rfl (fun _ => rfl) hP hD hS (va_runV (rm := rm_addSelf) (As := [.int (zI ((q : Nat) : Int)), .ref di, .int (zI ((q + 1 : Nat) : Int))]) (rest := []) ⟨hx, hb, hml, hown, hts⟩ (c_addSelf l D c di diw 40 iw q (q + 1) (by omega) (by omega) (by omega)) (cwV 3 hts (gWV k_Dr_m55 k_i_Se_addAll k_v_Se_addAll k_n_Se k_c_Se_addAll) rfl rfl rfl (by decide +kernel) ⟨Nat.le_of_ble_eq_true rfl, Nat.le_of_ble_eq_true rfl⟩) ⟨zblindW, va_recv hK hPc (ci := 3) (q0 := 0) rfl rfl, fun U hU hW => ⟨rfl, ⟨by rw [hU]; exact hPc, hDt⟩, hKN.moved hW⟩⟩ rfl rfl hl.1 rfl (lv_room (Nat.le_of_ble_eq_true rfl)) d_Dr_joinToChoice_39 ⟨Nat.zero_le _, Nat.zero_le _⟩) (fun u H locs hp_3 hP hD hS => ?_)
  have hP : va_P D vwCl [(d, .inr (0, [.ref dn, .ref df, .ref di, .ref dl, .ref dm, .int (zI ((nc : Nat) : Int)), .int (zI ((q + 2 : Nat) : Int))])), (di, .inr (3, [.ref diw])), (diw, .inl (c 2, 4 * 40, .inr (.inl (zor iw q iw (q + 1))))), (dl, .inr (3, [.ref dlw])), (dlw, .inl (c 2, 4 * 40, .inr (.inl lw))), (dm, .inl (c 1, 40, .inl (fun j => zB (mb j))))] H := hP
  have hD : va_D A [(d, .inr (0, [.ref dn, .ref df, .ref di, .ref dl, .ref dm, .int (zI ((nc : Nat) : Int)), .int (zI ((q + 2 : Nat) : Int))])), (di, .inr (3, [.ref diw])), (diw, .inl (c 2, 4 * 40, .inr (.inl (zor iw q iw (q + 1))))), (dl, .inr (3, [.ref dlw])), (dlw, .inl (c 2, 4 * 40, .inr (.inl lw))), (dm, .inl (c 1, 40, .inl (fun j => zB (mb j))))] := hD
  refine lv_aload_n hx hb d_Dr_joinToChoice_42 rfl (lv_at hl 2 rfl) ?_
  refine va_get (D := D) (ci := 0) (v := .ref dl) (C := R_Dr) (T := T_Dr) (N := 7) hx hb hts (fun w h => List.mem_cons_of_mem _ (inA_Dr w h)) hown hK hP 0 rfl rfl 3 (by decide) (hw k_Dr_f27) (fun _ h9 => h9) rfl d_Dr_joinToChoice_43 ?_
  refine lv_iload_n hx hb d_Dr_joinToChoice_46 rfl (lv_at hl 0 rfl) ?_
  refine lv_aload_n hx hb d_Dr_joinToChoice_47 rfl (lv_at hl 2 rfl) ?_
  refine va_get (D := D) (ci := 0) (v := .ref dl) (C := R_Dr) (T := T_Dr) (N := 7) hx hb hts (fun w h => List.mem_cons_of_mem _ (inA_Dr w h)) hown hK hP 0 rfl rfl 3 (by decide) (hw k_Dr_f27) (fun _ h9 => h9) rfl d_Dr_joinToChoice_48 ?_
  refine lv_iload_n hx hb d_Dr_joinToChoice_51 rfl (lv_at hl 1 rfl) ?_
  have hPc : va_P D vwCl [(dl, .inr (3, [.ref dlw])), (dlw, .inl (c 2, 4 * 40, .inr (.inl lw)))] H := hP.sub (ws' := [(dl, .inr (3, [.ref dlw])), (dlw, .inl (c 2, 4 * 40, .inr (.inl lw)))]) [3, 4] rfl
  have hDc : va_D A [(dl, .inr (3, [.ref dlw])), (dlw, .inl (c 2, 4 * 40, .inr (.inl lw)))] := hD.sub (ws' := [(dl, .inr (3, [.ref dlw])), (dlw, .inl (c 2, 4 * 40, .inr (.inl lw)))]) [3, 4] (by decide) rfl
  have hDt : va_D (fun _ => True) [(dl, .inr (3, [.ref dlw])), (dlw, .inl (c 2, 4 * 40, .inr (.inl lw)))] := hDc.weaken (fun _ _ _ _ => trivial)
  refine z_callv (S := Unit) (w1 := fun u => [(dl, .inr (3, [.ref dlw])), (dlw, .inl (c 2, 4 * 40, .inr (.inl (zor lw q lw (q + 1)))))]) (post := fun u => True) (wc := [(dl, .inr (3, [.ref dlw])), (dlw, .inl (c 2, 4 * 40, .inr (.inl lw)))]) [3, 4] rfl (fun _ => rfl) hP hD hS (va_runV (rm := rm_addSelf) (As := [.int (zI ((q : Nat) : Int)), .ref dl, .int (zI ((q + 1 : Nat) : Int))]) (rest := []) ⟨hx, hb, hml, hown, hts⟩ (c_addSelf l D c dl dlw 40 lw q (q + 1) (by omega) (by omega) (by omega)) (cwV 3 hts (gWV k_Dr_m55 k_i_Se_addAll k_v_Se_addAll k_n_Se k_c_Se_addAll) rfl rfl rfl (by decide +kernel) ⟨Nat.le_of_ble_eq_true rfl, Nat.le_of_ble_eq_true rfl⟩) ⟨zblindW, va_recv hK hPc (ci := 3) (q0 := 0) rfl rfl, fun U hU hW => ⟨rfl, ⟨by rw [hU]; exact hPc, hDt⟩, hKN.moved hW⟩⟩ rfl rfl hl.1 rfl (lv_room (Nat.le_of_ble_eq_true rfl)) d_Dr_joinToChoice_52 ⟨Nat.zero_le _, Nat.zero_le _⟩) (fun u H locs hp_4 hP hD hS => ?_)
  have hP : va_P D vwCl [(d, .inr (0, [.ref dn, .ref df, .ref di, .ref dl, .ref dm, .int (zI ((nc : Nat) : Int)), .int (zI ((q + 2 : Nat) : Int))])), (di, .inr (3, [.ref diw])), (diw, .inl (c 2, 4 * 40, .inr (.inl (zor iw q iw (q + 1))))), (dl, .inr (3, [.ref dlw])), (dlw, .inl (c 2, 4 * 40, .inr (.inl (zor lw q lw (q + 1))))), (dm, .inl (c 1, 40, .inl (fun j => zB (mb j))))] H := hP
  have hD : va_D A [(d, .inr (0, [.ref dn, .ref df, .ref di, .ref dl, .ref dm, .int (zI ((nc : Nat) : Int)), .int (zI ((q + 2 : Nat) : Int))])), (di, .inr (3, [.ref diw])), (diw, .inl (c 2, 4 * 40, .inr (.inl (zor iw q iw (q + 1))))), (dl, .inr (3, [.ref dlw])), (dlw, .inl (c 2, 4 * 40, .inr (.inl (zor lw q lw (q + 1))))), (dm, .inl (c 1, 40, .inl (fun j => zB (mb j))))] := hD
  refine lv_aload_n hx hb d_Dr_joinToChoice_55 rfl (lv_at hl 2 rfl) ?_
  refine va_get (D := D) (ci := 0) (v := .ref dm) (C := R_Dr) (T := T_Dr) (N := 7) hx hb hts (fun w h => List.mem_cons_of_mem _ (inA_Dr w h)) hown hK hP 0 rfl rfl 4 (by decide) (hw k_Dr_f30) (fun _ h9 => h9) rfl d_Dr_joinToChoice_56 ?_
  refine lv_iload_n hx hb d_Dr_joinToChoice_59 rfl (lv_at hl 0 rfl) ?_
  refine lv_aload_n hx hb d_Dr_joinToChoice_60 rfl (lv_at hl 2 rfl) ?_
  refine va_get (D := D) (ci := 0) (v := .ref dm) (C := R_Dr) (T := T_Dr) (N := 7) hx hb hts (fun w h => List.mem_cons_of_mem _ (inA_Dr w h)) hown hK hP 0 rfl rfl 4 (by decide) (hw k_Dr_f30) (fun _ h9 => h9) rfl d_Dr_joinToChoice_61 ?_
  refine lv_iload_n hx hb d_Dr_joinToChoice_64 rfl (lv_at hl 0 rfl) ?_
  refine z_zald hx hb hK hP 5 1 rfl rfl (q) (by omega) (by omega) (by omega) d_Dr_joinToChoice_65 ?_
  refine z_ifne_B (tgt := 78) hx hb d_Dr_joinToChoice_66 (by decide) (fun hc_66 => ?_) (fun hc_66 => ?_)
  · refine lv_iconst (v := zI 1) hx hb d_Dr_joinToChoice_78 (by decide) ?_
    refine lv_goto (tgt := 83) hx hb d_Dr_joinToChoice_79 (by decide) ?_
    refine z_top (v2 := .int (zB true)) (congrArg Value.int (by decide)) ?_
    refine z_zast hx hb hK hP hD hS 5 1 rfl rfl (q) (by omega) (by omega) (by omega) d_Dr_joinToChoice_83 (fun H locs hP hD hS => ?_)
    have hP : va_P D vwCl [(d, .inr (0, [.ref dn, .ref df, .ref di, .ref dl, .ref dm, .int (zI ((nc : Nat) : Int)), .int (zI ((q + 2 : Nat) : Int))])), (di, .inr (3, [.ref diw])), (diw, .inl (c 2, 4 * 40, .inr (.inl (zor iw q iw (q + 1))))), (dl, .inr (3, [.ref dlw])), (dlw, .inl (c 2, 4 * 40, .inr (.inl (zor lw q lw (q + 1))))), (dm, .inl (c 1, 40, .inl (fun j => zB ((va_up mb q true) j))))] H := hP
    have hD : va_D A [(d, .inr (0, [.ref dn, .ref df, .ref di, .ref dl, .ref dm, .int (zI ((nc : Nat) : Int)), .int (zI ((q + 2 : Nat) : Int))])), (di, .inr (3, [.ref diw])), (diw, .inl (c 2, 4 * 40, .inr (.inl (zor iw q iw (q + 1))))), (dl, .inr (3, [.ref dlw])), (dlw, .inl (c 2, 4 * 40, .inr (.inl (zor lw q lw (q + 1))))), (dm, .inl (c 1, 40, .inl (fun j => zB ((va_up mb q true) j))))] := hD
    refine lv_aload_n hx hb d_Dr_joinToChoice_84 rfl (lv_at hl 2 rfl) ?_
    refine lv_iload_n hx hb d_Dr_joinToChoice_85 rfl (lv_at hl 1 rfl) ?_
    refine va_put (D := D) (ci := 0) (v := .int (zI ((q + 1 : Nat) : Int))) (ty := .int) (C := R_Dr) (T := T_Dr) (N := 7) hx hb hts (fun w h => List.mem_cons_of_mem _ (inA_Dr w h)) ty_Dr tyok_Dr nm_Dr hown hK hP hD hS 0 rfl rfl 6 (by decide) (hw k_Dr_f34) (fun _ h9 => h9) rfl (by decide +kernel) rfl rfl (Nat.le_of_ble_eq_true rfl) d_Dr_joinToChoice_86 (fun H locs hP hD hS => ?_)
    have hP : va_P D vwCl [(d, .inr (0, [.ref dn, .ref df, .ref di, .ref dl, .ref dm, .int (zI ((nc : Nat) : Int)), .int (zI ((q + 1 : Nat) : Int))])), (di, .inr (3, [.ref diw])), (diw, .inl (c 2, 4 * 40, .inr (.inl (zor iw q iw (q + 1))))), (dl, .inr (3, [.ref dlw])), (dlw, .inl (c 2, 4 * 40, .inr (.inl (zor lw q lw (q + 1))))), (dm, .inl (c 1, 40, .inl (fun j => zB ((va_up mb q true) j))))] H := hP
    have hD : va_D A [(d, .inr (0, [.ref dn, .ref df, .ref di, .ref dl, .ref dm, .int (zI ((nc : Nat) : Int)), .int (zI ((q + 1 : Nat) : Int))])), (di, .inr (3, [.ref diw])), (diw, .inl (c 2, 4 * 40, .inr (.inl (zor iw q iw (q + 1))))), (dl, .inr (3, [.ref dlw])), (dlw, .inl (c 2, 4 * 40, .inr (.inl (zor lw q lw (q + 1))))), (dm, .inl (c 1, 40, .inl (fun j => zB ((va_up mb q true) j))))] := hD
    refine lv_iconst (v := zI 1) hx hb d_Dr_joinToChoice_89 (by decide) ?_
    subst hQ
    exact W.zret (ty := .boolean) (v := (zI 1)) hx hb hr (by decide) (fun t9 ht hW => ⟨⟨_, (), rfl, ⟨(by decide), trivial⟩, by show va_P _ _ _ t9.heap; rw [ht]; rw [show (mb q || mb (q + 1)) = true by simp [*]]; exact hP⟩, hS.F ht⟩) hS.2.2 d_Dr_joinToChoice_90
  · refine lv_aload_n hx hb d_Dr_joinToChoice_69 rfl (lv_at hl 2 rfl) ?_
    refine va_get (D := D) (ci := 0) (v := .ref dm) (C := R_Dr) (T := T_Dr) (N := 7) hx hb hts (fun w h => List.mem_cons_of_mem _ (inA_Dr w h)) hown hK hP 0 rfl rfl 4 (by decide) (hw k_Dr_f30) (fun _ h9 => h9) rfl d_Dr_joinToChoice_70 ?_
    refine lv_iload_n hx hb d_Dr_joinToChoice_73 rfl (lv_at hl 1 rfl) ?_
    refine z_zald hx hb hK hP 5 1 rfl rfl (q + 1) (by omega) (by omega) (by omega) d_Dr_joinToChoice_74 ?_
    refine z_ifeq_B (tgt := 82) hx hb d_Dr_joinToChoice_75 (by decide) (fun hc_75 => ?_) (fun hc_75 => ?_)
    · refine lv_iconst (v := zI 0) hx hb d_Dr_joinToChoice_82 (by decide) ?_
      refine z_top (v2 := .int (zB false)) (congrArg Value.int (by decide)) ?_
      refine z_zast hx hb hK hP hD hS 5 1 rfl rfl (q) (by omega) (by omega) (by omega) d_Dr_joinToChoice_83 (fun H locs hP hD hS => ?_)
      have hP : va_P D vwCl [(d, .inr (0, [.ref dn, .ref df, .ref di, .ref dl, .ref dm, .int (zI ((nc : Nat) : Int)), .int (zI ((q + 2 : Nat) : Int))])), (di, .inr (3, [.ref diw])), (diw, .inl (c 2, 4 * 40, .inr (.inl (zor iw q iw (q + 1))))), (dl, .inr (3, [.ref dlw])), (dlw, .inl (c 2, 4 * 40, .inr (.inl (zor lw q lw (q + 1))))), (dm, .inl (c 1, 40, .inl (fun j => zB ((va_up mb q false) j))))] H := hP
      have hD : va_D A [(d, .inr (0, [.ref dn, .ref df, .ref di, .ref dl, .ref dm, .int (zI ((nc : Nat) : Int)), .int (zI ((q + 2 : Nat) : Int))])), (di, .inr (3, [.ref diw])), (diw, .inl (c 2, 4 * 40, .inr (.inl (zor iw q iw (q + 1))))), (dl, .inr (3, [.ref dlw])), (dlw, .inl (c 2, 4 * 40, .inr (.inl (zor lw q lw (q + 1))))), (dm, .inl (c 1, 40, .inl (fun j => zB ((va_up mb q false) j))))] := hD
      refine lv_aload_n hx hb d_Dr_joinToChoice_84 rfl (lv_at hl 2 rfl) ?_
      refine lv_iload_n hx hb d_Dr_joinToChoice_85 rfl (lv_at hl 1 rfl) ?_
      refine va_put (D := D) (ci := 0) (v := .int (zI ((q + 1 : Nat) : Int))) (ty := .int) (C := R_Dr) (T := T_Dr) (N := 7) hx hb hts (fun w h => List.mem_cons_of_mem _ (inA_Dr w h)) ty_Dr tyok_Dr nm_Dr hown hK hP hD hS 0 rfl rfl 6 (by decide) (hw k_Dr_f34) (fun _ h9 => h9) rfl (by decide +kernel) rfl rfl (Nat.le_of_ble_eq_true rfl) d_Dr_joinToChoice_86 (fun H locs hP hD hS => ?_)
      have hP : va_P D vwCl [(d, .inr (0, [.ref dn, .ref df, .ref di, .ref dl, .ref dm, .int (zI ((nc : Nat) : Int)), .int (zI ((q + 1 : Nat) : Int))])), (di, .inr (3, [.ref diw])), (diw, .inl (c 2, 4 * 40, .inr (.inl (zor iw q iw (q + 1))))), (dl, .inr (3, [.ref dlw])), (dlw, .inl (c 2, 4 * 40, .inr (.inl (zor lw q lw (q + 1))))), (dm, .inl (c 1, 40, .inl (fun j => zB ((va_up mb q false) j))))] H := hP
      have hD : va_D A [(d, .inr (0, [.ref dn, .ref df, .ref di, .ref dl, .ref dm, .int (zI ((nc : Nat) : Int)), .int (zI ((q + 1 : Nat) : Int))])), (di, .inr (3, [.ref diw])), (diw, .inl (c 2, 4 * 40, .inr (.inl (zor iw q iw (q + 1))))), (dl, .inr (3, [.ref dlw])), (dlw, .inl (c 2, 4 * 40, .inr (.inl (zor lw q lw (q + 1))))), (dm, .inl (c 1, 40, .inl (fun j => zB ((va_up mb q false) j))))] := hD
      refine lv_iconst (v := zI 1) hx hb d_Dr_joinToChoice_89 (by decide) ?_
      subst hQ
      exact W.zret (ty := .boolean) (v := (zI 1)) hx hb hr (by decide) (fun t9 ht hW => ⟨⟨_, (), rfl, ⟨(by decide), trivial⟩, by show va_P _ _ _ t9.heap; rw [ht]; rw [show (mb q || mb (q + 1)) = false by simp [*]]; exact hP⟩, hS.F ht⟩) hS.2.2 d_Dr_joinToChoice_90
    · refine lv_iconst (v := zI 1) hx hb d_Dr_joinToChoice_78 (by decide) ?_
      refine lv_goto (tgt := 83) hx hb d_Dr_joinToChoice_79 (by decide) ?_
      refine z_top (v2 := .int (zB true)) (congrArg Value.int (by decide)) ?_
      refine z_zast hx hb hK hP hD hS 5 1 rfl rfl (q) (by omega) (by omega) (by omega) d_Dr_joinToChoice_83 (fun H locs hP hD hS => ?_)
      have hP : va_P D vwCl [(d, .inr (0, [.ref dn, .ref df, .ref di, .ref dl, .ref dm, .int (zI ((nc : Nat) : Int)), .int (zI ((q + 2 : Nat) : Int))])), (di, .inr (3, [.ref diw])), (diw, .inl (c 2, 4 * 40, .inr (.inl (zor iw q iw (q + 1))))), (dl, .inr (3, [.ref dlw])), (dlw, .inl (c 2, 4 * 40, .inr (.inl (zor lw q lw (q + 1))))), (dm, .inl (c 1, 40, .inl (fun j => zB ((va_up mb q true) j))))] H := hP
      have hD : va_D A [(d, .inr (0, [.ref dn, .ref df, .ref di, .ref dl, .ref dm, .int (zI ((nc : Nat) : Int)), .int (zI ((q + 2 : Nat) : Int))])), (di, .inr (3, [.ref diw])), (diw, .inl (c 2, 4 * 40, .inr (.inl (zor iw q iw (q + 1))))), (dl, .inr (3, [.ref dlw])), (dlw, .inl (c 2, 4 * 40, .inr (.inl (zor lw q lw (q + 1))))), (dm, .inl (c 1, 40, .inl (fun j => zB ((va_up mb q true) j))))] := hD
      refine lv_aload_n hx hb d_Dr_joinToChoice_84 rfl (lv_at hl 2 rfl) ?_
      refine lv_iload_n hx hb d_Dr_joinToChoice_85 rfl (lv_at hl 1 rfl) ?_
      refine va_put (D := D) (ci := 0) (v := .int (zI ((q + 1 : Nat) : Int))) (ty := .int) (C := R_Dr) (T := T_Dr) (N := 7) hx hb hts (fun w h => List.mem_cons_of_mem _ (inA_Dr w h)) ty_Dr tyok_Dr nm_Dr hown hK hP hD hS 0 rfl rfl 6 (by decide) (hw k_Dr_f34) (fun _ h9 => h9) rfl (by decide +kernel) rfl rfl (Nat.le_of_ble_eq_true rfl) d_Dr_joinToChoice_86 (fun H locs hP hD hS => ?_)
      have hP : va_P D vwCl [(d, .inr (0, [.ref dn, .ref df, .ref di, .ref dl, .ref dm, .int (zI ((nc : Nat) : Int)), .int (zI ((q + 1 : Nat) : Int))])), (di, .inr (3, [.ref diw])), (diw, .inl (c 2, 4 * 40, .inr (.inl (zor iw q iw (q + 1))))), (dl, .inr (3, [.ref dlw])), (dlw, .inl (c 2, 4 * 40, .inr (.inl (zor lw q lw (q + 1))))), (dm, .inl (c 1, 40, .inl (fun j => zB ((va_up mb q true) j))))] H := hP
      have hD : va_D A [(d, .inr (0, [.ref dn, .ref df, .ref di, .ref dl, .ref dm, .int (zI ((nc : Nat) : Int)), .int (zI ((q + 1 : Nat) : Int))])), (di, .inr (3, [.ref diw])), (diw, .inl (c 2, 4 * 40, .inr (.inl (zor iw q iw (q + 1))))), (dl, .inr (3, [.ref dlw])), (dlw, .inl (c 2, 4 * 40, .inr (.inl (zor lw q lw (q + 1))))), (dm, .inl (c 1, 40, .inl (fun j => zB ((va_up mb q true) j))))] := hD
      refine lv_iconst (v := zI 1) hx hb d_Dr_joinToChoice_89 (by decide) ?_
      subst hQ
      exact W.zret (ty := .boolean) (v := (zI 1)) hx hb hr (by decide) (fun t9 ht hW => ⟨⟨_, (), rfl, ⟨(by decide), trivial⟩, by show va_P _ _ _ t9.heap; rw [ht]; rw [show (mb q || mb (q + 1)) = true by simp [*]]; exact hP⟩, hS.F ht⟩) hS.2.2 d_Dr_joinToChoice_90

def rm_repeatLast_no : Room := { frames := 1, cells := 0, slots := 0, locals := 21 }
set_option maxHeartbeats 4000000 in
set_option maxRecDepth 100000 in
/-- Draft.repeatLast, refused -/
theorem c_repeatLast_no (l : Launch) (D : va_G) (c : Nat → ClassId) (d : Nat) (dn : Nat) (df : Nat) (dfw : Nat) (di : Nat) (diw : Nat) (dl : Nat) (dlw : Nat) (dm : Nat) (nm : Nat → Nat) (fw : Nat → Int64) (iw : Nat → Int64) (lw : Nat → Int64) (mb : Nat → Bool) (nc : Nat) (pp : Nat) (x : Int) (hp : pp ≤ 40) (hx_ : -2147483648 ≤ x ∧ x < 2147483648) (hno : pp = 0 ∨ x < 1 ∨ 3 < x) : Met l y_Dr_repeatLast w_Dr_repeatLast rm_repeatLast_no (va_Pc [.ref d, .int (zI x)] (fun U => va_P D vwCl [(d, .inr (0, [.ref dn, .ref df, .ref di, .ref dl, .ref dm, .int (zI ((nc : Nat) : Int)), .int (zI ((pp : Nat) : Int))])), (dm, .inl (c 1, 40, .inl (fun j => zB (mb j))))] U.heap ∧ zK D c U)) (vp_Si (fun r => r = (zB false))) 0 0 (fun _ => False) := by
  refine Met.ofW (cc := b_Dr_repeatLast) (maxL := 3) (ret := (some .boolean)) (by decide) rfl ?_
  intro p e s m args below meth c0 s₁ B hml hv
  obtain ⟨rfl, hP, hKN⟩ := hv
  have hK := hKN.1
  have hN := hKN.2
  have hx := B.exec
  have hb := B.bytes
  have hr := B.returns
  have hts := atoms_spec (ws := w_Dr_repeatLast) B.pre
  have hw : ∀ {w : Cond}, w ∈ ALLW → w.before _ s = true := fun h => hts _ (List.mem_cons_of_mem _ h)
  have hown : s.vm.findClass R_Dr = some m.cls := findClass_of_methodNamed B.named
  have hlocks := B.notSynchronized
  have hl := lv_entry ([.ref d, .int (zI x)]) (n := 3) (Nat.le_of_ble_eq_true rfl)
  rw [lg_entry_eq]
  generalize (lg_sl ([.ref d, .int (zI x)]) ++ List.replicate (3 - (lg_sl ([.ref d, .int (zI x)])).length) Slot.unset).toArray = ls at hl ⊢
  have hl : lv_has ls 3 [(0, .ref d), (1, .int (zI x))] := hl
  generalize hQ : MQ below _ _ _ _ _ _ = Q
  refine lv_aload_n hx hb d_Dr_repeatLast_0 rfl (lv_at hl 0 rfl) ?_
  refine va_get (D := D) (ci := 0) (v := .int (zI ((pp : Nat) : Int))) (C := R_Dr) (T := T_Dr) (N := 7) hx hb hts (fun w h => List.mem_cons_of_mem _ (inA_Dr w h)) hown hK hP 0 rfl rfl 6 (by decide) (hw k_Dr_f34) (fun _ h9 => h9) rfl d_Dr_repeatLast_1 ?_
  refine lv_iconst (v := zI 1) hx hb d_Dr_repeatLast_4 (by decide) ?_
  refine z_isub hx hb d_Dr_repeatLast_5 ?_
  refine lv_istore_n (lv' := [(2, .int (zI (((pp : Nat) : Int) - 1))), (0, .ref d), (1, .int (zI x))]) hx hb d_Dr_repeatLast_6 rfl hl (by decide) rfl (fun ls hl => ?_)
  refine lv_aload_n hx hb d_Dr_repeatLast_7 rfl (lv_at hl 1 rfl) ?_
  refine lv_iload_n hx hb d_Dr_repeatLast_8 rfl (lv_at hl 0 rfl) ?_
  have hPc : va_P D vwCl [(d, .inr (0, [.ref dn, .ref df, .ref di, .ref dl, .ref dm, .int (zI ((nc : Nat) : Int)), .int (zI ((pp : Nat) : Int))])), (dm, .inl (c 1, 40, .inl (fun j => zB (mb j))))] s.heap := hP.sub (ws' := [(d, .inr (0, [.ref dn, .ref df, .ref di, .ref dl, .ref dm, .int (zI ((nc : Nat) : Int)), .int (zI ((pp : Nat) : Int))])), (dm, .inl (c 1, 40, .inl (fun j => zB (mb j))))]) [0, 1] rfl
  refine vp_callSi (va_runV (rm := rm_hasPart) (As := [.int (zI (((pp : Nat) : Int) - 1))]) (rest := []) ⟨hx, hb, hml, hown, hts⟩ (c_hasPart l D c d dn df dfw di diw dl dlw dm nm fw iw lw mb nc pp (((pp : Nat) : Int) - 1) (by omega) (by omega)) (cwV 1 hts (gWV k_Dr_m48 k_i_Dr_hasPart k_v_Dr_hasPart k_n_Dr k_c_Dr_hasPart) rfl rfl rfl (by decide +kernel) ⟨Nat.le_of_ble_eq_true rfl, Nat.le_of_ble_eq_true rfl⟩) ⟨zblind, va_recv hK hPc (ci := 0) (q0 := 0) rfl rfl, fun U hU hW => ⟨rfl, by rw [hU]; exact hPc, hKN.moved hW⟩⟩ rfl rfl hl.1 rfl (lv_room (Nat.le_of_ble_eq_true rfl)) d_Dr_repeatLast_9 ⟨Nat.zero_le _, Nat.zero_le _⟩).run (fun r hr_1 => ?_)
  subst hr_1
  refine z_ifeq_B (tgt := 25) hx hb d_Dr_repeatLast_12 (by decide) (fun hc_12 => ?_) (fun hc_12 => ?_)
  · refine lv_iconst (v := zI 0) hx hb d_Dr_repeatLast_25 (by decide) ?_
    subst hQ
    exact W.zret (ty := .boolean) (v := (zI 0)) hx hb hr (by decide) (fun t9 ht hW => ⟨_, rfl, (by decide), ht⟩) (fun q hq => absurd hq List.not_mem_nil) d_Dr_repeatLast_26
  · have hpos : 0 ≤ ((pp : Nat) : Int) - 1 := (of_decide_eq_true hc_12).1
    refine lv_iload_n hx hb d_Dr_repeatLast_15 rfl (lv_at hl 2 rfl) ?_
    refine lv_iconst (v := zI 1) hx hb d_Dr_repeatLast_16 (by decide) ?_
    refine z_icmp_lt (tgt := 25) hx hb (by omega) d_Dr_repeatLast_17 (by decide) (fun hc_17 => ?_) (fun hc_17 => ?_)
    · refine lv_iconst (v := zI 0) hx hb d_Dr_repeatLast_25 (by decide) ?_
      subst hQ
      exact W.zret (ty := .boolean) (v := (zI 0)) hx hb hr (by decide) (fun t9 ht hW => ⟨_, rfl, (by decide), ht⟩) (fun q hq => absurd hq List.not_mem_nil) d_Dr_repeatLast_26
    · refine lv_iload_n hx hb d_Dr_repeatLast_20 rfl (lv_at hl 2 rfl) ?_
      refine lv_iconst (v := zI 3) hx hb d_Dr_repeatLast_21 (by decide) ?_
      refine z_icmp_le (tgt := 27) hx hb (by omega) d_Dr_repeatLast_22 (by decide) (fun hc_22 => absurd hc_22 (by omega)) (fun hc_22 => ?_)
      refine lv_iconst (v := zI 0) hx hb d_Dr_repeatLast_25 (by decide) ?_
      subst hQ
      exact W.zret (ty := .boolean) (v := (zI 0)) hx hb hr (by decide) (fun t9 ht hW => ⟨_, rfl, (by decide), ht⟩) (fun q hq => absurd hq List.not_mem_nil) d_Dr_repeatLast_26

def rm_repeatLast1 : Room := { frames := 1, cells := 0, slots := 0, locals := 21 }
set_option maxHeartbeats 4000000 in
set_option maxRecDepth 100000 in
/-- Draft.repeatLast(1) -/
theorem c_repeatLast1 (l : Launch) (D : va_G) (c : Nat → ClassId) (d : Nat) (dn : Nat) (df : Nat) (dfw : Nat) (di : Nat) (diw : Nat) (dl : Nat) (dlw : Nat) (dm : Nat) (nm : Nat → Nat) (fw : Nat → Int64) (iw : Nat → Int64) (lw : Nat → Int64) (mb : Nat → Bool) (nc : Nat) (q : Nat) (hp : q + 1 ≤ 40) (hc : nc ≤ 255) : Met l y_Dr_repeatLast w_Dr_repeatLast rm_repeatLast1 (va_Pc [.ref d, .int (zI 1)] (fun U => (va_P D vwCl [(d, .inr (0, [.ref dn, .ref df, .ref di, .ref dl, .ref dm, .int (zI ((nc : Nat) : Int)), .int (zI ((q + 1 : Nat) : Int))])), (df, .inr (3, [.ref dfw])), (dfw, .inl (c 2, 4 * 255, .inr (.inl fw))), (di, .inr (3, [.ref diw])), (diw, .inl (c 2, 4 * 40, .inr (.inl iw))), (dl, .inr (3, [.ref dlw])), (dlw, .inl (c 2, 4 * 40, .inr (.inl lw))), (dm, .inl (c 1, 40, .inl (fun j => zB (mb j))))] U.heap ∧ va_D (fun _ => True) [(d, .inr (0, [.ref dn, .ref df, .ref di, .ref dl, .ref dm, .int (zI ((nc : Nat) : Int)), .int (zI ((q + 1 : Nat) : Int))])), (df, .inr (3, [.ref dfw])), (dfw, .inl (c 2, 4 * 255, .inr (.inl fw))), (di, .inr (3, [.ref diw])), (diw, .inl (c 2, 4 * 40, .inr (.inl iw))), (dl, .inr (3, [.ref dlw])), (dlw, .inl (c 2, 4 * 40, .inr (.inl lw))), (dm, .inl (c 1, 40, .inl (fun j => zB (mb j))))]) ∧ zK D c U)) (va_Qi (fun (r : Int32) (u : Unit) => r = (zB true) ∧ True) (fun (u : Unit) t9 => va_P D vwCl [(d, .inr (0, [.ref dn, .ref df, .ref di, .ref dl, .ref dm, .int (zI ((nc : Nat) : Int)), .int (zI ((q + 1 : Nat) : Int))])), (df, .inr (3, [.ref dfw])), (dfw, .inl (c 2, 4 * 255, .inr (.inl fw))), (di, .inr (3, [.ref diw])), (diw, .inl (c 2, 4 * 40, .inr (.inl iw))), (dl, .inr (3, [.ref dlw])), (dlw, .inl (c 2, 4 * 40, .inr (.inl lw))), (dm, .inl (c 1, 40, .inl (fun j => zB ((va_up mb q true) j))))] t9.heap) (zA [(d, .inr (0, [.ref dn, .ref df, .ref di, .ref dl, .ref dm, .int (zI ((nc : Nat) : Int)), .int (zI ((q + 1 : Nat) : Int))])), (df, .inr (3, [.ref dfw])), (dfw, .inl (c 2, 4 * 255, .inr (.inl fw))), (di, .inr (3, [.ref diw])), (diw, .inl (c 2, 4 * 40, .inr (.inl iw))), (dl, .inr (3, [.ref dlw])), (dlw, .inl (c 2, 4 * 40, .inr (.inl lw))), (dm, .inl (c 1, 40, .inl (fun j => zB (mb j))))])) 0 0 (zA [(d, .inr (0, [.ref dn, .ref df, .ref di, .ref dl, .ref dm, .int (zI ((nc : Nat) : Int)), .int (zI ((q + 1 : Nat) : Int))])), (df, .inr (3, [.ref dfw])), (dfw, .inl (c 2, 4 * 255, .inr (.inl fw))), (di, .inr (3, [.ref diw])), (diw, .inl (c 2, 4 * 40, .inr (.inl iw))), (dl, .inr (3, [.ref dlw])), (dlw, .inl (c 2, 4 * 40, .inr (.inl lw))), (dm, .inl (c 1, 40, .inl (fun j => zB (mb j))))]) := by
  refine Met.ofW (cc := b_Dr_repeatLast) (maxL := 3) (ret := (some .boolean)) (by decide) rfl ?_
  intro p e s m args below meth c0 s₁ B hml hv
  obtain ⟨rfl, ⟨hP, hD0⟩, hKN⟩ := hv
  have hK := hKN.1
  have hN := hKN.2
  have hx := B.exec
  have hb := B.bytes
  have hr := B.returns
  have hts := atoms_spec (ws := w_Dr_repeatLast) B.pre
  have hw : ∀ {w : Cond}, w ∈ ALLW → w.before _ s = true := fun h => hts _ (List.mem_cons_of_mem _ h)
  have hown : s.vm.findClass R_Dr = some m.cls := findClass_of_methodNamed B.named
  have hlocks := B.notSynchronized
  have hD : va_D (zA [(d, .inr (0, [.ref dn, .ref df, .ref di, .ref dl, .ref dm, .int (zI ((nc : Nat) : Int)), .int (zI ((q + 1 : Nat) : Int))])), (df, .inr (3, [.ref dfw])), (dfw, .inl (c 2, 4 * 255, .inr (.inl fw))), (di, .inr (3, [.ref diw])), (diw, .inl (c 2, 4 * 40, .inr (.inl iw))), (dl, .inr (3, [.ref dlw])), (dlw, .inl (c 2, 4 * 40, .inr (.inl lw))), (dm, .inl (c 1, 40, .inl (fun j => zB (mb j))))]) [(d, .inr (0, [.ref dn, .ref df, .ref di, .ref dl, .ref dm, .int (zI ((nc : Nat) : Int)), .int (zI ((q + 1 : Nat) : Int))])), (df, .inr (3, [.ref dfw])), (dfw, .inl (c 2, 4 * 255, .inr (.inl fw))), (di, .inr (3, [.ref diw])), (diw, .inl (c 2, 4 * 40, .inr (.inl iw))), (dl, .inr (3, [.ref dlw])), (dlw, .inl (c 2, 4 * 40, .inr (.inl lw))), (dm, .inl (c 1, 40, .inl (fun j => zB (mb j))))] := ⟨hD0.1, fun k q h => List.mem_map.mpr ⟨q, List.mem_of_getElem? h, rfl⟩⟩
  generalize hAe : zA [(d, .inr (0, [.ref dn, .ref df, .ref di, .ref dl, .ref dm, .int (zI ((nc : Nat) : Int)), .int (zI ((q + 1 : Nat) : Int))])), (df, .inr (3, [.ref dfw])), (dfw, .inl (c 2, 4 * 255, .inr (.inl fw))), (di, .inr (3, [.ref diw])), (diw, .inl (c 2, 4 * 40, .inr (.inl iw))), (dl, .inr (3, [.ref dlw])), (dlw, .inl (c 2, 4 * 40, .inr (.inl lw))), (dm, .inl (c 1, 40, .inl (fun j => zB (mb j))))] = A at hD ⊢
  have hS : va_S A s.heap s.heap [] := va_S.rf
  have hP : va_P D vwCl [(d, .inr (0, [.ref dn, .ref df, .ref di, .ref dl, .ref dm, .int (zI ((nc : Nat) : Int)), .int (zI ((q + 1 : Nat) : Int))])), (df, .inr (3, [.ref dfw])), (dfw, .inl (c 2, 4 * 255, .inr (.inl fw))), (di, .inr (3, [.ref diw])), (diw, .inl (c 2, 4 * 40, .inr (.inl iw))), (dl, .inr (3, [.ref dlw])), (dlw, .inl (c 2, 4 * 40, .inr (.inl lw))), (dm, .inl (c 1, 40, .inl (fun j => zB (mb j))))] s.heap := hP
  have hl := lv_entry ([.ref d, .int (zI 1)]) (n := 3) (Nat.le_of_ble_eq_true rfl)
  rw [lg_entry_eq]
  generalize (lg_sl ([.ref d, .int (zI 1)]) ++ List.replicate (3 - (lg_sl ([.ref d, .int (zI 1)])).length) Slot.unset).toArray = ls at hl ⊢
  have hl : lv_has ls 3 [(0, .ref d), (1, .int (zI 1))] := hl
  generalize hQ : MQ below _ _ _ _ _ _ = Q
  refine lv_aload_n hx hb d_Dr_repeatLast_0 rfl (lv_at hl 0 rfl) ?_
  refine va_get (D := D) (ci := 0) (v := .int (zI ((q + 1 : Nat) : Int))) (C := R_Dr) (T := T_Dr) (N := 7) hx hb hts (fun w h => List.mem_cons_of_mem _ (inA_Dr w h)) hown hK hP 0 rfl rfl 6 (by decide) (hw k_Dr_f34) (fun _ h9 => h9) rfl d_Dr_repeatLast_1 ?_
  refine lv_iconst (v := zI 1) hx hb d_Dr_repeatLast_4 (by decide) ?_
  refine z_isub hx hb d_Dr_repeatLast_5 ?_
  refine z_top (v2 := .int (zI ((q : Nat) : Int))) (congrArg Value.int (congrArg zI (by omega))) ?_
  refine lv_istore_n (lv' := [(2, .int (zI ((q : Nat) : Int))), (0, .ref d), (1, .int (zI 1))]) hx hb d_Dr_repeatLast_6 rfl hl (by decide) rfl (fun ls hl => ?_)
  refine lv_aload_n hx hb d_Dr_repeatLast_7 rfl (lv_at hl 1 rfl) ?_
  refine lv_iload_n hx hb d_Dr_repeatLast_8 rfl (lv_at hl 0 rfl) ?_
  have hPc : va_P D vwCl [(d, .inr (0, [.ref dn, .ref df, .ref di, .ref dl, .ref dm, .int (zI ((nc : Nat) : Int)), .int (zI (((q + 1) : Nat) : Int))])), (dm, .inl (c 1, 40, .inl (fun j => zB (mb j))))] s.heap := hP.sub (ws' := [(d, .inr (0, [.ref dn, .ref df, .ref di, .ref dl, .ref dm, .int (zI ((nc : Nat) : Int)), .int (zI (((q + 1) : Nat) : Int))])), (dm, .inl (c 1, 40, .inl (fun j => zB (mb j))))]) [0, 7] rfl
  refine vp_callSi (va_runV (rm := rm_hasPart) (As := [.int (zI ((q : Nat) : Int))]) (rest := []) ⟨hx, hb, hml, hown, hts⟩ (c_hasPart l D c d dn df dfw di diw dl dlw dm nm fw iw lw mb nc (q + 1) ((q : Nat) : Int) (by omega) (by omega)) (cwV 1 hts (gWV k_Dr_m48 k_i_Dr_hasPart k_v_Dr_hasPart k_n_Dr k_c_Dr_hasPart) rfl rfl rfl (by decide +kernel) ⟨Nat.le_of_ble_eq_true rfl, Nat.le_of_ble_eq_true rfl⟩) ⟨zblind, va_recv hK hPc (ci := 0) (q0 := 0) rfl rfl, fun U hU hW => ⟨rfl, by rw [hU]; exact hPc, hKN.moved hW⟩⟩ rfl rfl hl.1 rfl (lv_room (Nat.le_of_ble_eq_true rfl)) d_Dr_repeatLast_9 ⟨Nat.zero_le _, Nat.zero_le _⟩).run (fun r hr_1 => ?_)
  subst hr_1
  refine z_ifeq_B (tgt := 25) hx hb d_Dr_repeatLast_12 (by decide) (fun hc_12 => (absurd hc_12 (by rw [decide_eq_true (by omega)]; decide))) (fun hc_12 => ?_)
  refine lv_iload_n hx hb d_Dr_repeatLast_15 rfl (lv_at hl 2 rfl) ?_
  refine lv_iconst (v := zI 1) hx hb d_Dr_repeatLast_16 (by decide) ?_
  refine z_icmp_lt (tgt := 25) hx hb (by omega) d_Dr_repeatLast_17 (by decide) (fun hc_17 => absurd hc_17 (by omega)) (fun hc_17 => ?_)
  refine lv_iload_n hx hb d_Dr_repeatLast_20 rfl (lv_at hl 2 rfl) ?_
  refine lv_iconst (v := zI 3) hx hb d_Dr_repeatLast_21 (by decide) ?_
  refine z_icmp_le (tgt := 27) hx hb (by omega) d_Dr_repeatLast_22 (by decide) (fun hc_22 => ?_) (fun hc_22 => absurd hc_22 (by omega))
  refine lv_iload_n hx hb d_Dr_repeatLast_27 rfl (lv_at hl 2 rfl) ?_
  refine lv_iconst (v := zI 2) hx hb d_Dr_repeatLast_28 (by decide) ?_
  refine z_icmp_eq (tgt := 37) hx hb (by omega) d_Dr_repeatLast_29 (by decide) (fun hc_29 => absurd hc_29 (by omega)) (fun hc_29 => ?_)
  refine lv_iload_n hx hb d_Dr_repeatLast_32 rfl (lv_at hl 2 rfl) ?_
  refine lv_iconst (v := zI 3) hx hb d_Dr_repeatLast_33 (by decide) ?_
  refine z_icmp_ne (tgt := 43) hx hb (by omega) d_Dr_repeatLast_34 (by decide) (fun hc_34 => ?_) (fun hc_34 => absurd hc_34 (by omega))
  refine lv_iload_n hx hb d_Dr_repeatLast_43 rfl (lv_at hl 2 rfl) ?_
  refine lv_iconst (v := zI 1) hx hb d_Dr_repeatLast_44 (by decide) ?_
  refine z_icmp_eq (tgt := 53) hx hb (by omega) d_Dr_repeatLast_45 (by decide) (fun hc_45 => ?_) (fun hc_45 => absurd hc_45 (by omega))
  refine lv_aload_n hx hb d_Dr_repeatLast_53 rfl (lv_at hl 1 rfl) ?_
  refine va_get (D := D) (ci := 0) (v := .ref dm) (C := R_Dr) (T := T_Dr) (N := 7) hx hb hts (fun w h => List.mem_cons_of_mem _ (inA_Dr w h)) hown hK hP 0 rfl rfl 4 (by decide) (hw k_Dr_f30) (fun _ h9 => h9) rfl d_Dr_repeatLast_54 ?_
  refine lv_iload_n hx hb d_Dr_repeatLast_57 rfl (lv_at hl 0 rfl) ?_
  refine lv_iconst (v := zI 1) hx hb d_Dr_repeatLast_58 (by decide) ?_
  refine z_top (v2 := .int (zB true)) (congrArg Value.int (by decide)) ?_
  refine z_zast hx hb hK hP hD hS 7 1 rfl rfl (q) (by omega) (by omega) (by omega) d_Dr_repeatLast_59 (fun H locs hP hD hS => ?_)
  have hP : va_P D vwCl [(d, .inr (0, [.ref dn, .ref df, .ref di, .ref dl, .ref dm, .int (zI ((nc : Nat) : Int)), .int (zI ((q + 1 : Nat) : Int))])), (df, .inr (3, [.ref dfw])), (dfw, .inl (c 2, 4 * 255, .inr (.inl fw))), (di, .inr (3, [.ref diw])), (diw, .inl (c 2, 4 * 40, .inr (.inl iw))), (dl, .inr (3, [.ref dlw])), (dlw, .inl (c 2, 4 * 40, .inr (.inl lw))), (dm, .inl (c 1, 40, .inl (fun j => zB ((va_up mb q true) j))))] H := hP
  have hD : va_D A [(d, .inr (0, [.ref dn, .ref df, .ref di, .ref dl, .ref dm, .int (zI ((nc : Nat) : Int)), .int (zI ((q + 1 : Nat) : Int))])), (df, .inr (3, [.ref dfw])), (dfw, .inl (c 2, 4 * 255, .inr (.inl fw))), (di, .inr (3, [.ref diw])), (diw, .inl (c 2, 4 * 40, .inr (.inl iw))), (dl, .inr (3, [.ref dlw])), (dlw, .inl (c 2, 4 * 40, .inr (.inl lw))), (dm, .inl (c 1, 40, .inl (fun j => zB ((va_up mb q true) j))))] := hD
  refine lv_iconst (v := zI 1) hx hb d_Dr_repeatLast_60 (by decide) ?_
  subst hQ
  exact W.zret (ty := .boolean) (v := (zI 1)) hx hb hr (by decide) (fun t9 ht hW => ⟨⟨_, (), rfl, ⟨(by decide), trivial⟩, by show va_P _ _ _ t9.heap; rw [ht]; exact hP⟩, hS.F ht⟩) hS.2.2 d_Dr_repeatLast_61

def rm_repeatLast2 : Room := { frames := 4, cells := 0, slots := 0, locals := 88 }
set_option maxHeartbeats 4000000 in
set_option maxRecDepth 100000 in
/-- Draft.repeatLast(2) -/
theorem c_repeatLast2 (l : Launch) (D : va_G) (c : Nat → ClassId) (d : Nat) (dn : Nat) (df : Nat) (dfw : Nat) (di : Nat) (diw : Nat) (dl : Nat) (dlw : Nat) (dm : Nat) (nm : Nat → Nat) (fw : Nat → Int64) (iw : Nat → Int64) (lw : Nat → Int64) (mb : Nat → Bool) (nc : Nat) (q : Nat) (hp : q + 1 ≤ 40) (hc : nc ≤ 255) : Met l y_Dr_repeatLast w_Dr_repeatLast rm_repeatLast2 (va_Pc [.ref d, .int (zI 2)] (fun U => (va_P D vwCl [(d, .inr (0, [.ref dn, .ref df, .ref di, .ref dl, .ref dm, .int (zI ((nc : Nat) : Int)), .int (zI ((q + 1 : Nat) : Int))])), (df, .inr (3, [.ref dfw])), (dfw, .inl (c 2, 4 * 255, .inr (.inl fw))), (di, .inr (3, [.ref diw])), (diw, .inl (c 2, 4 * 40, .inr (.inl iw))), (dl, .inr (3, [.ref dlw])), (dlw, .inl (c 2, 4 * 40, .inr (.inl lw))), (dm, .inl (c 1, 40, .inl (fun j => zB (mb j))))] U.heap ∧ va_D (fun _ => True) [(d, .inr (0, [.ref dn, .ref df, .ref di, .ref dl, .ref dm, .int (zI ((nc : Nat) : Int)), .int (zI ((q + 1 : Nat) : Int))])), (df, .inr (3, [.ref dfw])), (dfw, .inl (c 2, 4 * 255, .inr (.inl fw))), (di, .inr (3, [.ref diw])), (diw, .inl (c 2, 4 * 40, .inr (.inl iw))), (dl, .inr (3, [.ref dlw])), (dlw, .inl (c 2, 4 * 40, .inr (.inl lw))), (dm, .inl (c 1, 40, .inl (fun j => zB (mb j))))]) ∧ zK D c U)) (va_Qi (fun (r : Int32) (u : Unit) => r = (zB true) ∧ True) (fun (u : Unit) t9 => va_P D vwCl [(d, .inr (0, [.ref dn, .ref df, .ref di, .ref dl, .ref dm, .int (zI ((nc : Nat) : Int)), .int (zI ((q + 1 : Nat) : Int))])), (df, .inr (3, [.ref dfw])), (dfw, .inl (c 2, 4 * 255, .inr (.inl (lfw fw iw lw q q nc)))), (di, .inr (3, [.ref diw])), (diw, .inl (c 2, 4 * 40, .inr (.inl iw))), (dl, .inr (3, [.ref dlw])), (dlw, .inl (c 2, 4 * 40, .inr (.inl lw))), (dm, .inl (c 1, 40, .inl (fun j => zB ((va_up mb q true) j))))] t9.heap) (zA [(d, .inr (0, [.ref dn, .ref df, .ref di, .ref dl, .ref dm, .int (zI ((nc : Nat) : Int)), .int (zI ((q + 1 : Nat) : Int))])), (df, .inr (3, [.ref dfw])), (dfw, .inl (c 2, 4 * 255, .inr (.inl fw))), (di, .inr (3, [.ref diw])), (diw, .inl (c 2, 4 * 40, .inr (.inl iw))), (dl, .inr (3, [.ref dlw])), (dlw, .inl (c 2, 4 * 40, .inr (.inl lw))), (dm, .inl (c 1, 40, .inl (fun j => zB (mb j))))])) 0 0 (zA [(d, .inr (0, [.ref dn, .ref df, .ref di, .ref dl, .ref dm, .int (zI ((nc : Nat) : Int)), .int (zI ((q + 1 : Nat) : Int))])), (df, .inr (3, [.ref dfw])), (dfw, .inl (c 2, 4 * 255, .inr (.inl fw))), (di, .inr (3, [.ref diw])), (diw, .inl (c 2, 4 * 40, .inr (.inl iw))), (dl, .inr (3, [.ref dlw])), (dlw, .inl (c 2, 4 * 40, .inr (.inl lw))), (dm, .inl (c 1, 40, .inl (fun j => zB (mb j))))]) := by
  refine Met.ofW (cc := b_Dr_repeatLast) (maxL := 3) (ret := (some .boolean)) (by decide) rfl ?_
  intro p e s m args below meth c0 s₁ B hml hv
  obtain ⟨rfl, ⟨hP, hD0⟩, hKN⟩ := hv
  have hK := hKN.1
  have hN := hKN.2
  have hx := B.exec
  have hb := B.bytes
  have hr := B.returns
  have hts := atoms_spec (ws := w_Dr_repeatLast) B.pre
  have hw : ∀ {w : Cond}, w ∈ ALLW → w.before _ s = true := fun h => hts _ (List.mem_cons_of_mem _ h)
  have hown : s.vm.findClass R_Dr = some m.cls := findClass_of_methodNamed B.named
  have hlocks := B.notSynchronized
  have hD : va_D (zA [(d, .inr (0, [.ref dn, .ref df, .ref di, .ref dl, .ref dm, .int (zI ((nc : Nat) : Int)), .int (zI ((q + 1 : Nat) : Int))])), (df, .inr (3, [.ref dfw])), (dfw, .inl (c 2, 4 * 255, .inr (.inl fw))), (di, .inr (3, [.ref diw])), (diw, .inl (c 2, 4 * 40, .inr (.inl iw))), (dl, .inr (3, [.ref dlw])), (dlw, .inl (c 2, 4 * 40, .inr (.inl lw))), (dm, .inl (c 1, 40, .inl (fun j => zB (mb j))))]) [(d, .inr (0, [.ref dn, .ref df, .ref di, .ref dl, .ref dm, .int (zI ((nc : Nat) : Int)), .int (zI ((q + 1 : Nat) : Int))])), (df, .inr (3, [.ref dfw])), (dfw, .inl (c 2, 4 * 255, .inr (.inl fw))), (di, .inr (3, [.ref diw])), (diw, .inl (c 2, 4 * 40, .inr (.inl iw))), (dl, .inr (3, [.ref dlw])), (dlw, .inl (c 2, 4 * 40, .inr (.inl lw))), (dm, .inl (c 1, 40, .inl (fun j => zB (mb j))))] := ⟨hD0.1, fun k q h => List.mem_map.mpr ⟨q, List.mem_of_getElem? h, rfl⟩⟩
  generalize hAe : zA [(d, .inr (0, [.ref dn, .ref df, .ref di, .ref dl, .ref dm, .int (zI ((nc : Nat) : Int)), .int (zI ((q + 1 : Nat) : Int))])), (df, .inr (3, [.ref dfw])), (dfw, .inl (c 2, 4 * 255, .inr (.inl fw))), (di, .inr (3, [.ref diw])), (diw, .inl (c 2, 4 * 40, .inr (.inl iw))), (dl, .inr (3, [.ref dlw])), (dlw, .inl (c 2, 4 * 40, .inr (.inl lw))), (dm, .inl (c 1, 40, .inl (fun j => zB (mb j))))] = A at hD ⊢
  have hS : va_S A s.heap s.heap [] := va_S.rf
  have hP : va_P D vwCl [(d, .inr (0, [.ref dn, .ref df, .ref di, .ref dl, .ref dm, .int (zI ((nc : Nat) : Int)), .int (zI ((q + 1 : Nat) : Int))])), (df, .inr (3, [.ref dfw])), (dfw, .inl (c 2, 4 * 255, .inr (.inl fw))), (di, .inr (3, [.ref diw])), (diw, .inl (c 2, 4 * 40, .inr (.inl iw))), (dl, .inr (3, [.ref dlw])), (dlw, .inl (c 2, 4 * 40, .inr (.inl lw))), (dm, .inl (c 1, 40, .inl (fun j => zB (mb j))))] s.heap := hP
  have hl := lv_entry ([.ref d, .int (zI 2)]) (n := 3) (Nat.le_of_ble_eq_true rfl)
  rw [lg_entry_eq]
  generalize (lg_sl ([.ref d, .int (zI 2)]) ++ List.replicate (3 - (lg_sl ([.ref d, .int (zI 2)])).length) Slot.unset).toArray = ls at hl ⊢
  have hl : lv_has ls 3 [(0, .ref d), (1, .int (zI 2))] := hl
  generalize hQ : MQ below _ _ _ _ _ _ = Q
  refine lv_aload_n hx hb d_Dr_repeatLast_0 rfl (lv_at hl 0 rfl) ?_
  refine va_get (D := D) (ci := 0) (v := .int (zI ((q + 1 : Nat) : Int))) (C := R_Dr) (T := T_Dr) (N := 7) hx hb hts (fun w h => List.mem_cons_of_mem _ (inA_Dr w h)) hown hK hP 0 rfl rfl 6 (by decide) (hw k_Dr_f34) (fun _ h9 => h9) rfl d_Dr_repeatLast_1 ?_
  refine lv_iconst (v := zI 1) hx hb d_Dr_repeatLast_4 (by decide) ?_
  refine z_isub hx hb d_Dr_repeatLast_5 ?_
  refine z_top (v2 := .int (zI ((q : Nat) : Int))) (congrArg Value.int (congrArg zI (by omega))) ?_
  refine lv_istore_n (lv' := [(2, .int (zI ((q : Nat) : Int))), (0, .ref d), (1, .int (zI 2))]) hx hb d_Dr_repeatLast_6 rfl hl (by decide) rfl (fun ls hl => ?_)
  refine lv_aload_n hx hb d_Dr_repeatLast_7 rfl (lv_at hl 1 rfl) ?_
  refine lv_iload_n hx hb d_Dr_repeatLast_8 rfl (lv_at hl 0 rfl) ?_
  have hPc : va_P D vwCl [(d, .inr (0, [.ref dn, .ref df, .ref di, .ref dl, .ref dm, .int (zI ((nc : Nat) : Int)), .int (zI (((q + 1) : Nat) : Int))])), (dm, .inl (c 1, 40, .inl (fun j => zB (mb j))))] s.heap := hP.sub (ws' := [(d, .inr (0, [.ref dn, .ref df, .ref di, .ref dl, .ref dm, .int (zI ((nc : Nat) : Int)), .int (zI (((q + 1) : Nat) : Int))])), (dm, .inl (c 1, 40, .inl (fun j => zB (mb j))))]) [0, 7] rfl
  refine vp_callSi (va_runV (rm := rm_hasPart) (As := [.int (zI ((q : Nat) : Int))]) (rest := []) ⟨hx, hb, hml, hown, hts⟩ (c_hasPart l D c d dn df dfw di diw dl dlw dm nm fw iw lw mb nc (q + 1) ((q : Nat) : Int) (by omega) (by omega)) (cwV 1 hts (gWV k_Dr_m48 k_i_Dr_hasPart k_v_Dr_hasPart k_n_Dr k_c_Dr_hasPart) rfl rfl rfl (by decide +kernel) ⟨Nat.le_of_ble_eq_true rfl, Nat.le_of_ble_eq_true rfl⟩) ⟨zblind, va_recv hK hPc (ci := 0) (q0 := 0) rfl rfl, fun U hU hW => ⟨rfl, by rw [hU]; exact hPc, hKN.moved hW⟩⟩ rfl rfl hl.1 rfl (lv_room (Nat.le_of_ble_eq_true rfl)) d_Dr_repeatLast_9 ⟨Nat.zero_le _, Nat.zero_le _⟩).run (fun r hr_1 => ?_)
  subst hr_1
  refine z_ifeq_B (tgt := 25) hx hb d_Dr_repeatLast_12 (by decide) (fun hc_12 => (absurd hc_12 (by rw [decide_eq_true (by omega)]; decide))) (fun hc_12 => ?_)
  refine lv_iload_n hx hb d_Dr_repeatLast_15 rfl (lv_at hl 2 rfl) ?_
  refine lv_iconst (v := zI 1) hx hb d_Dr_repeatLast_16 (by decide) ?_
  refine z_icmp_lt (tgt := 25) hx hb (by omega) d_Dr_repeatLast_17 (by decide) (fun hc_17 => absurd hc_17 (by omega)) (fun hc_17 => ?_)
  refine lv_iload_n hx hb d_Dr_repeatLast_20 rfl (lv_at hl 2 rfl) ?_
  refine lv_iconst (v := zI 3) hx hb d_Dr_repeatLast_21 (by decide) ?_
  refine z_icmp_le (tgt := 27) hx hb (by omega) d_Dr_repeatLast_22 (by decide) (fun hc_22 => ?_) (fun hc_22 => absurd hc_22 (by omega))
  refine lv_iload_n hx hb d_Dr_repeatLast_27 rfl (lv_at hl 2 rfl) ?_
  refine lv_iconst (v := zI 2) hx hb d_Dr_repeatLast_28 (by decide) ?_
  refine z_icmp_eq (tgt := 37) hx hb (by omega) d_Dr_repeatLast_29 (by decide) (fun hc_29 => ?_) (fun hc_29 => absurd hc_29 (by omega))
  refine lv_aload_n hx hb d_Dr_repeatLast_37 rfl (lv_at hl 1 rfl) ?_
  refine lv_iload_n hx hb d_Dr_repeatLast_38 rfl (lv_at hl 0 rfl) ?_
  refine lv_iload_n hx hb d_Dr_repeatLast_39 rfl (lv_at hl 0 rfl) ?_
  have hPc : va_P D vwCl [(d, .inr (0, [.ref dn, .ref df, .ref di, .ref dl, .ref dm, .int (zI ((nc : Nat) : Int)), .int (zI (((q + 1) : Nat) : Int))])), (df, .inr (3, [.ref dfw])), (dfw, .inl (c 2, 4 * 255, .inr (.inl fw))), (di, .inr (3, [.ref diw])), (diw, .inl (c 2, 4 * 40, .inr (.inl iw))), (dl, .inr (3, [.ref dlw])), (dlw, .inl (c 2, 4 * 40, .inr (.inl lw)))] s.heap := hP.sub (ws' := [(d, .inr (0, [.ref dn, .ref df, .ref di, .ref dl, .ref dm, .int (zI ((nc : Nat) : Int)), .int (zI (((q + 1) : Nat) : Int))])), (df, .inr (3, [.ref dfw])), (dfw, .inl (c 2, 4 * 255, .inr (.inl fw))), (di, .inr (3, [.ref diw])), (diw, .inl (c 2, 4 * 40, .inr (.inl iw))), (dl, .inr (3, [.ref dlw])), (dlw, .inl (c 2, 4 * 40, .inr (.inl lw)))]) [0, 1, 2, 3, 4, 5, 6] rfl
  have hDc : va_D A [(d, .inr (0, [.ref dn, .ref df, .ref di, .ref dl, .ref dm, .int (zI ((nc : Nat) : Int)), .int (zI (((q + 1) : Nat) : Int))])), (df, .inr (3, [.ref dfw])), (dfw, .inl (c 2, 4 * 255, .inr (.inl fw))), (di, .inr (3, [.ref diw])), (diw, .inl (c 2, 4 * 40, .inr (.inl iw))), (dl, .inr (3, [.ref dlw])), (dlw, .inl (c 2, 4 * 40, .inr (.inl lw)))] := hD.sub (ws' := [(d, .inr (0, [.ref dn, .ref df, .ref di, .ref dl, .ref dm, .int (zI ((nc : Nat) : Int)), .int (zI (((q + 1) : Nat) : Int))])), (df, .inr (3, [.ref dfw])), (dfw, .inl (c 2, 4 * 255, .inr (.inl fw))), (di, .inr (3, [.ref diw])), (diw, .inl (c 2, 4 * 40, .inr (.inl iw))), (dl, .inr (3, [.ref dlw])), (dlw, .inl (c 2, 4 * 40, .inr (.inl lw)))]) [0, 1, 2, 3, 4, 5, 6] (by decide) rfl
  have hDt : va_D (fun _ => True) [(d, .inr (0, [.ref dn, .ref df, .ref di, .ref dl, .ref dm, .int (zI ((nc : Nat) : Int)), .int (zI (((q + 1) : Nat) : Int))])), (df, .inr (3, [.ref dfw])), (dfw, .inl (c 2, 4 * 255, .inr (.inl fw))), (di, .inr (3, [.ref diw])), (diw, .inl (c 2, 4 * 40, .inr (.inl iw))), (dl, .inr (3, [.ref dlw])), (dlw, .inl (c 2, 4 * 40, .inr (.inl lw)))] := hDc.weaken (fun _ _ _ _ => trivial)
  refine z_callv (S := Unit) (w1 := fun u => [(d, .inr (0, [.ref dn, .ref df, .ref di, .ref dl, .ref dm, .int (zI ((nc : Nat) : Int)), .int (zI (((q + 1) : Nat) : Int))])), (df, .inr (3, [.ref dfw])), (dfw, .inl (c 2, 4 * 255, .inr (.inl (lfw fw iw lw q q nc)))), (di, .inr (3, [.ref diw])), (diw, .inl (c 2, 4 * 40, .inr (.inl iw))), (dl, .inr (3, [.ref dlw])), (dlw, .inl (c 2, 4 * 40, .inr (.inl lw)))]) (post := fun u => True) (wc := [(d, .inr (0, [.ref dn, .ref df, .ref di, .ref dl, .ref dm, .int (zI ((nc : Nat) : Int)), .int (zI (((q + 1) : Nat) : Int))])), (df, .inr (3, [.ref dfw])), (dfw, .inl (c 2, 4 * 255, .inr (.inl fw))), (di, .inr (3, [.ref diw])), (diw, .inl (c 2, 4 * 40, .inr (.inl iw))), (dl, .inr (3, [.ref dlw])), (dlw, .inl (c 2, 4 * 40, .inr (.inl lw)))]) [0, 1, 2, 3, 4, 5, 6] rfl (fun _ => rfl) hP hD hS (va_runV (rm := rm_letFollow) (As := [.int (zI ((q : Nat) : Int)), .int (zI ((q : Nat) : Int))]) (rest := []) ⟨hx, hb, hml, hown, hts⟩ (c_letFollow l D c d dn df dfw di diw dl dlw dm nm fw iw lw mb nc (q + 1) q q (by omega) (by omega) (by omega)) (cwV 2 hts (gWV k_Dr_m52 k_i_Dr_letFollow k_v_Dr_letFollow k_n_Dr k_c_Dr_letFollow) rfl rfl rfl (by decide +kernel) ⟨Nat.le_of_ble_eq_true rfl, Nat.le_of_ble_eq_true rfl⟩) ⟨zblindW, va_recv hK hPc (ci := 0) (q0 := 0) rfl rfl, fun U hU hW => ⟨rfl, ⟨by rw [hU]; exact hPc, hDt⟩, hKN.moved hW⟩⟩ rfl rfl hl.1 rfl (lv_room (Nat.le_of_ble_eq_true rfl)) d_Dr_repeatLast_40 ⟨Nat.zero_le _, Nat.zero_le _⟩) (fun u H locs hp_2 hP hD hS => ?_)
  have hP : va_P D vwCl [(d, .inr (0, [.ref dn, .ref df, .ref di, .ref dl, .ref dm, .int (zI ((nc : Nat) : Int)), .int (zI (((q + 1) : Nat) : Int))])), (df, .inr (3, [.ref dfw])), (dfw, .inl (c 2, 4 * 255, .inr (.inl (lfw fw iw lw q q nc)))), (di, .inr (3, [.ref diw])), (diw, .inl (c 2, 4 * 40, .inr (.inl iw))), (dl, .inr (3, [.ref dlw])), (dlw, .inl (c 2, 4 * 40, .inr (.inl lw))), (dm, .inl (c 1, 40, .inl (fun j => zB (mb j))))] H := hP
  have hD : va_D A [(d, .inr (0, [.ref dn, .ref df, .ref di, .ref dl, .ref dm, .int (zI ((nc : Nat) : Int)), .int (zI (((q + 1) : Nat) : Int))])), (df, .inr (3, [.ref dfw])), (dfw, .inl (c 2, 4 * 255, .inr (.inl (lfw fw iw lw q q nc)))), (di, .inr (3, [.ref diw])), (diw, .inl (c 2, 4 * 40, .inr (.inl iw))), (dl, .inr (3, [.ref dlw])), (dlw, .inl (c 2, 4 * 40, .inr (.inl lw))), (dm, .inl (c 1, 40, .inl (fun j => zB (mb j))))] := hD
  refine lv_iload_n hx hb d_Dr_repeatLast_43 rfl (lv_at hl 2 rfl) ?_
  refine lv_iconst (v := zI 1) hx hb d_Dr_repeatLast_44 (by decide) ?_
  refine z_icmp_eq (tgt := 53) hx hb (by omega) d_Dr_repeatLast_45 (by decide) (fun hc_45 => absurd hc_45 (by omega)) (fun hc_45 => ?_)
  refine lv_iload_n hx hb d_Dr_repeatLast_48 rfl (lv_at hl 2 rfl) ?_
  refine lv_iconst (v := zI 2) hx hb d_Dr_repeatLast_49 (by decide) ?_
  refine z_icmp_ne (tgt := 60) hx hb (by omega) d_Dr_repeatLast_50 (by decide) (fun hc_50 => absurd hc_50 (by omega)) (fun hc_50 => ?_)
  refine lv_aload_n hx hb d_Dr_repeatLast_53 rfl (lv_at hl 1 rfl) ?_
  refine va_get (D := D) (ci := 0) (v := .ref dm) (C := R_Dr) (T := T_Dr) (N := 7) hx hb hts (fun w h => List.mem_cons_of_mem _ (inA_Dr w h)) hown hK hP 0 rfl rfl 4 (by decide) (hw k_Dr_f30) (fun _ h9 => h9) rfl d_Dr_repeatLast_54 ?_
  refine lv_iload_n hx hb d_Dr_repeatLast_57 rfl (lv_at hl 0 rfl) ?_
  refine lv_iconst (v := zI 1) hx hb d_Dr_repeatLast_58 (by decide) ?_
  refine z_top (v2 := .int (zB true)) (congrArg Value.int (by decide)) ?_
  refine z_zast hx hb hK hP hD hS 7 1 rfl rfl (q) (by omega) (by omega) (by omega) d_Dr_repeatLast_59 (fun H locs hP hD hS => ?_)
  have hP : va_P D vwCl [(d, .inr (0, [.ref dn, .ref df, .ref di, .ref dl, .ref dm, .int (zI ((nc : Nat) : Int)), .int (zI (((q + 1) : Nat) : Int))])), (df, .inr (3, [.ref dfw])), (dfw, .inl (c 2, 4 * 255, .inr (.inl (lfw fw iw lw q q nc)))), (di, .inr (3, [.ref diw])), (diw, .inl (c 2, 4 * 40, .inr (.inl iw))), (dl, .inr (3, [.ref dlw])), (dlw, .inl (c 2, 4 * 40, .inr (.inl lw))), (dm, .inl (c 1, 40, .inl (fun j => zB ((va_up mb q true) j))))] H := hP
  have hD : va_D A [(d, .inr (0, [.ref dn, .ref df, .ref di, .ref dl, .ref dm, .int (zI ((nc : Nat) : Int)), .int (zI (((q + 1) : Nat) : Int))])), (df, .inr (3, [.ref dfw])), (dfw, .inl (c 2, 4 * 255, .inr (.inl (lfw fw iw lw q q nc)))), (di, .inr (3, [.ref diw])), (diw, .inl (c 2, 4 * 40, .inr (.inl iw))), (dl, .inr (3, [.ref dlw])), (dlw, .inl (c 2, 4 * 40, .inr (.inl lw))), (dm, .inl (c 1, 40, .inl (fun j => zB ((va_up mb q true) j))))] := hD
  refine lv_iconst (v := zI 1) hx hb d_Dr_repeatLast_60 (by decide) ?_
  subst hQ
  exact W.zret (ty := .boolean) (v := (zI 1)) hx hb hr (by decide) (fun t9 ht hW => ⟨⟨_, (), rfl, ⟨(by decide), trivial⟩, by show va_P _ _ _ t9.heap; rw [ht]; exact hP⟩, hS.F ht⟩) hS.2.2 d_Dr_repeatLast_61

def rm_repeatLast3 : Room := { frames := 4, cells := 0, slots := 0, locals := 88 }
set_option maxHeartbeats 4000000 in
set_option maxRecDepth 100000 in
/-- Draft.repeatLast(3) -/
theorem c_repeatLast3 (l : Launch) (D : va_G) (c : Nat → ClassId) (d : Nat) (dn : Nat) (df : Nat) (dfw : Nat) (di : Nat) (diw : Nat) (dl : Nat) (dlw : Nat) (dm : Nat) (nm : Nat → Nat) (fw : Nat → Int64) (iw : Nat → Int64) (lw : Nat → Int64) (mb : Nat → Bool) (nc : Nat) (q : Nat) (hp : q + 1 ≤ 40) (hc : nc ≤ 255) : Met l y_Dr_repeatLast w_Dr_repeatLast rm_repeatLast3 (va_Pc [.ref d, .int (zI 3)] (fun U => (va_P D vwCl [(d, .inr (0, [.ref dn, .ref df, .ref di, .ref dl, .ref dm, .int (zI ((nc : Nat) : Int)), .int (zI ((q + 1 : Nat) : Int))])), (df, .inr (3, [.ref dfw])), (dfw, .inl (c 2, 4 * 255, .inr (.inl fw))), (di, .inr (3, [.ref diw])), (diw, .inl (c 2, 4 * 40, .inr (.inl iw))), (dl, .inr (3, [.ref dlw])), (dlw, .inl (c 2, 4 * 40, .inr (.inl lw))), (dm, .inl (c 1, 40, .inl (fun j => zB (mb j))))] U.heap ∧ va_D (fun _ => True) [(d, .inr (0, [.ref dn, .ref df, .ref di, .ref dl, .ref dm, .int (zI ((nc : Nat) : Int)), .int (zI ((q + 1 : Nat) : Int))])), (df, .inr (3, [.ref dfw])), (dfw, .inl (c 2, 4 * 255, .inr (.inl fw))), (di, .inr (3, [.ref diw])), (diw, .inl (c 2, 4 * 40, .inr (.inl iw))), (dl, .inr (3, [.ref dlw])), (dlw, .inl (c 2, 4 * 40, .inr (.inl lw))), (dm, .inl (c 1, 40, .inl (fun j => zB (mb j))))]) ∧ zK D c U)) (va_Qi (fun (r : Int32) (u : Unit) => r = (zB true) ∧ True) (fun (u : Unit) t9 => va_P D vwCl [(d, .inr (0, [.ref dn, .ref df, .ref di, .ref dl, .ref dm, .int (zI ((nc : Nat) : Int)), .int (zI ((q + 1 : Nat) : Int))])), (df, .inr (3, [.ref dfw])), (dfw, .inl (c 2, 4 * 255, .inr (.inl (lfw fw iw lw q q nc)))), (di, .inr (3, [.ref diw])), (diw, .inl (c 2, 4 * 40, .inr (.inl iw))), (dl, .inr (3, [.ref dlw])), (dlw, .inl (c 2, 4 * 40, .inr (.inl lw))), (dm, .inl (c 1, 40, .inl (fun j => zB (mb j))))] t9.heap) (zA [(d, .inr (0, [.ref dn, .ref df, .ref di, .ref dl, .ref dm, .int (zI ((nc : Nat) : Int)), .int (zI ((q + 1 : Nat) : Int))])), (df, .inr (3, [.ref dfw])), (dfw, .inl (c 2, 4 * 255, .inr (.inl fw))), (di, .inr (3, [.ref diw])), (diw, .inl (c 2, 4 * 40, .inr (.inl iw))), (dl, .inr (3, [.ref dlw])), (dlw, .inl (c 2, 4 * 40, .inr (.inl lw))), (dm, .inl (c 1, 40, .inl (fun j => zB (mb j))))])) 0 0 (zA [(d, .inr (0, [.ref dn, .ref df, .ref di, .ref dl, .ref dm, .int (zI ((nc : Nat) : Int)), .int (zI ((q + 1 : Nat) : Int))])), (df, .inr (3, [.ref dfw])), (dfw, .inl (c 2, 4 * 255, .inr (.inl fw))), (di, .inr (3, [.ref diw])), (diw, .inl (c 2, 4 * 40, .inr (.inl iw))), (dl, .inr (3, [.ref dlw])), (dlw, .inl (c 2, 4 * 40, .inr (.inl lw))), (dm, .inl (c 1, 40, .inl (fun j => zB (mb j))))]) := by
  refine Met.ofW (cc := b_Dr_repeatLast) (maxL := 3) (ret := (some .boolean)) (by decide) rfl ?_
  intro p e s m args below meth c0 s₁ B hml hv
  obtain ⟨rfl, ⟨hP, hD0⟩, hKN⟩ := hv
  have hK := hKN.1
  have hN := hKN.2
  have hx := B.exec
  have hb := B.bytes
  have hr := B.returns
  have hts := atoms_spec (ws := w_Dr_repeatLast) B.pre
  have hw : ∀ {w : Cond}, w ∈ ALLW → w.before _ s = true := fun h => hts _ (List.mem_cons_of_mem _ h)
  have hown : s.vm.findClass R_Dr = some m.cls := findClass_of_methodNamed B.named
  have hlocks := B.notSynchronized
  have hD : va_D (zA [(d, .inr (0, [.ref dn, .ref df, .ref di, .ref dl, .ref dm, .int (zI ((nc : Nat) : Int)), .int (zI ((q + 1 : Nat) : Int))])), (df, .inr (3, [.ref dfw])), (dfw, .inl (c 2, 4 * 255, .inr (.inl fw))), (di, .inr (3, [.ref diw])), (diw, .inl (c 2, 4 * 40, .inr (.inl iw))), (dl, .inr (3, [.ref dlw])), (dlw, .inl (c 2, 4 * 40, .inr (.inl lw))), (dm, .inl (c 1, 40, .inl (fun j => zB (mb j))))]) [(d, .inr (0, [.ref dn, .ref df, .ref di, .ref dl, .ref dm, .int (zI ((nc : Nat) : Int)), .int (zI ((q + 1 : Nat) : Int))])), (df, .inr (3, [.ref dfw])), (dfw, .inl (c 2, 4 * 255, .inr (.inl fw))), (di, .inr (3, [.ref diw])), (diw, .inl (c 2, 4 * 40, .inr (.inl iw))), (dl, .inr (3, [.ref dlw])), (dlw, .inl (c 2, 4 * 40, .inr (.inl lw))), (dm, .inl (c 1, 40, .inl (fun j => zB (mb j))))] := ⟨hD0.1, fun k q h => List.mem_map.mpr ⟨q, List.mem_of_getElem? h, rfl⟩⟩
  generalize hAe : zA [(d, .inr (0, [.ref dn, .ref df, .ref di, .ref dl, .ref dm, .int (zI ((nc : Nat) : Int)), .int (zI ((q + 1 : Nat) : Int))])), (df, .inr (3, [.ref dfw])), (dfw, .inl (c 2, 4 * 255, .inr (.inl fw))), (di, .inr (3, [.ref diw])), (diw, .inl (c 2, 4 * 40, .inr (.inl iw))), (dl, .inr (3, [.ref dlw])), (dlw, .inl (c 2, 4 * 40, .inr (.inl lw))), (dm, .inl (c 1, 40, .inl (fun j => zB (mb j))))] = A at hD ⊢
  have hS : va_S A s.heap s.heap [] := va_S.rf
  have hP : va_P D vwCl [(d, .inr (0, [.ref dn, .ref df, .ref di, .ref dl, .ref dm, .int (zI ((nc : Nat) : Int)), .int (zI ((q + 1 : Nat) : Int))])), (df, .inr (3, [.ref dfw])), (dfw, .inl (c 2, 4 * 255, .inr (.inl fw))), (di, .inr (3, [.ref diw])), (diw, .inl (c 2, 4 * 40, .inr (.inl iw))), (dl, .inr (3, [.ref dlw])), (dlw, .inl (c 2, 4 * 40, .inr (.inl lw))), (dm, .inl (c 1, 40, .inl (fun j => zB (mb j))))] s.heap := hP
  have hl := lv_entry ([.ref d, .int (zI 3)]) (n := 3) (Nat.le_of_ble_eq_true rfl)
  rw [lg_entry_eq]
  generalize (lg_sl ([.ref d, .int (zI 3)]) ++ List.replicate (3 - (lg_sl ([.ref d, .int (zI 3)])).length) Slot.unset).toArray = ls at hl ⊢
  have hl : lv_has ls 3 [(0, .ref d), (1, .int (zI 3))] := hl
  generalize hQ : MQ below _ _ _ _ _ _ = Q
  refine lv_aload_n hx hb d_Dr_repeatLast_0 rfl (lv_at hl 0 rfl) ?_
  refine va_get (D := D) (ci := 0) (v := .int (zI ((q + 1 : Nat) : Int))) (C := R_Dr) (T := T_Dr) (N := 7) hx hb hts (fun w h => List.mem_cons_of_mem _ (inA_Dr w h)) hown hK hP 0 rfl rfl 6 (by decide) (hw k_Dr_f34) (fun _ h9 => h9) rfl d_Dr_repeatLast_1 ?_
  refine lv_iconst (v := zI 1) hx hb d_Dr_repeatLast_4 (by decide) ?_
  refine z_isub hx hb d_Dr_repeatLast_5 ?_
  refine z_top (v2 := .int (zI ((q : Nat) : Int))) (congrArg Value.int (congrArg zI (by omega))) ?_
  refine lv_istore_n (lv' := [(2, .int (zI ((q : Nat) : Int))), (0, .ref d), (1, .int (zI 3))]) hx hb d_Dr_repeatLast_6 rfl hl (by decide) rfl (fun ls hl => ?_)
  refine lv_aload_n hx hb d_Dr_repeatLast_7 rfl (lv_at hl 1 rfl) ?_
  refine lv_iload_n hx hb d_Dr_repeatLast_8 rfl (lv_at hl 0 rfl) ?_
  have hPc : va_P D vwCl [(d, .inr (0, [.ref dn, .ref df, .ref di, .ref dl, .ref dm, .int (zI ((nc : Nat) : Int)), .int (zI (((q + 1) : Nat) : Int))])), (dm, .inl (c 1, 40, .inl (fun j => zB (mb j))))] s.heap := hP.sub (ws' := [(d, .inr (0, [.ref dn, .ref df, .ref di, .ref dl, .ref dm, .int (zI ((nc : Nat) : Int)), .int (zI (((q + 1) : Nat) : Int))])), (dm, .inl (c 1, 40, .inl (fun j => zB (mb j))))]) [0, 7] rfl
  refine vp_callSi (va_runV (rm := rm_hasPart) (As := [.int (zI ((q : Nat) : Int))]) (rest := []) ⟨hx, hb, hml, hown, hts⟩ (c_hasPart l D c d dn df dfw di diw dl dlw dm nm fw iw lw mb nc (q + 1) ((q : Nat) : Int) (by omega) (by omega)) (cwV 1 hts (gWV k_Dr_m48 k_i_Dr_hasPart k_v_Dr_hasPart k_n_Dr k_c_Dr_hasPart) rfl rfl rfl (by decide +kernel) ⟨Nat.le_of_ble_eq_true rfl, Nat.le_of_ble_eq_true rfl⟩) ⟨zblind, va_recv hK hPc (ci := 0) (q0 := 0) rfl rfl, fun U hU hW => ⟨rfl, by rw [hU]; exact hPc, hKN.moved hW⟩⟩ rfl rfl hl.1 rfl (lv_room (Nat.le_of_ble_eq_true rfl)) d_Dr_repeatLast_9 ⟨Nat.zero_le _, Nat.zero_le _⟩).run (fun r hr_1 => ?_)
  subst hr_1
  refine z_ifeq_B (tgt := 25) hx hb d_Dr_repeatLast_12 (by decide) (fun hc_12 => (absurd hc_12 (by rw [decide_eq_true (by omega)]; decide))) (fun hc_12 => ?_)
  refine lv_iload_n hx hb d_Dr_repeatLast_15 rfl (lv_at hl 2 rfl) ?_
  refine lv_iconst (v := zI 1) hx hb d_Dr_repeatLast_16 (by decide) ?_
  refine z_icmp_lt (tgt := 25) hx hb (by omega) d_Dr_repeatLast_17 (by decide) (fun hc_17 => absurd hc_17 (by omega)) (fun hc_17 => ?_)
  refine lv_iload_n hx hb d_Dr_repeatLast_20 rfl (lv_at hl 2 rfl) ?_
  refine lv_iconst (v := zI 3) hx hb d_Dr_repeatLast_21 (by decide) ?_
  refine z_icmp_le (tgt := 27) hx hb (by omega) d_Dr_repeatLast_22 (by decide) (fun hc_22 => ?_) (fun hc_22 => absurd hc_22 (by omega))
  refine lv_iload_n hx hb d_Dr_repeatLast_27 rfl (lv_at hl 2 rfl) ?_
  refine lv_iconst (v := zI 2) hx hb d_Dr_repeatLast_28 (by decide) ?_
  refine z_icmp_eq (tgt := 37) hx hb (by omega) d_Dr_repeatLast_29 (by decide) (fun hc_29 => absurd hc_29 (by omega)) (fun hc_29 => ?_)
  refine lv_iload_n hx hb d_Dr_repeatLast_32 rfl (lv_at hl 2 rfl) ?_
  refine lv_iconst (v := zI 3) hx hb d_Dr_repeatLast_33 (by decide) ?_
  refine z_icmp_ne (tgt := 43) hx hb (by omega) d_Dr_repeatLast_34 (by decide) (fun hc_34 => absurd hc_34 (by omega)) (fun hc_34 => ?_)
  refine lv_aload_n hx hb d_Dr_repeatLast_37 rfl (lv_at hl 1 rfl) ?_
  refine lv_iload_n hx hb d_Dr_repeatLast_38 rfl (lv_at hl 0 rfl) ?_
  refine lv_iload_n hx hb d_Dr_repeatLast_39 rfl (lv_at hl 0 rfl) ?_
  have hPc : va_P D vwCl [(d, .inr (0, [.ref dn, .ref df, .ref di, .ref dl, .ref dm, .int (zI ((nc : Nat) : Int)), .int (zI (((q + 1) : Nat) : Int))])), (df, .inr (3, [.ref dfw])), (dfw, .inl (c 2, 4 * 255, .inr (.inl fw))), (di, .inr (3, [.ref diw])), (diw, .inl (c 2, 4 * 40, .inr (.inl iw))), (dl, .inr (3, [.ref dlw])), (dlw, .inl (c 2, 4 * 40, .inr (.inl lw)))] s.heap := hP.sub (ws' := [(d, .inr (0, [.ref dn, .ref df, .ref di, .ref dl, .ref dm, .int (zI ((nc : Nat) : Int)), .int (zI (((q + 1) : Nat) : Int))])), (df, .inr (3, [.ref dfw])), (dfw, .inl (c 2, 4 * 255, .inr (.inl fw))), (di, .inr (3, [.ref diw])), (diw, .inl (c 2, 4 * 40, .inr (.inl iw))), (dl, .inr (3, [.ref dlw])), (dlw, .inl (c 2, 4 * 40, .inr (.inl lw)))]) [0, 1, 2, 3, 4, 5, 6] rfl
  have hDc : va_D A [(d, .inr (0, [.ref dn, .ref df, .ref di, .ref dl, .ref dm, .int (zI ((nc : Nat) : Int)), .int (zI (((q + 1) : Nat) : Int))])), (df, .inr (3, [.ref dfw])), (dfw, .inl (c 2, 4 * 255, .inr (.inl fw))), (di, .inr (3, [.ref diw])), (diw, .inl (c 2, 4 * 40, .inr (.inl iw))), (dl, .inr (3, [.ref dlw])), (dlw, .inl (c 2, 4 * 40, .inr (.inl lw)))] := hD.sub (ws' := [(d, .inr (0, [.ref dn, .ref df, .ref di, .ref dl, .ref dm, .int (zI ((nc : Nat) : Int)), .int (zI (((q + 1) : Nat) : Int))])), (df, .inr (3, [.ref dfw])), (dfw, .inl (c 2, 4 * 255, .inr (.inl fw))), (di, .inr (3, [.ref diw])), (diw, .inl (c 2, 4 * 40, .inr (.inl iw))), (dl, .inr (3, [.ref dlw])), (dlw, .inl (c 2, 4 * 40, .inr (.inl lw)))]) [0, 1, 2, 3, 4, 5, 6] (by decide) rfl
  have hDt : va_D (fun _ => True) [(d, .inr (0, [.ref dn, .ref df, .ref di, .ref dl, .ref dm, .int (zI ((nc : Nat) : Int)), .int (zI (((q + 1) : Nat) : Int))])), (df, .inr (3, [.ref dfw])), (dfw, .inl (c 2, 4 * 255, .inr (.inl fw))), (di, .inr (3, [.ref diw])), (diw, .inl (c 2, 4 * 40, .inr (.inl iw))), (dl, .inr (3, [.ref dlw])), (dlw, .inl (c 2, 4 * 40, .inr (.inl lw)))] := hDc.weaken (fun _ _ _ _ => trivial)
  refine z_callv (S := Unit) (w1 := fun u => [(d, .inr (0, [.ref dn, .ref df, .ref di, .ref dl, .ref dm, .int (zI ((nc : Nat) : Int)), .int (zI (((q + 1) : Nat) : Int))])), (df, .inr (3, [.ref dfw])), (dfw, .inl (c 2, 4 * 255, .inr (.inl (lfw fw iw lw q q nc)))), (di, .inr (3, [.ref diw])), (diw, .inl (c 2, 4 * 40, .inr (.inl iw))), (dl, .inr (3, [.ref dlw])), (dlw, .inl (c 2, 4 * 40, .inr (.inl lw)))]) (post := fun u => True) (wc := [(d, .inr (0, [.ref dn, .ref df, .ref di, .ref dl, .ref dm, .int (zI ((nc : Nat) : Int)), .int (zI (((q + 1) : Nat) : Int))])), (df, .inr (3, [.ref dfw])), (dfw, .inl (c 2, 4 * 255, .inr (.inl fw))), (di, .inr (3, [.ref diw])), (diw, .inl (c 2, 4 * 40, .inr (.inl iw))), (dl, .inr (3, [.ref dlw])), (dlw, .inl (c 2, 4 * 40, .inr (.inl lw)))]) [0, 1, 2, 3, 4, 5, 6] rfl (fun _ => rfl) hP hD hS (va_runV (rm := rm_letFollow) (As := [.int (zI ((q : Nat) : Int)), .int (zI ((q : Nat) : Int))]) (rest := []) ⟨hx, hb, hml, hown, hts⟩ (c_letFollow l D c d dn df dfw di diw dl dlw dm nm fw iw lw mb nc (q + 1) q q (by omega) (by omega) (by omega)) (cwV 2 hts (gWV k_Dr_m52 k_i_Dr_letFollow k_v_Dr_letFollow k_n_Dr k_c_Dr_letFollow) rfl rfl rfl (by decide +kernel) ⟨Nat.le_of_ble_eq_true rfl, Nat.le_of_ble_eq_true rfl⟩) ⟨zblindW, va_recv hK hPc (ci := 0) (q0 := 0) rfl rfl, fun U hU hW => ⟨rfl, ⟨by rw [hU]; exact hPc, hDt⟩, hKN.moved hW⟩⟩ rfl rfl hl.1 rfl (lv_room (Nat.le_of_ble_eq_true rfl)) d_Dr_repeatLast_40 ⟨Nat.zero_le _, Nat.zero_le _⟩) (fun u H locs hp_2 hP hD hS => ?_)
  have hP : va_P D vwCl [(d, .inr (0, [.ref dn, .ref df, .ref di, .ref dl, .ref dm, .int (zI ((nc : Nat) : Int)), .int (zI (((q + 1) : Nat) : Int))])), (df, .inr (3, [.ref dfw])), (dfw, .inl (c 2, 4 * 255, .inr (.inl (lfw fw iw lw q q nc)))), (di, .inr (3, [.ref diw])), (diw, .inl (c 2, 4 * 40, .inr (.inl iw))), (dl, .inr (3, [.ref dlw])), (dlw, .inl (c 2, 4 * 40, .inr (.inl lw))), (dm, .inl (c 1, 40, .inl (fun j => zB (mb j))))] H := hP
  have hD : va_D A [(d, .inr (0, [.ref dn, .ref df, .ref di, .ref dl, .ref dm, .int (zI ((nc : Nat) : Int)), .int (zI (((q + 1) : Nat) : Int))])), (df, .inr (3, [.ref dfw])), (dfw, .inl (c 2, 4 * 255, .inr (.inl (lfw fw iw lw q q nc)))), (di, .inr (3, [.ref diw])), (diw, .inl (c 2, 4 * 40, .inr (.inl iw))), (dl, .inr (3, [.ref dlw])), (dlw, .inl (c 2, 4 * 40, .inr (.inl lw))), (dm, .inl (c 1, 40, .inl (fun j => zB (mb j))))] := hD
  refine lv_iload_n hx hb d_Dr_repeatLast_43 rfl (lv_at hl 2 rfl) ?_
  refine lv_iconst (v := zI 1) hx hb d_Dr_repeatLast_44 (by decide) ?_
  refine z_icmp_eq (tgt := 53) hx hb (by omega) d_Dr_repeatLast_45 (by decide) (fun hc_45 => absurd hc_45 (by omega)) (fun hc_45 => ?_)
  refine lv_iload_n hx hb d_Dr_repeatLast_48 rfl (lv_at hl 2 rfl) ?_
  refine lv_iconst (v := zI 2) hx hb d_Dr_repeatLast_49 (by decide) ?_
  refine z_icmp_ne (tgt := 60) hx hb (by omega) d_Dr_repeatLast_50 (by decide) (fun hc_50 => ?_) (fun hc_50 => absurd hc_50 (by omega))
  refine lv_iconst (v := zI 1) hx hb d_Dr_repeatLast_60 (by decide) ?_
  subst hQ
  exact W.zret (ty := .boolean) (v := (zI 1)) hx hb hr (by decide) (fun t9 ht hW => ⟨⟨_, (), rfl, ⟨(by decide), trivial⟩, by show va_P _ _ _ t9.heap; rw [ht]; exact hP⟩, hS.F ht⟩) hS.2.2 d_Dr_repeatLast_61
