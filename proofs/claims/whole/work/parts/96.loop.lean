set_option maxHeartbeats 4000000 in
set_option maxRecDepth 100000 in
theorem law_loop {p : Program} {l : Launch} {e : Env} {s : State} {m : MethodId} {below : List Frame} {meth : Method} {c0 : Code} {D : va_G} {c : Nat → ClassId} {b L : Nat} {xs : Nat → Int32} (C0 : lw_At p s m meth c0 b L xs) (hL : L ≤ 1024) (hKN : zK D c s) {x xm d dn df dfw di diw dl dlw dm rd rn rc rcw o0 ka na xla xra aa ea pa ba oa sa qa ca ta td : Nat} : ∀ (k_ n_ i_ : Nat), L - i_ < k_ → i_ = 2 * n_ → i_ ≤ L + 1 → ∀ {mg : Nat → Option Nat} {mk : Nat} {nm : Nat → Nat} {fw : Nat → Int64} {iw : Nat → Int64} {lw : Nat → Int64} {mb : Nat → Bool} {nc : Nat} {pp : Nat} {rmo : Option Nat} {nr : Nat → Nat} {rv : Nat → Int64} {ct : Nat} {kd : Nat → Nat} {nv : Nat → Nat} {lf : Nat → Int} {rt : Nat → Int} {ab : Nat → Int} {em : Nat → Bool} {pv : Nat → Nat} {bv : Nat → Nat} {ov : Nat → Nat} {sv : Nat → Nat} {rdv : Nat → Nat} {cv : Nat → Bool} {lt : Nat → Bool} {tv : Nat → Nat} {nn : Nat} {db : Nat} {mm : Int} {wh : Bool} {lq : Bool} {mo : Nat → Nat} {me : Nat → Nat} {ms : Nat → Nat} {msw : Nat → Nat} {en : Nat → Nat → Nat} {ne : Nat → Nat} {mf : Nat → Nat → Int64} {dt : Nat → Bool} {st : Nat → Nat} {dlo : Nat} {nd : Nat → Nat} {ndm : Nat → Nat → Nat} {nmm : Nat → Nat → Nat} (H : Heap) (locs : List Loc) (ls : Array Slot), va_P D vwCl ((cW c x xm d dn df dfw di diw dl dlw dm rd rn rc rcw mg mk nm fw iw lw mb nc pp rmo nr rv ct) ++ ((rW c o0 ka na xla xra aa ea pa ba oa sa qa ca ta td pp nc mk ct kd nv lf rt ab em pv bv ov sv rdv cv lt tv nn db mm wh lq) ++ pL c mo me ms msw en ne mf dt mk)) H → va_D (fun q : Nat => s.heap.size ≤ q) ((cW c x xm d dn df dfw di diw dl dlw dm rd rn rc rcw mg mk nm fw iw lw mb nc pp rmo nr rv ct) ++ ((rW c o0 ka na xla xra aa ea pa ba oa sa qa ca ta td pp nc mk ct kd nv lf rt ab em pv bv ov sv rdv cv lt tv nn db mm wh lq) ++ pL c mo me ms msw en ne mf dt mk)) → LR n_ mg mk nm fw iw lw mb nc pp rmo nr rv ct kd nv lf rt ab em pv bv ov sv rdv cv lt tv nn db mm wh lq mo me ms msw en ne mf dt st dlo nd ndm nmm → va_S (fun q : Nat => s.heap.size ≤ q) s.heap H locs → lv_has ls 4 [(0, .ref b), (1, .ref x), (2, .ref o0), (3, .int (zI ((i_ : Nat) : Int)))] → W p l e room_1 s m #[Value.ref b] below meth c0 H locs (30 + 4 * n_) (79921 + 1283 * n_) (lw_Z below #[Value.ref b] s) (F0 m 18 ls []) := by
  obtain ⟨hx, hb, hr, hml, hown, hts, hX, hbl, hlocks, hgv⟩ := id C0
  have hbA : ¬ (fun q : Nat => s.heap.size ≤ q) b := Nat.not_le.mpr hbl
  intro k_
  induction k_ with
  | zero => intro n_ i_ h; exact absurd h (Nat.not_lt_zero _)
  | succ k_ ih =>
    intro n_ i_ hk_ hi hiL mg mk nm fw iw lw mb nc pp rmo nr rv ct kd nv lf rt ab em pv bv ov sv rdv cv lt tv nn db mm wh lq mo me ms msw en ne mf dt st dlo nd ndm nmm H locs ls hP hD hR hS hl
    refine lv_iload_n hx hb d_law_18 rfl (lv_at hl 3 rfl) ?_
    refine lv_aload_n hx hb d_law_19 rfl (lv_at hl 0 rfl) ?_
    refine va_slen hx hb hX hbl hbA hS d_law_20 ?_
    refine z_top (v2 := .int (zI ((L : Nat) : Int))) (congrArg Value.int (zI_ofNat L)) ?_
    refine lv_iconst (v := zI 2) hx hb d_law_21 (by decide) ?_
    refine z_isub hx hb d_law_22 ?_
    refine z_icmp_gt (tgt := 372) hx hb (by omega) d_law_23 (by decide) (fun hT => ?_) (fun hF => ?_)
    · refine lv_iconst (v := 1) hx hb d_law_372 (by decide) ?_
      refine va_forget hS.2.2 ?_
      refine W.widen (k := 600000) (n := 7302250) (by omega) (by omega) ?_
      exact lw_ret hx hb hr hlocks d_law_373
    · have hi1 : i_ + 1 < L := by clear hR; omega
      have hn1 : n_ < 512 := by clear hR; omega
      have hk2 : L - (i_ + 2) < k_ := by clear hR; omega
      have hk3 : i_ + 2 = 2 * (n_ + 1) := by clear hR; omega
      have hk4 : i_ + 2 ≤ L + 1 := by clear hR; omega
      have K : ∀ {mg : Nat → Option Nat} {mk : Nat} {nm : Nat → Nat} {fw : Nat → Int64} {iw : Nat → Int64} {lw : Nat → Int64} {mb : Nat → Bool} {nc : Nat} {pp : Nat} {rmo : Option Nat} {nr : Nat → Nat} {rv : Nat → Int64} {ct : Nat} {kd : Nat → Nat} {nv : Nat → Nat} {lf : Nat → Int} {rt : Nat → Int} {ab : Nat → Int} {em : Nat → Bool} {pv : Nat → Nat} {bv : Nat → Nat} {ov : Nat → Nat} {sv : Nat → Nat} {rdv : Nat → Nat} {cv : Nat → Bool} {lt : Nat → Bool} {tv : Nat → Nat} {nn : Nat} {db : Nat} {mm : Int} {wh : Bool} {lq : Bool} {mo : Nat → Nat} {me : Nat → Nat} {ms : Nat → Nat} {msw : Nat → Nat} {en : Nat → Nat → Nat} {ne : Nat → Nat} {mf : Nat → Nat → Int64} {dt : Nat → Bool} {st : Nat → Nat} {dlo : Nat} {nd : Nat → Nat} {ndm : Nat → Nat → Nat} {nmm : Nat → Nat → Nat} (H : Heap) (locs : List Loc) (ls : Array Slot), va_P D vwCl ((cW c x xm d dn df dfw di diw dl dlw dm rd rn rc rcw mg mk nm fw iw lw mb nc pp rmo nr rv ct) ++ ((rW c o0 ka na xla xra aa ea pa ba oa sa qa ca ta td pp nc mk ct kd nv lf rt ab em pv bv ov sv rdv cv lt tv nn db mm wh lq) ++ pL c mo me ms msw en ne mf dt mk)) H → va_D (fun q : Nat => s.heap.size ≤ q) ((cW c x xm d dn df dfw di diw dl dlw dm rd rn rc rcw mg mk nm fw iw lw mb nc pp rmo nr rv ct) ++ ((rW c o0 ka na xla xra aa ea pa ba oa sa qa ca ta td pp nc mk ct kd nv lf rt ab em pv bv ov sv rdv cv lt tv nn db mm wh lq) ++ pL c mo me ms msw en ne mf dt mk)) → LR (n_ + 1) mg mk nm fw iw lw mb nc pp rmo nr rv ct kd nv lf rt ab em pv bv ov sv rdv cv lt tv nn db mm wh lq mo me ms msw en ne mf dt st dlo nd ndm nmm → va_S (fun q : Nat => s.heap.size ≤ q) s.heap H locs → lv_has ls 4 [(0, .ref b), (1, .ref x), (2, .ref o0), (3, .int (zI ((i_ : Nat) : Int)))] → W p l e room_1 s m #[Value.ref b] below meth c0 H locs (30 + 4 * (n_ + 1)) (79921 + 1283 * (n_ + 1)) (lw_Z below #[Value.ref b] s) (F0 m 366 ls []) := by
        intro mg mk nm fw iw lw mb nc pp rmo nr rv ct kd nv lf rt ab em pv bv ov sv rdv cv lt tv nn db mm wh lq mo me ms msw en ne mf dt st dlo nd ndm nmm H locs ls hP hD hR hS hl
        refine lv_iinc (v := zI ((i_ + 2 : Nat) : Int)) (lv' := [(3, .int (zI ((i_ + 2 : Nat) : Int))), (0, .ref b), (1, .ref x), (2, .ref o0)]) hx hb d_law_366 hl (k := 3) rfl (z_incN _ 2) (by decide) rfl (fun ls hl => ?_)
        refine lv_goto (tgt := 18) hx hb d_law_369 (by decide) ?_
        exact ih (n_ + 1) (i_ + 2) hk2 hk3 hk4 H locs ls hP hD hR hS (lv_sub hl [1, 2, 3, 0] rfl)
      refine lv_aload_n hx hb d_law_26 rfl (lv_at hl 0 rfl) ?_
      refine lv_iload_n hx hb d_law_27 rfl (lv_at hl 3 rfl) ?_
      refine z_sld hx hb hX hbl hbA hS i_ rfl (by omega) (by omega) d_law_28 ?_
      refine lv_bipush (v := 15) hx hb d_law_29 (by decide) ?_
      refine lv_iand hx hb d_law_31 ?_
      obtain ⟨j_, hj, he⟩ := pk_andE (xs i_) (m := 15) 4 (by decide)
      refine z_top (v2 := .int (nI j_)) (congrArg Value.int he) ?_
      have hj : j_ < 16 := hj
      rcases (show j_ = 0 ∨ j_ = 1 ∨ j_ = 2 ∨ j_ = 3 ∨ j_ = 4 ∨ j_ = 5 ∨ j_ = 6 ∨ j_ = 7 ∨ j_ = 8 ∨ j_ = 9 ∨ j_ = 10 ∨ j_ = 11 ∨ j_ = 12 ∨ j_ = 13 ∨ j_ = 14 ∨ j_ = 15 by omega) with rfl | rfl | rfl | rfl | rfl | rfl | rfl | rfl | rfl | rfl | rfl | rfl | rfl | rfl | rfl | rfl
      · refine lv_tableIn (tgt := 104) (off := 72) hx hb d_law_32 (by decide) (by decide) rfl (by decide) ?_
        exact law_name C0 hL hKN hn1 hi1 K hP hD hR hS hl
      · refine lv_tableIn (tgt := 127) (off := 95) hx hb d_law_32 (by decide) (by decide) rfl (by decide) ?_
        exact law_row C0 hL hKN hn1 hi1 K hP hD hR hS hl
      · refine lv_tableIn (tgt := 140) (off := 108) hx hb d_law_32 (by decide) (by decide) rfl (by decide) ?_
        exact law_choice C0 hL hKN hn1 hi1 K hP hD hR hS hl
      · refine lv_tableIn (tgt := 153) (off := 121) hx hb d_law_32 (by decide) (by decide) rfl (by decide) ?_
        exact law_often C0 hL hKN hn1 hi1 K hP hD hR hS hl
      · refine lv_tableIn (tgt := 176) (off := 144) hx hb d_law_32 (by decide) (by decide) rfl (by decide) ?_
        exact law_clear C0 hL hKN hn1 hi1 K hP hD hR hS hl
      · refine lv_tableIn (tgt := 189) (off := 157) hx hb d_law_32 (by decide) (by decide) rfl (by decide) ?_
        exact law_make C0 hL hKN hn1 hi1 K hP hD hR hS hl
      · refine lv_tableIn (tgt := 202) (off := 170) hx hb d_law_32 (by decide) (by decide) rfl (by decide) ?_
        exact law_size C0 hL hKN hn1 hi1 K hP hD hR hS hl
      · refine lv_tableIn (tgt := 225) (off := 193) hx hb d_law_32 (by decide) (by decide) rfl (by decide) ?_
        exact law_isDeterministic C0 hL hKN hn1 hi1 K hP hD hR hS hl
      · refine lv_tableIn (tgt := 248) (off := 216) hx hb d_law_32 (by decide) (by decide) rfl (by decide) ?_
        exact law_begin C0 hL hKN hn1 hi1 K hP hD hR hS hl
      · refine lv_tableIn (tgt := 271) (off := 239) hx hb d_law_32 (by decide) (by decide) rfl (by decide) ?_
        exact law_read C0 hL hKN hn1 hi1 K hP hD hR hS hl
      · refine lv_tableIn (tgt := 294) (off := 262) hx hb d_law_32 (by decide) (by decide) rfl (by decide) ?_
        exact law_isWhole C0 hL hKN hn1 hi1 K hP hD hR hS hl
      · refine lv_tableIn (tgt := 307) (off := 275) hx hb d_law_32 (by decide) (by decide) rfl (by decide) ?_
        exact law_can C0 hL hKN hn1 hi1 K hP hD hR hS hl
      · refine lv_tableIn (tgt := 330) (off := 298) hx hb d_law_32 (by decide) (by decide) rfl (by decide) ?_
        exact law_next C0 hL hKN hn1 hi1 K hP hD hR hS hl
      · refine lv_tableIn (tgt := 353) (off := 321) hx hb d_law_32 (by decide) (by decide) rfl (by decide) ?_
        exact law_back C0 hL hKN hn1 hi1 K hP hD hR hS hl
      · refine lv_tableOut (tgt := 366) hx hb d_law_32 (by decide) (by decide) ?_
        refine W.widen (k := 30 + 4 * (n_ + 1)) (n := 79921 + 1283 * (n_ + 1)) (by omega) (by omega) ?_
        exact K H locs ls hP hD ⟨hR.1, hR.2.1, Nat.le_succ_of_le hR.2.2.1, hR.2.2.2⟩ hS hl
      · refine lv_tableOut (tgt := 366) hx hb d_law_32 (by decide) (by decide) ?_
        refine W.widen (k := 30 + 4 * (n_ + 1)) (n := 79921 + 1283 * (n_ + 1)) (by omega) (by omega) ?_
        exact K H locs ls hP hD ⟨hR.1, hR.2.1, Nat.le_succ_of_le hR.2.2.1, hR.2.2.2⟩ hS hl
