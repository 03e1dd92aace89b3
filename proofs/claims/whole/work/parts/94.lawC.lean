set_option maxHeartbeats 4000000 in
set_option maxRecDepth 100000 in
theorem law_name {p : Program} {l : Launch} {e : Env} {s : State} {m : MethodId} {below : List Frame} {meth : Method} {c0 : Code} {D : va_G} {c : Nat → ClassId} {b L : Nat} {xs : Nat → Int32} (C0 : lw_At p s m meth c0 b L xs) (hL : L ≤ 1024) (hKN : zK D c s) {n_ i_ : Nat} {x xm d dn df dfw di diw dl dlw dm rd rn rc rcw o0 ka na xla xra aa ea pa ba oa sa qa ca ta td : Nat} (hn_ : n_ < 512) (hi_ : i_ + 1 < L) (K : ∀ {mg : Nat → Option Nat} {mk : Nat} {nm : Nat → Nat} {fw : Nat → Int64} {iw : Nat → Int64} {lw : Nat → Int64} {mb : Nat → Bool} {nc : Nat} {pp : Nat} {rmo : Option Nat} {nr : Nat → Nat} {rv : Nat → Int64} {ct : Nat} {kd : Nat → Nat} {nv : Nat → Nat} {lf : Nat → Int} {rt : Nat → Int} {ab : Nat → Int} {em : Nat → Bool} {pv : Nat → Nat} {bv : Nat → Nat} {ov : Nat → Nat} {sv : Nat → Nat} {rdv : Nat → Nat} {cv : Nat → Bool} {lt : Nat → Bool} {tv : Nat → Nat} {nn : Nat} {db : Nat} {mm : Int} {wh : Bool} {lq : Bool} {mo : Nat → Nat} {me : Nat → Nat} {ms : Nat → Nat} {msw : Nat → Nat} {en : Nat → Nat → Nat} {ne : Nat → Nat} {mf : Nat → Nat → Int64} {dt : Nat → Bool} {st : Nat → Nat} {dlo : Nat} {nd : Nat → Nat} {ndm : Nat → Nat → Nat} {nmm : Nat → Nat → Nat} (H : Heap) (locs : List Loc) (ls : Array Slot), va_P D vwCl ((cW c x xm d dn df dfw di diw dl dlw dm rd rn rc rcw mg mk nm fw iw lw mb nc pp rmo nr rv ct) ++ ((rW c o0 ka na xla xra aa ea pa ba oa sa qa ca ta td pp nc mk ct kd nv lf rt ab em pv bv ov sv rdv cv lt tv nn db mm wh lq) ++ pL c mo me ms msw en ne mf dt mk)) H → va_D (fun q : Nat => s.heap.size ≤ q) ((cW c x xm d dn df dfw di diw dl dlw dm rd rn rc rcw mg mk nm fw iw lw mb nc pp rmo nr rv ct) ++ ((rW c o0 ka na xla xra aa ea pa ba oa sa qa ca ta td pp nc mk ct kd nv lf rt ab em pv bv ov sv rdv cv lt tv nn db mm wh lq) ++ pL c mo me ms msw en ne mf dt mk)) → LR (n_ + 1) mg mk nm fw iw lw mb nc pp rmo nr rv ct kd nv lf rt ab em pv bv ov sv rdv cv lt tv nn db mm wh lq mo me ms msw en ne mf dt st dlo nd ndm nmm → va_S (fun q : Nat => s.heap.size ≤ q) s.heap H locs → lv_has ls 4 [(0, .ref b), (1, .ref x), (2, .ref o0), (3, .int (zI ((i_ : Nat) : Int)))] → W p l e room_1 s m #[Value.ref b] below meth c0 H locs (30 + 4 * (n_ + 1)) (79921 + 1283 * (n_ + 1)) (lw_Z below #[Value.ref b] s) (F0 m 366 ls [])) {mg : Nat → Option Nat} {mk : Nat} {nm : Nat → Nat} {fw : Nat → Int64} {iw : Nat → Int64} {lw : Nat → Int64} {mb : Nat → Bool} {nc : Nat} {pp : Nat} {rmo : Option Nat} {nr : Nat → Nat} {rv : Nat → Int64} {ct : Nat} {kd : Nat → Nat} {nv : Nat → Nat} {lf : Nat → Int} {rt : Nat → Int} {ab : Nat → Int} {em : Nat → Bool} {pv : Nat → Nat} {bv : Nat → Nat} {ov : Nat → Nat} {sv : Nat → Nat} {rdv : Nat → Nat} {cv : Nat → Bool} {lt : Nat → Bool} {tv : Nat → Nat} {nn : Nat} {db : Nat} {mm : Int} {wh : Bool} {lq : Bool} {mo : Nat → Nat} {me : Nat → Nat} {ms : Nat → Nat} {msw : Nat → Nat} {en : Nat → Nat → Nat} {ne : Nat → Nat} {mf : Nat → Nat → Int64} {dt : Nat → Bool} {st : Nat → Nat} {dlo : Nat} {nd : Nat → Nat} {ndm : Nat → Nat → Nat} {nmm : Nat → Nat → Nat} {H : Heap} {locs : List Loc} {ls : Array Slot} (hP : va_P D vwCl ((cW c x xm d dn df dfw di diw dl dlw dm rd rn rc rcw mg mk nm fw iw lw mb nc pp rmo nr rv ct) ++ ((rW c o0 ka na xla xra aa ea pa ba oa sa qa ca ta td pp nc mk ct kd nv lf rt ab em pv bv ov sv rdv cv lt tv nn db mm wh lq) ++ pL c mo me ms msw en ne mf dt mk)) H) (hD : va_D (fun q : Nat => s.heap.size ≤ q) ((cW c x xm d dn df dfw di diw dl dlw dm rd rn rc rcw mg mk nm fw iw lw mb nc pp rmo nr rv ct) ++ ((rW c o0 ka na xla xra aa ea pa ba oa sa qa ca ta td pp nc mk ct kd nv lf rt ab em pv bv ov sv rdv cv lt tv nn db mm wh lq) ++ pL c mo me ms msw en ne mf dt mk))) (hR : LR n_ mg mk nm fw iw lw mb nc pp rmo nr rv ct kd nv lf rt ab em pv bv ov sv rdv cv lt tv nn db mm wh lq mo me ms msw en ne mf dt st dlo nd ndm nmm) (hS : va_S (fun q : Nat => s.heap.size ≤ q) s.heap H locs) (hl : lv_has ls 4 [(0, .ref b), (1, .ref x), (2, .ref o0), (3, .int (zI ((i_ : Nat) : Int)))]) : W p l e room_1 s m #[Value.ref b] below meth c0 H locs (30 + 4 * n_) (79921 + 1283 * n_) (lw_Z below #[Value.ref b] s) (F0 m 104 ls []) := by
  obtain ⟨hx, hb, hr, hml, hown, hts, hX, hbl, hlocks, hgv⟩ := id C0
  have hbA : ¬ (fun q : Nat => s.heap.size ≤ q) b := Nat.not_le.mpr hbl
  obtain ⟨hdr, hdb, hnn, hmk, hmo, hrd⟩ := hR
  have hdlo := prt_dl hdr.2.1
  have hpp := hdr.1
  have hcl : 30 + 4 * n_ ≤ 600000 := by omega
  have hsl : 79921 + 1283 * n_ ≤ 7302250 := by omega
  have hyr := zI_rng (xs (i_ + 1))
  rcases Decidable.em (1 ≤ (xs (i_ + 1)).toInt ∧ (xs (i_ + 1)).toInt ≤ 1000) with hv | hv
  · obtain ⟨a_, ha_⟩ : ∃ a_ : Nat, (xs (i_ + 1)).toInt = ((a_ : Nat) : Int) := ⟨_, (Int.toNat_of_nonneg (by omega)).symm⟩
    rcases Decidable.em (pp = 40 ∨ nc = 255) with hf | hf
    · refine lv_aload_n hx hb d_law_104 rfl (lv_at hl 1 rfl) ?_
      refine lv_aload_n hx hb d_law_105 rfl (lv_at hl 0 rfl) ?_
      refine lv_iload_n hx hb d_law_106 rfl (lv_at hl 3 rfl) ?_
      refine lv_iconst (v := zI 1) hx hb d_law_107 (by decide) ?_
      refine z_iadd hx hb d_law_108 ?_
      refine z_sld hx hb hX hbl hbA hS (i_ + 1) (by omega) hi_ (by omega) d_law_109 ?_
      refine z_top (v2 := .int (zI ((a_ : Nat) : Int))) (congrArg Value.int ((zI_self _).symm.trans (congrArg zI ha_))) ?_
      refine lc_name_no C0 hKN (by omega) (by omega) (by omega) hf hcl hsl hl.1 (Nat.le_of_ble_eq_true rfl) hP hD hS ?_
      refine lv_aload_n hx hb d_law_113 rfl (lv_at hl 2 rfl) ?_
      refine lv_aload_n hx hb d_law_114 rfl (lv_at hl 0 rfl) ?_
      refine lv_iload_n hx hb d_law_115 rfl (lv_at hl 3 rfl) ?_
      refine lv_iconst (v := zI 1) hx hb d_law_116 (by decide) ?_
      refine z_iadd hx hb d_law_117 ?_
      refine z_sld hx hb hX hbl hbA hS (i_ + 1) (by omega) hi_ (by omega) d_law_118 ?_
      refine z_top (v2 := .int (zI ((a_ : Nat) : Int))) (congrArg Value.int ((zI_self _).symm.trans (congrArg zI ha_))) ?_
      replace hP := z_swP hP
      replace hD := z_swD hD
      refine lc_r_name_no C0 hKN (by omega) (by omega) (by omega) hf hcl hsl hl.1 (Nat.le_of_ble_eq_true rfl) hP hD hS ?_
      replace hP := z_swP hP
      replace hD := z_swD hD
      refine lv_icmp_eq (tgt := 366) hx hb d_law_122 (by decide) (fun _ => ?_) (fun hne => absurd (rfl) hne)
      refine W.widen (k := 30 + 4 * (n_ + 1)) (n := 79921 + 1283 * (n_ + 1)) (by omega) (by omega) ?_
      exact K (st := st) (dlo := dlo) (nd := nd) (ndm := ndm) (nmm := nmm) H locs ls hP hD ⟨hdr, hdb, (by omega), hmk, hmo, hrd⟩ hS hl
    · rcases Nat.eq_zero_or_pos pp with h0 | h0
      · subst h0
        refine lv_aload_n hx hb d_law_104 rfl (lv_at hl 1 rfl) ?_
        refine lv_aload_n hx hb d_law_105 rfl (lv_at hl 0 rfl) ?_
        refine lv_iload_n hx hb d_law_106 rfl (lv_at hl 3 rfl) ?_
        refine lv_iconst (v := zI 1) hx hb d_law_107 (by decide) ?_
        refine z_iadd hx hb d_law_108 ?_
        refine z_sld hx hb hX hbl hbA hS (i_ + 1) (by omega) hi_ (by omega) d_law_109 ?_
        refine z_top (v2 := .int (zI ((a_ : Nat) : Int))) (congrArg Value.int ((zI_self _).symm.trans (congrArg zI ha_))) ?_
        refine lc_name C0 hKN (by omega) (by omega) (by omega) hcl hsl hl.1 (Nat.le_of_ble_eq_true rfl) hP hD hS (fun  H locs hP hD hS => ?_)
        refine lv_aload_n hx hb d_law_113 rfl (lv_at hl 2 rfl) ?_
        refine lv_aload_n hx hb d_law_114 rfl (lv_at hl 0 rfl) ?_
        refine lv_iload_n hx hb d_law_115 rfl (lv_at hl 3 rfl) ?_
        refine lv_iconst (v := zI 1) hx hb d_law_116 (by decide) ?_
        refine z_iadd hx hb d_law_117 ?_
        refine z_sld hx hb hX hbl hbA hS (i_ + 1) (by omega) hi_ (by omega) d_law_118 ?_
        refine z_top (v2 := .int (zI ((a_ : Nat) : Int))) (congrArg Value.int ((zI_self _).symm.trans (congrArg zI ha_))) ?_
        replace hP := z_swP hP
        replace hD := z_swD hD
        refine lc_r_name0 C0 hKN (by omega) (by omega) (by omega) hcl hsl hl.1 (Nat.le_of_ble_eq_true rfl) hP hD hS (fun  H locs hP hD hS => ?_)
        replace hP := z_swP hP
        replace hD := z_swD hD
        refine lv_icmp_eq (tgt := 366) hx hb d_law_122 (by decide) (fun _ => ?_) (fun hne => absurd (rfl) hne)
        refine W.widen (k := 30 + 4 * (n_ + 1)) (n := 79921 + 1283 * (n_ + 1)) (by omega) (by omega) ?_
        exact K (st := va_up st nn nn) (dlo := dlo) (nd := va_up nd nc nn) (ndm := ndm) (nmm := nmm) H locs ls hP hD ⟨d_name hdr (by omega) (by omega) ⟨by omega, by omega⟩, fun _ => hdr.2.1.2.1 rfl, (by omega), hmk, (fun k hk => ⟨(hmo k hk).1, (hmo k hk).2.1, (hmo k hk).2.2.1, m_agr (hmo k hk).2.2.2 (fun p hp => by have := (hmo k hk).2.1; exact ⟨up_ne (by omega), up_ne (by omega), up_ne (by omega), up_ne (by omega)⟩) (fun p hp => by have := (hmo k hk).2.1; exact ⟨up_ne (by omega), up_ne (by omega), up_ne (by omega)⟩)⟩), (hrd.imp id (fun ⟨k, hk, e1, e2, g⟩ => ⟨k, hk, e1, e2, rd_agr (hmo k hk).2.2.2 g (fun p hp => by have := (hmo k hk).2.1; exact ⟨up_ne (by omega), up_ne (by omega), up_ne (by omega), up_ne (by omega)⟩) (fun p hp => by have := (hmo k hk).2.1; exact up_ne (by omega))⟩))⟩ hS hl
      · refine lv_aload_n hx hb d_law_104 rfl (lv_at hl 1 rfl) ?_
        refine lv_aload_n hx hb d_law_105 rfl (lv_at hl 0 rfl) ?_
        refine lv_iload_n hx hb d_law_106 rfl (lv_at hl 3 rfl) ?_
        refine lv_iconst (v := zI 1) hx hb d_law_107 (by decide) ?_
        refine z_iadd hx hb d_law_108 ?_
        refine z_sld hx hb hX hbl hbA hS (i_ + 1) (by omega) hi_ (by omega) d_law_109 ?_
        refine z_top (v2 := .int (zI ((a_ : Nat) : Int))) (congrArg Value.int ((zI_self _).symm.trans (congrArg zI ha_))) ?_
        refine lc_name C0 hKN (by omega) (by omega) (by omega) hcl hsl hl.1 (Nat.le_of_ble_eq_true rfl) hP hD hS (fun  H locs hP hD hS => ?_)
        refine lv_aload_n hx hb d_law_113 rfl (lv_at hl 2 rfl) ?_
        refine lv_aload_n hx hb d_law_114 rfl (lv_at hl 0 rfl) ?_
        refine lv_iload_n hx hb d_law_115 rfl (lv_at hl 3 rfl) ?_
        refine lv_iconst (v := zI 1) hx hb d_law_116 (by decide) ?_
        refine z_iadd hx hb d_law_117 ?_
        refine z_sld hx hb hX hbl hbA hS (i_ + 1) (by omega) hi_ (by omega) d_law_118 ?_
        refine z_top (v2 := .int (zI ((a_ : Nat) : Int))) (congrArg Value.int ((zI_self _).symm.trans (congrArg zI ha_))) ?_
        replace hP := z_swP hP
        replace hD := z_swD hD
        refine lc_r_name1 C0 hKN (by omega) (by omega) (by omega) (by omega) hcl hsl hl.1 (Nat.le_of_ble_eq_true rfl) hP hD hS (fun  H locs hP hD hS => ?_)
        replace hP := z_swP hP
        replace hD := z_swD hD
        refine lv_icmp_eq (tgt := 366) hx hb d_law_122 (by decide) (fun _ => ?_) (fun hne => absurd (rfl) hne)
        refine W.widen (k := 30 + 4 * (n_ + 1)) (n := 79921 + 1283 * (n_ + 1)) (by omega) (by omega) ?_
        exact K (st := va_up st nn nn) (dlo := dlo) (nd := va_up nd nc nn) (ndm := ndm) (nmm := nmm) H locs ls hP hD ⟨d_name hdr (by omega) (by omega) ⟨by omega, by omega⟩, fun _ => hdb h0, (by omega), hmk, (fun k hk => ⟨(hmo k hk).1, (hmo k hk).2.1, (hmo k hk).2.2.1, m_agr (hmo k hk).2.2.2 (fun p hp => by have := (hmo k hk).2.1; exact ⟨up_ne (by omega), up_ne (by omega), up_ne (by omega), up_ne (by omega)⟩) (fun p hp => by have := (hmo k hk).2.1; exact ⟨up_ne (by omega), up_ne (by omega), up_ne (by omega)⟩)⟩), (hrd.imp id (fun ⟨k, hk, e1, e2, g⟩ => ⟨k, hk, e1, e2, rd_agr (hmo k hk).2.2.2 g (fun p hp => by have := (hmo k hk).2.1; exact ⟨up_ne (by omega), up_ne (by omega), up_ne (by omega), up_ne (by omega)⟩) (fun p hp => by have := (hmo k hk).2.1; exact up_ne (by omega))⟩))⟩ hS hl
  · refine lv_aload_n hx hb d_law_104 rfl (lv_at hl 1 rfl) ?_
    refine lv_aload_n hx hb d_law_105 rfl (lv_at hl 0 rfl) ?_
    refine lv_iload_n hx hb d_law_106 rfl (lv_at hl 3 rfl) ?_
    refine lv_iconst (v := zI 1) hx hb d_law_107 (by decide) ?_
    refine z_iadd hx hb d_law_108 ?_
    refine z_sld hx hb hX hbl hbA hS (i_ + 1) (by omega) hi_ (by omega) d_law_109 ?_
    refine z_top (v2 := .int (zI ((xs (i_ + 1)).toInt))) (congrArg Value.int ((zI_self _).symm)) ?_
    refine lc_name_bad C0 hKN hyr hv hcl hsl hl.1 (Nat.le_of_ble_eq_true rfl) hP hD hS ?_
    refine lv_aload_n hx hb d_law_113 rfl (lv_at hl 2 rfl) ?_
    refine lv_aload_n hx hb d_law_114 rfl (lv_at hl 0 rfl) ?_
    refine lv_iload_n hx hb d_law_115 rfl (lv_at hl 3 rfl) ?_
    refine lv_iconst (v := zI 1) hx hb d_law_116 (by decide) ?_
    refine z_iadd hx hb d_law_117 ?_
    refine z_sld hx hb hX hbl hbA hS (i_ + 1) (by omega) hi_ (by omega) d_law_118 ?_
    refine z_top (v2 := .int (zI ((xs (i_ + 1)).toInt))) (congrArg Value.int ((zI_self _).symm)) ?_
    replace hP := z_swP hP
    replace hD := z_swD hD
    refine lc_r_name_bad C0 hKN hyr hv hcl hsl hl.1 (Nat.le_of_ble_eq_true rfl) hP hD hS ?_
    replace hP := z_swP hP
    replace hD := z_swD hD
    refine lv_icmp_eq (tgt := 366) hx hb d_law_122 (by decide) (fun _ => ?_) (fun hne => absurd (rfl) hne)
    refine W.widen (k := 30 + 4 * (n_ + 1)) (n := 79921 + 1283 * (n_ + 1)) (by omega) (by omega) ?_
    exact K (st := st) (dlo := dlo) (nd := nd) (ndm := ndm) (nmm := nmm) H locs ls hP hD ⟨hdr, hdb, (by omega), hmk, hmo, hrd⟩ hS hl

set_option maxHeartbeats 4000000 in
set_option maxRecDepth 100000 in
theorem law_row {p : Program} {l : Launch} {e : Env} {s : State} {m : MethodId} {below : List Frame} {meth : Method} {c0 : Code} {D : va_G} {c : Nat → ClassId} {b L : Nat} {xs : Nat → Int32} (C0 : lw_At p s m meth c0 b L xs) (hL : L ≤ 1024) (hKN : zK D c s) {n_ i_ : Nat} {x xm d dn df dfw di diw dl dlw dm rd rn rc rcw o0 ka na xla xra aa ea pa ba oa sa qa ca ta td : Nat} (hn_ : n_ < 512) (hi_ : i_ + 1 < L) (K : ∀ {mg : Nat → Option Nat} {mk : Nat} {nm : Nat → Nat} {fw : Nat → Int64} {iw : Nat → Int64} {lw : Nat → Int64} {mb : Nat → Bool} {nc : Nat} {pp : Nat} {rmo : Option Nat} {nr : Nat → Nat} {rv : Nat → Int64} {ct : Nat} {kd : Nat → Nat} {nv : Nat → Nat} {lf : Nat → Int} {rt : Nat → Int} {ab : Nat → Int} {em : Nat → Bool} {pv : Nat → Nat} {bv : Nat → Nat} {ov : Nat → Nat} {sv : Nat → Nat} {rdv : Nat → Nat} {cv : Nat → Bool} {lt : Nat → Bool} {tv : Nat → Nat} {nn : Nat} {db : Nat} {mm : Int} {wh : Bool} {lq : Bool} {mo : Nat → Nat} {me : Nat → Nat} {ms : Nat → Nat} {msw : Nat → Nat} {en : Nat → Nat → Nat} {ne : Nat → Nat} {mf : Nat → Nat → Int64} {dt : Nat → Bool} {st : Nat → Nat} {dlo : Nat} {nd : Nat → Nat} {ndm : Nat → Nat → Nat} {nmm : Nat → Nat → Nat} (H : Heap) (locs : List Loc) (ls : Array Slot), va_P D vwCl ((cW c x xm d dn df dfw di diw dl dlw dm rd rn rc rcw mg mk nm fw iw lw mb nc pp rmo nr rv ct) ++ ((rW c o0 ka na xla xra aa ea pa ba oa sa qa ca ta td pp nc mk ct kd nv lf rt ab em pv bv ov sv rdv cv lt tv nn db mm wh lq) ++ pL c mo me ms msw en ne mf dt mk)) H → va_D (fun q : Nat => s.heap.size ≤ q) ((cW c x xm d dn df dfw di diw dl dlw dm rd rn rc rcw mg mk nm fw iw lw mb nc pp rmo nr rv ct) ++ ((rW c o0 ka na xla xra aa ea pa ba oa sa qa ca ta td pp nc mk ct kd nv lf rt ab em pv bv ov sv rdv cv lt tv nn db mm wh lq) ++ pL c mo me ms msw en ne mf dt mk)) → LR (n_ + 1) mg mk nm fw iw lw mb nc pp rmo nr rv ct kd nv lf rt ab em pv bv ov sv rdv cv lt tv nn db mm wh lq mo me ms msw en ne mf dt st dlo nd ndm nmm → va_S (fun q : Nat => s.heap.size ≤ q) s.heap H locs → lv_has ls 4 [(0, .ref b), (1, .ref x), (2, .ref o0), (3, .int (zI ((i_ : Nat) : Int)))] → W p l e room_1 s m #[Value.ref b] below meth c0 H locs (30 + 4 * (n_ + 1)) (79921 + 1283 * (n_ + 1)) (lw_Z below #[Value.ref b] s) (F0 m 366 ls [])) {mg : Nat → Option Nat} {mk : Nat} {nm : Nat → Nat} {fw : Nat → Int64} {iw : Nat → Int64} {lw : Nat → Int64} {mb : Nat → Bool} {nc : Nat} {pp : Nat} {rmo : Option Nat} {nr : Nat → Nat} {rv : Nat → Int64} {ct : Nat} {kd : Nat → Nat} {nv : Nat → Nat} {lf : Nat → Int} {rt : Nat → Int} {ab : Nat → Int} {em : Nat → Bool} {pv : Nat → Nat} {bv : Nat → Nat} {ov : Nat → Nat} {sv : Nat → Nat} {rdv : Nat → Nat} {cv : Nat → Bool} {lt : Nat → Bool} {tv : Nat → Nat} {nn : Nat} {db : Nat} {mm : Int} {wh : Bool} {lq : Bool} {mo : Nat → Nat} {me : Nat → Nat} {ms : Nat → Nat} {msw : Nat → Nat} {en : Nat → Nat → Nat} {ne : Nat → Nat} {mf : Nat → Nat → Int64} {dt : Nat → Bool} {st : Nat → Nat} {dlo : Nat} {nd : Nat → Nat} {ndm : Nat → Nat → Nat} {nmm : Nat → Nat → Nat} {H : Heap} {locs : List Loc} {ls : Array Slot} (hP : va_P D vwCl ((cW c x xm d dn df dfw di diw dl dlw dm rd rn rc rcw mg mk nm fw iw lw mb nc pp rmo nr rv ct) ++ ((rW c o0 ka na xla xra aa ea pa ba oa sa qa ca ta td pp nc mk ct kd nv lf rt ab em pv bv ov sv rdv cv lt tv nn db mm wh lq) ++ pL c mo me ms msw en ne mf dt mk)) H) (hD : va_D (fun q : Nat => s.heap.size ≤ q) ((cW c x xm d dn df dfw di diw dl dlw dm rd rn rc rcw mg mk nm fw iw lw mb nc pp rmo nr rv ct) ++ ((rW c o0 ka na xla xra aa ea pa ba oa sa qa ca ta td pp nc mk ct kd nv lf rt ab em pv bv ov sv rdv cv lt tv nn db mm wh lq) ++ pL c mo me ms msw en ne mf dt mk))) (hR : LR n_ mg mk nm fw iw lw mb nc pp rmo nr rv ct kd nv lf rt ab em pv bv ov sv rdv cv lt tv nn db mm wh lq mo me ms msw en ne mf dt st dlo nd ndm nmm) (hS : va_S (fun q : Nat => s.heap.size ≤ q) s.heap H locs) (hl : lv_has ls 4 [(0, .ref b), (1, .ref x), (2, .ref o0), (3, .int (zI ((i_ : Nat) : Int)))]) : W p l e room_1 s m #[Value.ref b] below meth c0 H locs (30 + 4 * n_) (79921 + 1283 * n_) (lw_Z below #[Value.ref b] s) (F0 m 127 ls []) := by
  obtain ⟨hx, hb, hr, hml, hown, hts, hX, hbl, hlocks, hgv⟩ := id C0
  have hbA : ¬ (fun q : Nat => s.heap.size ≤ q) b := Nat.not_le.mpr hbl
  obtain ⟨hdr, hdb, hnn, hmk, hmo, hrd⟩ := hR
  have hdlo := prt_dl hdr.2.1
  have hpp := hdr.1
  have hcl : 30 + 4 * n_ ≤ 600000 := by omega
  have hsl : 79921 + 1283 * n_ ≤ 7302250 := by omega
  rcases Nat.lt_or_ge pp 2 with h2 | h2
  · refine lv_aload_n hx hb d_law_127 rfl (lv_at hl 1 rfl) ?_
    refine lc_row_no C0 hKN (by omega) hcl hsl hl.1 (Nat.le_of_ble_eq_true rfl) hP hD hS ?_
    refine lv_aload_n hx hb d_law_131 rfl (lv_at hl 2 rfl) ?_
    replace hP := z_swP hP
    replace hD := z_swD hD
    refine lc_r_row_no C0 hKN (by omega) hcl hsl hl.1 (Nat.le_of_ble_eq_true rfl) hP hD hS ?_
    replace hP := z_swP hP
    replace hD := z_swD hD
    refine lv_icmp_eq (tgt := 366) hx hb d_law_135 (by decide) (fun _ => ?_) (fun hne => absurd (rfl) hne)
    refine W.widen (k := 30 + 4 * (n_ + 1)) (n := 79921 + 1283 * (n_ + 1)) (by omega) (by omega) ?_
    exact K (st := st) (dlo := dlo) (nd := nd) (ndm := ndm) (nmm := nmm) H locs ls hP hD ⟨hdr, hdb, (by omega), hmk, hmo, hrd⟩ hS hl
  · obtain ⟨q, rfl⟩ : ∃ q, pp = q + 2 := ⟨pp - 2, by omega⟩
    have hq0 := hdr.2.1.1 q (by omega)
    have hq1 := hdr.2.1.1 (q + 1) (by omega)
    have hq2 := hq0.1.1
    have hq3 := hq1.1.1
    have hq4 := hq0.2.2
    have hq5 := hq1.2.2
    refine lv_aload_n hx hb d_law_127 rfl (lv_at hl 1 rfl) ?_
    refine lc_row C0 hKN (by omega) (by omega) hcl hsl hl.1 (Nat.le_of_ble_eq_true rfl) hP hD hS (fun  H locs hP hD hS => ?_)
    refine lv_aload_n hx hb d_law_131 rfl (lv_at hl 2 rfl) ?_
    replace hP := z_swP hP
    replace hD := z_swD hD
    refine lc_r_row C0 hKN (by omega) (by omega) (by omega) (by omega) hcl hsl hl.1 (Nat.le_of_ble_eq_true rfl) hP hD hS (fun  H locs hP hD hS => ?_)
    replace hP := z_swP hP
    replace hD := z_swD hD
    refine lv_icmp_eq (tgt := 366) hx hb d_law_135 (by decide) (fun _ => ?_) (fun hne => absurd (rfl) hne)
    refine W.widen (k := 30 + 4 * (n_ + 1)) (n := 79921 + 1283 * (n_ + 1)) (by omega) (by omega) ?_
    exact K (st := va_up st nn (st (pv q))) (dlo := dlo) (nd := nd) (ndm := ndm) (nmm := nmm) H locs ls hP hD ⟨d_row hdr, fun _ => hdb (by omega), (by omega), hmk, (fun k hk => ⟨(hmo k hk).1, (hmo k hk).2.1, (hmo k hk).2.2.1, m_agr (hmo k hk).2.2.2 (fun p hp => by have := (hmo k hk).2.1; exact ⟨up_ne (by omega), up_ne (by omega), up_ne (by omega), up_ne (by omega)⟩) (fun p hp => by have := (hmo k hk).2.1; exact ⟨by rw [up_ne (by omega), up_ne (by omega), up_ne (by omega)], up_ne (by omega), up_ne (by omega)⟩)⟩), (hrd.imp id (fun ⟨k, hk, e1, e2, g⟩ => ⟨k, hk, e1, e2, rd_agr (hmo k hk).2.2.2 g (fun p hp => by have := (hmo k hk).2.1; exact ⟨up_ne (by omega), up_ne (by omega), up_ne (by omega), up_ne (by omega)⟩) (fun p hp => by have := (hmo k hk).2.1; exact up_ne (by omega))⟩))⟩ hS hl

set_option maxHeartbeats 4000000 in
set_option maxRecDepth 100000 in
theorem law_choice {p : Program} {l : Launch} {e : Env} {s : State} {m : MethodId} {below : List Frame} {meth : Method} {c0 : Code} {D : va_G} {c : Nat → ClassId} {b L : Nat} {xs : Nat → Int32} (C0 : lw_At p s m meth c0 b L xs) (hL : L ≤ 1024) (hKN : zK D c s) {n_ i_ : Nat} {x xm d dn df dfw di diw dl dlw dm rd rn rc rcw o0 ka na xla xra aa ea pa ba oa sa qa ca ta td : Nat} (hn_ : n_ < 512) (hi_ : i_ + 1 < L) (K : ∀ {mg : Nat → Option Nat} {mk : Nat} {nm : Nat → Nat} {fw : Nat → Int64} {iw : Nat → Int64} {lw : Nat → Int64} {mb : Nat → Bool} {nc : Nat} {pp : Nat} {rmo : Option Nat} {nr : Nat → Nat} {rv : Nat → Int64} {ct : Nat} {kd : Nat → Nat} {nv : Nat → Nat} {lf : Nat → Int} {rt : Nat → Int} {ab : Nat → Int} {em : Nat → Bool} {pv : Nat → Nat} {bv : Nat → Nat} {ov : Nat → Nat} {sv : Nat → Nat} {rdv : Nat → Nat} {cv : Nat → Bool} {lt : Nat → Bool} {tv : Nat → Nat} {nn : Nat} {db : Nat} {mm : Int} {wh : Bool} {lq : Bool} {mo : Nat → Nat} {me : Nat → Nat} {ms : Nat → Nat} {msw : Nat → Nat} {en : Nat → Nat → Nat} {ne : Nat → Nat} {mf : Nat → Nat → Int64} {dt : Nat → Bool} {st : Nat → Nat} {dlo : Nat} {nd : Nat → Nat} {ndm : Nat → Nat → Nat} {nmm : Nat → Nat → Nat} (H : Heap) (locs : List Loc) (ls : Array Slot), va_P D vwCl ((cW c x xm d dn df dfw di diw dl dlw dm rd rn rc rcw mg mk nm fw iw lw mb nc pp rmo nr rv ct) ++ ((rW c o0 ka na xla xra aa ea pa ba oa sa qa ca ta td pp nc mk ct kd nv lf rt ab em pv bv ov sv rdv cv lt tv nn db mm wh lq) ++ pL c mo me ms msw en ne mf dt mk)) H → va_D (fun q : Nat => s.heap.size ≤ q) ((cW c x xm d dn df dfw di diw dl dlw dm rd rn rc rcw mg mk nm fw iw lw mb nc pp rmo nr rv ct) ++ ((rW c o0 ka na xla xra aa ea pa ba oa sa qa ca ta td pp nc mk ct kd nv lf rt ab em pv bv ov sv rdv cv lt tv nn db mm wh lq) ++ pL c mo me ms msw en ne mf dt mk)) → LR (n_ + 1) mg mk nm fw iw lw mb nc pp rmo nr rv ct kd nv lf rt ab em pv bv ov sv rdv cv lt tv nn db mm wh lq mo me ms msw en ne mf dt st dlo nd ndm nmm → va_S (fun q : Nat => s.heap.size ≤ q) s.heap H locs → lv_has ls 4 [(0, .ref b), (1, .ref x), (2, .ref o0), (3, .int (zI ((i_ : Nat) : Int)))] → W p l e room_1 s m #[Value.ref b] below meth c0 H locs (30 + 4 * (n_ + 1)) (79921 + 1283 * (n_ + 1)) (lw_Z below #[Value.ref b] s) (F0 m 366 ls [])) {mg : Nat → Option Nat} {mk : Nat} {nm : Nat → Nat} {fw : Nat → Int64} {iw : Nat → Int64} {lw : Nat → Int64} {mb : Nat → Bool} {nc : Nat} {pp : Nat} {rmo : Option Nat} {nr : Nat → Nat} {rv : Nat → Int64} {ct : Nat} {kd : Nat → Nat} {nv : Nat → Nat} {lf : Nat → Int} {rt : Nat → Int} {ab : Nat → Int} {em : Nat → Bool} {pv : Nat → Nat} {bv : Nat → Nat} {ov : Nat → Nat} {sv : Nat → Nat} {rdv : Nat → Nat} {cv : Nat → Bool} {lt : Nat → Bool} {tv : Nat → Nat} {nn : Nat} {db : Nat} {mm : Int} {wh : Bool} {lq : Bool} {mo : Nat → Nat} {me : Nat → Nat} {ms : Nat → Nat} {msw : Nat → Nat} {en : Nat → Nat → Nat} {ne : Nat → Nat} {mf : Nat → Nat → Int64} {dt : Nat → Bool} {st : Nat → Nat} {dlo : Nat} {nd : Nat → Nat} {ndm : Nat → Nat → Nat} {nmm : Nat → Nat → Nat} {H : Heap} {locs : List Loc} {ls : Array Slot} (hP : va_P D vwCl ((cW c x xm d dn df dfw di diw dl dlw dm rd rn rc rcw mg mk nm fw iw lw mb nc pp rmo nr rv ct) ++ ((rW c o0 ka na xla xra aa ea pa ba oa sa qa ca ta td pp nc mk ct kd nv lf rt ab em pv bv ov sv rdv cv lt tv nn db mm wh lq) ++ pL c mo me ms msw en ne mf dt mk)) H) (hD : va_D (fun q : Nat => s.heap.size ≤ q) ((cW c x xm d dn df dfw di diw dl dlw dm rd rn rc rcw mg mk nm fw iw lw mb nc pp rmo nr rv ct) ++ ((rW c o0 ka na xla xra aa ea pa ba oa sa qa ca ta td pp nc mk ct kd nv lf rt ab em pv bv ov sv rdv cv lt tv nn db mm wh lq) ++ pL c mo me ms msw en ne mf dt mk))) (hR : LR n_ mg mk nm fw iw lw mb nc pp rmo nr rv ct kd nv lf rt ab em pv bv ov sv rdv cv lt tv nn db mm wh lq mo me ms msw en ne mf dt st dlo nd ndm nmm) (hS : va_S (fun q : Nat => s.heap.size ≤ q) s.heap H locs) (hl : lv_has ls 4 [(0, .ref b), (1, .ref x), (2, .ref o0), (3, .int (zI ((i_ : Nat) : Int)))]) : W p l e room_1 s m #[Value.ref b] below meth c0 H locs (30 + 4 * n_) (79921 + 1283 * n_) (lw_Z below #[Value.ref b] s) (F0 m 140 ls []) := by
  obtain ⟨hx, hb, hr, hml, hown, hts, hX, hbl, hlocks, hgv⟩ := id C0
  have hbA : ¬ (fun q : Nat => s.heap.size ≤ q) b := Nat.not_le.mpr hbl
  obtain ⟨hdr, hdb, hnn, hmk, hmo, hrd⟩ := hR
  have hdlo := prt_dl hdr.2.1
  have hpp := hdr.1
  have hcl : 30 + 4 * n_ ≤ 600000 := by omega
  have hsl : 79921 + 1283 * n_ ≤ 7302250 := by omega
  rcases Nat.lt_or_ge pp 2 with h2 | h2
  · refine lv_aload_n hx hb d_law_140 rfl (lv_at hl 1 rfl) ?_
    refine lc_choice_no C0 hKN (by omega) hcl hsl hl.1 (Nat.le_of_ble_eq_true rfl) hP hD hS ?_
    refine lv_aload_n hx hb d_law_144 rfl (lv_at hl 2 rfl) ?_
    replace hP := z_swP hP
    replace hD := z_swD hD
    refine lc_r_choice_no C0 hKN (by omega) hcl hsl hl.1 (Nat.le_of_ble_eq_true rfl) hP hD hS ?_
    replace hP := z_swP hP
    replace hD := z_swD hD
    refine lv_icmp_eq (tgt := 366) hx hb d_law_148 (by decide) (fun _ => ?_) (fun hne => absurd (rfl) hne)
    refine W.widen (k := 30 + 4 * (n_ + 1)) (n := 79921 + 1283 * (n_ + 1)) (by omega) (by omega) ?_
    exact K (st := st) (dlo := dlo) (nd := nd) (ndm := ndm) (nmm := nmm) H locs ls hP hD ⟨hdr, hdb, (by omega), hmk, hmo, hrd⟩ hS hl
  · obtain ⟨q, rfl⟩ : ∃ q, pp = q + 2 := ⟨pp - 2, by omega⟩
    have hq0 := hdr.2.1.1 q (by omega)
    have hq1 := hdr.2.1.1 (q + 1) (by omega)
    have hq2 := hq0.1.1
    have hq3 := hq1.1.1
    have hq4 := hq0.2.2
    have hq5 := hq1.2.2
    refine lv_aload_n hx hb d_law_140 rfl (lv_at hl 1 rfl) ?_
    refine lc_choice C0 hKN (by omega) hcl hsl hl.1 (Nat.le_of_ble_eq_true rfl) hP hD hS (fun  H locs hP hD hS => ?_)
    refine lv_aload_n hx hb d_law_144 rfl (lv_at hl 2 rfl) ?_
    replace hP := z_swP hP
    replace hD := z_swD hD
    refine lc_r_choice C0 hKN (by omega) (by omega) (by omega) (by omega) hcl hsl hl.1 (Nat.le_of_ble_eq_true rfl) hP hD hS (fun  H locs hP hD hS => ?_)
    replace hP := z_swP hP
    replace hD := z_swD hD
    refine lv_icmp_eq (tgt := 366) hx hb d_law_148 (by decide) (fun _ => ?_) (fun hne => absurd (rfl) hne)
    refine W.widen (k := 30 + 4 * (n_ + 1)) (n := 79921 + 1283 * (n_ + 1)) (by omega) (by omega) ?_
    exact K (st := va_up st nn (st (pv q))) (dlo := dlo) (nd := nd) (ndm := ndm) (nmm := nmm) H locs ls hP hD ⟨d_choice hdr, fun _ => hdb (by omega), (by omega), hmk, (fun k hk => ⟨(hmo k hk).1, (hmo k hk).2.1, (hmo k hk).2.2.1, m_agr (hmo k hk).2.2.2 (fun p hp => by have := (hmo k hk).2.1; exact ⟨up_ne (by omega), up_ne (by omega), up_ne (by omega), up_ne (by omega)⟩) (fun p hp => by have := (hmo k hk).2.1; exact ⟨by rw [up_ne (by omega), up_ne (by omega), up_ne (by omega)], up_ne (by omega), up_ne (by omega)⟩)⟩), (hrd.imp id (fun ⟨k, hk, e1, e2, g⟩ => ⟨k, hk, e1, e2, rd_agr (hmo k hk).2.2.2 g (fun p hp => by have := (hmo k hk).2.1; exact ⟨up_ne (by omega), up_ne (by omega), up_ne (by omega), up_ne (by omega)⟩) (fun p hp => by have := (hmo k hk).2.1; exact up_ne (by omega))⟩))⟩ hS hl

set_option maxHeartbeats 4000000 in
set_option maxRecDepth 100000 in
theorem law_often {p : Program} {l : Launch} {e : Env} {s : State} {m : MethodId} {below : List Frame} {meth : Method} {c0 : Code} {D : va_G} {c : Nat → ClassId} {b L : Nat} {xs : Nat → Int32} (C0 : lw_At p s m meth c0 b L xs) (hL : L ≤ 1024) (hKN : zK D c s) {n_ i_ : Nat} {x xm d dn df dfw di diw dl dlw dm rd rn rc rcw o0 ka na xla xra aa ea pa ba oa sa qa ca ta td : Nat} (hn_ : n_ < 512) (hi_ : i_ + 1 < L) (K : ∀ {mg : Nat → Option Nat} {mk : Nat} {nm : Nat → Nat} {fw : Nat → Int64} {iw : Nat → Int64} {lw : Nat → Int64} {mb : Nat → Bool} {nc : Nat} {pp : Nat} {rmo : Option Nat} {nr : Nat → Nat} {rv : Nat → Int64} {ct : Nat} {kd : Nat → Nat} {nv : Nat → Nat} {lf : Nat → Int} {rt : Nat → Int} {ab : Nat → Int} {em : Nat → Bool} {pv : Nat → Nat} {bv : Nat → Nat} {ov : Nat → Nat} {sv : Nat → Nat} {rdv : Nat → Nat} {cv : Nat → Bool} {lt : Nat → Bool} {tv : Nat → Nat} {nn : Nat} {db : Nat} {mm : Int} {wh : Bool} {lq : Bool} {mo : Nat → Nat} {me : Nat → Nat} {ms : Nat → Nat} {msw : Nat → Nat} {en : Nat → Nat → Nat} {ne : Nat → Nat} {mf : Nat → Nat → Int64} {dt : Nat → Bool} {st : Nat → Nat} {dlo : Nat} {nd : Nat → Nat} {ndm : Nat → Nat → Nat} {nmm : Nat → Nat → Nat} (H : Heap) (locs : List Loc) (ls : Array Slot), va_P D vwCl ((cW c x xm d dn df dfw di diw dl dlw dm rd rn rc rcw mg mk nm fw iw lw mb nc pp rmo nr rv ct) ++ ((rW c o0 ka na xla xra aa ea pa ba oa sa qa ca ta td pp nc mk ct kd nv lf rt ab em pv bv ov sv rdv cv lt tv nn db mm wh lq) ++ pL c mo me ms msw en ne mf dt mk)) H → va_D (fun q : Nat => s.heap.size ≤ q) ((cW c x xm d dn df dfw di diw dl dlw dm rd rn rc rcw mg mk nm fw iw lw mb nc pp rmo nr rv ct) ++ ((rW c o0 ka na xla xra aa ea pa ba oa sa qa ca ta td pp nc mk ct kd nv lf rt ab em pv bv ov sv rdv cv lt tv nn db mm wh lq) ++ pL c mo me ms msw en ne mf dt mk)) → LR (n_ + 1) mg mk nm fw iw lw mb nc pp rmo nr rv ct kd nv lf rt ab em pv bv ov sv rdv cv lt tv nn db mm wh lq mo me ms msw en ne mf dt st dlo nd ndm nmm → va_S (fun q : Nat => s.heap.size ≤ q) s.heap H locs → lv_has ls 4 [(0, .ref b), (1, .ref x), (2, .ref o0), (3, .int (zI ((i_ : Nat) : Int)))] → W p l e room_1 s m #[Value.ref b] below meth c0 H locs (30 + 4 * (n_ + 1)) (79921 + 1283 * (n_ + 1)) (lw_Z below #[Value.ref b] s) (F0 m 366 ls [])) {mg : Nat → Option Nat} {mk : Nat} {nm : Nat → Nat} {fw : Nat → Int64} {iw : Nat → Int64} {lw : Nat → Int64} {mb : Nat → Bool} {nc : Nat} {pp : Nat} {rmo : Option Nat} {nr : Nat → Nat} {rv : Nat → Int64} {ct : Nat} {kd : Nat → Nat} {nv : Nat → Nat} {lf : Nat → Int} {rt : Nat → Int} {ab : Nat → Int} {em : Nat → Bool} {pv : Nat → Nat} {bv : Nat → Nat} {ov : Nat → Nat} {sv : Nat → Nat} {rdv : Nat → Nat} {cv : Nat → Bool} {lt : Nat → Bool} {tv : Nat → Nat} {nn : Nat} {db : Nat} {mm : Int} {wh : Bool} {lq : Bool} {mo : Nat → Nat} {me : Nat → Nat} {ms : Nat → Nat} {msw : Nat → Nat} {en : Nat → Nat → Nat} {ne : Nat → Nat} {mf : Nat → Nat → Int64} {dt : Nat → Bool} {st : Nat → Nat} {dlo : Nat} {nd : Nat → Nat} {ndm : Nat → Nat → Nat} {nmm : Nat → Nat → Nat} {H : Heap} {locs : List Loc} {ls : Array Slot} (hP : va_P D vwCl ((cW c x xm d dn df dfw di diw dl dlw dm rd rn rc rcw mg mk nm fw iw lw mb nc pp rmo nr rv ct) ++ ((rW c o0 ka na xla xra aa ea pa ba oa sa qa ca ta td pp nc mk ct kd nv lf rt ab em pv bv ov sv rdv cv lt tv nn db mm wh lq) ++ pL c mo me ms msw en ne mf dt mk)) H) (hD : va_D (fun q : Nat => s.heap.size ≤ q) ((cW c x xm d dn df dfw di diw dl dlw dm rd rn rc rcw mg mk nm fw iw lw mb nc pp rmo nr rv ct) ++ ((rW c o0 ka na xla xra aa ea pa ba oa sa qa ca ta td pp nc mk ct kd nv lf rt ab em pv bv ov sv rdv cv lt tv nn db mm wh lq) ++ pL c mo me ms msw en ne mf dt mk))) (hR : LR n_ mg mk nm fw iw lw mb nc pp rmo nr rv ct kd nv lf rt ab em pv bv ov sv rdv cv lt tv nn db mm wh lq mo me ms msw en ne mf dt st dlo nd ndm nmm) (hS : va_S (fun q : Nat => s.heap.size ≤ q) s.heap H locs) (hl : lv_has ls 4 [(0, .ref b), (1, .ref x), (2, .ref o0), (3, .int (zI ((i_ : Nat) : Int)))]) : W p l e room_1 s m #[Value.ref b] below meth c0 H locs (30 + 4 * n_) (79921 + 1283 * n_) (lw_Z below #[Value.ref b] s) (F0 m 153 ls []) := by
  obtain ⟨hx, hb, hr, hml, hown, hts, hX, hbl, hlocks, hgv⟩ := id C0
  have hbA : ¬ (fun q : Nat => s.heap.size ≤ q) b := Nat.not_le.mpr hbl
  obtain ⟨hdr, hdb, hnn, hmk, hmo, hrd⟩ := hR
  have hdlo := prt_dl hdr.2.1
  have hpp := hdr.1
  have hcl : 30 + 4 * n_ ≤ 600000 := by omega
  have hsl : 79921 + 1283 * n_ ≤ 7302250 := by omega
  have hyr := zI_rng (xs (i_ + 1))
  rcases Decidable.em (pp = 0 ∨ (xs (i_ + 1)).toInt < 1 ∨ 3 < (xs (i_ + 1)).toInt) with hv | hv
  · refine lv_aload_n hx hb d_law_153 rfl (lv_at hl 1 rfl) ?_
    refine lv_aload_n hx hb d_law_154 rfl (lv_at hl 0 rfl) ?_
    refine lv_iload_n hx hb d_law_155 rfl (lv_at hl 3 rfl) ?_
    refine lv_iconst (v := zI 1) hx hb d_law_156 (by decide) ?_
    refine z_iadd hx hb d_law_157 ?_
    refine z_sld hx hb hX hbl hbA hS (i_ + 1) (by omega) hi_ (by omega) d_law_158 ?_
    refine z_top (v2 := .int (zI ((xs (i_ + 1)).toInt))) (congrArg Value.int ((zI_self _).symm)) ?_
    refine lc_often_no C0 hKN (by omega) hyr hv hcl hsl hl.1 (Nat.le_of_ble_eq_true rfl) hP hD hS ?_
    refine lv_aload_n hx hb d_law_162 rfl (lv_at hl 2 rfl) ?_
    refine lv_aload_n hx hb d_law_163 rfl (lv_at hl 0 rfl) ?_
    refine lv_iload_n hx hb d_law_164 rfl (lv_at hl 3 rfl) ?_
    refine lv_iconst (v := zI 1) hx hb d_law_165 (by decide) ?_
    refine z_iadd hx hb d_law_166 ?_
    refine z_sld hx hb hX hbl hbA hS (i_ + 1) (by omega) hi_ (by omega) d_law_167 ?_
    refine z_top (v2 := .int (zI ((xs (i_ + 1)).toInt))) (congrArg Value.int ((zI_self _).symm)) ?_
    replace hP := z_swP hP
    replace hD := z_swD hD
    refine lc_r_often_no C0 hKN hyr (by omega) hv hcl hsl hl.1 (Nat.le_of_ble_eq_true rfl) hP hD hS ?_
    replace hP := z_swP hP
    replace hD := z_swD hD
    refine lv_icmp_eq (tgt := 366) hx hb d_law_171 (by decide) (fun _ => ?_) (fun hne => absurd (rfl) hne)
    refine W.widen (k := 30 + 4 * (n_ + 1)) (n := 79921 + 1283 * (n_ + 1)) (by omega) (by omega) ?_
    exact K (st := st) (dlo := dlo) (nd := nd) (ndm := ndm) (nmm := nmm) H locs ls hP hD ⟨hdr, hdb, (by omega), hmk, hmo, hrd⟩ hS hl
  · obtain ⟨q, rfl⟩ : ∃ q, pp = q + 1 := ⟨pp - 1, by omega⟩
    have hq0 := hdr.2.1.1 q (by omega)
    have hq2 := hq0.1.1
    have hq4 := hq0.2.2
    have hkd := tr_kd hq0.1 hq2 (Nat.le_refl _)
    rcases (show (xs (i_ + 1)).toInt = 1 ∨ (xs (i_ + 1)).toInt = 2 ∨ (xs (i_ + 1)).toInt = 3 by omega) with hy1 | hy1 | hy1
    · rcases Decidable.em (kd (pv q) = 1 ∨ kd (pv q) = 2) with hk1 | hk1
      · refine lv_aload_n hx hb d_law_153 rfl (lv_at hl 1 rfl) ?_
        refine lv_aload_n hx hb d_law_154 rfl (lv_at hl 0 rfl) ?_
        refine lv_iload_n hx hb d_law_155 rfl (lv_at hl 3 rfl) ?_
        refine lv_iconst (v := zI 1) hx hb d_law_156 (by decide) ?_
        refine z_iadd hx hb d_law_157 ?_
        refine z_sld hx hb hX hbl hbA hS (i_ + 1) (by omega) hi_ (by omega) d_law_158 ?_
        refine z_top (v2 := .int (zI 1)) (congrArg Value.int ((zI_self _).symm.trans (congrArg zI hy1))) ?_
        refine lc_often1 C0 hKN (by omega) (by omega) hcl hsl hl.1 (Nat.le_of_ble_eq_true rfl) hP hD hS (fun  H locs hP hD hS => ?_)
        refine lv_aload_n hx hb d_law_162 rfl (lv_at hl 2 rfl) ?_
        refine lv_aload_n hx hb d_law_163 rfl (lv_at hl 0 rfl) ?_
        refine lv_iload_n hx hb d_law_164 rfl (lv_at hl 3 rfl) ?_
        refine lv_iconst (v := zI 1) hx hb d_law_165 (by decide) ?_
        refine z_iadd hx hb d_law_166 ?_
        refine z_sld hx hb hX hbl hbA hS (i_ + 1) (by omega) hi_ (by omega) d_law_167 ?_
        refine z_top (v2 := .int (zI ((1 : Nat) : Int))) (congrArg Value.int ((zI_self _).symm.trans (congrArg zI (show _ = ((1 : Nat) : Int) from hy1)))) ?_
        replace hP := z_swP hP
        replace hD := z_swD hD
        refine lc_r_often_same C0 hKN (by omega) (by omega) (by omega) (by omega) hk1 hcl hsl hl.1 (Nat.le_of_ble_eq_true rfl) hP hD hS ?_
        replace hP := z_swP hP
        replace hD := z_swD hD
        refine lv_icmp_eq (tgt := 366) hx hb d_law_171 (by decide) (fun _ => ?_) (fun hne => absurd (rfl) hne)
        refine W.widen (k := 30 + 4 * (n_ + 1)) (n := 79921 + 1283 * (n_ + 1)) (by omega) (by omega) ?_
        exact K (st := st) (dlo := dlo) (nd := nd) (ndm := ndm) (nmm := nmm) H locs ls hP hD ⟨d_same1 hdr hk1, hdb, (by omega), hmk, hmo, hrd⟩ hS hl
      · rcases Decidable.em (kd (pv q) = 1 ∨ kd (pv q) = 3) with hk2 | hk2
        · refine lv_aload_n hx hb d_law_153 rfl (lv_at hl 1 rfl) ?_
          refine lv_aload_n hx hb d_law_154 rfl (lv_at hl 0 rfl) ?_
          refine lv_iload_n hx hb d_law_155 rfl (lv_at hl 3 rfl) ?_
          refine lv_iconst (v := zI 1) hx hb d_law_156 (by decide) ?_
          refine z_iadd hx hb d_law_157 ?_
          refine z_sld hx hb hX hbl hbA hS (i_ + 1) (by omega) hi_ (by omega) d_law_158 ?_
          refine z_top (v2 := .int (zI 1)) (congrArg Value.int ((zI_self _).symm.trans (congrArg zI hy1))) ?_
          refine lc_often1 C0 hKN (by omega) (by omega) hcl hsl hl.1 (Nat.le_of_ble_eq_true rfl) hP hD hS (fun  H locs hP hD hS => ?_)
          refine lv_aload_n hx hb d_law_162 rfl (lv_at hl 2 rfl) ?_
          refine lv_aload_n hx hb d_law_163 rfl (lv_at hl 0 rfl) ?_
          refine lv_iload_n hx hb d_law_164 rfl (lv_at hl 3 rfl) ?_
          refine lv_iconst (v := zI 1) hx hb d_law_165 (by decide) ?_
          refine z_iadd hx hb d_law_166 ?_
          refine z_sld hx hb hX hbl hbA hS (i_ + 1) (by omega) hi_ (by omega) d_law_167 ?_
          refine z_top (v2 := .int (zI ((1 : Nat) : Int))) (congrArg Value.int ((zI_self _).symm.trans (congrArg zI (show _ = ((1 : Nat) : Int) from hy1)))) ?_
          replace hP := z_swP hP
          replace hD := z_swD hD
          refine lc_r_often_up C0 hKN (by omega) (by omega) (by omega) (by omega) ⟨hk2, by omega⟩ hcl hsl hl.1 (Nat.le_of_ble_eq_true rfl) hP hD hS (fun  H locs hP hD hS => ?_)
          replace hP := z_swP hP
          replace hD := z_swD hD
          refine lv_icmp_eq (tgt := 366) hx hb d_law_171 (by decide) (fun _ => ?_) (fun hne => absurd (rfl) hne)
          refine W.widen (k := 30 + 4 * (n_ + 1)) (n := 79921 + 1283 * (n_ + 1)) (by omega) (by omega) ?_
          exact K (st := st) (dlo := dlo) (nd := nd) (ndm := ndm) (nmm := nmm) H locs ls hP hD ⟨d_up1 hdr (by omega), hdb, (by omega), hmk, (fun k hk => ⟨(hmo k hk).1, (hmo k hk).2.1, (hmo k hk).2.2.1, m_agr (hmo k hk).2.2.2 (fun p hp => by have := (hmo k hk).2.1; exact ⟨up_ne (by omega), rfl, rfl, up_ne (by omega)⟩) (fun p hp => by have := (hmo k hk).2.1; exact ⟨rfl, rfl, rfl⟩)⟩), (hrd.imp id (fun ⟨k, hk, e1, e2, g⟩ => ⟨k, hk, e1, e2, rd_agr (hmo k hk).2.2.2 g (fun p hp => by have := (hmo k hk).2.1; exact ⟨up_ne (by omega), rfl, rfl, up_ne (by omega)⟩) (fun p hp => by have := (hmo k hk).2.1; exact rfl)⟩))⟩ hS hl
        · refine lv_aload_n hx hb d_law_153 rfl (lv_at hl 1 rfl) ?_
          refine lv_aload_n hx hb d_law_154 rfl (lv_at hl 0 rfl) ?_
          refine lv_iload_n hx hb d_law_155 rfl (lv_at hl 3 rfl) ?_
          refine lv_iconst (v := zI 1) hx hb d_law_156 (by decide) ?_
          refine z_iadd hx hb d_law_157 ?_
          refine z_sld hx hb hX hbl hbA hS (i_ + 1) (by omega) hi_ (by omega) d_law_158 ?_
          refine z_top (v2 := .int (zI 1)) (congrArg Value.int ((zI_self _).symm.trans (congrArg zI hy1))) ?_
          refine lc_often1 C0 hKN (by omega) (by omega) hcl hsl hl.1 (Nat.le_of_ble_eq_true rfl) hP hD hS (fun  H locs hP hD hS => ?_)
          refine lv_aload_n hx hb d_law_162 rfl (lv_at hl 2 rfl) ?_
          refine lv_aload_n hx hb d_law_163 rfl (lv_at hl 0 rfl) ?_
          refine lv_iload_n hx hb d_law_164 rfl (lv_at hl 3 rfl) ?_
          refine lv_iconst (v := zI 1) hx hb d_law_165 (by decide) ?_
          refine z_iadd hx hb d_law_166 ?_
          refine z_sld hx hb hX hbl hbA hS (i_ + 1) (by omega) hi_ (by omega) d_law_167 ?_
          refine z_top (v2 := .int (zI 1)) (congrArg Value.int ((zI_self _).symm.trans (congrArg zI hy1))) ?_
          replace hP := z_swP hP
          replace hD := z_swD hD
          refine lc_r_often1 C0 hKN (by omega) (by omega) (by omega) (by omega) hcl hsl hl.1 (Nat.le_of_ble_eq_true rfl) hP hD hS (fun  H locs hP hD hS => ?_)
          replace hP := z_swP hP
          replace hD := z_swD hD
          refine lv_icmp_eq (tgt := 366) hx hb d_law_171 (by decide) (fun _ => ?_) (fun hne => absurd (rfl) hne)
          refine W.widen (k := 30 + 4 * (n_ + 1)) (n := 79921 + 1283 * (n_ + 1)) (by omega) (by omega) ?_
          exact K (st := va_up st nn (st (pv q))) (dlo := dlo) (nd := nd) (ndm := ndm) (nmm := nmm) H locs ls hP hD ⟨d_new1 hdr, hdb, (by omega), hmk, (fun k hk => ⟨(hmo k hk).1, (hmo k hk).2.1, (hmo k hk).2.2.1, m_agr (hmo k hk).2.2.2 (fun p hp => by have := (hmo k hk).2.1; exact ⟨up_ne (by omega), up_ne (by omega), up_ne (by omega), up_ne (by omega)⟩) (fun p hp => by have := (hmo k hk).2.1; exact ⟨by rw [up_ne (by omega), up_ne (by omega)], up_ne (by omega), up_ne (by omega)⟩)⟩), (hrd.imp id (fun ⟨k, hk, e1, e2, g⟩ => ⟨k, hk, e1, e2, rd_agr (hmo k hk).2.2.2 g (fun p hp => by have := (hmo k hk).2.1; exact ⟨up_ne (by omega), up_ne (by omega), up_ne (by omega), up_ne (by omega)⟩) (fun p hp => by have := (hmo k hk).2.1; exact up_ne (by omega))⟩))⟩ hS hl
    · rcases Decidable.em (kd (pv q) = 2 ∨ kd (pv q) = 2) with hk1 | hk1
      · refine lv_aload_n hx hb d_law_153 rfl (lv_at hl 1 rfl) ?_
        refine lv_aload_n hx hb d_law_154 rfl (lv_at hl 0 rfl) ?_
        refine lv_iload_n hx hb d_law_155 rfl (lv_at hl 3 rfl) ?_
        refine lv_iconst (v := zI 1) hx hb d_law_156 (by decide) ?_
        refine z_iadd hx hb d_law_157 ?_
        refine z_sld hx hb hX hbl hbA hS (i_ + 1) (by omega) hi_ (by omega) d_law_158 ?_
        refine z_top (v2 := .int (zI 2)) (congrArg Value.int ((zI_self _).symm.trans (congrArg zI hy1))) ?_
        refine lc_often2 C0 hKN (by omega) (by omega) hcl hsl hl.1 (Nat.le_of_ble_eq_true rfl) hP hD hS (fun  H locs hP hD hS => ?_)
        refine lv_aload_n hx hb d_law_162 rfl (lv_at hl 2 rfl) ?_
        refine lv_aload_n hx hb d_law_163 rfl (lv_at hl 0 rfl) ?_
        refine lv_iload_n hx hb d_law_164 rfl (lv_at hl 3 rfl) ?_
        refine lv_iconst (v := zI 1) hx hb d_law_165 (by decide) ?_
        refine z_iadd hx hb d_law_166 ?_
        refine z_sld hx hb hX hbl hbA hS (i_ + 1) (by omega) hi_ (by omega) d_law_167 ?_
        refine z_top (v2 := .int (zI ((2 : Nat) : Int))) (congrArg Value.int ((zI_self _).symm.trans (congrArg zI (show _ = ((2 : Nat) : Int) from hy1)))) ?_
        replace hP := z_swP hP
        replace hD := z_swD hD
        refine lc_r_often_same C0 hKN (by omega) (by omega) (by omega) (by omega) hk1 hcl hsl hl.1 (Nat.le_of_ble_eq_true rfl) hP hD hS ?_
        replace hP := z_swP hP
        replace hD := z_swD hD
        refine lv_icmp_eq (tgt := 366) hx hb d_law_171 (by decide) (fun _ => ?_) (fun hne => absurd (rfl) hne)
        refine W.widen (k := 30 + 4 * (n_ + 1)) (n := 79921 + 1283 * (n_ + 1)) (by omega) (by omega) ?_
        exact K (st := st) (dlo := dlo) (nd := nd) (ndm := ndm) (nmm := nmm) H locs ls hP hD ⟨d_same2 hdr (by omega), hdb, (by omega), hmk, hmo, hrd⟩ hS hl
      · rcases Decidable.em (kd (pv q) = 1 ∨ kd (pv q) = 3) with hk2 | hk2
        · refine lv_aload_n hx hb d_law_153 rfl (lv_at hl 1 rfl) ?_
          refine lv_aload_n hx hb d_law_154 rfl (lv_at hl 0 rfl) ?_
          refine lv_iload_n hx hb d_law_155 rfl (lv_at hl 3 rfl) ?_
          refine lv_iconst (v := zI 1) hx hb d_law_156 (by decide) ?_
          refine z_iadd hx hb d_law_157 ?_
          refine z_sld hx hb hX hbl hbA hS (i_ + 1) (by omega) hi_ (by omega) d_law_158 ?_
          refine z_top (v2 := .int (zI 2)) (congrArg Value.int ((zI_self _).symm.trans (congrArg zI hy1))) ?_
          refine lc_often2 C0 hKN (by omega) (by omega) hcl hsl hl.1 (Nat.le_of_ble_eq_true rfl) hP hD hS (fun  H locs hP hD hS => ?_)
          refine lv_aload_n hx hb d_law_162 rfl (lv_at hl 2 rfl) ?_
          refine lv_aload_n hx hb d_law_163 rfl (lv_at hl 0 rfl) ?_
          refine lv_iload_n hx hb d_law_164 rfl (lv_at hl 3 rfl) ?_
          refine lv_iconst (v := zI 1) hx hb d_law_165 (by decide) ?_
          refine z_iadd hx hb d_law_166 ?_
          refine z_sld hx hb hX hbl hbA hS (i_ + 1) (by omega) hi_ (by omega) d_law_167 ?_
          refine z_top (v2 := .int (zI ((2 : Nat) : Int))) (congrArg Value.int ((zI_self _).symm.trans (congrArg zI (show _ = ((2 : Nat) : Int) from hy1)))) ?_
          replace hP := z_swP hP
          replace hD := z_swD hD
          refine lc_r_often_up C0 hKN (by omega) (by omega) (by omega) (by omega) ⟨hk2, by omega⟩ hcl hsl hl.1 (Nat.le_of_ble_eq_true rfl) hP hD hS (fun  H locs hP hD hS => ?_)
          replace hP := z_swP hP
          replace hD := z_swD hD
          refine lv_icmp_eq (tgt := 366) hx hb d_law_171 (by decide) (fun _ => ?_) (fun hne => absurd (rfl) hne)
          refine W.widen (k := 30 + 4 * (n_ + 1)) (n := 79921 + 1283 * (n_ + 1)) (by omega) (by omega) ?_
          exact K (st := st) (dlo := dlo) (nd := nd) (ndm := ndm) (nmm := nmm) H locs ls hP hD ⟨d_up2 hdr hk2, hdb, (by omega), hmk, (fun k hk => ⟨(hmo k hk).1, (hmo k hk).2.1, (hmo k hk).2.2.1, m_agr (hmo k hk).2.2.2 (fun p hp => by have := (hmo k hk).2.1; exact ⟨up_ne (by omega), rfl, rfl, up_ne (by omega)⟩) (fun p hp => by have := (hmo k hk).2.1; exact ⟨rfl, rfl, rfl⟩)⟩), (hrd.imp id (fun ⟨k, hk, e1, e2, g⟩ => ⟨k, hk, e1, e2, rd_agr (hmo k hk).2.2.2 g (fun p hp => by have := (hmo k hk).2.1; exact ⟨up_ne (by omega), rfl, rfl, up_ne (by omega)⟩) (fun p hp => by have := (hmo k hk).2.1; exact rfl)⟩))⟩ hS hl
        · refine lv_aload_n hx hb d_law_153 rfl (lv_at hl 1 rfl) ?_
          refine lv_aload_n hx hb d_law_154 rfl (lv_at hl 0 rfl) ?_
          refine lv_iload_n hx hb d_law_155 rfl (lv_at hl 3 rfl) ?_
          refine lv_iconst (v := zI 1) hx hb d_law_156 (by decide) ?_
          refine z_iadd hx hb d_law_157 ?_
          refine z_sld hx hb hX hbl hbA hS (i_ + 1) (by omega) hi_ (by omega) d_law_158 ?_
          refine z_top (v2 := .int (zI 2)) (congrArg Value.int ((zI_self _).symm.trans (congrArg zI hy1))) ?_
          refine lc_often2 C0 hKN (by omega) (by omega) hcl hsl hl.1 (Nat.le_of_ble_eq_true rfl) hP hD hS (fun  H locs hP hD hS => ?_)
          refine lv_aload_n hx hb d_law_162 rfl (lv_at hl 2 rfl) ?_
          refine lv_aload_n hx hb d_law_163 rfl (lv_at hl 0 rfl) ?_
          refine lv_iload_n hx hb d_law_164 rfl (lv_at hl 3 rfl) ?_
          refine lv_iconst (v := zI 1) hx hb d_law_165 (by decide) ?_
          refine z_iadd hx hb d_law_166 ?_
          refine z_sld hx hb hX hbl hbA hS (i_ + 1) (by omega) hi_ (by omega) d_law_167 ?_
          refine z_top (v2 := .int (zI 2)) (congrArg Value.int ((zI_self _).symm.trans (congrArg zI hy1))) ?_
          replace hP := z_swP hP
          replace hD := z_swD hD
          refine lc_r_often2 C0 hKN (by omega) (by omega) (by omega) (by omega) hcl hsl hl.1 (Nat.le_of_ble_eq_true rfl) hP hD hS (fun  H locs hP hD hS => ?_)
          replace hP := z_swP hP
          replace hD := z_swD hD
          refine lv_icmp_eq (tgt := 366) hx hb d_law_171 (by decide) (fun _ => ?_) (fun hne => absurd (rfl) hne)
          refine W.widen (k := 30 + 4 * (n_ + 1)) (n := 79921 + 1283 * (n_ + 1)) (by omega) (by omega) ?_
          exact K (st := va_up st nn (st (pv q))) (dlo := dlo) (nd := nd) (ndm := ndm) (nmm := nmm) H locs ls hP hD ⟨d_new2 hdr, hdb, (by omega), hmk, (fun k hk => ⟨(hmo k hk).1, (hmo k hk).2.1, (hmo k hk).2.2.1, m_agr (hmo k hk).2.2.2 (fun p hp => by have := (hmo k hk).2.1; exact ⟨up_ne (by omega), up_ne (by omega), up_ne (by omega), up_ne (by omega)⟩) (fun p hp => by have := (hmo k hk).2.1; exact ⟨by rw [up_ne (by omega), up_ne (by omega)], up_ne (by omega), up_ne (by omega)⟩)⟩), (hrd.imp id (fun ⟨k, hk, e1, e2, g⟩ => ⟨k, hk, e1, e2, rd_agr (hmo k hk).2.2.2 g (fun p hp => by have := (hmo k hk).2.1; exact ⟨up_ne (by omega), up_ne (by omega), up_ne (by omega), up_ne (by omega)⟩) (fun p hp => by have := (hmo k hk).2.1; exact up_ne (by omega))⟩))⟩ hS hl
    · rcases Decidable.em (kd (pv q) = 3 ∨ kd (pv q) = 2) with hk1 | hk1
      · refine lv_aload_n hx hb d_law_153 rfl (lv_at hl 1 rfl) ?_
        refine lv_aload_n hx hb d_law_154 rfl (lv_at hl 0 rfl) ?_
        refine lv_iload_n hx hb d_law_155 rfl (lv_at hl 3 rfl) ?_
        refine lv_iconst (v := zI 1) hx hb d_law_156 (by decide) ?_
        refine z_iadd hx hb d_law_157 ?_
        refine z_sld hx hb hX hbl hbA hS (i_ + 1) (by omega) hi_ (by omega) d_law_158 ?_
        refine z_top (v2 := .int (zI 3)) (congrArg Value.int ((zI_self _).symm.trans (congrArg zI hy1))) ?_
        refine lc_often3 C0 hKN (by omega) (by omega) hcl hsl hl.1 (Nat.le_of_ble_eq_true rfl) hP hD hS (fun  H locs hP hD hS => ?_)
        refine lv_aload_n hx hb d_law_162 rfl (lv_at hl 2 rfl) ?_
        refine lv_aload_n hx hb d_law_163 rfl (lv_at hl 0 rfl) ?_
        refine lv_iload_n hx hb d_law_164 rfl (lv_at hl 3 rfl) ?_
        refine lv_iconst (v := zI 1) hx hb d_law_165 (by decide) ?_
        refine z_iadd hx hb d_law_166 ?_
        refine z_sld hx hb hX hbl hbA hS (i_ + 1) (by omega) hi_ (by omega) d_law_167 ?_
        refine z_top (v2 := .int (zI ((3 : Nat) : Int))) (congrArg Value.int ((zI_self _).symm.trans (congrArg zI (show _ = ((3 : Nat) : Int) from hy1)))) ?_
        replace hP := z_swP hP
        replace hD := z_swD hD
        refine lc_r_often_same C0 hKN (by omega) (by omega) (by omega) (by omega) hk1 hcl hsl hl.1 (Nat.le_of_ble_eq_true rfl) hP hD hS ?_
        replace hP := z_swP hP
        replace hD := z_swD hD
        refine lv_icmp_eq (tgt := 366) hx hb d_law_171 (by decide) (fun _ => ?_) (fun hne => absurd (rfl) hne)
        refine W.widen (k := 30 + 4 * (n_ + 1)) (n := 79921 + 1283 * (n_ + 1)) (by omega) (by omega) ?_
        exact K (st := st) (dlo := dlo) (nd := nd) (ndm := ndm) (nmm := nmm) H locs ls hP hD ⟨d_same3 hdr (by omega), hdb, (by omega), hmk, hmo, hrd⟩ hS hl
      · rcases Decidable.em (kd (pv q) = 1 ∨ kd (pv q) = 3) with hk2 | hk2
        · refine lv_aload_n hx hb d_law_153 rfl (lv_at hl 1 rfl) ?_
          refine lv_aload_n hx hb d_law_154 rfl (lv_at hl 0 rfl) ?_
          refine lv_iload_n hx hb d_law_155 rfl (lv_at hl 3 rfl) ?_
          refine lv_iconst (v := zI 1) hx hb d_law_156 (by decide) ?_
          refine z_iadd hx hb d_law_157 ?_
          refine z_sld hx hb hX hbl hbA hS (i_ + 1) (by omega) hi_ (by omega) d_law_158 ?_
          refine z_top (v2 := .int (zI 3)) (congrArg Value.int ((zI_self _).symm.trans (congrArg zI hy1))) ?_
          refine lc_often3 C0 hKN (by omega) (by omega) hcl hsl hl.1 (Nat.le_of_ble_eq_true rfl) hP hD hS (fun  H locs hP hD hS => ?_)
          refine lv_aload_n hx hb d_law_162 rfl (lv_at hl 2 rfl) ?_
          refine lv_aload_n hx hb d_law_163 rfl (lv_at hl 0 rfl) ?_
          refine lv_iload_n hx hb d_law_164 rfl (lv_at hl 3 rfl) ?_
          refine lv_iconst (v := zI 1) hx hb d_law_165 (by decide) ?_
          refine z_iadd hx hb d_law_166 ?_
          refine z_sld hx hb hX hbl hbA hS (i_ + 1) (by omega) hi_ (by omega) d_law_167 ?_
          refine z_top (v2 := .int (zI ((3 : Nat) : Int))) (congrArg Value.int ((zI_self _).symm.trans (congrArg zI (show _ = ((3 : Nat) : Int) from hy1)))) ?_
          replace hP := z_swP hP
          replace hD := z_swD hD
          refine lc_r_often_up C0 hKN (by omega) (by omega) (by omega) (by omega) ⟨hk2, by omega⟩ hcl hsl hl.1 (Nat.le_of_ble_eq_true rfl) hP hD hS (fun  H locs hP hD hS => ?_)
          replace hP := z_swP hP
          replace hD := z_swD hD
          refine lv_icmp_eq (tgt := 366) hx hb d_law_171 (by decide) (fun _ => ?_) (fun hne => absurd (rfl) hne)
          refine W.widen (k := 30 + 4 * (n_ + 1)) (n := 79921 + 1283 * (n_ + 1)) (by omega) (by omega) ?_
          exact K (st := st) (dlo := dlo) (nd := nd) (ndm := ndm) (nmm := nmm) H locs ls hP hD ⟨d_up3 hdr (by omega), hdb, (by omega), hmk, (fun k hk => ⟨(hmo k hk).1, (hmo k hk).2.1, (hmo k hk).2.2.1, m_agr (hmo k hk).2.2.2 (fun p hp => by have := (hmo k hk).2.1; exact ⟨up_ne (by omega), rfl, rfl, up_ne (by omega)⟩) (fun p hp => by have := (hmo k hk).2.1; exact ⟨rfl, rfl, rfl⟩)⟩), (hrd.imp id (fun ⟨k, hk, e1, e2, g⟩ => ⟨k, hk, e1, e2, rd_agr (hmo k hk).2.2.2 g (fun p hp => by have := (hmo k hk).2.1; exact ⟨up_ne (by omega), rfl, rfl, up_ne (by omega)⟩) (fun p hp => by have := (hmo k hk).2.1; exact rfl)⟩))⟩ hS hl
        · refine lv_aload_n hx hb d_law_153 rfl (lv_at hl 1 rfl) ?_
          refine lv_aload_n hx hb d_law_154 rfl (lv_at hl 0 rfl) ?_
          refine lv_iload_n hx hb d_law_155 rfl (lv_at hl 3 rfl) ?_
          refine lv_iconst (v := zI 1) hx hb d_law_156 (by decide) ?_
          refine z_iadd hx hb d_law_157 ?_
          refine z_sld hx hb hX hbl hbA hS (i_ + 1) (by omega) hi_ (by omega) d_law_158 ?_
          refine z_top (v2 := .int (zI 3)) (congrArg Value.int ((zI_self _).symm.trans (congrArg zI hy1))) ?_
          refine lc_often3 C0 hKN (by omega) (by omega) hcl hsl hl.1 (Nat.le_of_ble_eq_true rfl) hP hD hS (fun  H locs hP hD hS => ?_)
          refine lv_aload_n hx hb d_law_162 rfl (lv_at hl 2 rfl) ?_
          refine lv_aload_n hx hb d_law_163 rfl (lv_at hl 0 rfl) ?_
          refine lv_iload_n hx hb d_law_164 rfl (lv_at hl 3 rfl) ?_
          refine lv_iconst (v := zI 1) hx hb d_law_165 (by decide) ?_
          refine z_iadd hx hb d_law_166 ?_
          refine z_sld hx hb hX hbl hbA hS (i_ + 1) (by omega) hi_ (by omega) d_law_167 ?_
          refine z_top (v2 := .int (zI 3)) (congrArg Value.int ((zI_self _).symm.trans (congrArg zI hy1))) ?_
          replace hP := z_swP hP
          replace hD := z_swD hD
          refine lc_r_often3 C0 hKN (by omega) (by omega) (by omega) (by omega) hcl hsl hl.1 (Nat.le_of_ble_eq_true rfl) hP hD hS (fun  H locs hP hD hS => ?_)
          replace hP := z_swP hP
          replace hD := z_swD hD
          refine lv_icmp_eq (tgt := 366) hx hb d_law_171 (by decide) (fun _ => ?_) (fun hne => absurd (rfl) hne)
          refine W.widen (k := 30 + 4 * (n_ + 1)) (n := 79921 + 1283 * (n_ + 1)) (by omega) (by omega) ?_
          exact K (st := va_up st nn (st (pv q))) (dlo := dlo) (nd := nd) (ndm := ndm) (nmm := nmm) H locs ls hP hD ⟨d_new3 hdr, hdb, (by omega), hmk, (fun k hk => ⟨(hmo k hk).1, (hmo k hk).2.1, (hmo k hk).2.2.1, m_agr (hmo k hk).2.2.2 (fun p hp => by have := (hmo k hk).2.1; exact ⟨up_ne (by omega), up_ne (by omega), up_ne (by omega), up_ne (by omega)⟩) (fun p hp => by have := (hmo k hk).2.1; exact ⟨by rw [up_ne (by omega), up_ne (by omega)], up_ne (by omega), up_ne (by omega)⟩)⟩), (hrd.imp id (fun ⟨k, hk, e1, e2, g⟩ => ⟨k, hk, e1, e2, rd_agr (hmo k hk).2.2.2 g (fun p hp => by have := (hmo k hk).2.1; exact ⟨up_ne (by omega), up_ne (by omega), up_ne (by omega), up_ne (by omega)⟩) (fun p hp => by have := (hmo k hk).2.1; exact up_ne (by omega))⟩))⟩ hS hl

set_option maxHeartbeats 4000000 in
set_option maxRecDepth 100000 in
theorem law_clear {p : Program} {l : Launch} {e : Env} {s : State} {m : MethodId} {below : List Frame} {meth : Method} {c0 : Code} {D : va_G} {c : Nat → ClassId} {b L : Nat} {xs : Nat → Int32} (C0 : lw_At p s m meth c0 b L xs) (hL : L ≤ 1024) (hKN : zK D c s) {n_ i_ : Nat} {x xm d dn df dfw di diw dl dlw dm rd rn rc rcw o0 ka na xla xra aa ea pa ba oa sa qa ca ta td : Nat} (hn_ : n_ < 512) (hi_ : i_ + 1 < L) (K : ∀ {mg : Nat → Option Nat} {mk : Nat} {nm : Nat → Nat} {fw : Nat → Int64} {iw : Nat → Int64} {lw : Nat → Int64} {mb : Nat → Bool} {nc : Nat} {pp : Nat} {rmo : Option Nat} {nr : Nat → Nat} {rv : Nat → Int64} {ct : Nat} {kd : Nat → Nat} {nv : Nat → Nat} {lf : Nat → Int} {rt : Nat → Int} {ab : Nat → Int} {em : Nat → Bool} {pv : Nat → Nat} {bv : Nat → Nat} {ov : Nat → Nat} {sv : Nat → Nat} {rdv : Nat → Nat} {cv : Nat → Bool} {lt : Nat → Bool} {tv : Nat → Nat} {nn : Nat} {db : Nat} {mm : Int} {wh : Bool} {lq : Bool} {mo : Nat → Nat} {me : Nat → Nat} {ms : Nat → Nat} {msw : Nat → Nat} {en : Nat → Nat → Nat} {ne : Nat → Nat} {mf : Nat → Nat → Int64} {dt : Nat → Bool} {st : Nat → Nat} {dlo : Nat} {nd : Nat → Nat} {ndm : Nat → Nat → Nat} {nmm : Nat → Nat → Nat} (H : Heap) (locs : List Loc) (ls : Array Slot), va_P D vwCl ((cW c x xm d dn df dfw di diw dl dlw dm rd rn rc rcw mg mk nm fw iw lw mb nc pp rmo nr rv ct) ++ ((rW c o0 ka na xla xra aa ea pa ba oa sa qa ca ta td pp nc mk ct kd nv lf rt ab em pv bv ov sv rdv cv lt tv nn db mm wh lq) ++ pL c mo me ms msw en ne mf dt mk)) H → va_D (fun q : Nat => s.heap.size ≤ q) ((cW c x xm d dn df dfw di diw dl dlw dm rd rn rc rcw mg mk nm fw iw lw mb nc pp rmo nr rv ct) ++ ((rW c o0 ka na xla xra aa ea pa ba oa sa qa ca ta td pp nc mk ct kd nv lf rt ab em pv bv ov sv rdv cv lt tv nn db mm wh lq) ++ pL c mo me ms msw en ne mf dt mk)) → LR (n_ + 1) mg mk nm fw iw lw mb nc pp rmo nr rv ct kd nv lf rt ab em pv bv ov sv rdv cv lt tv nn db mm wh lq mo me ms msw en ne mf dt st dlo nd ndm nmm → va_S (fun q : Nat => s.heap.size ≤ q) s.heap H locs → lv_has ls 4 [(0, .ref b), (1, .ref x), (2, .ref o0), (3, .int (zI ((i_ : Nat) : Int)))] → W p l e room_1 s m #[Value.ref b] below meth c0 H locs (30 + 4 * (n_ + 1)) (79921 + 1283 * (n_ + 1)) (lw_Z below #[Value.ref b] s) (F0 m 366 ls [])) {mg : Nat → Option Nat} {mk : Nat} {nm : Nat → Nat} {fw : Nat → Int64} {iw : Nat → Int64} {lw : Nat → Int64} {mb : Nat → Bool} {nc : Nat} {pp : Nat} {rmo : Option Nat} {nr : Nat → Nat} {rv : Nat → Int64} {ct : Nat} {kd : Nat → Nat} {nv : Nat → Nat} {lf : Nat → Int} {rt : Nat → Int} {ab : Nat → Int} {em : Nat → Bool} {pv : Nat → Nat} {bv : Nat → Nat} {ov : Nat → Nat} {sv : Nat → Nat} {rdv : Nat → Nat} {cv : Nat → Bool} {lt : Nat → Bool} {tv : Nat → Nat} {nn : Nat} {db : Nat} {mm : Int} {wh : Bool} {lq : Bool} {mo : Nat → Nat} {me : Nat → Nat} {ms : Nat → Nat} {msw : Nat → Nat} {en : Nat → Nat → Nat} {ne : Nat → Nat} {mf : Nat → Nat → Int64} {dt : Nat → Bool} {st : Nat → Nat} {dlo : Nat} {nd : Nat → Nat} {ndm : Nat → Nat → Nat} {nmm : Nat → Nat → Nat} {H : Heap} {locs : List Loc} {ls : Array Slot} (hP : va_P D vwCl ((cW c x xm d dn df dfw di diw dl dlw dm rd rn rc rcw mg mk nm fw iw lw mb nc pp rmo nr rv ct) ++ ((rW c o0 ka na xla xra aa ea pa ba oa sa qa ca ta td pp nc mk ct kd nv lf rt ab em pv bv ov sv rdv cv lt tv nn db mm wh lq) ++ pL c mo me ms msw en ne mf dt mk)) H) (hD : va_D (fun q : Nat => s.heap.size ≤ q) ((cW c x xm d dn df dfw di diw dl dlw dm rd rn rc rcw mg mk nm fw iw lw mb nc pp rmo nr rv ct) ++ ((rW c o0 ka na xla xra aa ea pa ba oa sa qa ca ta td pp nc mk ct kd nv lf rt ab em pv bv ov sv rdv cv lt tv nn db mm wh lq) ++ pL c mo me ms msw en ne mf dt mk))) (hR : LR n_ mg mk nm fw iw lw mb nc pp rmo nr rv ct kd nv lf rt ab em pv bv ov sv rdv cv lt tv nn db mm wh lq mo me ms msw en ne mf dt st dlo nd ndm nmm) (hS : va_S (fun q : Nat => s.heap.size ≤ q) s.heap H locs) (hl : lv_has ls 4 [(0, .ref b), (1, .ref x), (2, .ref o0), (3, .int (zI ((i_ : Nat) : Int)))]) : W p l e room_1 s m #[Value.ref b] below meth c0 H locs (30 + 4 * n_) (79921 + 1283 * n_) (lw_Z below #[Value.ref b] s) (F0 m 176 ls []) := by
  obtain ⟨hx, hb, hr, hml, hown, hts, hX, hbl, hlocks, hgv⟩ := id C0
  have hbA : ¬ (fun q : Nat => s.heap.size ≤ q) b := Nat.not_le.mpr hbl
  obtain ⟨hdr, hdb, hnn, hmk, hmo, hrd⟩ := hR
  have hdlo := prt_dl hdr.2.1
  have hpp := hdr.1
  have hcl : 30 + 4 * n_ ≤ 600000 := by omega
  have hsl : 79921 + 1283 * n_ ≤ 7302250 := by omega
  rcases Nat.eq_zero_or_pos pp with h0 | h0
  · subst h0
    have hnd := hdr.2.1.2.1 rfl
    refine lv_aload_n hx hb d_law_176 rfl (lv_at hl 1 rfl) ?_
    refine lc_clear C0 hKN  hcl hsl hl.1 (Nat.le_of_ble_eq_true rfl) hP hD hS (fun  H locs hP hD hS => ?_)
    refine lv_aload_n hx hb d_law_180 rfl (lv_at hl 2 rfl) ?_
    replace hP := z_swP hP
    replace hD := z_swD hD
    refine lc_r_clear0 C0 hKN  hcl hsl hl.1 (Nat.le_of_ble_eq_true rfl) hP hD hS (fun  H locs hP hD hS => ?_)
    replace hP := z_swP hP
    replace hD := z_swD hD
    refine lv_icmp_eq (tgt := 366) hx hb d_law_184 (by decide) (fun _ => ?_) (fun hne => absurd (rfl) hne)
    refine W.widen (k := 30 + 4 * (n_ + 1)) (n := 79921 + 1283 * (n_ + 1)) (by omega) (by omega) ?_
    exact K (st := st) (dlo := dlo) (nd := nd) (ndm := ndm) (nmm := nmm) H locs ls hP hD ⟨(hnd ▸ d_empty kd nv lf rt ab em st pv nn nd nm fw iw lw mb), fun z => absurd z (by decide), (by omega), hmk, hmo, hrd⟩ hS hl
  · obtain ⟨q, rfl⟩ : ∃ q, pp = q + 1 := ⟨pp - 1, by omega⟩
    have hdbe := hdb h0
    subst hdbe
    refine lv_aload_n hx hb d_law_176 rfl (lv_at hl 1 rfl) ?_
    refine lc_clear C0 hKN  hcl hsl hl.1 (Nat.le_of_ble_eq_true rfl) hP hD hS (fun  H locs hP hD hS => ?_)
    refine lv_aload_n hx hb d_law_180 rfl (lv_at hl 2 rfl) ?_
    replace hP := z_swP hP
    replace hD := z_swD hD
    refine lc_r_clear1 C0 hKN (by omega) hcl hsl hl.1 (Nat.le_of_ble_eq_true rfl) hP hD hS (fun  H locs hP hD hS => ?_)
    replace hP := z_swP hP
    replace hD := z_swD hD
    refine lv_icmp_eq (tgt := 366) hx hb d_law_184 (by decide) (fun _ => ?_) (fun hne => absurd (rfl) hne)
    refine W.widen (k := 30 + 4 * (n_ + 1)) (n := 79921 + 1283 * (n_ + 1)) (by omega) (by omega) ?_
    exact K (st := st) (dlo := db) (nd := nd) (ndm := ndm) (nmm := nmm) H locs ls hP hD ⟨d_empty kd nv lf rt ab em st pv db nd nm fw iw lw mb, fun z => absurd z (by decide), (by omega), hmk, hmo, hrd⟩ hS hl

set_option maxHeartbeats 4000000 in
set_option maxRecDepth 100000 in
theorem law_make {p : Program} {l : Launch} {e : Env} {s : State} {m : MethodId} {below : List Frame} {meth : Method} {c0 : Code} {D : va_G} {c : Nat → ClassId} {b L : Nat} {xs : Nat → Int32} (C0 : lw_At p s m meth c0 b L xs) (hL : L ≤ 1024) (hKN : zK D c s) {n_ i_ : Nat} {x xm d dn df dfw di diw dl dlw dm rd rn rc rcw o0 ka na xla xra aa ea pa ba oa sa qa ca ta td : Nat} (hn_ : n_ < 512) (hi_ : i_ + 1 < L) (K : ∀ {mg : Nat → Option Nat} {mk : Nat} {nm : Nat → Nat} {fw : Nat → Int64} {iw : Nat → Int64} {lw : Nat → Int64} {mb : Nat → Bool} {nc : Nat} {pp : Nat} {rmo : Option Nat} {nr : Nat → Nat} {rv : Nat → Int64} {ct : Nat} {kd : Nat → Nat} {nv : Nat → Nat} {lf : Nat → Int} {rt : Nat → Int} {ab : Nat → Int} {em : Nat → Bool} {pv : Nat → Nat} {bv : Nat → Nat} {ov : Nat → Nat} {sv : Nat → Nat} {rdv : Nat → Nat} {cv : Nat → Bool} {lt : Nat → Bool} {tv : Nat → Nat} {nn : Nat} {db : Nat} {mm : Int} {wh : Bool} {lq : Bool} {mo : Nat → Nat} {me : Nat → Nat} {ms : Nat → Nat} {msw : Nat → Nat} {en : Nat → Nat → Nat} {ne : Nat → Nat} {mf : Nat → Nat → Int64} {dt : Nat → Bool} {st : Nat → Nat} {dlo : Nat} {nd : Nat → Nat} {ndm : Nat → Nat → Nat} {nmm : Nat → Nat → Nat} (H : Heap) (locs : List Loc) (ls : Array Slot), va_P D vwCl ((cW c x xm d dn df dfw di diw dl dlw dm rd rn rc rcw mg mk nm fw iw lw mb nc pp rmo nr rv ct) ++ ((rW c o0 ka na xla xra aa ea pa ba oa sa qa ca ta td pp nc mk ct kd nv lf rt ab em pv bv ov sv rdv cv lt tv nn db mm wh lq) ++ pL c mo me ms msw en ne mf dt mk)) H → va_D (fun q : Nat => s.heap.size ≤ q) ((cW c x xm d dn df dfw di diw dl dlw dm rd rn rc rcw mg mk nm fw iw lw mb nc pp rmo nr rv ct) ++ ((rW c o0 ka na xla xra aa ea pa ba oa sa qa ca ta td pp nc mk ct kd nv lf rt ab em pv bv ov sv rdv cv lt tv nn db mm wh lq) ++ pL c mo me ms msw en ne mf dt mk)) → LR (n_ + 1) mg mk nm fw iw lw mb nc pp rmo nr rv ct kd nv lf rt ab em pv bv ov sv rdv cv lt tv nn db mm wh lq mo me ms msw en ne mf dt st dlo nd ndm nmm → va_S (fun q : Nat => s.heap.size ≤ q) s.heap H locs → lv_has ls 4 [(0, .ref b), (1, .ref x), (2, .ref o0), (3, .int (zI ((i_ : Nat) : Int)))] → W p l e room_1 s m #[Value.ref b] below meth c0 H locs (30 + 4 * (n_ + 1)) (79921 + 1283 * (n_ + 1)) (lw_Z below #[Value.ref b] s) (F0 m 366 ls [])) {mg : Nat → Option Nat} {mk : Nat} {nm : Nat → Nat} {fw : Nat → Int64} {iw : Nat → Int64} {lw : Nat → Int64} {mb : Nat → Bool} {nc : Nat} {pp : Nat} {rmo : Option Nat} {nr : Nat → Nat} {rv : Nat → Int64} {ct : Nat} {kd : Nat → Nat} {nv : Nat → Nat} {lf : Nat → Int} {rt : Nat → Int} {ab : Nat → Int} {em : Nat → Bool} {pv : Nat → Nat} {bv : Nat → Nat} {ov : Nat → Nat} {sv : Nat → Nat} {rdv : Nat → Nat} {cv : Nat → Bool} {lt : Nat → Bool} {tv : Nat → Nat} {nn : Nat} {db : Nat} {mm : Int} {wh : Bool} {lq : Bool} {mo : Nat → Nat} {me : Nat → Nat} {ms : Nat → Nat} {msw : Nat → Nat} {en : Nat → Nat → Nat} {ne : Nat → Nat} {mf : Nat → Nat → Int64} {dt : Nat → Bool} {st : Nat → Nat} {dlo : Nat} {nd : Nat → Nat} {ndm : Nat → Nat → Nat} {nmm : Nat → Nat → Nat} {H : Heap} {locs : List Loc} {ls : Array Slot} (hP : va_P D vwCl ((cW c x xm d dn df dfw di diw dl dlw dm rd rn rc rcw mg mk nm fw iw lw mb nc pp rmo nr rv ct) ++ ((rW c o0 ka na xla xra aa ea pa ba oa sa qa ca ta td pp nc mk ct kd nv lf rt ab em pv bv ov sv rdv cv lt tv nn db mm wh lq) ++ pL c mo me ms msw en ne mf dt mk)) H) (hD : va_D (fun q : Nat => s.heap.size ≤ q) ((cW c x xm d dn df dfw di diw dl dlw dm rd rn rc rcw mg mk nm fw iw lw mb nc pp rmo nr rv ct) ++ ((rW c o0 ka na xla xra aa ea pa ba oa sa qa ca ta td pp nc mk ct kd nv lf rt ab em pv bv ov sv rdv cv lt tv nn db mm wh lq) ++ pL c mo me ms msw en ne mf dt mk))) (hR : LR n_ mg mk nm fw iw lw mb nc pp rmo nr rv ct kd nv lf rt ab em pv bv ov sv rdv cv lt tv nn db mm wh lq mo me ms msw en ne mf dt st dlo nd ndm nmm) (hS : va_S (fun q : Nat => s.heap.size ≤ q) s.heap H locs) (hl : lv_has ls 4 [(0, .ref b), (1, .ref x), (2, .ref o0), (3, .int (zI ((i_ : Nat) : Int)))]) : W p l e room_1 s m #[Value.ref b] below meth c0 H locs (30 + 4 * n_) (79921 + 1283 * n_) (lw_Z below #[Value.ref b] s) (F0 m 189 ls []) := by
  obtain ⟨hx, hb, hr, hml, hown, hts, hX, hbl, hlocks, hgv⟩ := id C0
  have hbA : ¬ (fun q : Nat => s.heap.size ≤ q) b := Nat.not_le.mpr hbl
  obtain ⟨hdr, hdb, hnn, hmk, hmo, hrd⟩ := hR
  have hdlo := prt_dl hdr.2.1
  have hpp := hdr.1
  have hcl : 30 + 4 * n_ ≤ 600000 := by omega
  have hsl : 79921 + 1283 * n_ ≤ 7302250 := by omega
  rcases Decidable.em (¬ pp = 1 ∨ mk = 50) with hv | hv
  · refine lv_aload_n hx hb d_law_189 rfl (lv_at hl 1 rfl) ?_
    refine lc_make_no C0 hKN (by omega) (by omega) hv hcl hsl hl.1 (Nat.le_of_ble_eq_true rfl) hP hD hS ?_
    refine lv_aload_n hx hb d_law_193 rfl (lv_at hl 2 rfl) ?_
    replace hP := z_swP hP
    replace hD := z_swD hD
    refine lc_r_make_no C0 hKN (by omega) (by omega) hv hcl hsl hl.1 (Nat.le_of_ble_eq_true rfl) hP hD hS ?_
    replace hP := z_swP hP
    replace hD := z_swD hD
    refine lv_icmp_eq (tgt := 366) hx hb d_law_197 (by decide) (fun _ => ?_) (fun hne => absurd (rfl) hne)
    refine W.widen (k := 30 + 4 * (n_ + 1)) (n := 79921 + 1283 * (n_ + 1)) (by omega) (by omega) ?_
    exact K (st := st) (dlo := dlo) (nd := nd) (ndm := ndm) (nmm := nmm) H locs ls hP hD ⟨hdr, hdb, (by omega), hmk, hmo, hrd⟩ hS hl
  · obtain rfl : pp = 1 := by omega
    have hdbe := hdb (by omega)
    subst hdbe
    have hpv : pv 0 + 1 = nn := hdr.2.1.2.2 (by omega)
    refine lv_aload_n hx hb d_law_189 rfl (lv_at hl 1 rfl) ?_
    refine lc_make C0 hKN (fun _ h => h) (by omega) (d_nm hdr) (by omega) (by omega) (by omega) hl.1 (Nat.le_of_ble_eq_true rfl) hP hD hS (fun mo1 me1 ms1 msw1 en1 H locs hso hP hD hS => ?_)
    refine lv_aload_n hx hb d_law_193 rfl (lv_at hl 2 rfl) ?_
    have hpl : pL c mo me ms msw en ne mf dt mk = pL c (va_up mo mk mo1) (va_up me mk me1) (va_up ms mk ms1) (va_up msw mk msw1) (va_up en mk en1) (va_up ne mk nc) (va_up mf mk (tmE fw iw lw (mb 0) nc)) (va_up dt mk (!twA en1 (tmE fw iw lw (mb 0) nc) nc (nc + 1))) mk := (pL_congr (fun k hk => ⟨up_lt hk, up_lt hk, up_lt hk, up_lt hk, up_lt hk, up_lt hk, up_lt hk, up_lt hk⟩)).symm
    have hpl2 : pL c mo me ms msw en ne mf dt mk ++ [(mo1, .inr (1, [.ref me1, .ref ms1, .int (zB (!twA en1 (tmE fw iw lw (mb 0) nc) nc (nc + 1)))])), (me1, .inl (c 0, nc, .inl (fun j => zI ((en1 j : Nat) : Int)))), (ms1, .inr (3, [.ref msw1])), (msw1, .inl (c 2, 4 * (nc + 1), .inr (.inl (tmE fw iw lw (mb 0) nc))))] = pL c (va_up mo mk mo1) (va_up me mk me1) (va_up ms mk ms1) (va_up msw mk msw1) (va_up en mk en1) (va_up ne mk nc) (va_up mf mk (tmE fw iw lw (mb 0) nc)) (va_up dt mk (!twA en1 (tmE fw iw lw (mb 0) nc) nc (nc + 1))) (mk + 1) := by rw [hpl, pL]; unfold pC; rw [up_at, up_at, up_at, up_at, up_at, up_at, up_at, up_at]
    rw [List.append_assoc, hpl2] at hP hD
    replace hP := z_swP hP
    replace hD := z_swD hD
    refine lc_r_make C0 hKN (by omega) (by omega) (by omega) hl.1 (Nat.le_of_ble_eq_true rfl) hP hD hS (fun H locs hP hD hS => ?_)
    replace hP := z_swP hP
    replace hD := z_swD hD
    refine lv_icmp_eq (tgt := 366) hx hb d_law_197 (by decide) (fun _ => ?_) (fun hne => absurd rfl hne)
    refine W.widen (k := 30 + 4 * (n_ + 1)) (n := 79921 + 1283 * (n_ + 1)) (by omega) (by omega) ?_
    refine K (st := st) (dlo := nn) (nd := nd) (ndm := va_up ndm mk nd) (nmm := va_up nmm mk nm) H locs ls hP hD ⟨d_empty kd nv lf rt ab em st pv nn nd nm fw iw lw mb, fun z => absurd z (by decide), by omega, by omega, fun k hk => ?_, ?_⟩ hS hl
    · by_cases e : k = mk
      · subst e
        rw [up_at, up_at, up_at, up_at, up_at, up_at, up_at, up_at, up_at, up_at, up_at]
        exact ⟨rfl, by omega, rfl, m_make hdr hso⟩
      · have hk2 : k < mk := by omega
        rw [up_ne e, up_ne e, up_ne e, up_ne e, up_ne e, up_ne e, up_ne e, up_ne e, up_ne e, up_ne e, up_ne e]
        exact ⟨(hmo k hk2).1, by have := (hmo k hk2).2.1; omega, (hmo k hk2).2.2⟩
    · rcases hrd with h | ⟨k, hk, e1, e2, g⟩
      · exact Or.inl h
      · exact Or.inr ⟨k, by omega, by rw [up_lt hk]; exact e1, e2, by rw [up_lt hk, up_lt hk, up_lt hk, up_lt hk]; exact g⟩
