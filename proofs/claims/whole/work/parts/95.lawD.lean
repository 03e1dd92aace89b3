set_option maxHeartbeats 4000000 in
set_option maxRecDepth 100000 in
theorem law_size {p : Program} {l : Launch} {e : Env} {s : State} {m : MethodId} {below : List Frame} {meth : Method} {c0 : Code} {D : va_G} {c : Nat → ClassId} {b L : Nat} {xs : Nat → Int32} (C0 : lw_At p s m meth c0 b L xs) (hL : L ≤ 1024) (hKN : zK D c s) {n_ i_ : Nat} {x xm d dn df dfw di diw dl dlw dm rd rn rc rcw o0 ka na xla xra aa ea pa ba oa sa qa ca ta td : Nat} (hn_ : n_ < 512) (hi_ : i_ + 1 < L) (K : ∀ {mg : Nat → Option Nat} {mk : Nat} {nm : Nat → Nat} {fw : Nat → Int64} {iw : Nat → Int64} {lw : Nat → Int64} {mb : Nat → Bool} {nc : Nat} {pp : Nat} {rmo : Option Nat} {nr : Nat → Nat} {rv : Nat → Int64} {ct : Nat} {kd : Nat → Nat} {nv : Nat → Nat} {lf : Nat → Int} {rt : Nat → Int} {ab : Nat → Int} {em : Nat → Bool} {pv : Nat → Nat} {bv : Nat → Nat} {ov : Nat → Nat} {sv : Nat → Nat} {rdv : Nat → Nat} {cv : Nat → Bool} {lt : Nat → Bool} {tv : Nat → Nat} {nn : Nat} {db : Nat} {mm : Int} {wh : Bool} {lq : Bool} {mo : Nat → Nat} {me : Nat → Nat} {ms : Nat → Nat} {msw : Nat → Nat} {en : Nat → Nat → Nat} {ne : Nat → Nat} {mf : Nat → Nat → Int64} {dt : Nat → Bool} {st : Nat → Nat} {dlo : Nat} {nd : Nat → Nat} {ndm : Nat → Nat → Nat} {nmm : Nat → Nat → Nat} (H : Heap) (locs : List Loc) (ls : Array Slot), va_P D vwCl ((cW c x xm d dn df dfw di diw dl dlw dm rd rn rc rcw mg mk nm fw iw lw mb nc pp rmo nr rv ct) ++ ((rW c o0 ka na xla xra aa ea pa ba oa sa qa ca ta td pp nc mk ct kd nv lf rt ab em pv bv ov sv rdv cv lt tv nn db mm wh lq) ++ pL c mo me ms msw en ne mf dt mk)) H → va_D (fun q : Nat => s.heap.size ≤ q) ((cW c x xm d dn df dfw di diw dl dlw dm rd rn rc rcw mg mk nm fw iw lw mb nc pp rmo nr rv ct) ++ ((rW c o0 ka na xla xra aa ea pa ba oa sa qa ca ta td pp nc mk ct kd nv lf rt ab em pv bv ov sv rdv cv lt tv nn db mm wh lq) ++ pL c mo me ms msw en ne mf dt mk)) → LR (n_ + 1) mg mk nm fw iw lw mb nc pp rmo nr rv ct kd nv lf rt ab em pv bv ov sv rdv cv lt tv nn db mm wh lq mo me ms msw en ne mf dt st dlo nd ndm nmm → va_S (fun q : Nat => s.heap.size ≤ q) s.heap H locs → lv_has ls 4 [(0, .ref b), (1, .ref x), (2, .ref o0), (3, .int (zI ((i_ : Nat) : Int)))] → W p l e room_1 s m #[Value.ref b] below meth c0 H locs (30 + 4 * (n_ + 1)) (79921 + 1283 * (n_ + 1)) (lw_Z below #[Value.ref b] s) (F0 m 366 ls [])) {mg : Nat → Option Nat} {mk : Nat} {nm : Nat → Nat} {fw : Nat → Int64} {iw : Nat → Int64} {lw : Nat → Int64} {mb : Nat → Bool} {nc : Nat} {pp : Nat} {rmo : Option Nat} {nr : Nat → Nat} {rv : Nat → Int64} {ct : Nat} {kd : Nat → Nat} {nv : Nat → Nat} {lf : Nat → Int} {rt : Nat → Int} {ab : Nat → Int} {em : Nat → Bool} {pv : Nat → Nat} {bv : Nat → Nat} {ov : Nat → Nat} {sv : Nat → Nat} {rdv : Nat → Nat} {cv : Nat → Bool} {lt : Nat → Bool} {tv : Nat → Nat} {nn : Nat} {db : Nat} {mm : Int} {wh : Bool} {lq : Bool} {mo : Nat → Nat} {me : Nat → Nat} {ms : Nat → Nat} {msw : Nat → Nat} {en : Nat → Nat → Nat} {ne : Nat → Nat} {mf : Nat → Nat → Int64} {dt : Nat → Bool} {st : Nat → Nat} {dlo : Nat} {nd : Nat → Nat} {ndm : Nat → Nat → Nat} {nmm : Nat → Nat → Nat} {H : Heap} {locs : List Loc} {ls : Array Slot} (hP : va_P D vwCl ((cW c x xm d dn df dfw di diw dl dlw dm rd rn rc rcw mg mk nm fw iw lw mb nc pp rmo nr rv ct) ++ ((rW c o0 ka na xla xra aa ea pa ba oa sa qa ca ta td pp nc mk ct kd nv lf rt ab em pv bv ov sv rdv cv lt tv nn db mm wh lq) ++ pL c mo me ms msw en ne mf dt mk)) H) (hD : va_D (fun q : Nat => s.heap.size ≤ q) ((cW c x xm d dn df dfw di diw dl dlw dm rd rn rc rcw mg mk nm fw iw lw mb nc pp rmo nr rv ct) ++ ((rW c o0 ka na xla xra aa ea pa ba oa sa qa ca ta td pp nc mk ct kd nv lf rt ab em pv bv ov sv rdv cv lt tv nn db mm wh lq) ++ pL c mo me ms msw en ne mf dt mk))) (hR : LR n_ mg mk nm fw iw lw mb nc pp rmo nr rv ct kd nv lf rt ab em pv bv ov sv rdv cv lt tv nn db mm wh lq mo me ms msw en ne mf dt st dlo nd ndm nmm) (hS : va_S (fun q : Nat => s.heap.size ≤ q) s.heap H locs) (hl : lv_has ls 4 [(0, .ref b), (1, .ref x), (2, .ref o0), (3, .int (zI ((i_ : Nat) : Int)))]) : W p l e room_1 s m #[Value.ref b] below meth c0 H locs (30 + 4 * n_) (79921 + 1283 * n_) (lw_Z below #[Value.ref b] s) (F0 m 202 ls []) := by
  obtain ⟨hx, hb, hr, hml, hown, hts, hX, hbl, hlocks, hgv⟩ := id C0
  have hbA : ¬ (fun q : Nat => s.heap.size ≤ q) b := Nat.not_le.mpr hbl
  obtain ⟨hdr, hdb, hnn, hmk, hmo, hrd⟩ := hR
  have hdlo := prt_dl hdr.2.1
  have hpp := hdr.1
  have hcl : 30 + 4 * n_ ≤ 600000 := by omega
  have hsl : 79921 + 1283 * n_ ≤ 7302250 := by omega
  have hyr := zI_rng (xs (i_ + 1))
  rcases Decidable.em (0 ≤ (xs (i_ + 1)).toInt ∧ (xs (i_ + 1)).toInt < ((mk : Nat) : Int)) with hv | hv
  · obtain ⟨k, ha_⟩ : ∃ k : Nat, (xs (i_ + 1)).toInt = ((k : Nat) : Int) := ⟨_, (Int.toNat_of_nonneg (by omega)).symm⟩
    have hk : k < mk := by omega
    have hmr := (hmo k hk).2.2.2
    have hov := (hmo k hk).2.1
    have hbr := hmr.1.1
    obtain ⟨P1, P2, hsp⟩ := pL_split (c := c) (mo := mo) (me := me) (ms := ms) (msw := msw) (en := en) (ne := ne) (mf := mf) (dt := dt) hk
    have hPk := hP
    have hDk := hD
    rw [hsp, z_re] at hPk hDk
    refine lv_aload_n hx hb d_law_202 rfl (lv_at hl 1 rfl) ?_
    refine lv_aload_n hx hb d_law_203 rfl (lv_at hl 0 rfl) ?_
    refine lv_iload_n hx hb d_law_204 rfl (lv_at hl 3 rfl) ?_
    refine lv_iconst (v := zI 1) hx hb d_law_205 (by decide) ?_
    refine z_iadd hx hb d_law_206 ?_
    refine z_sld hx hb hX hbl hbA hS (i_ + 1) (by omega) hi_ (by omega) d_law_207 ?_
    refine z_top (v2 := .int (zI ((k : Nat) : Int))) (congrArg Value.int ((zI_self _).symm.trans (congrArg zI ha_))) ?_
    refine lc_size C0 hKN hmk hk (hmo k hk).1 hcl hsl hl.1 (Nat.le_of_ble_eq_true rfl) hPk hDk hS ?_
    refine lv_aload_n hx hb d_law_211 rfl (lv_at hl 2 rfl) ?_
    refine lv_aload_n hx hb d_law_212 rfl (lv_at hl 0 rfl) ?_
    refine lv_iload_n hx hb d_law_213 rfl (lv_at hl 3 rfl) ?_
    refine lv_iconst (v := zI 1) hx hb d_law_214 (by decide) ?_
    refine z_iadd hx hb d_law_215 ?_
    refine z_sld hx hb hX hbl hbA hS (i_ + 1) (by omega) hi_ (by omega) d_law_216 ?_
    refine z_top (v2 := .int (zI ((k : Nat) : Int))) (congrArg Value.int ((zI_self _).symm.trans (congrArg zI ha_))) ?_
    replace hP := z_swP hP
    replace hD := z_swD hD
    refine lc_r_size C0 hKN hmk hk hcl hsl hl.1 (Nat.le_of_ble_eq_true rfl) hP hD hS ?_
    replace hP := z_swP hP
    replace hD := z_swD hD
    refine lv_icmp_eq (tgt := 366) hx hb d_law_220 (by decide) (fun _ => ?_) (fun hne => absurd (congrArg (fun z => zI ((z : Nat) : Int)) (hmo k hk).2.2.1.symm) hne)
    refine W.widen (k := 30 + 4 * (n_ + 1)) (n := 79921 + 1283 * (n_ + 1)) (by omega) (by omega) ?_
    exact K (st := st) (dlo := dlo) (nd := nd) (ndm := ndm) (nmm := nmm) H locs ls hP hD ⟨hdr, hdb, (by omega), hmk, hmo, hrd⟩ hS hl
  · refine lv_aload_n hx hb d_law_202 rfl (lv_at hl 1 rfl) ?_
    refine lv_aload_n hx hb d_law_203 rfl (lv_at hl 0 rfl) ?_
    refine lv_iload_n hx hb d_law_204 rfl (lv_at hl 3 rfl) ?_
    refine lv_iconst (v := zI 1) hx hb d_law_205 (by decide) ?_
    refine z_iadd hx hb d_law_206 ?_
    refine z_sld hx hb hX hbl hbA hS (i_ + 1) (by omega) hi_ (by omega) d_law_207 ?_
    refine z_top (v2 := .int (zI ((xs (i_ + 1)).toInt))) (congrArg Value.int ((zI_self _).symm)) ?_
    refine lc_size_no C0 hKN hyr hmk (by omega) hcl hsl hl.1 (Nat.le_of_ble_eq_true rfl) hP hD hS ?_
    refine lv_aload_n hx hb d_law_211 rfl (lv_at hl 2 rfl) ?_
    refine lv_aload_n hx hb d_law_212 rfl (lv_at hl 0 rfl) ?_
    refine lv_iload_n hx hb d_law_213 rfl (lv_at hl 3 rfl) ?_
    refine lv_iconst (v := zI 1) hx hb d_law_214 (by decide) ?_
    refine z_iadd hx hb d_law_215 ?_
    refine z_sld hx hb hX hbl hbA hS (i_ + 1) (by omega) hi_ (by omega) d_law_216 ?_
    refine z_top (v2 := .int (zI ((xs (i_ + 1)).toInt))) (congrArg Value.int ((zI_self _).symm)) ?_
    replace hP := z_swP hP
    replace hD := z_swD hD
    refine lc_r_size_no C0 hKN hyr hmk (by omega) hcl hsl hl.1 (Nat.le_of_ble_eq_true rfl) hP hD hS ?_
    replace hP := z_swP hP
    replace hD := z_swD hD
    refine lv_icmp_eq (tgt := 366) hx hb d_law_220 (by decide) (fun _ => ?_) (fun hne => absurd (rfl) hne)
    refine W.widen (k := 30 + 4 * (n_ + 1)) (n := 79921 + 1283 * (n_ + 1)) (by omega) (by omega) ?_
    exact K (st := st) (dlo := dlo) (nd := nd) (ndm := ndm) (nmm := nmm) H locs ls hP hD ⟨hdr, hdb, (by omega), hmk, hmo, hrd⟩ hS hl

set_option maxHeartbeats 4000000 in
set_option maxRecDepth 100000 in
theorem law_isDeterministic {p : Program} {l : Launch} {e : Env} {s : State} {m : MethodId} {below : List Frame} {meth : Method} {c0 : Code} {D : va_G} {c : Nat → ClassId} {b L : Nat} {xs : Nat → Int32} (C0 : lw_At p s m meth c0 b L xs) (hL : L ≤ 1024) (hKN : zK D c s) {n_ i_ : Nat} {x xm d dn df dfw di diw dl dlw dm rd rn rc rcw o0 ka na xla xra aa ea pa ba oa sa qa ca ta td : Nat} (hn_ : n_ < 512) (hi_ : i_ + 1 < L) (K : ∀ {mg : Nat → Option Nat} {mk : Nat} {nm : Nat → Nat} {fw : Nat → Int64} {iw : Nat → Int64} {lw : Nat → Int64} {mb : Nat → Bool} {nc : Nat} {pp : Nat} {rmo : Option Nat} {nr : Nat → Nat} {rv : Nat → Int64} {ct : Nat} {kd : Nat → Nat} {nv : Nat → Nat} {lf : Nat → Int} {rt : Nat → Int} {ab : Nat → Int} {em : Nat → Bool} {pv : Nat → Nat} {bv : Nat → Nat} {ov : Nat → Nat} {sv : Nat → Nat} {rdv : Nat → Nat} {cv : Nat → Bool} {lt : Nat → Bool} {tv : Nat → Nat} {nn : Nat} {db : Nat} {mm : Int} {wh : Bool} {lq : Bool} {mo : Nat → Nat} {me : Nat → Nat} {ms : Nat → Nat} {msw : Nat → Nat} {en : Nat → Nat → Nat} {ne : Nat → Nat} {mf : Nat → Nat → Int64} {dt : Nat → Bool} {st : Nat → Nat} {dlo : Nat} {nd : Nat → Nat} {ndm : Nat → Nat → Nat} {nmm : Nat → Nat → Nat} (H : Heap) (locs : List Loc) (ls : Array Slot), va_P D vwCl ((cW c x xm d dn df dfw di diw dl dlw dm rd rn rc rcw mg mk nm fw iw lw mb nc pp rmo nr rv ct) ++ ((rW c o0 ka na xla xra aa ea pa ba oa sa qa ca ta td pp nc mk ct kd nv lf rt ab em pv bv ov sv rdv cv lt tv nn db mm wh lq) ++ pL c mo me ms msw en ne mf dt mk)) H → va_D (fun q : Nat => s.heap.size ≤ q) ((cW c x xm d dn df dfw di diw dl dlw dm rd rn rc rcw mg mk nm fw iw lw mb nc pp rmo nr rv ct) ++ ((rW c o0 ka na xla xra aa ea pa ba oa sa qa ca ta td pp nc mk ct kd nv lf rt ab em pv bv ov sv rdv cv lt tv nn db mm wh lq) ++ pL c mo me ms msw en ne mf dt mk)) → LR (n_ + 1) mg mk nm fw iw lw mb nc pp rmo nr rv ct kd nv lf rt ab em pv bv ov sv rdv cv lt tv nn db mm wh lq mo me ms msw en ne mf dt st dlo nd ndm nmm → va_S (fun q : Nat => s.heap.size ≤ q) s.heap H locs → lv_has ls 4 [(0, .ref b), (1, .ref x), (2, .ref o0), (3, .int (zI ((i_ : Nat) : Int)))] → W p l e room_1 s m #[Value.ref b] below meth c0 H locs (30 + 4 * (n_ + 1)) (79921 + 1283 * (n_ + 1)) (lw_Z below #[Value.ref b] s) (F0 m 366 ls [])) {mg : Nat → Option Nat} {mk : Nat} {nm : Nat → Nat} {fw : Nat → Int64} {iw : Nat → Int64} {lw : Nat → Int64} {mb : Nat → Bool} {nc : Nat} {pp : Nat} {rmo : Option Nat} {nr : Nat → Nat} {rv : Nat → Int64} {ct : Nat} {kd : Nat → Nat} {nv : Nat → Nat} {lf : Nat → Int} {rt : Nat → Int} {ab : Nat → Int} {em : Nat → Bool} {pv : Nat → Nat} {bv : Nat → Nat} {ov : Nat → Nat} {sv : Nat → Nat} {rdv : Nat → Nat} {cv : Nat → Bool} {lt : Nat → Bool} {tv : Nat → Nat} {nn : Nat} {db : Nat} {mm : Int} {wh : Bool} {lq : Bool} {mo : Nat → Nat} {me : Nat → Nat} {ms : Nat → Nat} {msw : Nat → Nat} {en : Nat → Nat → Nat} {ne : Nat → Nat} {mf : Nat → Nat → Int64} {dt : Nat → Bool} {st : Nat → Nat} {dlo : Nat} {nd : Nat → Nat} {ndm : Nat → Nat → Nat} {nmm : Nat → Nat → Nat} {H : Heap} {locs : List Loc} {ls : Array Slot} (hP : va_P D vwCl ((cW c x xm d dn df dfw di diw dl dlw dm rd rn rc rcw mg mk nm fw iw lw mb nc pp rmo nr rv ct) ++ ((rW c o0 ka na xla xra aa ea pa ba oa sa qa ca ta td pp nc mk ct kd nv lf rt ab em pv bv ov sv rdv cv lt tv nn db mm wh lq) ++ pL c mo me ms msw en ne mf dt mk)) H) (hD : va_D (fun q : Nat => s.heap.size ≤ q) ((cW c x xm d dn df dfw di diw dl dlw dm rd rn rc rcw mg mk nm fw iw lw mb nc pp rmo nr rv ct) ++ ((rW c o0 ka na xla xra aa ea pa ba oa sa qa ca ta td pp nc mk ct kd nv lf rt ab em pv bv ov sv rdv cv lt tv nn db mm wh lq) ++ pL c mo me ms msw en ne mf dt mk))) (hR : LR n_ mg mk nm fw iw lw mb nc pp rmo nr rv ct kd nv lf rt ab em pv bv ov sv rdv cv lt tv nn db mm wh lq mo me ms msw en ne mf dt st dlo nd ndm nmm) (hS : va_S (fun q : Nat => s.heap.size ≤ q) s.heap H locs) (hl : lv_has ls 4 [(0, .ref b), (1, .ref x), (2, .ref o0), (3, .int (zI ((i_ : Nat) : Int)))]) : W p l e room_1 s m #[Value.ref b] below meth c0 H locs (30 + 4 * n_) (79921 + 1283 * n_) (lw_Z below #[Value.ref b] s) (F0 m 225 ls []) := by
  obtain ⟨hx, hb, hr, hml, hown, hts, hX, hbl, hlocks, hgv⟩ := id C0
  have hbA : ¬ (fun q : Nat => s.heap.size ≤ q) b := Nat.not_le.mpr hbl
  obtain ⟨hdr, hdb, hnn, hmk, hmo, hrd⟩ := hR
  have hdlo := prt_dl hdr.2.1
  have hpp := hdr.1
  have hcl : 30 + 4 * n_ ≤ 600000 := by omega
  have hsl : 79921 + 1283 * n_ ≤ 7302250 := by omega
  have hyr := zI_rng (xs (i_ + 1))
  rcases Decidable.em (0 ≤ (xs (i_ + 1)).toInt ∧ (xs (i_ + 1)).toInt < ((mk : Nat) : Int)) with hv | hv
  · obtain ⟨k, ha_⟩ : ∃ k : Nat, (xs (i_ + 1)).toInt = ((k : Nat) : Int) := ⟨_, (Int.toNat_of_nonneg (by omega)).symm⟩
    have hk : k < mk := by omega
    have hmr := (hmo k hk).2.2.2
    have hov := (hmo k hk).2.1
    have hbr := hmr.1.1
    obtain ⟨P1, P2, hsp⟩ := pL_split (c := c) (mo := mo) (me := me) (ms := ms) (msw := msw) (en := en) (ne := ne) (mf := mf) (dt := dt) hk
    have hPk := hP
    have hDk := hD
    rw [hsp, z_re] at hPk hDk
    refine lv_aload_n hx hb d_law_225 rfl (lv_at hl 1 rfl) ?_
    refine lv_aload_n hx hb d_law_226 rfl (lv_at hl 0 rfl) ?_
    refine lv_iload_n hx hb d_law_227 rfl (lv_at hl 3 rfl) ?_
    refine lv_iconst (v := zI 1) hx hb d_law_228 (by decide) ?_
    refine z_iadd hx hb d_law_229 ?_
    refine z_sld hx hb hX hbl hbA hS (i_ + 1) (by omega) hi_ (by omega) d_law_230 ?_
    refine z_top (v2 := .int (zI ((k : Nat) : Int))) (congrArg Value.int ((zI_self _).symm.trans (congrArg zI ha_))) ?_
    refine lc_isDeterministic C0 hKN hmk hk (hmo k hk).1 hcl hsl hl.1 (Nat.le_of_ble_eq_true rfl) hPk hDk hS ?_
    refine lv_aload_n hx hb d_law_234 rfl (lv_at hl 2 rfl) ?_
    refine lv_aload_n hx hb d_law_235 rfl (lv_at hl 0 rfl) ?_
    refine lv_iload_n hx hb d_law_236 rfl (lv_at hl 3 rfl) ?_
    refine lv_iconst (v := zI 1) hx hb d_law_237 (by decide) ?_
    refine z_iadd hx hb d_law_238 ?_
    refine z_sld hx hb hX hbl hbA hS (i_ + 1) (by omega) hi_ (by omega) d_law_239 ?_
    refine z_top (v2 := .int (zI ((k : Nat) : Int))) (congrArg Value.int ((zI_self _).symm.trans (congrArg zI ha_))) ?_
    replace hP := z_swP hP
    replace hD := z_swD hD
    refine lc_r_isDeterministic C0 hKN hmk hk hmr.1 (by omega) (m_nv hmr) hcl hsl hl.1 (Nat.le_of_ble_eq_true rfl) hP hD hS (fun lt2 lw2 tv2 H locs hP hD hS => ?_)
    replace hP := z_swP hP
    replace hD := z_swD hD
    refine lv_icmp_eq (tgt := 366) hx hb d_law_243 (by decide) (fun _ => ?_) (fun hne => absurd (congrArg zB (m_det hmr)) hne)
    refine W.widen (k := 30 + 4 * (n_ + 1)) (n := 79921 + 1283 * (n_ + 1)) (by omega) (by omega) ?_
    exact K (st := st) (dlo := dlo) (nd := nd) (ndm := ndm) (nmm := nmm) H locs ls hP hD ⟨hdr, hdb, (by omega), hmk, hmo, hrd⟩ hS hl
  · refine lv_aload_n hx hb d_law_225 rfl (lv_at hl 1 rfl) ?_
    refine lv_aload_n hx hb d_law_226 rfl (lv_at hl 0 rfl) ?_
    refine lv_iload_n hx hb d_law_227 rfl (lv_at hl 3 rfl) ?_
    refine lv_iconst (v := zI 1) hx hb d_law_228 (by decide) ?_
    refine z_iadd hx hb d_law_229 ?_
    refine z_sld hx hb hX hbl hbA hS (i_ + 1) (by omega) hi_ (by omega) d_law_230 ?_
    refine z_top (v2 := .int (zI ((xs (i_ + 1)).toInt))) (congrArg Value.int ((zI_self _).symm)) ?_
    refine lc_isDeterministic_no C0 hKN hyr hmk (by omega) hcl hsl hl.1 (Nat.le_of_ble_eq_true rfl) hP hD hS ?_
    refine lv_aload_n hx hb d_law_234 rfl (lv_at hl 2 rfl) ?_
    refine lv_aload_n hx hb d_law_235 rfl (lv_at hl 0 rfl) ?_
    refine lv_iload_n hx hb d_law_236 rfl (lv_at hl 3 rfl) ?_
    refine lv_iconst (v := zI 1) hx hb d_law_237 (by decide) ?_
    refine z_iadd hx hb d_law_238 ?_
    refine z_sld hx hb hX hbl hbA hS (i_ + 1) (by omega) hi_ (by omega) d_law_239 ?_
    refine z_top (v2 := .int (zI ((xs (i_ + 1)).toInt))) (congrArg Value.int ((zI_self _).symm)) ?_
    replace hP := z_swP hP
    replace hD := z_swD hD
    refine lc_r_isDeterministic_no C0 hKN hyr hmk (by omega) hcl hsl hl.1 (Nat.le_of_ble_eq_true rfl) hP hD hS ?_
    replace hP := z_swP hP
    replace hD := z_swD hD
    refine lv_icmp_eq (tgt := 366) hx hb d_law_243 (by decide) (fun _ => ?_) (fun hne => absurd (rfl) hne)
    refine W.widen (k := 30 + 4 * (n_ + 1)) (n := 79921 + 1283 * (n_ + 1)) (by omega) (by omega) ?_
    exact K (st := st) (dlo := dlo) (nd := nd) (ndm := ndm) (nmm := nmm) H locs ls hP hD ⟨hdr, hdb, (by omega), hmk, hmo, hrd⟩ hS hl

set_option maxHeartbeats 4000000 in
set_option maxRecDepth 100000 in
theorem law_begin {p : Program} {l : Launch} {e : Env} {s : State} {m : MethodId} {below : List Frame} {meth : Method} {c0 : Code} {D : va_G} {c : Nat → ClassId} {b L : Nat} {xs : Nat → Int32} (C0 : lw_At p s m meth c0 b L xs) (hL : L ≤ 1024) (hKN : zK D c s) {n_ i_ : Nat} {x xm d dn df dfw di diw dl dlw dm rd rn rc rcw o0 ka na xla xra aa ea pa ba oa sa qa ca ta td : Nat} (hn_ : n_ < 512) (hi_ : i_ + 1 < L) (K : ∀ {mg : Nat → Option Nat} {mk : Nat} {nm : Nat → Nat} {fw : Nat → Int64} {iw : Nat → Int64} {lw : Nat → Int64} {mb : Nat → Bool} {nc : Nat} {pp : Nat} {rmo : Option Nat} {nr : Nat → Nat} {rv : Nat → Int64} {ct : Nat} {kd : Nat → Nat} {nv : Nat → Nat} {lf : Nat → Int} {rt : Nat → Int} {ab : Nat → Int} {em : Nat → Bool} {pv : Nat → Nat} {bv : Nat → Nat} {ov : Nat → Nat} {sv : Nat → Nat} {rdv : Nat → Nat} {cv : Nat → Bool} {lt : Nat → Bool} {tv : Nat → Nat} {nn : Nat} {db : Nat} {mm : Int} {wh : Bool} {lq : Bool} {mo : Nat → Nat} {me : Nat → Nat} {ms : Nat → Nat} {msw : Nat → Nat} {en : Nat → Nat → Nat} {ne : Nat → Nat} {mf : Nat → Nat → Int64} {dt : Nat → Bool} {st : Nat → Nat} {dlo : Nat} {nd : Nat → Nat} {ndm : Nat → Nat → Nat} {nmm : Nat → Nat → Nat} (H : Heap) (locs : List Loc) (ls : Array Slot), va_P D vwCl ((cW c x xm d dn df dfw di diw dl dlw dm rd rn rc rcw mg mk nm fw iw lw mb nc pp rmo nr rv ct) ++ ((rW c o0 ka na xla xra aa ea pa ba oa sa qa ca ta td pp nc mk ct kd nv lf rt ab em pv bv ov sv rdv cv lt tv nn db mm wh lq) ++ pL c mo me ms msw en ne mf dt mk)) H → va_D (fun q : Nat => s.heap.size ≤ q) ((cW c x xm d dn df dfw di diw dl dlw dm rd rn rc rcw mg mk nm fw iw lw mb nc pp rmo nr rv ct) ++ ((rW c o0 ka na xla xra aa ea pa ba oa sa qa ca ta td pp nc mk ct kd nv lf rt ab em pv bv ov sv rdv cv lt tv nn db mm wh lq) ++ pL c mo me ms msw en ne mf dt mk)) → LR (n_ + 1) mg mk nm fw iw lw mb nc pp rmo nr rv ct kd nv lf rt ab em pv bv ov sv rdv cv lt tv nn db mm wh lq mo me ms msw en ne mf dt st dlo nd ndm nmm → va_S (fun q : Nat => s.heap.size ≤ q) s.heap H locs → lv_has ls 4 [(0, .ref b), (1, .ref x), (2, .ref o0), (3, .int (zI ((i_ : Nat) : Int)))] → W p l e room_1 s m #[Value.ref b] below meth c0 H locs (30 + 4 * (n_ + 1)) (79921 + 1283 * (n_ + 1)) (lw_Z below #[Value.ref b] s) (F0 m 366 ls [])) {mg : Nat → Option Nat} {mk : Nat} {nm : Nat → Nat} {fw : Nat → Int64} {iw : Nat → Int64} {lw : Nat → Int64} {mb : Nat → Bool} {nc : Nat} {pp : Nat} {rmo : Option Nat} {nr : Nat → Nat} {rv : Nat → Int64} {ct : Nat} {kd : Nat → Nat} {nv : Nat → Nat} {lf : Nat → Int} {rt : Nat → Int} {ab : Nat → Int} {em : Nat → Bool} {pv : Nat → Nat} {bv : Nat → Nat} {ov : Nat → Nat} {sv : Nat → Nat} {rdv : Nat → Nat} {cv : Nat → Bool} {lt : Nat → Bool} {tv : Nat → Nat} {nn : Nat} {db : Nat} {mm : Int} {wh : Bool} {lq : Bool} {mo : Nat → Nat} {me : Nat → Nat} {ms : Nat → Nat} {msw : Nat → Nat} {en : Nat → Nat → Nat} {ne : Nat → Nat} {mf : Nat → Nat → Int64} {dt : Nat → Bool} {st : Nat → Nat} {dlo : Nat} {nd : Nat → Nat} {ndm : Nat → Nat → Nat} {nmm : Nat → Nat → Nat} {H : Heap} {locs : List Loc} {ls : Array Slot} (hP : va_P D vwCl ((cW c x xm d dn df dfw di diw dl dlw dm rd rn rc rcw mg mk nm fw iw lw mb nc pp rmo nr rv ct) ++ ((rW c o0 ka na xla xra aa ea pa ba oa sa qa ca ta td pp nc mk ct kd nv lf rt ab em pv bv ov sv rdv cv lt tv nn db mm wh lq) ++ pL c mo me ms msw en ne mf dt mk)) H) (hD : va_D (fun q : Nat => s.heap.size ≤ q) ((cW c x xm d dn df dfw di diw dl dlw dm rd rn rc rcw mg mk nm fw iw lw mb nc pp rmo nr rv ct) ++ ((rW c o0 ka na xla xra aa ea pa ba oa sa qa ca ta td pp nc mk ct kd nv lf rt ab em pv bv ov sv rdv cv lt tv nn db mm wh lq) ++ pL c mo me ms msw en ne mf dt mk))) (hR : LR n_ mg mk nm fw iw lw mb nc pp rmo nr rv ct kd nv lf rt ab em pv bv ov sv rdv cv lt tv nn db mm wh lq mo me ms msw en ne mf dt st dlo nd ndm nmm) (hS : va_S (fun q : Nat => s.heap.size ≤ q) s.heap H locs) (hl : lv_has ls 4 [(0, .ref b), (1, .ref x), (2, .ref o0), (3, .int (zI ((i_ : Nat) : Int)))]) : W p l e room_1 s m #[Value.ref b] below meth c0 H locs (30 + 4 * n_) (79921 + 1283 * n_) (lw_Z below #[Value.ref b] s) (F0 m 248 ls []) := by
  obtain ⟨hx, hb, hr, hml, hown, hts, hX, hbl, hlocks, hgv⟩ := id C0
  have hbA : ¬ (fun q : Nat => s.heap.size ≤ q) b := Nat.not_le.mpr hbl
  obtain ⟨hdr, hdb, hnn, hmk, hmo, hrd⟩ := hR
  have hdlo := prt_dl hdr.2.1
  have hpp := hdr.1
  have hcl : 30 + 4 * n_ ≤ 600000 := by omega
  have hsl : 79921 + 1283 * n_ ≤ 7302250 := by omega
  have hyr := zI_rng (xs (i_ + 1))
  rcases Decidable.em (0 ≤ (xs (i_ + 1)).toInt ∧ (xs (i_ + 1)).toInt < ((mk : Nat) : Int)) with hv | hv
  · obtain ⟨k, ha_⟩ : ∃ k : Nat, (xs (i_ + 1)).toInt = ((k : Nat) : Int) := ⟨_, (Int.toNat_of_nonneg (by omega)).symm⟩
    have hk : k < mk := by omega
    have hmr := (hmo k hk).2.2.2
    have hov := (hmo k hk).2.1
    have hbr := hmr.1.1
    obtain ⟨P1, P2, hsp⟩ := pL_split (c := c) (mo := mo) (me := me) (ms := ms) (msw := msw) (en := en) (ne := ne) (mf := mf) (dt := dt) hk
    have hPk := hP
    have hDk := hD
    rw [hsp, z_re] at hPk hDk
    refine lv_aload_n hx hb d_law_248 rfl (lv_at hl 1 rfl) ?_
    refine lv_aload_n hx hb d_law_249 rfl (lv_at hl 0 rfl) ?_
    refine lv_iload_n hx hb d_law_250 rfl (lv_at hl 3 rfl) ?_
    refine lv_iconst (v := zI 1) hx hb d_law_251 (by decide) ?_
    refine z_iadd hx hb d_law_252 ?_
    refine z_sld hx hb hX hbl hbA hS (i_ + 1) (by omega) hi_ (by omega) d_law_253 ?_
    refine z_top (v2 := .int (zI ((k : Nat) : Int))) (congrArg Value.int ((zI_self _).symm.trans (congrArg zI ha_))) ?_
    refine lc_begin C0 hKN hmk hk (hmo k hk).1 hmr.2.1 (m_hen hmr).1 hcl hsl hl.1 (Nat.le_of_ble_eq_true rfl) hPk hDk hS (fun  H locs hP hD hS => ?_)
    replace hP := z_bkP hsp hP
    replace hD := z_bkD hsp hD
    refine lv_aload_n hx hb d_law_257 rfl (lv_at hl 2 rfl) ?_
    refine lv_aload_n hx hb d_law_258 rfl (lv_at hl 0 rfl) ?_
    refine lv_iload_n hx hb d_law_259 rfl (lv_at hl 3 rfl) ?_
    refine lv_iconst (v := zI 1) hx hb d_law_260 (by decide) ?_
    refine z_iadd hx hb d_law_261 ?_
    refine z_sld hx hb hX hbl hbA hS (i_ + 1) (by omega) hi_ (by omega) d_law_262 ?_
    refine z_top (v2 := .int (zI ((k : Nat) : Int))) (congrArg Value.int ((zI_self _).symm.trans (congrArg zI ha_))) ?_
    replace hP := z_swP hP
    replace hD := z_swD hD
    refine lc_r_begin C0 hKN hmk hk hmr.1 (by omega) hcl hsl hl.1 (Nat.le_of_ble_eq_true rfl) hP hD hS (fun tv2 H locs hP hD hS => ?_)
    replace hP := z_swP hP
    replace hD := z_swD hD
    refine lv_icmp_eq (tgt := 366) hx hb d_law_266 (by decide) (fun _ => ?_) (fun hne => absurd (rfl) hne)
    refine W.widen (k := 30 + 4 * (n_ + 1)) (n := 79921 + 1283 * (n_ + 1)) (by omega) (by omega) ?_
    exact K (st := st) (dlo := dlo) (nd := nd) (ndm := ndm) (nmm := nmm) H locs ls hP hD ⟨hdr, hdb, (by omega), hmk, hmo, Or.inr ⟨k, hk, rfl, rfl, rd_begin hmr rv nr rdv cv⟩⟩ hS hl
  · refine lv_aload_n hx hb d_law_248 rfl (lv_at hl 1 rfl) ?_
    refine lv_aload_n hx hb d_law_249 rfl (lv_at hl 0 rfl) ?_
    refine lv_iload_n hx hb d_law_250 rfl (lv_at hl 3 rfl) ?_
    refine lv_iconst (v := zI 1) hx hb d_law_251 (by decide) ?_
    refine z_iadd hx hb d_law_252 ?_
    refine z_sld hx hb hX hbl hbA hS (i_ + 1) (by omega) hi_ (by omega) d_law_253 ?_
    refine z_top (v2 := .int (zI ((xs (i_ + 1)).toInt))) (congrArg Value.int ((zI_self _).symm)) ?_
    refine lc_begin_no C0 hKN hyr hmk (by omega) hcl hsl hl.1 (Nat.le_of_ble_eq_true rfl) hP hD hS ?_
    refine lv_aload_n hx hb d_law_257 rfl (lv_at hl 2 rfl) ?_
    refine lv_aload_n hx hb d_law_258 rfl (lv_at hl 0 rfl) ?_
    refine lv_iload_n hx hb d_law_259 rfl (lv_at hl 3 rfl) ?_
    refine lv_iconst (v := zI 1) hx hb d_law_260 (by decide) ?_
    refine z_iadd hx hb d_law_261 ?_
    refine z_sld hx hb hX hbl hbA hS (i_ + 1) (by omega) hi_ (by omega) d_law_262 ?_
    refine z_top (v2 := .int (zI ((xs (i_ + 1)).toInt))) (congrArg Value.int ((zI_self _).symm)) ?_
    replace hP := z_swP hP
    replace hD := z_swD hD
    refine lc_r_begin_no C0 hKN hyr hmk (by omega) hcl hsl hl.1 (Nat.le_of_ble_eq_true rfl) hP hD hS ?_
    replace hP := z_swP hP
    replace hD := z_swD hD
    refine lv_icmp_eq (tgt := 366) hx hb d_law_266 (by decide) (fun _ => ?_) (fun hne => absurd (rfl) hne)
    refine W.widen (k := 30 + 4 * (n_ + 1)) (n := 79921 + 1283 * (n_ + 1)) (by omega) (by omega) ?_
    exact K (st := st) (dlo := dlo) (nd := nd) (ndm := ndm) (nmm := nmm) H locs ls hP hD ⟨hdr, hdb, (by omega), hmk, hmo, hrd⟩ hS hl

set_option maxHeartbeats 4000000 in
set_option maxRecDepth 100000 in
theorem law_read {p : Program} {l : Launch} {e : Env} {s : State} {m : MethodId} {below : List Frame} {meth : Method} {c0 : Code} {D : va_G} {c : Nat → ClassId} {b L : Nat} {xs : Nat → Int32} (C0 : lw_At p s m meth c0 b L xs) (hL : L ≤ 1024) (hKN : zK D c s) {n_ i_ : Nat} {x xm d dn df dfw di diw dl dlw dm rd rn rc rcw o0 ka na xla xra aa ea pa ba oa sa qa ca ta td : Nat} (hn_ : n_ < 512) (hi_ : i_ + 1 < L) (K : ∀ {mg : Nat → Option Nat} {mk : Nat} {nm : Nat → Nat} {fw : Nat → Int64} {iw : Nat → Int64} {lw : Nat → Int64} {mb : Nat → Bool} {nc : Nat} {pp : Nat} {rmo : Option Nat} {nr : Nat → Nat} {rv : Nat → Int64} {ct : Nat} {kd : Nat → Nat} {nv : Nat → Nat} {lf : Nat → Int} {rt : Nat → Int} {ab : Nat → Int} {em : Nat → Bool} {pv : Nat → Nat} {bv : Nat → Nat} {ov : Nat → Nat} {sv : Nat → Nat} {rdv : Nat → Nat} {cv : Nat → Bool} {lt : Nat → Bool} {tv : Nat → Nat} {nn : Nat} {db : Nat} {mm : Int} {wh : Bool} {lq : Bool} {mo : Nat → Nat} {me : Nat → Nat} {ms : Nat → Nat} {msw : Nat → Nat} {en : Nat → Nat → Nat} {ne : Nat → Nat} {mf : Nat → Nat → Int64} {dt : Nat → Bool} {st : Nat → Nat} {dlo : Nat} {nd : Nat → Nat} {ndm : Nat → Nat → Nat} {nmm : Nat → Nat → Nat} (H : Heap) (locs : List Loc) (ls : Array Slot), va_P D vwCl ((cW c x xm d dn df dfw di diw dl dlw dm rd rn rc rcw mg mk nm fw iw lw mb nc pp rmo nr rv ct) ++ ((rW c o0 ka na xla xra aa ea pa ba oa sa qa ca ta td pp nc mk ct kd nv lf rt ab em pv bv ov sv rdv cv lt tv nn db mm wh lq) ++ pL c mo me ms msw en ne mf dt mk)) H → va_D (fun q : Nat => s.heap.size ≤ q) ((cW c x xm d dn df dfw di diw dl dlw dm rd rn rc rcw mg mk nm fw iw lw mb nc pp rmo nr rv ct) ++ ((rW c o0 ka na xla xra aa ea pa ba oa sa qa ca ta td pp nc mk ct kd nv lf rt ab em pv bv ov sv rdv cv lt tv nn db mm wh lq) ++ pL c mo me ms msw en ne mf dt mk)) → LR (n_ + 1) mg mk nm fw iw lw mb nc pp rmo nr rv ct kd nv lf rt ab em pv bv ov sv rdv cv lt tv nn db mm wh lq mo me ms msw en ne mf dt st dlo nd ndm nmm → va_S (fun q : Nat => s.heap.size ≤ q) s.heap H locs → lv_has ls 4 [(0, .ref b), (1, .ref x), (2, .ref o0), (3, .int (zI ((i_ : Nat) : Int)))] → W p l e room_1 s m #[Value.ref b] below meth c0 H locs (30 + 4 * (n_ + 1)) (79921 + 1283 * (n_ + 1)) (lw_Z below #[Value.ref b] s) (F0 m 366 ls [])) {mg : Nat → Option Nat} {mk : Nat} {nm : Nat → Nat} {fw : Nat → Int64} {iw : Nat → Int64} {lw : Nat → Int64} {mb : Nat → Bool} {nc : Nat} {pp : Nat} {rmo : Option Nat} {nr : Nat → Nat} {rv : Nat → Int64} {ct : Nat} {kd : Nat → Nat} {nv : Nat → Nat} {lf : Nat → Int} {rt : Nat → Int} {ab : Nat → Int} {em : Nat → Bool} {pv : Nat → Nat} {bv : Nat → Nat} {ov : Nat → Nat} {sv : Nat → Nat} {rdv : Nat → Nat} {cv : Nat → Bool} {lt : Nat → Bool} {tv : Nat → Nat} {nn : Nat} {db : Nat} {mm : Int} {wh : Bool} {lq : Bool} {mo : Nat → Nat} {me : Nat → Nat} {ms : Nat → Nat} {msw : Nat → Nat} {en : Nat → Nat → Nat} {ne : Nat → Nat} {mf : Nat → Nat → Int64} {dt : Nat → Bool} {st : Nat → Nat} {dlo : Nat} {nd : Nat → Nat} {ndm : Nat → Nat → Nat} {nmm : Nat → Nat → Nat} {H : Heap} {locs : List Loc} {ls : Array Slot} (hP : va_P D vwCl ((cW c x xm d dn df dfw di diw dl dlw dm rd rn rc rcw mg mk nm fw iw lw mb nc pp rmo nr rv ct) ++ ((rW c o0 ka na xla xra aa ea pa ba oa sa qa ca ta td pp nc mk ct kd nv lf rt ab em pv bv ov sv rdv cv lt tv nn db mm wh lq) ++ pL c mo me ms msw en ne mf dt mk)) H) (hD : va_D (fun q : Nat => s.heap.size ≤ q) ((cW c x xm d dn df dfw di diw dl dlw dm rd rn rc rcw mg mk nm fw iw lw mb nc pp rmo nr rv ct) ++ ((rW c o0 ka na xla xra aa ea pa ba oa sa qa ca ta td pp nc mk ct kd nv lf rt ab em pv bv ov sv rdv cv lt tv nn db mm wh lq) ++ pL c mo me ms msw en ne mf dt mk))) (hR : LR n_ mg mk nm fw iw lw mb nc pp rmo nr rv ct kd nv lf rt ab em pv bv ov sv rdv cv lt tv nn db mm wh lq mo me ms msw en ne mf dt st dlo nd ndm nmm) (hS : va_S (fun q : Nat => s.heap.size ≤ q) s.heap H locs) (hl : lv_has ls 4 [(0, .ref b), (1, .ref x), (2, .ref o0), (3, .int (zI ((i_ : Nat) : Int)))]) : W p l e room_1 s m #[Value.ref b] below meth c0 H locs (30 + 4 * n_) (79921 + 1283 * n_) (lw_Z below #[Value.ref b] s) (F0 m 271 ls []) := by
  obtain ⟨hx, hb, hr, hml, hown, hts, hX, hbl, hlocks, hgv⟩ := id C0
  have hbA : ¬ (fun q : Nat => s.heap.size ≤ q) b := Nat.not_le.mpr hbl
  obtain ⟨hdr, hdb, hnn, hmk, hmo, hrd⟩ := hR
  have hdlo := prt_dl hdr.2.1
  have hpp := hdr.1
  have hcl : 30 + 4 * n_ ≤ 600000 := by omega
  have hsl : 79921 + 1283 * n_ ≤ 7302250 := by omega
  have hyr := zI_rng (xs (i_ + 1))
  rcases Decidable.em (1 ≤ (xs (i_ + 1)).toInt ∧ (xs (i_ + 1)).toInt ≤ 1000) with hv | hv
  · obtain ⟨a_, ha_⟩ : ∃ a_ : Nat, (xs (i_ + 1)).toInt = ((a_ : Nat) : Int) := ⟨_, (Int.toNat_of_nonneg (by omega)).symm⟩
    rcases hrd with ⟨rfl, rfl, rfl⟩ | ⟨k, hk, rfl, rfl, hg⟩
    · refine lv_aload_n hx hb d_law_271 rfl (lv_at hl 1 rfl) ?_
      refine lv_aload_n hx hb d_law_272 rfl (lv_at hl 0 rfl) ?_
      refine lv_iload_n hx hb d_law_273 rfl (lv_at hl 3 rfl) ?_
      refine lv_iconst (v := zI 1) hx hb d_law_274 (by decide) ?_
      refine z_iadd hx hb d_law_275 ?_
      refine z_sld hx hb hX hbl hbA hS (i_ + 1) (by omega) hi_ (by omega) d_law_276 ?_
      refine z_top (v2 := .int (zI ((a_ : Nat) : Int))) (congrArg Value.int ((zI_self _).symm.trans (congrArg zI ha_))) ?_
      refine lc_read_null C0 hKN (by omega) hcl hsl hl.1 (Nat.le_of_ble_eq_true rfl) hP hD hS ?_
      refine lv_aload_n hx hb d_law_280 rfl (lv_at hl 2 rfl) ?_
      refine lv_aload_n hx hb d_law_281 rfl (lv_at hl 0 rfl) ?_
      refine lv_iload_n hx hb d_law_282 rfl (lv_at hl 3 rfl) ?_
      refine lv_iconst (v := zI 1) hx hb d_law_283 (by decide) ?_
      refine z_iadd hx hb d_law_284 ?_
      refine z_sld hx hb hX hbl hbA hS (i_ + 1) (by omega) hi_ (by omega) d_law_285 ?_
      refine z_top (v2 := .int (zI ((a_ : Nat) : Int))) (congrArg Value.int ((zI_self _).symm.trans (congrArg zI ha_))) ?_
      replace hP := z_swP hP
      replace hD := z_swD hD
      refine lc_r_read_null C0 hKN (by omega) hcl hsl hl.1 (Nat.le_of_ble_eq_true rfl) hP hD hS ?_
      replace hP := z_swP hP
      replace hD := z_swD hD
      refine lv_icmp_eq (tgt := 366) hx hb d_law_289 (by decide) (fun _ => ?_) (fun hne => absurd (rfl) hne)
      refine W.widen (k := 30 + 4 * (n_ + 1)) (n := 79921 + 1283 * (n_ + 1)) (by omega) (by omega) ?_
      exact K (st := st) (dlo := dlo) (nd := nd) (ndm := ndm) (nmm := nmm) H locs ls hP hD ⟨hdr, hdb, (by omega), hmk, hmo, Or.inl ⟨rfl, rfl, rfl⟩⟩ hS hl
    · have hmr := (hmo k hk).2.2.2
      have hov := (hmo k hk).2.1
      have hbr := hmr.1.1
      have hct := hg.2.2.2.2
      rcases Decidable.em (ct = 1000) with hc1 | hc1
      · subst hc1
        refine lv_aload_n hx hb d_law_271 rfl (lv_at hl 1 rfl) ?_
        refine lv_aload_n hx hb d_law_272 rfl (lv_at hl 0 rfl) ?_
        refine lv_iload_n hx hb d_law_273 rfl (lv_at hl 3 rfl) ?_
        refine lv_iconst (v := zI 1) hx hb d_law_274 (by decide) ?_
        refine z_iadd hx hb d_law_275 ?_
        refine z_sld hx hb hX hbl hbA hS (i_ + 1) (by omega) hi_ (by omega) d_law_276 ?_
        refine z_top (v2 := .int (zI ((a_ : Nat) : Int))) (congrArg Value.int ((zI_self _).symm.trans (congrArg zI ha_))) ?_
        refine lc_read_full C0 hKN (by omega) hcl hsl hl.1 (Nat.le_of_ble_eq_true rfl) hP hD hS ?_
        refine lv_aload_n hx hb d_law_280 rfl (lv_at hl 2 rfl) ?_
        refine lv_aload_n hx hb d_law_281 rfl (lv_at hl 0 rfl) ?_
        refine lv_iload_n hx hb d_law_282 rfl (lv_at hl 3 rfl) ?_
        refine lv_iconst (v := zI 1) hx hb d_law_283 (by decide) ?_
        refine z_iadd hx hb d_law_284 ?_
        refine z_sld hx hb hX hbl hbA hS (i_ + 1) (by omega) hi_ (by omega) d_law_285 ?_
        refine z_top (v2 := .int (zI ((a_ : Nat) : Int))) (congrArg Value.int ((zI_self _).symm.trans (congrArg zI ha_))) ?_
        replace hP := z_swP hP
        replace hD := z_swD hD
        refine lc_r_read_full C0 hKN (by omega) (by omega) hcl hsl hl.1 (Nat.le_of_ble_eq_true rfl) hP hD hS ?_
        replace hP := z_swP hP
        replace hD := z_swD hD
        refine lv_icmp_eq (tgt := 366) hx hb d_law_289 (by decide) (fun _ => ?_) (fun hne => absurd (rfl) hne)
        refine W.widen (k := 30 + 4 * (n_ + 1)) (n := 79921 + 1283 * (n_ + 1)) (by omega) (by omega) ?_
        exact K (st := st) (dlo := dlo) (nd := nd) (ndm := ndm) (nmm := nmm) H locs ls hP hD ⟨hdr, hdb, (by omega), hmk, hmo, Or.inr ⟨k, hk, rfl, rfl, hg⟩⟩ hS hl
      · obtain ⟨P1, P2, hsp⟩ := pL_split (c := c) (mo := mo) (me := me) (ms := ms) (msw := msw) (en := en) (ne := ne) (mf := mf) (dt := dt) hk
        have hPk := hP
        have hDk := hD
        rw [hsp, z_re] at hPk hDk
        refine lv_aload_n hx hb d_law_271 rfl (lv_at hl 1 rfl) ?_
        refine lv_aload_n hx hb d_law_272 rfl (lv_at hl 0 rfl) ?_
        refine lv_iload_n hx hb d_law_273 rfl (lv_at hl 3 rfl) ?_
        refine lv_iconst (v := zI 1) hx hb d_law_274 (by decide) ?_
        refine z_iadd hx hb d_law_275 ?_
        refine z_sld hx hb hX hbl hbA hS (i_ + 1) (by omega) hi_ (by omega) d_law_276 ?_
        refine z_top (v2 := .int (zI ((a_ : Nat) : Int))) (congrArg Value.int ((zI_self _).symm.trans (congrArg zI ha_))) ?_
        refine lc_read C0 hKN (by omega) hmr.2.1 (m_hen hmr).1 (m_hen hmr).2 (by omega) hcl hsl hl.1 (Nat.le_of_ble_eq_true rfl) hPk hDk hS (fun  H locs hP hD hS => ?_)
        replace hP := z_bkP hsp hP
        replace hD := z_bkD hsp hD
        refine lv_aload_n hx hb d_law_280 rfl (lv_at hl 2 rfl) ?_
        refine lv_aload_n hx hb d_law_281 rfl (lv_at hl 0 rfl) ?_
        refine lv_iload_n hx hb d_law_282 rfl (lv_at hl 3 rfl) ?_
        refine lv_iconst (v := zI 1) hx hb d_law_283 (by decide) ?_
        refine z_iadd hx hb d_law_284 ?_
        refine z_sld hx hb hX hbl hbA hS (i_ + 1) (by omega) hi_ (by omega) d_law_285 ?_
        refine z_top (v2 := .int (zI ((a_ : Nat) : Int))) (congrArg Value.int ((zI_self _).symm.trans (congrArg zI ha_))) ?_
        replace hP := z_swP hP
        replace hD := z_swD hD
        refine lc_r_read C0 hKN (by omega) hmr.1 (by omega) (rd_name hmr hg) (m_nv hmr) (by omega) (by omega) hcl hsl hl.1 (Nat.le_of_ble_eq_true rfl) hP hD hS (fun lt2 lw2 tv2 H locs hP hD hS => ?_)
        replace hP := z_swP hP
        replace hD := z_swD hD
        refine lv_icmp_eq (tgt := 366) hx hb d_law_289 (by decide) (fun _ => ?_) (fun hne => absurd (rfl) hne)
        refine W.widen (k := 30 + 4 * (n_ + 1)) (n := 79921 + 1283 * (n_ + 1)) (by omega) (by omega) ?_
        exact K (st := st) (dlo := dlo) (nd := nd) (ndm := ndm) (nmm := nmm) H locs ls hP hD ⟨hdr, hdb, (by omega), hmk, hmo, Or.inr ⟨k, hk, rfl, rfl, rd_read hmr hg ⟨by omega, by omega⟩ (by omega)⟩⟩ hS hl
  · rcases hrd with ⟨rfl, rfl, rfl⟩ | ⟨k, hk, rfl, rfl, hg⟩
    · refine lv_aload_n hx hb d_law_271 rfl (lv_at hl 1 rfl) ?_
      refine lv_aload_n hx hb d_law_272 rfl (lv_at hl 0 rfl) ?_
      refine lv_iload_n hx hb d_law_273 rfl (lv_at hl 3 rfl) ?_
      refine lv_iconst (v := zI 1) hx hb d_law_274 (by decide) ?_
      refine z_iadd hx hb d_law_275 ?_
      refine z_sld hx hb hX hbl hbA hS (i_ + 1) (by omega) hi_ (by omega) d_law_276 ?_
      refine z_top (v2 := .int (zI ((xs (i_ + 1)).toInt))) (congrArg Value.int ((zI_self _).symm)) ?_
      refine lc_read_bad C0 hKN hyr hv hcl hsl hl.1 (Nat.le_of_ble_eq_true rfl) hP hD hS ?_
      refine lv_aload_n hx hb d_law_280 rfl (lv_at hl 2 rfl) ?_
      refine lv_aload_n hx hb d_law_281 rfl (lv_at hl 0 rfl) ?_
      refine lv_iload_n hx hb d_law_282 rfl (lv_at hl 3 rfl) ?_
      refine lv_iconst (v := zI 1) hx hb d_law_283 (by decide) ?_
      refine z_iadd hx hb d_law_284 ?_
      refine z_sld hx hb hX hbl hbA hS (i_ + 1) (by omega) hi_ (by omega) d_law_285 ?_
      refine z_top (v2 := .int (zI ((xs (i_ + 1)).toInt))) (congrArg Value.int ((zI_self _).symm)) ?_
      replace hP := z_swP hP
      replace hD := z_swD hD
      refine lc_r_read_null C0 hKN hyr hcl hsl hl.1 (Nat.le_of_ble_eq_true rfl) hP hD hS ?_
      replace hP := z_swP hP
      replace hD := z_swD hD
      refine lv_icmp_eq (tgt := 366) hx hb d_law_289 (by decide) (fun _ => ?_) (fun hne => absurd (rfl) hne)
      refine W.widen (k := 30 + 4 * (n_ + 1)) (n := 79921 + 1283 * (n_ + 1)) (by omega) (by omega) ?_
      exact K (st := st) (dlo := dlo) (nd := nd) (ndm := ndm) (nmm := nmm) H locs ls hP hD ⟨hdr, hdb, (by omega), hmk, hmo, Or.inl ⟨rfl, rfl, rfl⟩⟩ hS hl
    · refine lv_aload_n hx hb d_law_271 rfl (lv_at hl 1 rfl) ?_
      refine lv_aload_n hx hb d_law_272 rfl (lv_at hl 0 rfl) ?_
      refine lv_iload_n hx hb d_law_273 rfl (lv_at hl 3 rfl) ?_
      refine lv_iconst (v := zI 1) hx hb d_law_274 (by decide) ?_
      refine z_iadd hx hb d_law_275 ?_
      refine z_sld hx hb hX hbl hbA hS (i_ + 1) (by omega) hi_ (by omega) d_law_276 ?_
      refine z_top (v2 := .int (zI ((xs (i_ + 1)).toInt))) (congrArg Value.int ((zI_self _).symm)) ?_
      refine lc_read_bad C0 hKN hyr hv hcl hsl hl.1 (Nat.le_of_ble_eq_true rfl) hP hD hS ?_
      refine lv_aload_n hx hb d_law_280 rfl (lv_at hl 2 rfl) ?_
      refine lv_aload_n hx hb d_law_281 rfl (lv_at hl 0 rfl) ?_
      refine lv_iload_n hx hb d_law_282 rfl (lv_at hl 3 rfl) ?_
      refine lv_iconst (v := zI 1) hx hb d_law_283 (by decide) ?_
      refine z_iadd hx hb d_law_284 ?_
      refine z_sld hx hb hX hbl hbA hS (i_ + 1) (by omega) hi_ (by omega) d_law_285 ?_
      refine z_top (v2 := .int (zI ((xs (i_ + 1)).toInt))) (congrArg Value.int ((zI_self _).symm)) ?_
      replace hP := z_swP hP
      replace hD := z_swD hD
      refine lc_r_read_bad C0 hKN hyr (by omega) hv hcl hsl hl.1 (Nat.le_of_ble_eq_true rfl) hP hD hS ?_
      replace hP := z_swP hP
      replace hD := z_swD hD
      refine lv_icmp_eq (tgt := 366) hx hb d_law_289 (by decide) (fun _ => ?_) (fun hne => absurd (rfl) hne)
      refine W.widen (k := 30 + 4 * (n_ + 1)) (n := 79921 + 1283 * (n_ + 1)) (by omega) (by omega) ?_
      exact K (st := st) (dlo := dlo) (nd := nd) (ndm := ndm) (nmm := nmm) H locs ls hP hD ⟨hdr, hdb, (by omega), hmk, hmo, Or.inr ⟨k, hk, rfl, rfl, hg⟩⟩ hS hl

set_option maxHeartbeats 4000000 in
set_option maxRecDepth 100000 in
theorem law_isWhole {p : Program} {l : Launch} {e : Env} {s : State} {m : MethodId} {below : List Frame} {meth : Method} {c0 : Code} {D : va_G} {c : Nat → ClassId} {b L : Nat} {xs : Nat → Int32} (C0 : lw_At p s m meth c0 b L xs) (hL : L ≤ 1024) (hKN : zK D c s) {n_ i_ : Nat} {x xm d dn df dfw di diw dl dlw dm rd rn rc rcw o0 ka na xla xra aa ea pa ba oa sa qa ca ta td : Nat} (hn_ : n_ < 512) (hi_ : i_ + 1 < L) (K : ∀ {mg : Nat → Option Nat} {mk : Nat} {nm : Nat → Nat} {fw : Nat → Int64} {iw : Nat → Int64} {lw : Nat → Int64} {mb : Nat → Bool} {nc : Nat} {pp : Nat} {rmo : Option Nat} {nr : Nat → Nat} {rv : Nat → Int64} {ct : Nat} {kd : Nat → Nat} {nv : Nat → Nat} {lf : Nat → Int} {rt : Nat → Int} {ab : Nat → Int} {em : Nat → Bool} {pv : Nat → Nat} {bv : Nat → Nat} {ov : Nat → Nat} {sv : Nat → Nat} {rdv : Nat → Nat} {cv : Nat → Bool} {lt : Nat → Bool} {tv : Nat → Nat} {nn : Nat} {db : Nat} {mm : Int} {wh : Bool} {lq : Bool} {mo : Nat → Nat} {me : Nat → Nat} {ms : Nat → Nat} {msw : Nat → Nat} {en : Nat → Nat → Nat} {ne : Nat → Nat} {mf : Nat → Nat → Int64} {dt : Nat → Bool} {st : Nat → Nat} {dlo : Nat} {nd : Nat → Nat} {ndm : Nat → Nat → Nat} {nmm : Nat → Nat → Nat} (H : Heap) (locs : List Loc) (ls : Array Slot), va_P D vwCl ((cW c x xm d dn df dfw di diw dl dlw dm rd rn rc rcw mg mk nm fw iw lw mb nc pp rmo nr rv ct) ++ ((rW c o0 ka na xla xra aa ea pa ba oa sa qa ca ta td pp nc mk ct kd nv lf rt ab em pv bv ov sv rdv cv lt tv nn db mm wh lq) ++ pL c mo me ms msw en ne mf dt mk)) H → va_D (fun q : Nat => s.heap.size ≤ q) ((cW c x xm d dn df dfw di diw dl dlw dm rd rn rc rcw mg mk nm fw iw lw mb nc pp rmo nr rv ct) ++ ((rW c o0 ka na xla xra aa ea pa ba oa sa qa ca ta td pp nc mk ct kd nv lf rt ab em pv bv ov sv rdv cv lt tv nn db mm wh lq) ++ pL c mo me ms msw en ne mf dt mk)) → LR (n_ + 1) mg mk nm fw iw lw mb nc pp rmo nr rv ct kd nv lf rt ab em pv bv ov sv rdv cv lt tv nn db mm wh lq mo me ms msw en ne mf dt st dlo nd ndm nmm → va_S (fun q : Nat => s.heap.size ≤ q) s.heap H locs → lv_has ls 4 [(0, .ref b), (1, .ref x), (2, .ref o0), (3, .int (zI ((i_ : Nat) : Int)))] → W p l e room_1 s m #[Value.ref b] below meth c0 H locs (30 + 4 * (n_ + 1)) (79921 + 1283 * (n_ + 1)) (lw_Z below #[Value.ref b] s) (F0 m 366 ls [])) {mg : Nat → Option Nat} {mk : Nat} {nm : Nat → Nat} {fw : Nat → Int64} {iw : Nat → Int64} {lw : Nat → Int64} {mb : Nat → Bool} {nc : Nat} {pp : Nat} {rmo : Option Nat} {nr : Nat → Nat} {rv : Nat → Int64} {ct : Nat} {kd : Nat → Nat} {nv : Nat → Nat} {lf : Nat → Int} {rt : Nat → Int} {ab : Nat → Int} {em : Nat → Bool} {pv : Nat → Nat} {bv : Nat → Nat} {ov : Nat → Nat} {sv : Nat → Nat} {rdv : Nat → Nat} {cv : Nat → Bool} {lt : Nat → Bool} {tv : Nat → Nat} {nn : Nat} {db : Nat} {mm : Int} {wh : Bool} {lq : Bool} {mo : Nat → Nat} {me : Nat → Nat} {ms : Nat → Nat} {msw : Nat → Nat} {en : Nat → Nat → Nat} {ne : Nat → Nat} {mf : Nat → Nat → Int64} {dt : Nat → Bool} {st : Nat → Nat} {dlo : Nat} {nd : Nat → Nat} {ndm : Nat → Nat → Nat} {nmm : Nat → Nat → Nat} {H : Heap} {locs : List Loc} {ls : Array Slot} (hP : va_P D vwCl ((cW c x xm d dn df dfw di diw dl dlw dm rd rn rc rcw mg mk nm fw iw lw mb nc pp rmo nr rv ct) ++ ((rW c o0 ka na xla xra aa ea pa ba oa sa qa ca ta td pp nc mk ct kd nv lf rt ab em pv bv ov sv rdv cv lt tv nn db mm wh lq) ++ pL c mo me ms msw en ne mf dt mk)) H) (hD : va_D (fun q : Nat => s.heap.size ≤ q) ((cW c x xm d dn df dfw di diw dl dlw dm rd rn rc rcw mg mk nm fw iw lw mb nc pp rmo nr rv ct) ++ ((rW c o0 ka na xla xra aa ea pa ba oa sa qa ca ta td pp nc mk ct kd nv lf rt ab em pv bv ov sv rdv cv lt tv nn db mm wh lq) ++ pL c mo me ms msw en ne mf dt mk))) (hR : LR n_ mg mk nm fw iw lw mb nc pp rmo nr rv ct kd nv lf rt ab em pv bv ov sv rdv cv lt tv nn db mm wh lq mo me ms msw en ne mf dt st dlo nd ndm nmm) (hS : va_S (fun q : Nat => s.heap.size ≤ q) s.heap H locs) (hl : lv_has ls 4 [(0, .ref b), (1, .ref x), (2, .ref o0), (3, .int (zI ((i_ : Nat) : Int)))]) : W p l e room_1 s m #[Value.ref b] below meth c0 H locs (30 + 4 * n_) (79921 + 1283 * n_) (lw_Z below #[Value.ref b] s) (F0 m 294 ls []) := by
  obtain ⟨hx, hb, hr, hml, hown, hts, hX, hbl, hlocks, hgv⟩ := id C0
  have hbA : ¬ (fun q : Nat => s.heap.size ≤ q) b := Nat.not_le.mpr hbl
  obtain ⟨hdr, hdb, hnn, hmk, hmo, hrd⟩ := hR
  have hdlo := prt_dl hdr.2.1
  have hpp := hdr.1
  have hcl : 30 + 4 * n_ ≤ 600000 := by omega
  have hsl : 79921 + 1283 * n_ ≤ 7302250 := by omega
  rcases hrd with ⟨rfl, rfl, rfl⟩ | ⟨k, hk, rfl, rfl, hg⟩
  · refine lv_aload_n hx hb d_law_294 rfl (lv_at hl 1 rfl) ?_
    refine lc_isWhole_null C0 hKN  hcl hsl hl.1 (Nat.le_of_ble_eq_true rfl) hP hD hS ?_
    refine lv_aload_n hx hb d_law_298 rfl (lv_at hl 2 rfl) ?_
    replace hP := z_swP hP
    replace hD := z_swD hD
    refine lc_r_isWhole_null C0 hKN  hcl hsl hl.1 (Nat.le_of_ble_eq_true rfl) hP hD hS ?_
    replace hP := z_swP hP
    replace hD := z_swD hD
    refine lv_icmp_eq (tgt := 366) hx hb d_law_302 (by decide) (fun _ => ?_) (fun hne => absurd (rfl) hne)
    refine W.widen (k := 30 + 4 * (n_ + 1)) (n := 79921 + 1283 * (n_ + 1)) (by omega) (by omega) ?_
    exact K (st := st) (dlo := dlo) (nd := nd) (ndm := ndm) (nmm := nmm) H locs ls hP hD ⟨hdr, hdb, (by omega), hmk, hmo, Or.inl ⟨rfl, rfl, rfl⟩⟩ hS hl
  · have hmr := (hmo k hk).2.2.2
    have hov := (hmo k hk).2.1
    have hbr := hmr.1.1
    have hct := hg.2.2.2.2
    refine lv_aload_n hx hb d_law_294 rfl (lv_at hl 1 rfl) ?_
    refine lc_isWhole C0 hKN (by omega) hcl hsl hl.1 (Nat.le_of_ble_eq_true rfl) hP hD hS ?_
    refine lv_aload_n hx hb d_law_298 rfl (lv_at hl 2 rfl) ?_
    replace hP := z_swP hP
    replace hD := z_swD hD
    refine lc_r_isWhole C0 hKN (by omega) hcl hsl hl.1 (Nat.le_of_ble_eq_true rfl) hP hD hS ?_
    replace hP := z_swP hP
    replace hD := z_swD hD
    refine lv_icmp_eq (tgt := 366) hx hb d_law_302 (by decide) (fun _ => ?_) (fun hne => absurd (congrArg zB (rd_whole hmr hg)) hne)
    refine W.widen (k := 30 + 4 * (n_ + 1)) (n := 79921 + 1283 * (n_ + 1)) (by omega) (by omega) ?_
    exact K (st := st) (dlo := dlo) (nd := nd) (ndm := ndm) (nmm := nmm) H locs ls hP hD ⟨hdr, hdb, (by omega), hmk, hmo, Or.inr ⟨k, hk, rfl, rfl, hg⟩⟩ hS hl

set_option maxHeartbeats 4000000 in
set_option maxRecDepth 100000 in
theorem law_can {p : Program} {l : Launch} {e : Env} {s : State} {m : MethodId} {below : List Frame} {meth : Method} {c0 : Code} {D : va_G} {c : Nat → ClassId} {b L : Nat} {xs : Nat → Int32} (C0 : lw_At p s m meth c0 b L xs) (hL : L ≤ 1024) (hKN : zK D c s) {n_ i_ : Nat} {x xm d dn df dfw di diw dl dlw dm rd rn rc rcw o0 ka na xla xra aa ea pa ba oa sa qa ca ta td : Nat} (hn_ : n_ < 512) (hi_ : i_ + 1 < L) (K : ∀ {mg : Nat → Option Nat} {mk : Nat} {nm : Nat → Nat} {fw : Nat → Int64} {iw : Nat → Int64} {lw : Nat → Int64} {mb : Nat → Bool} {nc : Nat} {pp : Nat} {rmo : Option Nat} {nr : Nat → Nat} {rv : Nat → Int64} {ct : Nat} {kd : Nat → Nat} {nv : Nat → Nat} {lf : Nat → Int} {rt : Nat → Int} {ab : Nat → Int} {em : Nat → Bool} {pv : Nat → Nat} {bv : Nat → Nat} {ov : Nat → Nat} {sv : Nat → Nat} {rdv : Nat → Nat} {cv : Nat → Bool} {lt : Nat → Bool} {tv : Nat → Nat} {nn : Nat} {db : Nat} {mm : Int} {wh : Bool} {lq : Bool} {mo : Nat → Nat} {me : Nat → Nat} {ms : Nat → Nat} {msw : Nat → Nat} {en : Nat → Nat → Nat} {ne : Nat → Nat} {mf : Nat → Nat → Int64} {dt : Nat → Bool} {st : Nat → Nat} {dlo : Nat} {nd : Nat → Nat} {ndm : Nat → Nat → Nat} {nmm : Nat → Nat → Nat} (H : Heap) (locs : List Loc) (ls : Array Slot), va_P D vwCl ((cW c x xm d dn df dfw di diw dl dlw dm rd rn rc rcw mg mk nm fw iw lw mb nc pp rmo nr rv ct) ++ ((rW c o0 ka na xla xra aa ea pa ba oa sa qa ca ta td pp nc mk ct kd nv lf rt ab em pv bv ov sv rdv cv lt tv nn db mm wh lq) ++ pL c mo me ms msw en ne mf dt mk)) H → va_D (fun q : Nat => s.heap.size ≤ q) ((cW c x xm d dn df dfw di diw dl dlw dm rd rn rc rcw mg mk nm fw iw lw mb nc pp rmo nr rv ct) ++ ((rW c o0 ka na xla xra aa ea pa ba oa sa qa ca ta td pp nc mk ct kd nv lf rt ab em pv bv ov sv rdv cv lt tv nn db mm wh lq) ++ pL c mo me ms msw en ne mf dt mk)) → LR (n_ + 1) mg mk nm fw iw lw mb nc pp rmo nr rv ct kd nv lf rt ab em pv bv ov sv rdv cv lt tv nn db mm wh lq mo me ms msw en ne mf dt st dlo nd ndm nmm → va_S (fun q : Nat => s.heap.size ≤ q) s.heap H locs → lv_has ls 4 [(0, .ref b), (1, .ref x), (2, .ref o0), (3, .int (zI ((i_ : Nat) : Int)))] → W p l e room_1 s m #[Value.ref b] below meth c0 H locs (30 + 4 * (n_ + 1)) (79921 + 1283 * (n_ + 1)) (lw_Z below #[Value.ref b] s) (F0 m 366 ls [])) {mg : Nat → Option Nat} {mk : Nat} {nm : Nat → Nat} {fw : Nat → Int64} {iw : Nat → Int64} {lw : Nat → Int64} {mb : Nat → Bool} {nc : Nat} {pp : Nat} {rmo : Option Nat} {nr : Nat → Nat} {rv : Nat → Int64} {ct : Nat} {kd : Nat → Nat} {nv : Nat → Nat} {lf : Nat → Int} {rt : Nat → Int} {ab : Nat → Int} {em : Nat → Bool} {pv : Nat → Nat} {bv : Nat → Nat} {ov : Nat → Nat} {sv : Nat → Nat} {rdv : Nat → Nat} {cv : Nat → Bool} {lt : Nat → Bool} {tv : Nat → Nat} {nn : Nat} {db : Nat} {mm : Int} {wh : Bool} {lq : Bool} {mo : Nat → Nat} {me : Nat → Nat} {ms : Nat → Nat} {msw : Nat → Nat} {en : Nat → Nat → Nat} {ne : Nat → Nat} {mf : Nat → Nat → Int64} {dt : Nat → Bool} {st : Nat → Nat} {dlo : Nat} {nd : Nat → Nat} {ndm : Nat → Nat → Nat} {nmm : Nat → Nat → Nat} {H : Heap} {locs : List Loc} {ls : Array Slot} (hP : va_P D vwCl ((cW c x xm d dn df dfw di diw dl dlw dm rd rn rc rcw mg mk nm fw iw lw mb nc pp rmo nr rv ct) ++ ((rW c o0 ka na xla xra aa ea pa ba oa sa qa ca ta td pp nc mk ct kd nv lf rt ab em pv bv ov sv rdv cv lt tv nn db mm wh lq) ++ pL c mo me ms msw en ne mf dt mk)) H) (hD : va_D (fun q : Nat => s.heap.size ≤ q) ((cW c x xm d dn df dfw di diw dl dlw dm rd rn rc rcw mg mk nm fw iw lw mb nc pp rmo nr rv ct) ++ ((rW c o0 ka na xla xra aa ea pa ba oa sa qa ca ta td pp nc mk ct kd nv lf rt ab em pv bv ov sv rdv cv lt tv nn db mm wh lq) ++ pL c mo me ms msw en ne mf dt mk))) (hR : LR n_ mg mk nm fw iw lw mb nc pp rmo nr rv ct kd nv lf rt ab em pv bv ov sv rdv cv lt tv nn db mm wh lq mo me ms msw en ne mf dt st dlo nd ndm nmm) (hS : va_S (fun q : Nat => s.heap.size ≤ q) s.heap H locs) (hl : lv_has ls 4 [(0, .ref b), (1, .ref x), (2, .ref o0), (3, .int (zI ((i_ : Nat) : Int)))]) : W p l e room_1 s m #[Value.ref b] below meth c0 H locs (30 + 4 * n_) (79921 + 1283 * n_) (lw_Z below #[Value.ref b] s) (F0 m 307 ls []) := by
  obtain ⟨hx, hb, hr, hml, hown, hts, hX, hbl, hlocks, hgv⟩ := id C0
  have hbA : ¬ (fun q : Nat => s.heap.size ≤ q) b := Nat.not_le.mpr hbl
  obtain ⟨hdr, hdb, hnn, hmk, hmo, hrd⟩ := hR
  have hdlo := prt_dl hdr.2.1
  have hpp := hdr.1
  have hcl : 30 + 4 * n_ ≤ 600000 := by omega
  have hsl : 79921 + 1283 * n_ ≤ 7302250 := by omega
  have hyr := zI_rng (xs (i_ + 1))
  rcases hrd with ⟨rfl, rfl, rfl⟩ | ⟨k, hk, rfl, rfl, hg⟩
  · refine lv_aload_n hx hb d_law_307 rfl (lv_at hl 1 rfl) ?_
    refine lv_aload_n hx hb d_law_308 rfl (lv_at hl 0 rfl) ?_
    refine lv_iload_n hx hb d_law_309 rfl (lv_at hl 3 rfl) ?_
    refine lv_iconst (v := zI 1) hx hb d_law_310 (by decide) ?_
    refine z_iadd hx hb d_law_311 ?_
    refine z_sld hx hb hX hbl hbA hS (i_ + 1) (by omega) hi_ (by omega) d_law_312 ?_
    refine z_top (v2 := .int (zI ((xs (i_ + 1)).toInt))) (congrArg Value.int ((zI_self _).symm)) ?_
    refine lc_can_null C0 hKN  hcl hsl hl.1 (Nat.le_of_ble_eq_true rfl) hP hD hS ?_
    refine lv_aload_n hx hb d_law_316 rfl (lv_at hl 2 rfl) ?_
    refine lv_aload_n hx hb d_law_317 rfl (lv_at hl 0 rfl) ?_
    refine lv_iload_n hx hb d_law_318 rfl (lv_at hl 3 rfl) ?_
    refine lv_iconst (v := zI 1) hx hb d_law_319 (by decide) ?_
    refine z_iadd hx hb d_law_320 ?_
    refine z_sld hx hb hX hbl hbA hS (i_ + 1) (by omega) hi_ (by omega) d_law_321 ?_
    refine z_top (v2 := .int (zI ((xs (i_ + 1)).toInt))) (congrArg Value.int ((zI_self _).symm)) ?_
    replace hP := z_swP hP
    replace hD := z_swD hD
    refine lc_r_can_null C0 hKN  hcl hsl hl.1 (Nat.le_of_ble_eq_true rfl) hP hD hS ?_
    replace hP := z_swP hP
    replace hD := z_swD hD
    refine lv_icmp_eq (tgt := 366) hx hb d_law_325 (by decide) (fun _ => ?_) (fun hne => absurd (rfl) hne)
    refine W.widen (k := 30 + 4 * (n_ + 1)) (n := 79921 + 1283 * (n_ + 1)) (by omega) (by omega) ?_
    exact K (st := st) (dlo := dlo) (nd := nd) (ndm := ndm) (nmm := nmm) H locs ls hP hD ⟨hdr, hdb, (by omega), hmk, hmo, Or.inl ⟨rfl, rfl, rfl⟩⟩ hS hl
  · have hmr := (hmo k hk).2.2.2
    have hov := (hmo k hk).2.1
    have hbr := hmr.1.1
    have hct := hg.2.2.2.2
    obtain ⟨P1, P2, hsp⟩ := pL_split (c := c) (mo := mo) (me := me) (ms := ms) (msw := msw) (en := en) (ne := ne) (mf := mf) (dt := dt) hk
    have hPk := hP
    have hDk := hD
    rw [hsp, z_re] at hPk hDk
    refine lv_aload_n hx hb d_law_307 rfl (lv_at hl 1 rfl) ?_
    refine lv_aload_n hx hb d_law_308 rfl (lv_at hl 0 rfl) ?_
    refine lv_iload_n hx hb d_law_309 rfl (lv_at hl 3 rfl) ?_
    refine lv_iconst (v := zI 1) hx hb d_law_310 (by decide) ?_
    refine z_iadd hx hb d_law_311 ?_
    refine z_sld hx hb hX hbl hbA hS (i_ + 1) (by omega) hi_ (by omega) d_law_312 ?_
    refine z_top (v2 := .int (zI ((xs (i_ + 1)).toInt))) (congrArg Value.int ((zI_self _).symm)) ?_
    refine lc_can C0 hKN hmr.2.1 (m_hen hmr).1 (by omega) hyr hcl hsl hl.1 (Nat.le_of_ble_eq_true rfl) hPk hDk hS ?_
    refine lv_aload_n hx hb d_law_316 rfl (lv_at hl 2 rfl) ?_
    refine lv_aload_n hx hb d_law_317 rfl (lv_at hl 0 rfl) ?_
    refine lv_iload_n hx hb d_law_318 rfl (lv_at hl 3 rfl) ?_
    refine lv_iconst (v := zI 1) hx hb d_law_319 (by decide) ?_
    refine z_iadd hx hb d_law_320 ?_
    refine z_sld hx hb hX hbl hbA hS (i_ + 1) (by omega) hi_ (by omega) d_law_321 ?_
    refine z_top (v2 := .int (zI ((xs (i_ + 1)).toInt))) (congrArg Value.int ((zI_self _).symm)) ?_
    replace hP := z_swP hP
    replace hD := z_swD hD
    refine lc_r_can C0 hKN hyr (by omega) (by omega) (by omega) (m_nv hmr) hcl hsl hl.1 (Nat.le_of_ble_eq_true rfl) hP hD hS ?_
    replace hP := z_swP hP
    replace hD := z_swD hD
    refine lv_icmp_eq (tgt := 366) hx hb d_law_325 (by decide) (fun _ => ?_) (fun hne => absurd (congrArg zB (rd_can hmr hg _)) hne)
    refine W.widen (k := 30 + 4 * (n_ + 1)) (n := 79921 + 1283 * (n_ + 1)) (by omega) (by omega) ?_
    exact K (st := st) (dlo := dlo) (nd := nd) (ndm := ndm) (nmm := nmm) H locs ls hP hD ⟨hdr, hdb, (by omega), hmk, hmo, Or.inr ⟨k, hk, rfl, rfl, hg⟩⟩ hS hl

set_option maxHeartbeats 4000000 in
set_option maxRecDepth 100000 in
theorem law_next {p : Program} {l : Launch} {e : Env} {s : State} {m : MethodId} {below : List Frame} {meth : Method} {c0 : Code} {D : va_G} {c : Nat → ClassId} {b L : Nat} {xs : Nat → Int32} (C0 : lw_At p s m meth c0 b L xs) (hL : L ≤ 1024) (hKN : zK D c s) {n_ i_ : Nat} {x xm d dn df dfw di diw dl dlw dm rd rn rc rcw o0 ka na xla xra aa ea pa ba oa sa qa ca ta td : Nat} (hn_ : n_ < 512) (hi_ : i_ + 1 < L) (K : ∀ {mg : Nat → Option Nat} {mk : Nat} {nm : Nat → Nat} {fw : Nat → Int64} {iw : Nat → Int64} {lw : Nat → Int64} {mb : Nat → Bool} {nc : Nat} {pp : Nat} {rmo : Option Nat} {nr : Nat → Nat} {rv : Nat → Int64} {ct : Nat} {kd : Nat → Nat} {nv : Nat → Nat} {lf : Nat → Int} {rt : Nat → Int} {ab : Nat → Int} {em : Nat → Bool} {pv : Nat → Nat} {bv : Nat → Nat} {ov : Nat → Nat} {sv : Nat → Nat} {rdv : Nat → Nat} {cv : Nat → Bool} {lt : Nat → Bool} {tv : Nat → Nat} {nn : Nat} {db : Nat} {mm : Int} {wh : Bool} {lq : Bool} {mo : Nat → Nat} {me : Nat → Nat} {ms : Nat → Nat} {msw : Nat → Nat} {en : Nat → Nat → Nat} {ne : Nat → Nat} {mf : Nat → Nat → Int64} {dt : Nat → Bool} {st : Nat → Nat} {dlo : Nat} {nd : Nat → Nat} {ndm : Nat → Nat → Nat} {nmm : Nat → Nat → Nat} (H : Heap) (locs : List Loc) (ls : Array Slot), va_P D vwCl ((cW c x xm d dn df dfw di diw dl dlw dm rd rn rc rcw mg mk nm fw iw lw mb nc pp rmo nr rv ct) ++ ((rW c o0 ka na xla xra aa ea pa ba oa sa qa ca ta td pp nc mk ct kd nv lf rt ab em pv bv ov sv rdv cv lt tv nn db mm wh lq) ++ pL c mo me ms msw en ne mf dt mk)) H → va_D (fun q : Nat => s.heap.size ≤ q) ((cW c x xm d dn df dfw di diw dl dlw dm rd rn rc rcw mg mk nm fw iw lw mb nc pp rmo nr rv ct) ++ ((rW c o0 ka na xla xra aa ea pa ba oa sa qa ca ta td pp nc mk ct kd nv lf rt ab em pv bv ov sv rdv cv lt tv nn db mm wh lq) ++ pL c mo me ms msw en ne mf dt mk)) → LR (n_ + 1) mg mk nm fw iw lw mb nc pp rmo nr rv ct kd nv lf rt ab em pv bv ov sv rdv cv lt tv nn db mm wh lq mo me ms msw en ne mf dt st dlo nd ndm nmm → va_S (fun q : Nat => s.heap.size ≤ q) s.heap H locs → lv_has ls 4 [(0, .ref b), (1, .ref x), (2, .ref o0), (3, .int (zI ((i_ : Nat) : Int)))] → W p l e room_1 s m #[Value.ref b] below meth c0 H locs (30 + 4 * (n_ + 1)) (79921 + 1283 * (n_ + 1)) (lw_Z below #[Value.ref b] s) (F0 m 366 ls [])) {mg : Nat → Option Nat} {mk : Nat} {nm : Nat → Nat} {fw : Nat → Int64} {iw : Nat → Int64} {lw : Nat → Int64} {mb : Nat → Bool} {nc : Nat} {pp : Nat} {rmo : Option Nat} {nr : Nat → Nat} {rv : Nat → Int64} {ct : Nat} {kd : Nat → Nat} {nv : Nat → Nat} {lf : Nat → Int} {rt : Nat → Int} {ab : Nat → Int} {em : Nat → Bool} {pv : Nat → Nat} {bv : Nat → Nat} {ov : Nat → Nat} {sv : Nat → Nat} {rdv : Nat → Nat} {cv : Nat → Bool} {lt : Nat → Bool} {tv : Nat → Nat} {nn : Nat} {db : Nat} {mm : Int} {wh : Bool} {lq : Bool} {mo : Nat → Nat} {me : Nat → Nat} {ms : Nat → Nat} {msw : Nat → Nat} {en : Nat → Nat → Nat} {ne : Nat → Nat} {mf : Nat → Nat → Int64} {dt : Nat → Bool} {st : Nat → Nat} {dlo : Nat} {nd : Nat → Nat} {ndm : Nat → Nat → Nat} {nmm : Nat → Nat → Nat} {H : Heap} {locs : List Loc} {ls : Array Slot} (hP : va_P D vwCl ((cW c x xm d dn df dfw di diw dl dlw dm rd rn rc rcw mg mk nm fw iw lw mb nc pp rmo nr rv ct) ++ ((rW c o0 ka na xla xra aa ea pa ba oa sa qa ca ta td pp nc mk ct kd nv lf rt ab em pv bv ov sv rdv cv lt tv nn db mm wh lq) ++ pL c mo me ms msw en ne mf dt mk)) H) (hD : va_D (fun q : Nat => s.heap.size ≤ q) ((cW c x xm d dn df dfw di diw dl dlw dm rd rn rc rcw mg mk nm fw iw lw mb nc pp rmo nr rv ct) ++ ((rW c o0 ka na xla xra aa ea pa ba oa sa qa ca ta td pp nc mk ct kd nv lf rt ab em pv bv ov sv rdv cv lt tv nn db mm wh lq) ++ pL c mo me ms msw en ne mf dt mk))) (hR : LR n_ mg mk nm fw iw lw mb nc pp rmo nr rv ct kd nv lf rt ab em pv bv ov sv rdv cv lt tv nn db mm wh lq mo me ms msw en ne mf dt st dlo nd ndm nmm) (hS : va_S (fun q : Nat => s.heap.size ≤ q) s.heap H locs) (hl : lv_has ls 4 [(0, .ref b), (1, .ref x), (2, .ref o0), (3, .int (zI ((i_ : Nat) : Int)))]) : W p l e room_1 s m #[Value.ref b] below meth c0 H locs (30 + 4 * n_) (79921 + 1283 * n_) (lw_Z below #[Value.ref b] s) (F0 m 330 ls []) := by
  obtain ⟨hx, hb, hr, hml, hown, hts, hX, hbl, hlocks, hgv⟩ := id C0
  have hbA : ¬ (fun q : Nat => s.heap.size ≤ q) b := Nat.not_le.mpr hbl
  obtain ⟨hdr, hdb, hnn, hmk, hmo, hrd⟩ := hR
  have hdlo := prt_dl hdr.2.1
  have hpp := hdr.1
  have hcl : 30 + 4 * n_ ≤ 600000 := by omega
  have hsl : 79921 + 1283 * n_ ≤ 7302250 := by omega
  have hyr := zI_rng (xs (i_ + 1))
  rcases hrd with ⟨rfl, rfl, rfl⟩ | ⟨k, hk, rfl, rfl, hg⟩
  · refine lv_aload_n hx hb d_law_330 rfl (lv_at hl 1 rfl) ?_
    refine lv_aload_n hx hb d_law_331 rfl (lv_at hl 0 rfl) ?_
    refine lv_iload_n hx hb d_law_332 rfl (lv_at hl 3 rfl) ?_
    refine lv_iconst (v := zI 1) hx hb d_law_333 (by decide) ?_
    refine z_iadd hx hb d_law_334 ?_
    refine z_sld hx hb hX hbl hbA hS (i_ + 1) (by omega) hi_ (by omega) d_law_335 ?_
    refine z_top (v2 := .int (zI ((xs (i_ + 1)).toInt))) (congrArg Value.int ((zI_self _).symm)) ?_
    refine lc_next_null C0 hKN  hcl hsl hl.1 (Nat.le_of_ble_eq_true rfl) hP hD hS ?_
    refine lv_aload_n hx hb d_law_339 rfl (lv_at hl 2 rfl) ?_
    refine lv_aload_n hx hb d_law_340 rfl (lv_at hl 0 rfl) ?_
    refine lv_iload_n hx hb d_law_341 rfl (lv_at hl 3 rfl) ?_
    refine lv_iconst (v := zI 1) hx hb d_law_342 (by decide) ?_
    refine z_iadd hx hb d_law_343 ?_
    refine z_sld hx hb hX hbl hbA hS (i_ + 1) (by omega) hi_ (by omega) d_law_344 ?_
    refine z_top (v2 := .int (zI ((xs (i_ + 1)).toInt))) (congrArg Value.int ((zI_self _).symm)) ?_
    replace hP := z_swP hP
    replace hD := z_swD hD
    refine lc_r_next_null C0 hKN hyr hcl hsl hl.1 (Nat.le_of_ble_eq_true rfl) hP hD hS ?_
    replace hP := z_swP hP
    replace hD := z_swD hD
    refine lv_icmp_eq (tgt := 366) hx hb d_law_348 (by decide) (fun _ => ?_) (fun hne => absurd (rfl) hne)
    refine W.widen (k := 30 + 4 * (n_ + 1)) (n := 79921 + 1283 * (n_ + 1)) (by omega) (by omega) ?_
    exact K (st := st) (dlo := dlo) (nd := nd) (ndm := ndm) (nmm := nmm) H locs ls hP hD ⟨hdr, hdb, (by omega), hmk, hmo, Or.inl ⟨rfl, rfl, rfl⟩⟩ hS hl
  · have hmr := (hmo k hk).2.2.2
    have hov := (hmo k hk).2.1
    have hbr := hmr.1.1
    have hct := hg.2.2.2.2
    obtain ⟨P1, P2, hsp⟩ := pL_split (c := c) (mo := mo) (me := me) (ms := ms) (msw := msw) (en := en) (ne := ne) (mf := mf) (dt := dt) hk
    have hPk := hP
    have hDk := hD
    rw [hsp, z_re] at hPk hDk
    refine lv_aload_n hx hb d_law_330 rfl (lv_at hl 1 rfl) ?_
    refine lv_aload_n hx hb d_law_331 rfl (lv_at hl 0 rfl) ?_
    refine lv_iload_n hx hb d_law_332 rfl (lv_at hl 3 rfl) ?_
    refine lv_iconst (v := zI 1) hx hb d_law_333 (by decide) ?_
    refine z_iadd hx hb d_law_334 ?_
    refine z_sld hx hb hX hbl hbA hS (i_ + 1) (by omega) hi_ (by omega) d_law_335 ?_
    refine z_top (v2 := .int (zI ((xs (i_ + 1)).toInt))) (congrArg Value.int ((zI_self _).symm)) ?_
    refine lc_next C0 hKN hmr.2.1 (m_hen hmr).1 (by omega) hyr hcl hsl hl.1 (Nat.le_of_ble_eq_true rfl) hPk hDk hS ?_
    refine lv_aload_n hx hb d_law_339 rfl (lv_at hl 2 rfl) ?_
    refine lv_aload_n hx hb d_law_340 rfl (lv_at hl 0 rfl) ?_
    refine lv_iload_n hx hb d_law_341 rfl (lv_at hl 3 rfl) ?_
    refine lv_iconst (v := zI 1) hx hb d_law_342 (by decide) ?_
    refine z_iadd hx hb d_law_343 ?_
    refine z_sld hx hb hX hbl hbA hS (i_ + 1) (by omega) hi_ (by omega) d_law_344 ?_
    refine z_top (v2 := .int (zI ((xs (i_ + 1)).toInt))) (congrArg Value.int ((zI_self _).symm)) ?_
    replace hP := z_swP hP
    replace hD := z_swD hD
    refine lc_r_next C0 hKN hyr (by omega) (by omega) (by omega) (m_nv hmr) hcl hsl hl.1 (Nat.le_of_ble_eq_true rfl) hP hD hS ?_
    replace hP := z_swP hP
    replace hD := z_swD hD
    refine lv_icmp_eq (tgt := 366) hx hb d_law_348 (by decide) (fun _ => ?_) (fun hne => absurd (congrArg zI (rd_next hmr hg _)) hne)
    refine W.widen (k := 30 + 4 * (n_ + 1)) (n := 79921 + 1283 * (n_ + 1)) (by omega) (by omega) ?_
    exact K (st := st) (dlo := dlo) (nd := nd) (ndm := ndm) (nmm := nmm) H locs ls hP hD ⟨hdr, hdb, (by omega), hmk, hmo, Or.inr ⟨k, hk, rfl, rfl, hg⟩⟩ hS hl

set_option maxHeartbeats 4000000 in
set_option maxRecDepth 100000 in
theorem law_back {p : Program} {l : Launch} {e : Env} {s : State} {m : MethodId} {below : List Frame} {meth : Method} {c0 : Code} {D : va_G} {c : Nat → ClassId} {b L : Nat} {xs : Nat → Int32} (C0 : lw_At p s m meth c0 b L xs) (hL : L ≤ 1024) (hKN : zK D c s) {n_ i_ : Nat} {x xm d dn df dfw di diw dl dlw dm rd rn rc rcw o0 ka na xla xra aa ea pa ba oa sa qa ca ta td : Nat} (hn_ : n_ < 512) (hi_ : i_ + 1 < L) (K : ∀ {mg : Nat → Option Nat} {mk : Nat} {nm : Nat → Nat} {fw : Nat → Int64} {iw : Nat → Int64} {lw : Nat → Int64} {mb : Nat → Bool} {nc : Nat} {pp : Nat} {rmo : Option Nat} {nr : Nat → Nat} {rv : Nat → Int64} {ct : Nat} {kd : Nat → Nat} {nv : Nat → Nat} {lf : Nat → Int} {rt : Nat → Int} {ab : Nat → Int} {em : Nat → Bool} {pv : Nat → Nat} {bv : Nat → Nat} {ov : Nat → Nat} {sv : Nat → Nat} {rdv : Nat → Nat} {cv : Nat → Bool} {lt : Nat → Bool} {tv : Nat → Nat} {nn : Nat} {db : Nat} {mm : Int} {wh : Bool} {lq : Bool} {mo : Nat → Nat} {me : Nat → Nat} {ms : Nat → Nat} {msw : Nat → Nat} {en : Nat → Nat → Nat} {ne : Nat → Nat} {mf : Nat → Nat → Int64} {dt : Nat → Bool} {st : Nat → Nat} {dlo : Nat} {nd : Nat → Nat} {ndm : Nat → Nat → Nat} {nmm : Nat → Nat → Nat} (H : Heap) (locs : List Loc) (ls : Array Slot), va_P D vwCl ((cW c x xm d dn df dfw di diw dl dlw dm rd rn rc rcw mg mk nm fw iw lw mb nc pp rmo nr rv ct) ++ ((rW c o0 ka na xla xra aa ea pa ba oa sa qa ca ta td pp nc mk ct kd nv lf rt ab em pv bv ov sv rdv cv lt tv nn db mm wh lq) ++ pL c mo me ms msw en ne mf dt mk)) H → va_D (fun q : Nat => s.heap.size ≤ q) ((cW c x xm d dn df dfw di diw dl dlw dm rd rn rc rcw mg mk nm fw iw lw mb nc pp rmo nr rv ct) ++ ((rW c o0 ka na xla xra aa ea pa ba oa sa qa ca ta td pp nc mk ct kd nv lf rt ab em pv bv ov sv rdv cv lt tv nn db mm wh lq) ++ pL c mo me ms msw en ne mf dt mk)) → LR (n_ + 1) mg mk nm fw iw lw mb nc pp rmo nr rv ct kd nv lf rt ab em pv bv ov sv rdv cv lt tv nn db mm wh lq mo me ms msw en ne mf dt st dlo nd ndm nmm → va_S (fun q : Nat => s.heap.size ≤ q) s.heap H locs → lv_has ls 4 [(0, .ref b), (1, .ref x), (2, .ref o0), (3, .int (zI ((i_ : Nat) : Int)))] → W p l e room_1 s m #[Value.ref b] below meth c0 H locs (30 + 4 * (n_ + 1)) (79921 + 1283 * (n_ + 1)) (lw_Z below #[Value.ref b] s) (F0 m 366 ls [])) {mg : Nat → Option Nat} {mk : Nat} {nm : Nat → Nat} {fw : Nat → Int64} {iw : Nat → Int64} {lw : Nat → Int64} {mb : Nat → Bool} {nc : Nat} {pp : Nat} {rmo : Option Nat} {nr : Nat → Nat} {rv : Nat → Int64} {ct : Nat} {kd : Nat → Nat} {nv : Nat → Nat} {lf : Nat → Int} {rt : Nat → Int} {ab : Nat → Int} {em : Nat → Bool} {pv : Nat → Nat} {bv : Nat → Nat} {ov : Nat → Nat} {sv : Nat → Nat} {rdv : Nat → Nat} {cv : Nat → Bool} {lt : Nat → Bool} {tv : Nat → Nat} {nn : Nat} {db : Nat} {mm : Int} {wh : Bool} {lq : Bool} {mo : Nat → Nat} {me : Nat → Nat} {ms : Nat → Nat} {msw : Nat → Nat} {en : Nat → Nat → Nat} {ne : Nat → Nat} {mf : Nat → Nat → Int64} {dt : Nat → Bool} {st : Nat → Nat} {dlo : Nat} {nd : Nat → Nat} {ndm : Nat → Nat → Nat} {nmm : Nat → Nat → Nat} {H : Heap} {locs : List Loc} {ls : Array Slot} (hP : va_P D vwCl ((cW c x xm d dn df dfw di diw dl dlw dm rd rn rc rcw mg mk nm fw iw lw mb nc pp rmo nr rv ct) ++ ((rW c o0 ka na xla xra aa ea pa ba oa sa qa ca ta td pp nc mk ct kd nv lf rt ab em pv bv ov sv rdv cv lt tv nn db mm wh lq) ++ pL c mo me ms msw en ne mf dt mk)) H) (hD : va_D (fun q : Nat => s.heap.size ≤ q) ((cW c x xm d dn df dfw di diw dl dlw dm rd rn rc rcw mg mk nm fw iw lw mb nc pp rmo nr rv ct) ++ ((rW c o0 ka na xla xra aa ea pa ba oa sa qa ca ta td pp nc mk ct kd nv lf rt ab em pv bv ov sv rdv cv lt tv nn db mm wh lq) ++ pL c mo me ms msw en ne mf dt mk))) (hR : LR n_ mg mk nm fw iw lw mb nc pp rmo nr rv ct kd nv lf rt ab em pv bv ov sv rdv cv lt tv nn db mm wh lq mo me ms msw en ne mf dt st dlo nd ndm nmm) (hS : va_S (fun q : Nat => s.heap.size ≤ q) s.heap H locs) (hl : lv_has ls 4 [(0, .ref b), (1, .ref x), (2, .ref o0), (3, .int (zI ((i_ : Nat) : Int)))]) : W p l e room_1 s m #[Value.ref b] below meth c0 H locs (30 + 4 * n_) (79921 + 1283 * n_) (lw_Z below #[Value.ref b] s) (F0 m 353 ls []) := by
  obtain ⟨hx, hb, hr, hml, hown, hts, hX, hbl, hlocks, hgv⟩ := id C0
  have hbA : ¬ (fun q : Nat => s.heap.size ≤ q) b := Nat.not_le.mpr hbl
  obtain ⟨hdr, hdb, hnn, hmk, hmo, hrd⟩ := hR
  have hdlo := prt_dl hdr.2.1
  have hpp := hdr.1
  have hcl : 30 + 4 * n_ ≤ 600000 := by omega
  have hsl : 79921 + 1283 * n_ ≤ 7302250 := by omega
  rcases hrd with ⟨rfl, rfl, rfl⟩ | ⟨k, hk, rfl, rfl, hg⟩
  · refine lv_aload_n hx hb d_law_353 rfl (lv_at hl 1 rfl) ?_
    refine lc_back_null C0 hKN  hcl hsl hl.1 (Nat.le_of_ble_eq_true rfl) hP hD hS ?_
    refine lv_aload_n hx hb d_law_357 rfl (lv_at hl 2 rfl) ?_
    replace hP := z_swP hP
    replace hD := z_swD hD
    refine lc_r_back_none C0 hKN  hcl hsl hl.1 (Nat.le_of_ble_eq_true rfl) hP hD hS ?_
    replace hP := z_swP hP
    replace hD := z_swD hD
    refine lv_icmp_eq (tgt := 366) hx hb d_law_361 (by decide) (fun _ => ?_) (fun hne => absurd (rfl) hne)
    refine W.widen (k := 30 + 4 * (n_ + 1)) (n := 79921 + 1283 * (n_ + 1)) (by omega) (by omega) ?_
    exact K (st := st) (dlo := dlo) (nd := nd) (ndm := ndm) (nmm := nmm) H locs ls hP hD ⟨hdr, hdb, (by omega), hmk, hmo, Or.inl ⟨rfl, rfl, rfl⟩⟩ hS hl
  · have hmr := (hmo k hk).2.2.2
    have hov := (hmo k hk).2.1
    have hbr := hmr.1.1
    have hct := hg.2.2.2.2
    rcases Nat.eq_zero_or_pos ct with h0 | h0
    · subst h0
      refine lv_aload_n hx hb d_law_353 rfl (lv_at hl 1 rfl) ?_
      refine lc_back_none C0 hKN  hcl hsl hl.1 (Nat.le_of_ble_eq_true rfl) hP hD hS ?_
      refine lv_aload_n hx hb d_law_357 rfl (lv_at hl 2 rfl) ?_
      replace hP := z_swP hP
      replace hD := z_swD hD
      refine lc_r_back_none C0 hKN  hcl hsl hl.1 (Nat.le_of_ble_eq_true rfl) hP hD hS ?_
      replace hP := z_swP hP
      replace hD := z_swD hD
      refine lv_icmp_eq (tgt := 366) hx hb d_law_361 (by decide) (fun _ => ?_) (fun hne => absurd (rfl) hne)
      refine W.widen (k := 30 + 4 * (n_ + 1)) (n := 79921 + 1283 * (n_ + 1)) (by omega) (by omega) ?_
      exact K (st := st) (dlo := dlo) (nd := nd) (ndm := ndm) (nmm := nmm) H locs ls hP hD ⟨hdr, hdb, (by omega), hmk, hmo, Or.inr ⟨k, hk, rfl, rfl, hg⟩⟩ hS hl
    · obtain ⟨c_, rfl⟩ : ∃ c_, ct = c_ + 1 := ⟨ct - 1, by omega⟩
      refine lv_aload_n hx hb d_law_353 rfl (lv_at hl 1 rfl) ?_
      refine lc_back C0 hKN (by omega) hcl hsl hl.1 (Nat.le_of_ble_eq_true rfl) hP hD hS (fun  H locs hP hD hS => ?_)
      refine lv_aload_n hx hb d_law_357 rfl (lv_at hl 2 rfl) ?_
      replace hP := z_swP hP
      replace hD := z_swD hD
      refine lc_r_back C0 hKN (by omega) hmr.1 (by omega) (m_nv hmr) (fun j hj => by have := hg.1 j (by omega); omega) (by omega) hcl hsl hl.1 (Nat.le_of_ble_eq_true rfl) hP hD hS (fun cv2 lt2 lw2 tv2 H locs hq hP hD hS => ?_)
      replace hP := z_swP hP
      replace hD := z_swD hD
      obtain ⟨hg2, hnr⟩ := rd_back hg hq
      refine lv_icmp_eq (tgt := 366) hx hb d_law_361 (by decide) (fun _ => ?_) (fun hne => absurd (congrArg (fun z => zI ((z : Nat) : Int)) hnr) hne)
      refine W.widen (k := 30 + 4 * (n_ + 1)) (n := 79921 + 1283 * (n_ + 1)) (by omega) (by omega) ?_
      exact K (st := st) (dlo := dlo) (nd := nd) (ndm := ndm) (nmm := nmm) H locs ls hP hD ⟨hdr, hdb, (by omega), hmk, hmo, Or.inr ⟨k, hk, rfl, rfl, hg2⟩⟩ hS hl
