theorem z_shr8 (e : Nat) (h : e < 2147483648) : zI ((e : Nat) : Int) >>> (zI 8 &&& 31) = zI ((e / 256 : Nat) : Int) := by
  rw [zI_nat, zI_nat, pk_shrN (by omega) _ 8 (by decide)]
theorem z_and255 (e : Nat) (h : e < 2147483648) : zI ((e : Nat) : Int) &&& zI 255 = zI ((e % 256 : Nat) : Int) := by
  rw [zI_nat, zI_nat, pk_andN (by omega) 8 (by decide)]
theorem z_shl8 (x : Nat) (h : x < 2048) : zI ((x : Nat) : Int) <<< (zI 8 &&& 31) = zI ((x * 256 : Nat) : Int) := by
  rw [zI_nat, zI_nat, pk_shlN _ 8 (by decide) (by omega)]
theorem z_or8 (x o : Nat) (h : x < 2048) (ho : o < 256) : zI ((x * 256 : Nat) : Int) ||| zI ((o : Nat) : Int) = zI ((x * 256 + o : Nat) : Int) := by
  rw [zI_nat, zI_nat, zI_nat]
  apply Int32.toBitVec_inj.mp
  rw [Int32.toBitVec_or]
  apply BitVec.eq_of_toNat_eq
  rw [BitVec.toNat_or, pk_tn (by omega), pk_tn (by omega), pk_tn (by omega)]
  have h1 := Nat.shiftLeft_add_eq_or_of_lt (i := 8) (b := o) (by omega) x
  rw [Nat.shiftLeft_eq] at h1
  exact h1.symm
def twB (en : Nat → Nat) (f : Nat → Int64) (t : Nat) : Nat → Nat
  | 0 => 0
  | i + 1 => if zbt f t (en i % 256) = true then en i / 256 else twB en f t i
theorem twB_T {en : Nat → Nat} {f : Nat → Int64} {t i : Nat} (h : zbt f t (en i % 256) = true) : twB en f t (i + 1) = en i / 256 := by rw [twB, if_pos h]
theorem twB_F {en : Nat → Nat} {f : Nat → Int64} {t i : Nat} (h : zbt f t (en i % 256) = false) : twB en f t (i + 1) = twB en f t i := by rw [twB, if_neg (by rw [h]; decide)]
def twi (en : Nat → Nat) (f : Nat → Int64) (t : Nat) : Nat → Bool
  | 0 => false
  | i + 1 => twi en f t i || (zbt f t (en i % 256) && decide (en i / 256 = twB en f t i))
theorem twi_mono {en : Nat → Nat} {f : Nat → Int64} {t : Nat} : ∀ {i n : Nat}, i ≤ n → twi en f t i = true → twi en f t n = true := by
  intro i n h hi
  induction n with
  | zero => rw [show i = 0 by omega] at hi; exact hi
  | succ n ih =>
    by_cases hq : i = n + 1
    · rw [← hq]; exact hi
    · rw [twi, ih (by omega)]; rfl
def twA (en : Nat → Nat) (f : Nat → Int64) (ne : Nat) : Nat → Bool
  | 0 => false
  | i + 1 => twA en f ne i || twi en f i ne
theorem twA_mono {en : Nat → Nat} {f : Nat → Int64} {ne : Nat} : ∀ {i n : Nat}, i ≤ n → twA en f ne i = true → twA en f ne n = true := by
  intro i n h hi
  induction n with
  | zero => rw [show i = 0 by omega] at hi; exact hi
  | succ n ih =>
    by_cases hq : i = n + 1
    · rw [← hq]; exact hi
    · rw [twA, ih (by omega)]; rfl
def pbk (rv : Nat → Int64) (en : Nat → Nat) (f : Nat → Int64) (t x : Nat) : Nat → (Nat → Int64)
  | 0 => zclr rv (t + 1)
  | i + 1 => if en i / 256 = x ∧ zbt (pbk rv en f t x i) t (en i % 256) = true then zor (pbk rv en f t x i) (t + 1) f (en i % 256) else pbk rv en f t x i
theorem pbk_T {rv : Nat → Int64} {en : Nat → Nat} {f : Nat → Int64} {t x i : Nat} (h1 : en i / 256 = x) (h2 : zbt (pbk rv en f t x i) t (en i % 256) = true) : pbk rv en f t x (i + 1) = zor (pbk rv en f t x i) (t + 1) f (en i % 256) := by rw [pbk, if_pos ⟨h1, h2⟩]
theorem pbk_F {rv : Nat → Int64} {en : Nat → Nat} {f : Nat → Int64} {t x i : Nat} (h : ¬ (en i / 256 = x ∧ zbt (pbk rv en f t x i) t (en i % 256) = true)) : pbk rv en f t x (i + 1) = pbk rv en f t x i := by rw [pbk, if_neg h]
def hnm (rv : Nat → Int64) (en : Nat → Nat) (t : Nat) (x : Int) : Nat → Bool
  | 0 => false
  | i + 1 => hnm rv en t x i || (decide (((en i / 256 : Nat) : Int) = x) && zbt rv t (en i % 256))
theorem hnm_mono {rv : Nat → Int64} {en : Nat → Nat} {t : Nat} {x : Int} : ∀ {i n : Nat}, i ≤ n → hnm rv en t x i = true → hnm rv en t x n = true := by
  intro i n h hi
  induction n with
  | zero => rw [show i = 0 by omega] at hi; exact hi
  | succ n ih =>
    by_cases hq : i = n + 1
    · rw [← hq]; exact hi
    · rw [hnm, ih (by omega)]; rfl
def naB (rv : Nat → Int64) (en : Nat → Nat) (t : Nat) : Nat → Nat
  | 0 => 0
  | i + 1 => if ¬ en i / 256 = naB rv en t i ∧ zbt rv t (en i % 256) = true then en i / 256 else naB rv en t i
def naC (rv : Nat → Int64) (en : Nat → Nat) (t : Nat) : Nat → Nat
  | 0 => 0
  | i + 1 => if ¬ en i / 256 = naB rv en t i ∧ zbt rv t (en i % 256) = true then naC rv en t i + 1 else naC rv en t i
def naR (rv : Nat → Int64) (en : Nat → Nat) (t : Nat) (x : Int) : Nat → Int
  | 0 => -1
  | i + 1 => if naR rv en t x i = -1 then (if (¬ en i / 256 = naB rv en t i ∧ zbt rv t (en i % 256) = true) ∧ ((naC rv en t i : Nat) : Int) = x then ((en i / 256 : Nat) : Int) else -1) else naR rv en t x i
theorem naR_mono {rv : Nat → Int64} {en : Nat → Nat} {t : Nat} {x r : Int} (hr : ¬ r = -1) : ∀ {i n : Nat}, i ≤ n → naR rv en t x i = r → naR rv en t x n = r := by
  intro i n h hi
  induction n with
  | zero => rw [show i = 0 by omega] at hi; exact hi
  | succ n ih =>
    by_cases hq : i = n + 1
    · rw [← hq]; exact hi
    · have h1 := ih (by omega)
      rw [naR, h1, if_neg hr]

def rm_nameOf : Room := { frames := 0, cells := 0, slots := 0, locals := 0 }
set_option maxHeartbeats 4000000 in
set_option maxRecDepth 100000 in
/-- Model.nameOf -/
theorem c_nameOf (l : Launch) (D : va_G) (c : Nat → ClassId) (e_ : Nat) (he : e_ < 2147483648) : Met l y_Mo_nameOf w_Mo_nameOf rm_nameOf (va_Pc [.int (zI ((e_ : Nat) : Int))] (fun U => va_P D vwCl [] U.heap ∧ zK D c U)) (vp_Si (fun r => r = (zI ((e_ / 256 : Nat) : Int)))) 0 0 (fun _ => False) := by
  refine Met.ofW (cc := b_Mo_nameOf) (maxL := 1) (ret := (some .int)) (by decide) rfl ?_
  intro p e s m args below meth c0 s₁ B hml hv
  obtain ⟨rfl, hP, hKN⟩ := hv
  have hK := hKN.1
  have hN := hKN.2
  have hx := B.exec
  have hb := B.bytes
  have hr := B.returns
  have hts := atoms_spec (ws := w_Mo_nameOf) B.pre
  have hw : ∀ {w : Cond}, w ∈ ALLW → w.before _ s = true := fun h => hts _ (List.mem_cons_of_mem _ h)
  have hown : s.vm.findClass R_Mo = some m.cls := findClass_of_methodNamed B.named
  have hlocks := B.notSynchronized
  have hl := lv_entry ([.int (zI ((e_ : Nat) : Int))]) (n := 1) (Nat.le_of_ble_eq_true rfl)
  rw [lg_entry_eq]
  generalize (lg_sl ([.int (zI ((e_ : Nat) : Int))]) ++ List.replicate (1 - (lg_sl ([.int (zI ((e_ : Nat) : Int))])).length) Slot.unset).toArray = ls at hl ⊢
  have hl : lv_has ls 1 [(0, .int (zI ((e_ : Nat) : Int)))] := hl
  generalize hQ : MQ below _ _ _ _ _ _ = Q
  refine lv_iload_n hx hb d_Mo_nameOf_0 rfl (lv_at hl 0 rfl) ?_
  refine lv_bipush (v := zI 8) hx hb d_Mo_nameOf_1 (by decide) ?_
  refine lv_ishr hx hb d_Mo_nameOf_3 ?_
  refine z_top (v2 := .int (zI ((e_ / 256 : Nat) : Int))) (congrArg Value.int (z_shr8 _ (by omega))) ?_
  subst hQ
  exact W.iret (v := (zI ((e_ / 256 : Nat) : Int))) hx hb hr (fun t9 ht hW => ⟨_, rfl, rfl, ht⟩) (fun q hq => absurd hq List.not_mem_nil) d_Mo_nameOf_4

def rm_occurrenceOf : Room := { frames := 0, cells := 0, slots := 0, locals := 0 }
set_option maxHeartbeats 4000000 in
set_option maxRecDepth 100000 in
/-- Model.occurrenceOf -/
theorem c_occurrenceOf (l : Launch) (D : va_G) (c : Nat → ClassId) (e_ : Nat) (he : e_ < 2147483648) : Met l y_Mo_occurrenceOf w_Mo_occurrenceOf rm_occurrenceOf (va_Pc [.int (zI ((e_ : Nat) : Int))] (fun U => va_P D vwCl [] U.heap ∧ zK D c U)) (vp_Si (fun r => r = (zI ((e_ % 256 : Nat) : Int)))) 0 0 (fun _ => False) := by
  refine Met.ofW (cc := b_Mo_occurrenceOf) (maxL := 1) (ret := (some .int)) (by decide) rfl ?_
  intro p e s m args below meth c0 s₁ B hml hv
  obtain ⟨rfl, hP, hKN⟩ := hv
  have hK := hKN.1
  have hN := hKN.2
  have hx := B.exec
  have hb := B.bytes
  have hr := B.returns
  have hts := atoms_spec (ws := w_Mo_occurrenceOf) B.pre
  have hw : ∀ {w : Cond}, w ∈ ALLW → w.before _ s = true := fun h => hts _ (List.mem_cons_of_mem _ h)
  have hown : s.vm.findClass R_Mo = some m.cls := findClass_of_methodNamed B.named
  have hlocks := B.notSynchronized
  have hl := lv_entry ([.int (zI ((e_ : Nat) : Int))]) (n := 1) (Nat.le_of_ble_eq_true rfl)
  rw [lg_entry_eq]
  generalize (lg_sl ([.int (zI ((e_ : Nat) : Int))]) ++ List.replicate (1 - (lg_sl ([.int (zI ((e_ : Nat) : Int))])).length) Slot.unset).toArray = ls at hl ⊢
  have hl : lv_has ls 1 [(0, .int (zI ((e_ : Nat) : Int)))] := hl
  generalize hQ : MQ below _ _ _ _ _ _ = Q
  refine lv_iload_n hx hb d_Mo_occurrenceOf_0 rfl (lv_at hl 0 rfl) ?_
  refine lv_sipush (v := zI 255) hx hb d_Mo_occurrenceOf_1 (by decide) ?_
  refine lv_iand hx hb d_Mo_occurrenceOf_4 ?_
  refine z_top (v2 := .int (zI ((e_ % 256 : Nat) : Int))) (congrArg Value.int (z_and255 _ (by omega))) ?_
  subst hQ
  exact W.iret (v := (zI ((e_ % 256 : Nat) : Int))) hx hb hr (fun t9 ht hW => ⟨_, rfl, rfl, ht⟩) (fun q hq => absurd hq List.not_mem_nil) d_Mo_occurrenceOf_5

def rm_entry : Room := { frames := 0, cells := 0, slots := 0, locals := 0 }
set_option maxHeartbeats 4000000 in
set_option maxRecDepth 100000 in
/-- Model.entry -/
theorem c_entry (l : Launch) (D : va_G) (c : Nat → ClassId) (x : Nat) (o : Nat) (hx_ : x < 2048) (ho : o < 256) : Met l y_Mo_entry w_Mo_entry rm_entry (va_Pc [.int (zI ((x : Nat) : Int)), .int (zI ((o : Nat) : Int))] (fun U => va_P D vwCl [] U.heap ∧ zK D c U)) (vp_Si (fun r => r = (zI ((x * 256 + o : Nat) : Int)))) 0 0 (fun _ => False) := by
  refine Met.ofW (cc := b_Mo_entry) (maxL := 2) (ret := (some .int)) (by decide) rfl ?_
  intro p e s m args below meth c0 s₁ B hml hv
  obtain ⟨rfl, hP, hKN⟩ := hv
  have hK := hKN.1
  have hN := hKN.2
  have hx := B.exec
  have hb := B.bytes
  have hr := B.returns
  have hts := atoms_spec (ws := w_Mo_entry) B.pre
  have hw : ∀ {w : Cond}, w ∈ ALLW → w.before _ s = true := fun h => hts _ (List.mem_cons_of_mem _ h)
  have hown : s.vm.findClass R_Mo = some m.cls := findClass_of_methodNamed B.named
  have hlocks := B.notSynchronized
  have hl := lv_entry ([.int (zI ((x : Nat) : Int)), .int (zI ((o : Nat) : Int))]) (n := 2) (Nat.le_of_ble_eq_true rfl)
  rw [lg_entry_eq]
  generalize (lg_sl ([.int (zI ((x : Nat) : Int)), .int (zI ((o : Nat) : Int))]) ++ List.replicate (2 - (lg_sl ([.int (zI ((x : Nat) : Int)), .int (zI ((o : Nat) : Int))])).length) Slot.unset).toArray = ls at hl ⊢
  have hl : lv_has ls 2 [(0, .int (zI ((x : Nat) : Int))), (1, .int (zI ((o : Nat) : Int)))] := hl
  generalize hQ : MQ below _ _ _ _ _ _ = Q
  refine lv_iload_n hx hb d_Mo_entry_0 rfl (lv_at hl 0 rfl) ?_
  refine lv_bipush (v := zI 8) hx hb d_Mo_entry_1 (by decide) ?_
  refine lv_ishl hx hb d_Mo_entry_3 ?_
  refine z_top (v2 := .int (zI ((x * 256 : Nat) : Int))) (congrArg Value.int (z_shl8 _ (by omega))) ?_
  refine lv_iload_n hx hb d_Mo_entry_4 rfl (lv_at hl 1 rfl) ?_
  refine lv_ior hx hb d_Mo_entry_5 ?_
  refine z_top (v2 := .int (zI ((x * 256 + o : Nat) : Int))) (congrArg Value.int (z_or8 _ _ (by omega) (by omega))) ?_
  subst hQ
  exact W.iret (v := (zI ((x * 256 + o : Nat) : Int))) hx hb hr (fun t9 ht hW => ⟨_, rfl, rfl, ht⟩) (fun q hq => absurd hq List.not_mem_nil) d_Mo_entry_6

def rm_hasTwins : Room := { frames := 3, cells := 0, slots := 0, locals := 65 }
set_option maxHeartbeats 4000000 in
set_option maxRecDepth 100000 in
/-- Model.hasTwins -/
theorem c_hasTwins (l : Launch) (D : va_G) (c : Nat → ClassId) (me : Nat) (ms : Nat) (msw : Nat) (en : Nat → Nat) (ne : Nat) (mf : Nat → Int64) (t : Nat) (hne : ne ≤ 255) (hen : ∀ j, j < ne → en j < 300000) (ht : t < ne + 1) : Met l y_Mo_hasTwins w_Mo_hasTwins rm_hasTwins (va_Pc [.ref me, .ref ms, .int (zI ((t : Nat) : Int))] (fun U => va_P D vwCl [(me, .inl (c 0, ne, .inl (fun j => zI ((en j : Nat) : Int)))), (ms, .inr (3, [.ref msw])), (msw, .inl (c 2, 4 * (ne + 1), .inr (.inl mf)))] U.heap ∧ zK D c U)) (vp_Si (fun r => r = (zB (twi en mf t ne)))) 0 0 (fun _ => False) := by
  refine Met.ofW (cc := b_Mo_hasTwins) (maxL := 5) (ret := (some .boolean)) (by decide) rfl ?_
  intro p e s m args below meth c0 s₁ B hml hv
  obtain ⟨rfl, hP, hKN⟩ := hv
  have hK := hKN.1
  have hN := hKN.2
  have hx := B.exec
  have hb := B.bytes
  have hr := B.returns
  have hts := atoms_spec (ws := w_Mo_hasTwins) B.pre
  have hw : ∀ {w : Cond}, w ∈ ALLW → w.before _ s = true := fun h => hts _ (List.mem_cons_of_mem _ h)
  have hown : s.vm.findClass R_Mo = some m.cls := findClass_of_methodNamed B.named
  have hlocks := B.notSynchronized
  have hl := lv_entry ([.ref me, .ref ms, .int (zI ((t : Nat) : Int))]) (n := 5) (Nat.le_of_ble_eq_true rfl)
  rw [lg_entry_eq]
  generalize (lg_sl ([.ref me, .ref ms, .int (zI ((t : Nat) : Int))]) ++ List.replicate (5 - (lg_sl ([.ref me, .ref ms, .int (zI ((t : Nat) : Int))])).length) Slot.unset).toArray = ls at hl ⊢
  have hl : lv_has ls 5 [(0, .ref me), (1, .ref ms), (2, .int (zI ((t : Nat) : Int)))] := hl
  generalize hQ : MQ below _ _ _ _ _ _ = Q
  refine lv_iconst (v := zI 0) hx hb d_Mo_hasTwins_0 (by decide) ?_
  refine lv_istore_n (lv' := [(3, .int (zI 0)), (0, .ref me), (1, .ref ms), (2, .int (zI ((t : Nat) : Int)))]) hx hb d_Mo_hasTwins_1 rfl hl (by decide) rfl (fun ls hl => ?_)
  refine lv_iconst (v := zI 0) hx hb d_Mo_hasTwins_2 (by decide) ?_
  refine lv_istore (lv' := [(4, .int (zI 0)), (3, .int (zI 0)), (0, .ref me), (1, .ref ms), (2, .int (zI ((t : Nat) : Int)))]) hx hb d_Mo_hasTwins_3 hl (by decide) rfl (fun ls hl => ?_)
  have lp_5 : ∀ (k_ : Nat) (v : Nat), ne - v < k_ → (v ≤ ne) → (twB en mf t v < 300000) → (twi en mf t v = false) → ∀ ls : Array Slot, lv_has ls 5 [(4, .int (zI ((v : Nat) : Int))), (3, .int (zI ((twB en mf t v : Nat) : Int))), (0, .ref me), (1, .ref ms), (2, .int (zI ((t : Nat) : Int)))] → W p l e (headSpec w_Mo_hasTwins rm_hasTwins).room s m ([.ref me, .ref ms, .int (zI ((t : Nat) : Int))] : List Value).toArray below meth c0 s.heap [] 0 0 Q (F0 m 5 ls []) := by
    intro k_
    induction k_ with
    | zero => intro v hk_; exact absurd hk_ (Nat.not_lt_zero _)
    | succ k_ ih_5 =>
      intro v hk_ hv hbb htw ls hl
      refine lv_iload hx hb d_Mo_hasTwins_5 (lv_at hl 0 rfl) ?_
      refine lv_aload_n hx hb d_Mo_hasTwins_7 rfl (lv_at hl 2 rfl) ?_
      refine z_alen hx hb hK hP 0 0 rfl rfl d_Mo_hasTwins_8 ?_
      refine z_top (v2 := .int (zI ((ne : Nat) : Int))) rfl ?_
      refine z_icmp_ge (tgt := 54) hx hb (by omega) d_Mo_hasTwins_9 (by decide) (fun hc_9 => ?_) (fun hc_9 => ?_)
      · refine lv_iconst (v := zI 0) hx hb d_Mo_hasTwins_54 (by decide) ?_
        have e_ : v = ne := by omega
        rw [e_] at htw
        subst hQ
        exact W.zret (ty := .boolean) (v := (zI 0)) hx hb hr (by decide) (fun t9 ht hW => ⟨_, rfl, (by rw [htw]; decide), ht⟩) (fun q hq => absurd hq List.not_mem_nil) d_Mo_hasTwins_55
      · have hev := hen v (by omega)
        refine lv_aload_n hx hb d_Mo_hasTwins_12 rfl (lv_at hl 3 rfl) ?_
        refine lv_iload_n hx hb d_Mo_hasTwins_13 rfl (lv_at hl 4 rfl) ?_
        refine lv_aload_n hx hb d_Mo_hasTwins_14 rfl (lv_at hl 2 rfl) ?_
        refine lv_iload hx hb d_Mo_hasTwins_15 (lv_at hl 0 rfl) ?_
        refine z_uald hx hb hK hP 0 0 rfl rfl (v) (by omega) (by omega) (by omega) d_Mo_hasTwins_17 ?_
        have hPc : va_P D vwCl [] s.heap := hP.sub (ws' := []) [] rfl
        refine vp_callSi (va_runS (rm := rm_occurrenceOf) (As := [.int (zI ((en v : Nat) : Int))]) (rest := [.int (zI ((t : Nat) : Int)), .ref ms]) ⟨hx, hb, hml, hown, hts⟩ (c_occurrenceOf l D c (en v) (by omega)) (va_cwS 1 hts (gWS k_Mo_m31 k_s_Mo_occurrenceOf k_n_Mo k_c_Mo_occurrenceOf) rfl rfl rfl (by decide +kernel) ⟨Nat.le_of_ble_eq_true rfl, Nat.le_of_ble_eq_true rfl⟩) ⟨zblind, fun U hU hW => ⟨rfl, by rw [hU]; exact hPc, hKN.moved hW⟩⟩ rfl rfl hl.1 rfl (lv_room (Nat.le_of_ble_eq_true rfl)) d_Mo_hasTwins_18 ⟨Nat.zero_le _, Nat.zero_le _⟩).run (fun r hr_1 => ?_)
        subst hr_1
        have hPc : va_P D vwCl [(ms, .inr (3, [.ref msw])), (msw, .inl (c 2, 4 * (ne + 1), .inr (.inl mf)))] s.heap := hP.sub (ws' := [(ms, .inr (3, [.ref msw])), (msw, .inl (c 2, 4 * (ne + 1), .inr (.inl mf)))]) [1, 2] rfl
        refine vp_callSi (va_runV (rm := rm_holds) (As := [.int (zI ((t : Nat) : Int)), .int (zI (((en v) % 256 : Nat) : Int))]) (rest := []) ⟨hx, hb, hml, hown, hts⟩ (c_holds l D c ms msw (ne + 1) mf t (en v % 256) (by omega) (by omega) (by omega)) (cwV 2 hts (gWV k_Mo_m35 k_i_Se_holds k_v_Se_holds k_n_Se k_c_Se_holds) rfl rfl rfl (by decide +kernel) ⟨Nat.le_of_ble_eq_true rfl, Nat.le_of_ble_eq_true rfl⟩) ⟨zblind, va_recv hK hPc (ci := 3) (q0 := 0) rfl rfl, fun U hU hW => ⟨rfl, by rw [hU]; exact hPc, hKN.moved hW⟩⟩ rfl rfl hl.1 rfl (lv_room (Nat.le_of_ble_eq_true rfl)) d_Mo_hasTwins_21 ⟨Nat.zero_le _, Nat.zero_le _⟩).run (fun r hr_2 => ?_)
        subst hr_2
        refine z_ifeq_B (tgt := 48) hx hb d_Mo_hasTwins_24 (by decide) (fun hc_24 => ?_) (fun hc_24 => ?_)
        · refine lv_iinc (v := zI ((v + 1 : Nat) : Int)) (lv' := [(4, .int (zI ((v + 1 : Nat) : Int))), (3, .int (zI ((twB en mf t v : Nat) : Int))), (0, .ref me), (1, .ref ms), (2, .int (zI ((t : Nat) : Int)))]) hx hb d_Mo_hasTwins_48 hl (k := 0) rfl (z_incN _ 1) (by decide) rfl (fun ls hl => ?_)
          refine lv_goto (tgt := 5) hx hb d_Mo_hasTwins_51 (by decide) ?_
          exact ih_5 (v + 1) (by omega) (by omega) (by rw [twB_F hc_24]; exact hbb) (by rw [twi, htw, hc_24]; first | rfl | (rw [decide_eq_false (by omega)]; rfl)) _ (by rw [twB_F hc_24]; exact lv_sub hl [0, 1, 2, 3, 4] rfl)
        · refine lv_aload_n hx hb d_Mo_hasTwins_27 rfl (lv_at hl 2 rfl) ?_
          refine lv_iload hx hb d_Mo_hasTwins_28 (lv_at hl 0 rfl) ?_
          refine z_uald hx hb hK hP 0 0 rfl rfl (v) (by omega) (by omega) (by omega) d_Mo_hasTwins_30 ?_
          have hPc : va_P D vwCl [] s.heap := hP.sub (ws' := []) [] rfl
          refine vp_callSi (va_runS (rm := rm_nameOf) (As := [.int (zI ((en v : Nat) : Int))]) (rest := []) ⟨hx, hb, hml, hown, hts⟩ (c_nameOf l D c (en v) (by omega)) (va_cwS 1 hts (gWS k_Mo_m41 k_s_Mo_nameOf k_n_Mo k_c_Mo_nameOf) rfl rfl rfl (by decide +kernel) ⟨Nat.le_of_ble_eq_true rfl, Nat.le_of_ble_eq_true rfl⟩) ⟨zblind, fun U hU hW => ⟨rfl, by rw [hU]; exact hPc, hKN.moved hW⟩⟩ rfl rfl hl.1 rfl (lv_room (Nat.le_of_ble_eq_true rfl)) d_Mo_hasTwins_31 ⟨Nat.zero_le _, Nat.zero_le _⟩).run (fun r hr_3 => ?_)
          subst hr_3
          refine lv_iload_n hx hb d_Mo_hasTwins_34 rfl (lv_at hl 1 rfl) ?_
          refine z_icmp_ne (tgt := 40) hx hb (by omega) d_Mo_hasTwins_35 (by decide) (fun hc_35 => ?_) (fun hc_35 => ?_)
          · refine lv_aload_n hx hb d_Mo_hasTwins_40 rfl (lv_at hl 2 rfl) ?_
            refine lv_iload hx hb d_Mo_hasTwins_41 (lv_at hl 0 rfl) ?_
            refine z_uald hx hb hK hP 0 0 rfl rfl (v) (by omega) (by omega) (by omega) d_Mo_hasTwins_43 ?_
            have hPc : va_P D vwCl [] s.heap := hP.sub (ws' := []) [] rfl
            refine vp_callSi (va_runS (rm := rm_nameOf) (As := [.int (zI ((en v : Nat) : Int))]) (rest := []) ⟨hx, hb, hml, hown, hts⟩ (c_nameOf l D c (en v) (by omega)) (va_cwS 1 hts (gWS k_Mo_m41 k_s_Mo_nameOf k_n_Mo k_c_Mo_nameOf) rfl rfl rfl (by decide +kernel) ⟨Nat.le_of_ble_eq_true rfl, Nat.le_of_ble_eq_true rfl⟩) ⟨zblind, fun U hU hW => ⟨rfl, by rw [hU]; exact hPc, hKN.moved hW⟩⟩ rfl rfl hl.1 rfl (lv_room (Nat.le_of_ble_eq_true rfl)) d_Mo_hasTwins_44 ⟨Nat.zero_le _, Nat.zero_le _⟩).run (fun r hr_4 => ?_)
            subst hr_4
            refine lv_istore_n (lv' := [(3, .int (zI (((en v) / 256 : Nat) : Int))), (4, .int (zI ((v : Nat) : Int))), (0, .ref me), (1, .ref ms), (2, .int (zI ((t : Nat) : Int)))]) hx hb d_Mo_hasTwins_47 rfl hl (by decide) rfl (fun ls hl => ?_)
            refine lv_iinc (v := zI ((v + 1 : Nat) : Int)) (lv' := [(4, .int (zI ((v + 1 : Nat) : Int))), (3, .int (zI (((en v) / 256 : Nat) : Int))), (0, .ref me), (1, .ref ms), (2, .int (zI ((t : Nat) : Int)))]) hx hb d_Mo_hasTwins_48 hl (k := 1) rfl (z_incN _ 1) (by decide) rfl (fun ls hl => ?_)
            refine lv_goto (tgt := 5) hx hb d_Mo_hasTwins_51 (by decide) ?_
            exact ih_5 (v + 1) (by omega) (by omega) (by rw [twB_T hc_24]; omega) (by rw [twi, htw, hc_24]; first | rfl | (rw [decide_eq_false (by omega)]; rfl)) _ (by rw [twB_T hc_24]; exact lv_sub hl [0, 1, 2, 3, 4] rfl)
          · refine lv_iconst (v := zI 1) hx hb d_Mo_hasTwins_38 (by decide) ?_
            subst hQ
            exact W.zret (ty := .boolean) (v := (zI 1)) hx hb hr (by decide) (fun t9 ht hW => ⟨_, rfl, (by rw [twi_mono (i := v + 1) (by omega) (by rw [twi, hc_24, decide_eq_true (by omega)]; simp)]; decide), ht⟩) (fun q hq => absurd hq List.not_mem_nil) d_Mo_hasTwins_39
  exact lp_5 _ 0 (Nat.lt_succ_self _) (by omega) (by show 0 < 300000; omega) rfl _ (lv_sub hl [0, 1, 2, 3, 4] rfl)

def rm_hasTwinsAnywhere : Room := { frames := 4, cells := 0, slots := 0, locals := 89 }
set_option maxHeartbeats 4000000 in
set_option maxRecDepth 100000 in
/-- Model.hasTwinsAnywhere -/
theorem c_hasTwinsAnywhere (l : Launch) (D : va_G) (c : Nat → ClassId) (me : Nat) (ms : Nat) (msw : Nat) (en : Nat → Nat) (ne : Nat) (mf : Nat → Int64) (hne : ne ≤ 255) (hen : ∀ j, j < ne → en j < 300000) : Met l y_Mo_hasTwinsAnywhere w_Mo_hasTwinsAnywhere rm_hasTwinsAnywhere (va_Pc [.ref me, .ref ms] (fun U => va_P D vwCl [(me, .inl (c 0, ne, .inl (fun j => zI ((en j : Nat) : Int)))), (ms, .inr (3, [.ref msw])), (msw, .inl (c 2, 4 * (ne + 1), .inr (.inl mf)))] U.heap ∧ zK D c U)) (vp_Si (fun r => r = (zB (twA en mf ne (ne + 1))))) 0 0 (fun _ => False) := by
  refine Met.ofW (cc := b_Mo_hasTwinsAnywhere) (maxL := 3) (ret := (some .boolean)) (by decide) rfl ?_
  intro p e s m args below meth c0 s₁ B hml hv
  obtain ⟨rfl, hP, hKN⟩ := hv
  have hK := hKN.1
  have hN := hKN.2
  have hx := B.exec
  have hb := B.bytes
  have hr := B.returns
  have hts := atoms_spec (ws := w_Mo_hasTwinsAnywhere) B.pre
  have hw : ∀ {w : Cond}, w ∈ ALLW → w.before _ s = true := fun h => hts _ (List.mem_cons_of_mem _ h)
  have hown : s.vm.findClass R_Mo = some m.cls := findClass_of_methodNamed B.named
  have hlocks := B.notSynchronized
  have hl := lv_entry ([.ref me, .ref ms]) (n := 3) (Nat.le_of_ble_eq_true rfl)
  rw [lg_entry_eq]
  generalize (lg_sl ([.ref me, .ref ms]) ++ List.replicate (3 - (lg_sl ([.ref me, .ref ms])).length) Slot.unset).toArray = ls at hl ⊢
  have hl : lv_has ls 3 [(0, .ref me), (1, .ref ms)] := hl
  generalize hQ : MQ below _ _ _ _ _ _ = Q
  refine lv_iconst (v := zI 0) hx hb d_Mo_hasTwinsAnywhere_0 (by decide) ?_
  refine lv_istore_n (lv' := [(2, .int (zI 0)), (0, .ref me), (1, .ref ms)]) hx hb d_Mo_hasTwinsAnywhere_1 rfl hl (by decide) rfl (fun ls hl => ?_)
  have lp_2 : ∀ (k_ : Nat) (v : Nat), ne + 1 - v < k_ → (v ≤ ne + 1) → (twA en mf ne v = false) → ∀ ls : Array Slot, lv_has ls 3 [(2, .int (zI ((v : Nat) : Int))), (0, .ref me), (1, .ref ms)] → W p l e (headSpec w_Mo_hasTwinsAnywhere rm_hasTwinsAnywhere).room s m ([.ref me, .ref ms] : List Value).toArray below meth c0 s.heap [] 0 0 Q (F0 m 2 ls []) := by
    intro k_
    induction k_ with
    | zero => intro v hk_; exact absurd hk_ (Nat.not_lt_zero _)
    | succ k_ ih_2 =>
      intro v hk_ hv htw ls hl
      refine lv_iload_n hx hb d_Mo_hasTwinsAnywhere_2 rfl (lv_at hl 0 rfl) ?_
      refine lv_aload_n hx hb d_Mo_hasTwinsAnywhere_3 rfl (lv_at hl 1 rfl) ?_
      refine z_alen hx hb hK hP 0 0 rfl rfl d_Mo_hasTwinsAnywhere_4 ?_
      refine z_top (v2 := .int (zI ((ne : Nat) : Int))) rfl ?_
      refine z_icmp_gt (tgt := 25) hx hb (by omega) d_Mo_hasTwinsAnywhere_5 (by decide) (fun hc_5 => ?_) (fun hc_5 => ?_)
      · refine lv_iconst (v := zI 0) hx hb d_Mo_hasTwinsAnywhere_25 (by decide) ?_
        have e_ : v = ne + 1 := by omega
        rw [e_] at htw
        subst hQ
        exact W.zret (ty := .boolean) (v := (zI 0)) hx hb hr (by decide) (fun t9 ht hW => ⟨_, rfl, (by rw [htw]; decide), ht⟩) (fun q hq => absurd hq List.not_mem_nil) d_Mo_hasTwinsAnywhere_26
      · refine lv_aload_n hx hb d_Mo_hasTwinsAnywhere_8 rfl (lv_at hl 1 rfl) ?_
        refine lv_aload_n hx hb d_Mo_hasTwinsAnywhere_9 rfl (lv_at hl 2 rfl) ?_
        refine lv_iload_n hx hb d_Mo_hasTwinsAnywhere_10 rfl (lv_at hl 0 rfl) ?_
        have hPc : va_P D vwCl [(me, .inl (c 0, ne, .inl (fun j => zI ((en j : Nat) : Int)))), (ms, .inr (3, [.ref msw])), (msw, .inl (c 2, 4 * (ne + 1), .inr (.inl mf)))] s.heap := hP.sub (ws' := [(me, .inl (c 0, ne, .inl (fun j => zI ((en j : Nat) : Int)))), (ms, .inr (3, [.ref msw])), (msw, .inl (c 2, 4 * (ne + 1), .inr (.inl mf)))]) [0, 1, 2] rfl
        refine vp_callSi (va_runS (rm := rm_hasTwins) (As := [.ref me, .ref ms, .int (zI ((v : Nat) : Int))]) (rest := []) ⟨hx, hb, hml, hown, hts⟩ (c_hasTwins l D c me ms msw en ne mf v (by omega) hen (by omega)) (va_cwS 3 hts (gWS k_Mo_m27 k_s_Mo_hasTwins k_n_Mo k_c_Mo_hasTwins) rfl rfl rfl (by decide +kernel) ⟨Nat.le_of_ble_eq_true rfl, Nat.le_of_ble_eq_true rfl⟩) ⟨zblind, fun U hU hW => ⟨rfl, by rw [hU]; exact hPc, hKN.moved hW⟩⟩ rfl rfl hl.1 rfl (lv_room (Nat.le_of_ble_eq_true rfl)) d_Mo_hasTwinsAnywhere_11 ⟨Nat.zero_le _, Nat.zero_le _⟩).run (fun r hr_1 => ?_)
        subst hr_1
        refine z_ifeq_B (tgt := 19) hx hb d_Mo_hasTwinsAnywhere_14 (by decide) (fun hc_14 => ?_) (fun hc_14 => ?_)
        · refine lv_iinc (v := zI ((v + 1 : Nat) : Int)) (lv' := [(2, .int (zI ((v + 1 : Nat) : Int))), (0, .ref me), (1, .ref ms)]) hx hb d_Mo_hasTwinsAnywhere_19 hl (k := 0) rfl (z_incN _ 1) (by decide) rfl (fun ls hl => ?_)
          refine lv_goto (tgt := 2) hx hb d_Mo_hasTwinsAnywhere_22 (by decide) ?_
          exact ih_2 (v + 1) (by omega) (by omega) (by rw [twA, htw, hc_14]; rfl) _ (lv_sub hl [0, 1, 2] rfl)
        · refine lv_iconst (v := zI 1) hx hb d_Mo_hasTwinsAnywhere_17 (by decide) ?_
          subst hQ
          exact W.zret (ty := .boolean) (v := (zI 1)) hx hb hr (by decide) (fun t9 ht hW => ⟨_, rfl, (by rw [twA_mono (i := v + 1) (by omega) (by rw [twA, hc_14]; simp)]; decide), ht⟩) (fun q hq => absurd hq List.not_mem_nil) d_Mo_hasTwinsAnywhere_18
  exact lp_2 _ 0 (Nat.lt_succ_self _) (by omega) rfl _ (lv_sub hl [0, 1, 2] rfl)

def rm_putFirst : Room := { frames := 2, cells := 0, slots := 0, locals := 45 }
set_option maxHeartbeats 4000000 in
set_option maxRecDepth 100000 in
/-- Model.putFirst -/
theorem c_putFirst (l : Launch) (D : va_G) (c : Nat → ClassId) (rc : Nat) (rcw : Nat) (rv : Nat → Int64) (mo : Nat) (me : Nat) (ms : Nat) (msw : Nat) (en : Nat → Nat) (ne : Nat) (mf : Nat → Int64) (dt : Bool) (t : Nat) (hne : ne ≤ 255) (hen : ∀ j, j < ne → en j < 300000) (ht : t < 1001) : Met l y_Mo_putFirst w_Mo_putFirst rm_putFirst (va_Pc [.ref mo, .ref rc, .int (zI ((t : Nat) : Int))] (fun U => (va_P D vwCl [(mo, .inr (1, [.ref me, .ref ms, .int (zB dt)])), (me, .inl (c 0, ne, .inl (fun j => zI ((en j : Nat) : Int)))), (ms, .inr (3, [.ref msw])), (msw, .inl (c 2, 4 * (ne + 1), .inr (.inl mf))), (rc, .inr (3, [.ref rcw])), (rcw, .inl (c 2, 4 * 1001, .inr (.inl rv)))] U.heap ∧ va_D (fun _ => True) [(mo, .inr (1, [.ref me, .ref ms, .int (zB dt)])), (me, .inl (c 0, ne, .inl (fun j => zI ((en j : Nat) : Int)))), (ms, .inr (3, [.ref msw])), (msw, .inl (c 2, 4 * (ne + 1), .inr (.inl mf))), (rc, .inr (3, [.ref rcw])), (rcw, .inl (c 2, 4 * 1001, .inr (.inl rv)))]) ∧ zK D c U)) (va_Qv (fun (u : Unit) => True) (fun (u : Unit) t9 => va_P D vwCl [(mo, .inr (1, [.ref me, .ref ms, .int (zB dt)])), (me, .inl (c 0, ne, .inl (fun j => zI ((en j : Nat) : Int)))), (ms, .inr (3, [.ref msw])), (msw, .inl (c 2, 4 * (ne + 1), .inr (.inl mf))), (rc, .inr (3, [.ref rcw])), (rcw, .inl (c 2, 4 * 1001, .inr (.inl (zor (zclr rv t) t mf ne))))] t9.heap) (zA [(mo, .inr (1, [.ref me, .ref ms, .int (zB dt)])), (me, .inl (c 0, ne, .inl (fun j => zI ((en j : Nat) : Int)))), (ms, .inr (3, [.ref msw])), (msw, .inl (c 2, 4 * (ne + 1), .inr (.inl mf))), (rc, .inr (3, [.ref rcw])), (rcw, .inl (c 2, 4 * 1001, .inr (.inl rv)))])) 0 0 (zA [(mo, .inr (1, [.ref me, .ref ms, .int (zB dt)])), (me, .inl (c 0, ne, .inl (fun j => zI ((en j : Nat) : Int)))), (ms, .inr (3, [.ref msw])), (msw, .inl (c 2, 4 * (ne + 1), .inr (.inl mf))), (rc, .inr (3, [.ref rcw])), (rcw, .inl (c 2, 4 * 1001, .inr (.inl rv)))]) := by
  refine Met.ofW (cc := b_Mo_putFirst) (maxL := 3) (ret := none) (by decide) rfl ?_
  intro p e s m args below meth c0 s₁ B hml hv
  obtain ⟨rfl, ⟨hP, hD0⟩, hKN⟩ := hv
  have hK := hKN.1
  have hN := hKN.2
  have hx := B.exec
  have hb := B.bytes
  have hr := B.returns
  have hts := atoms_spec (ws := w_Mo_putFirst) B.pre
  have hw : ∀ {w : Cond}, w ∈ ALLW → w.before _ s = true := fun h => hts _ (List.mem_cons_of_mem _ h)
  have hown : s.vm.findClass R_Mo = some m.cls := findClass_of_methodNamed B.named
  have hlocks := B.notSynchronized
  have hD : va_D (zA [(mo, .inr (1, [.ref me, .ref ms, .int (zB dt)])), (me, .inl (c 0, ne, .inl (fun j => zI ((en j : Nat) : Int)))), (ms, .inr (3, [.ref msw])), (msw, .inl (c 2, 4 * (ne + 1), .inr (.inl mf))), (rc, .inr (3, [.ref rcw])), (rcw, .inl (c 2, 4 * 1001, .inr (.inl rv)))]) [(mo, .inr (1, [.ref me, .ref ms, .int (zB dt)])), (me, .inl (c 0, ne, .inl (fun j => zI ((en j : Nat) : Int)))), (ms, .inr (3, [.ref msw])), (msw, .inl (c 2, 4 * (ne + 1), .inr (.inl mf))), (rc, .inr (3, [.ref rcw])), (rcw, .inl (c 2, 4 * 1001, .inr (.inl rv)))] := ⟨hD0.1, fun k q h => List.mem_map.mpr ⟨q, List.mem_of_getElem? h, rfl⟩⟩
  generalize hAe : zA [(mo, .inr (1, [.ref me, .ref ms, .int (zB dt)])), (me, .inl (c 0, ne, .inl (fun j => zI ((en j : Nat) : Int)))), (ms, .inr (3, [.ref msw])), (msw, .inl (c 2, 4 * (ne + 1), .inr (.inl mf))), (rc, .inr (3, [.ref rcw])), (rcw, .inl (c 2, 4 * 1001, .inr (.inl rv)))] = A at hD ⊢
  have hS : va_S A s.heap s.heap [] := va_S.rf
  have hP : va_P D vwCl [(mo, .inr (1, [.ref me, .ref ms, .int (zB dt)])), (me, .inl (c 0, ne, .inl (fun j => zI ((en j : Nat) : Int)))), (ms, .inr (3, [.ref msw])), (msw, .inl (c 2, 4 * (ne + 1), .inr (.inl mf))), (rc, .inr (3, [.ref rcw])), (rcw, .inl (c 2, 4 * 1001, .inr (.inl rv)))] s.heap := hP
  have hl := lv_entry ([.ref mo, .ref rc, .int (zI ((t : Nat) : Int))]) (n := 3) (Nat.le_of_ble_eq_true rfl)
  rw [lg_entry_eq]
  generalize (lg_sl ([.ref mo, .ref rc, .int (zI ((t : Nat) : Int))]) ++ List.replicate (3 - (lg_sl ([.ref mo, .ref rc, .int (zI ((t : Nat) : Int))])).length) Slot.unset).toArray = ls at hl ⊢
  have hl : lv_has ls 3 [(0, .ref mo), (1, .ref rc), (2, .int (zI ((t : Nat) : Int)))] := hl
  generalize hQ : MQ below _ _ _ _ _ _ = Q
  refine lv_aload_n hx hb d_Mo_putFirst_0 rfl (lv_at hl 1 rfl) ?_
  refine lv_iload_n hx hb d_Mo_putFirst_1 rfl (lv_at hl 2 rfl) ?_
  have hPc : va_P D vwCl [(rc, .inr (3, [.ref rcw])), (rcw, .inl (c 2, 4 * 1001, .inr (.inl rv)))] s.heap := hP.sub (ws' := [(rc, .inr (3, [.ref rcw])), (rcw, .inl (c 2, 4 * 1001, .inr (.inl rv)))]) [4, 5] rfl
  have hDc : va_D A [(rc, .inr (3, [.ref rcw])), (rcw, .inl (c 2, 4 * 1001, .inr (.inl rv)))] := hD.sub (ws' := [(rc, .inr (3, [.ref rcw])), (rcw, .inl (c 2, 4 * 1001, .inr (.inl rv)))]) [4, 5] (by decide) rfl
  have hDt : va_D (fun _ => True) [(rc, .inr (3, [.ref rcw])), (rcw, .inl (c 2, 4 * 1001, .inr (.inl rv)))] := hDc.weaken (fun _ _ _ _ => trivial)
  refine z_callv (S := Unit) (w1 := fun u => [(rc, .inr (3, [.ref rcw])), (rcw, .inl (c 2, 4 * 1001, .inr (.inl (zclr rv t))))]) (post := fun u => True) (wc := [(rc, .inr (3, [.ref rcw])), (rcw, .inl (c 2, 4 * 1001, .inr (.inl rv)))]) [4, 5] rfl (fun _ => rfl) hP hD hS (va_runV (rm := rm_removeAll) (As := [.int (zI ((t : Nat) : Int))]) (rest := []) ⟨hx, hb, hml, hown, hts⟩ (c_removeAll l D c rc rcw 1001 rv t (by omega) (by omega)) (cwV 1 hts (gWV k_Mo_m44 k_i_Se_removeAll k_v_Se_removeAll k_n_Se k_c_Se_removeAll) rfl rfl rfl (by decide +kernel) ⟨Nat.le_of_ble_eq_true rfl, Nat.le_of_ble_eq_true rfl⟩) ⟨zblindW, va_recv hK hPc (ci := 3) (q0 := 0) rfl rfl, fun U hU hW => ⟨rfl, ⟨by rw [hU]; exact hPc, hDt⟩, hKN.moved hW⟩⟩ rfl rfl hl.1 rfl (lv_room (Nat.le_of_ble_eq_true rfl)) d_Mo_putFirst_2 ⟨Nat.zero_le _, Nat.zero_le _⟩) (fun u H locs hp_1 hP hD hS => ?_)
  have hP : va_P D vwCl [(mo, .inr (1, [.ref me, .ref ms, .int (zB dt)])), (me, .inl (c 0, ne, .inl (fun j => zI ((en j : Nat) : Int)))), (ms, .inr (3, [.ref msw])), (msw, .inl (c 2, 4 * (ne + 1), .inr (.inl mf))), (rc, .inr (3, [.ref rcw])), (rcw, .inl (c 2, 4 * 1001, .inr (.inl (zclr rv t))))] H := hP
  have hD : va_D A [(mo, .inr (1, [.ref me, .ref ms, .int (zB dt)])), (me, .inl (c 0, ne, .inl (fun j => zI ((en j : Nat) : Int)))), (ms, .inr (3, [.ref msw])), (msw, .inl (c 2, 4 * (ne + 1), .inr (.inl mf))), (rc, .inr (3, [.ref rcw])), (rcw, .inl (c 2, 4 * 1001, .inr (.inl (zclr rv t))))] := hD
  refine lv_aload_n hx hb d_Mo_putFirst_5 rfl (lv_at hl 1 rfl) ?_
  refine lv_iload_n hx hb d_Mo_putFirst_6 rfl (lv_at hl 2 rfl) ?_
  refine lv_aload_n hx hb d_Mo_putFirst_7 rfl (lv_at hl 0 rfl) ?_
  refine va_get (D := D) (ci := 1) (v := .ref ms) (C := R_Mo) (T := T_Mo) (N := 3) hx hb hts (fun w h => List.mem_cons_of_mem _ (inA_Mo w h)) hown hK hP 0 rfl rfl 1 (by decide) (hw k_Mo_f15) (fun _ h9 => h9) rfl d_Mo_putFirst_8 ?_
  refine lv_aload_n hx hb d_Mo_putFirst_11 rfl (lv_at hl 0 rfl) ?_
  refine va_get (D := D) (ci := 1) (v := .ref me) (C := R_Mo) (T := T_Mo) (N := 3) hx hb hts (fun w h => List.mem_cons_of_mem _ (inA_Mo w h)) hown hK hP 0 rfl rfl 0 (by decide) (hw k_Mo_f9) (fun _ h9 => h9) rfl d_Mo_putFirst_12 ?_
  refine z_alen hx hb hK hP 1 0 rfl rfl d_Mo_putFirst_15 ?_
  refine z_top (v2 := .int (zI ((ne : Nat) : Int))) rfl ?_
  have hPc : va_P D vwCl [(rc, .inr (3, [.ref rcw])), (rcw, .inl (c 2, 4 * 1001, .inr (.inl (zclr rv t)))), (ms, .inr (3, [.ref msw])), (msw, .inl (c 2, 4 * (ne + 1), .inr (.inl mf)))] H := hP.sub (ws' := [(rc, .inr (3, [.ref rcw])), (rcw, .inl (c 2, 4 * 1001, .inr (.inl (zclr rv t)))), (ms, .inr (3, [.ref msw])), (msw, .inl (c 2, 4 * (ne + 1), .inr (.inl mf)))]) [4, 5, 2, 3] rfl
  have hDc : va_D A [(rc, .inr (3, [.ref rcw])), (rcw, .inl (c 2, 4 * 1001, .inr (.inl (zclr rv t)))), (ms, .inr (3, [.ref msw])), (msw, .inl (c 2, 4 * (ne + 1), .inr (.inl mf)))] := hD.sub (ws' := [(rc, .inr (3, [.ref rcw])), (rcw, .inl (c 2, 4 * 1001, .inr (.inl (zclr rv t)))), (ms, .inr (3, [.ref msw])), (msw, .inl (c 2, 4 * (ne + 1), .inr (.inl mf)))]) [4, 5, 2, 3] (by decide) rfl
  have hDt : va_D (fun _ => True) [(rc, .inr (3, [.ref rcw])), (rcw, .inl (c 2, 4 * 1001, .inr (.inl (zclr rv t)))), (ms, .inr (3, [.ref msw])), (msw, .inl (c 2, 4 * (ne + 1), .inr (.inl mf)))] := hDc.weaken (fun _ _ _ _ => trivial)
  refine z_callv (S := Unit) (w1 := fun u => [(rc, .inr (3, [.ref rcw])), (rcw, .inl (c 2, 4 * 1001, .inr (.inl (zor (zclr rv t) t mf ne)))), (ms, .inr (3, [.ref msw])), (msw, .inl (c 2, 4 * (ne + 1), .inr (.inl mf)))]) (post := fun u => True) (wc := [(rc, .inr (3, [.ref rcw])), (rcw, .inl (c 2, 4 * 1001, .inr (.inl (zclr rv t)))), (ms, .inr (3, [.ref msw])), (msw, .inl (c 2, 4 * (ne + 1), .inr (.inl mf)))]) [4, 5, 2, 3] rfl (fun _ => rfl) hP hD hS (va_runV (rm := rm_addAll) (As := [.int (zI ((t : Nat) : Int)), .ref ms, .int (zI ((ne : Nat) : Int))]) (rest := []) ⟨hx, hb, hml, hown, hts⟩ (c_addAll l D c rc rcw 1001 (zclr rv t) t ms msw (ne + 1) mf ne (by omega) (by omega) (by omega) (by omega)) (cwV 3 hts (gWV k_Mo_m48 k_i_Se_addAll k_v_Se_addAll k_n_Se k_c_Se_addAll) rfl rfl rfl (by decide +kernel) ⟨Nat.le_of_ble_eq_true rfl, Nat.le_of_ble_eq_true rfl⟩) ⟨zblindW, va_recv hK hPc (ci := 3) (q0 := 0) rfl rfl, fun U hU hW => ⟨rfl, ⟨by rw [hU]; exact hPc, hDt⟩, hKN.moved hW⟩⟩ rfl rfl hl.1 rfl (lv_room (Nat.le_of_ble_eq_true rfl)) d_Mo_putFirst_16 ⟨Nat.zero_le _, Nat.zero_le _⟩) (fun u H locs hp_2 hP hD hS => ?_)
  have hP : va_P D vwCl [(mo, .inr (1, [.ref me, .ref ms, .int (zB dt)])), (me, .inl (c 0, ne, .inl (fun j => zI ((en j : Nat) : Int)))), (ms, .inr (3, [.ref msw])), (msw, .inl (c 2, 4 * (ne + 1), .inr (.inl mf))), (rc, .inr (3, [.ref rcw])), (rcw, .inl (c 2, 4 * 1001, .inr (.inl (zor (zclr rv t) t mf ne))))] H := hP
  have hD : va_D A [(mo, .inr (1, [.ref me, .ref ms, .int (zB dt)])), (me, .inl (c 0, ne, .inl (fun j => zI ((en j : Nat) : Int)))), (ms, .inr (3, [.ref msw])), (msw, .inl (c 2, 4 * (ne + 1), .inr (.inl mf))), (rc, .inr (3, [.ref rcw])), (rcw, .inl (c 2, 4 * 1001, .inr (.inl (zor (zclr rv t) t mf ne))))] := hD
  subst hQ
  exact W.vret hx hb hr (fun t9 ht hW => ⟨⟨(), rfl, trivial, by show va_P _ _ _ t9.heap; rw [ht]; exact hP⟩, hS.F ht⟩) hS.2.2 d_Mo_putFirst_19

def rm_putBehind : Room := { frames := 3, cells := 0, slots := 0, locals := 65 }
set_option maxHeartbeats 4000000 in
set_option maxRecDepth 100000 in
/-- Model.putBehind -/
theorem c_putBehind (l : Launch) (D : va_G) (c : Nat → ClassId) (rc : Nat) (rcw : Nat) (rv : Nat → Int64) (mo : Nat) (me : Nat) (ms : Nat) (msw : Nat) (en : Nat → Nat) (ne : Nat) (mf : Nat → Int64) (dt : Bool) (t : Nat) (x : Nat) (hne : ne ≤ 255) (hen : ∀ j, j < ne → en j < 300000) (ht : t < 1000) (hx_ : x < 2048) (hoc : ∀ j, j < ne → en j % 256 < ne + 1) : Met l y_Mo_putBehind w_Mo_putBehind rm_putBehind (va_Pc [.ref mo, .ref rc, .int (zI ((t : Nat) : Int)), .int (zI ((x : Nat) : Int))] (fun U => (va_P D vwCl [(mo, .inr (1, [.ref me, .ref ms, .int (zB dt)])), (me, .inl (c 0, ne, .inl (fun j => zI ((en j : Nat) : Int)))), (ms, .inr (3, [.ref msw])), (msw, .inl (c 2, 4 * (ne + 1), .inr (.inl mf))), (rc, .inr (3, [.ref rcw])), (rcw, .inl (c 2, 4 * 1001, .inr (.inl rv)))] U.heap ∧ va_D (fun _ => True) [(mo, .inr (1, [.ref me, .ref ms, .int (zB dt)])), (me, .inl (c 0, ne, .inl (fun j => zI ((en j : Nat) : Int)))), (ms, .inr (3, [.ref msw])), (msw, .inl (c 2, 4 * (ne + 1), .inr (.inl mf))), (rc, .inr (3, [.ref rcw])), (rcw, .inl (c 2, 4 * 1001, .inr (.inl rv)))]) ∧ zK D c U)) (va_Qv (fun (u : Unit) => True) (fun (u : Unit) t9 => va_P D vwCl [(mo, .inr (1, [.ref me, .ref ms, .int (zB dt)])), (me, .inl (c 0, ne, .inl (fun j => zI ((en j : Nat) : Int)))), (ms, .inr (3, [.ref msw])), (msw, .inl (c 2, 4 * (ne + 1), .inr (.inl mf))), (rc, .inr (3, [.ref rcw])), (rcw, .inl (c 2, 4 * 1001, .inr (.inl (pbk rv en mf t x ne))))] t9.heap) (zA [(mo, .inr (1, [.ref me, .ref ms, .int (zB dt)])), (me, .inl (c 0, ne, .inl (fun j => zI ((en j : Nat) : Int)))), (ms, .inr (3, [.ref msw])), (msw, .inl (c 2, 4 * (ne + 1), .inr (.inl mf))), (rc, .inr (3, [.ref rcw])), (rcw, .inl (c 2, 4 * 1001, .inr (.inl rv)))])) 0 0 (zA [(mo, .inr (1, [.ref me, .ref ms, .int (zB dt)])), (me, .inl (c 0, ne, .inl (fun j => zI ((en j : Nat) : Int)))), (ms, .inr (3, [.ref msw])), (msw, .inl (c 2, 4 * (ne + 1), .inr (.inl mf))), (rc, .inr (3, [.ref rcw])), (rcw, .inl (c 2, 4 * 1001, .inr (.inl rv)))]) := by
  refine Met.ofW (cc := b_Mo_putBehind) (maxL := 6) (ret := none) (by decide) rfl ?_
  intro p e s m args below meth c0 s₁ B hml hv
  obtain ⟨rfl, ⟨hP, hD0⟩, hKN⟩ := hv
  have hK := hKN.1
  have hN := hKN.2
  have hx := B.exec
  have hb := B.bytes
  have hr := B.returns
  have hts := atoms_spec (ws := w_Mo_putBehind) B.pre
  have hw : ∀ {w : Cond}, w ∈ ALLW → w.before _ s = true := fun h => hts _ (List.mem_cons_of_mem _ h)
  have hown : s.vm.findClass R_Mo = some m.cls := findClass_of_methodNamed B.named
  have hlocks := B.notSynchronized
  have hD : va_D (zA [(mo, .inr (1, [.ref me, .ref ms, .int (zB dt)])), (me, .inl (c 0, ne, .inl (fun j => zI ((en j : Nat) : Int)))), (ms, .inr (3, [.ref msw])), (msw, .inl (c 2, 4 * (ne + 1), .inr (.inl mf))), (rc, .inr (3, [.ref rcw])), (rcw, .inl (c 2, 4 * 1001, .inr (.inl rv)))]) [(mo, .inr (1, [.ref me, .ref ms, .int (zB dt)])), (me, .inl (c 0, ne, .inl (fun j => zI ((en j : Nat) : Int)))), (ms, .inr (3, [.ref msw])), (msw, .inl (c 2, 4 * (ne + 1), .inr (.inl mf))), (rc, .inr (3, [.ref rcw])), (rcw, .inl (c 2, 4 * 1001, .inr (.inl rv)))] := ⟨hD0.1, fun k q h => List.mem_map.mpr ⟨q, List.mem_of_getElem? h, rfl⟩⟩
  generalize hAe : zA [(mo, .inr (1, [.ref me, .ref ms, .int (zB dt)])), (me, .inl (c 0, ne, .inl (fun j => zI ((en j : Nat) : Int)))), (ms, .inr (3, [.ref msw])), (msw, .inl (c 2, 4 * (ne + 1), .inr (.inl mf))), (rc, .inr (3, [.ref rcw])), (rcw, .inl (c 2, 4 * 1001, .inr (.inl rv)))] = A at hD ⊢
  have hS : va_S A s.heap s.heap [] := va_S.rf
  have hP : va_P D vwCl [(mo, .inr (1, [.ref me, .ref ms, .int (zB dt)])), (me, .inl (c 0, ne, .inl (fun j => zI ((en j : Nat) : Int)))), (ms, .inr (3, [.ref msw])), (msw, .inl (c 2, 4 * (ne + 1), .inr (.inl mf))), (rc, .inr (3, [.ref rcw])), (rcw, .inl (c 2, 4 * 1001, .inr (.inl rv)))] s.heap := hP
  have hl := lv_entry ([.ref mo, .ref rc, .int (zI ((t : Nat) : Int)), .int (zI ((x : Nat) : Int))]) (n := 6) (Nat.le_of_ble_eq_true rfl)
  rw [lg_entry_eq]
  generalize (lg_sl ([.ref mo, .ref rc, .int (zI ((t : Nat) : Int)), .int (zI ((x : Nat) : Int))]) ++ List.replicate (6 - (lg_sl ([.ref mo, .ref rc, .int (zI ((t : Nat) : Int)), .int (zI ((x : Nat) : Int))])).length) Slot.unset).toArray = ls at hl ⊢
  have hl : lv_has ls 6 [(0, .ref mo), (1, .ref rc), (2, .int (zI ((t : Nat) : Int))), (3, .int (zI ((x : Nat) : Int)))] := hl
  generalize hQ : MQ below _ _ _ _ _ _ = Q
  refine lv_aload_n hx hb d_Mo_putBehind_0 rfl (lv_at hl 1 rfl) ?_
  refine lv_iload_n hx hb d_Mo_putBehind_1 rfl (lv_at hl 2 rfl) ?_
  refine lv_iconst (v := zI 1) hx hb d_Mo_putBehind_2 (by decide) ?_
  refine z_iadd hx hb d_Mo_putBehind_3 ?_
  refine z_top (v2 := .int (zI ((t + 1 : Nat) : Int))) (congrArg Value.int (congrArg zI (by omega))) ?_
  have hPc : va_P D vwCl [(rc, .inr (3, [.ref rcw])), (rcw, .inl (c 2, 4 * 1001, .inr (.inl rv)))] s.heap := hP.sub (ws' := [(rc, .inr (3, [.ref rcw])), (rcw, .inl (c 2, 4 * 1001, .inr (.inl rv)))]) [4, 5] rfl
  have hDc : va_D A [(rc, .inr (3, [.ref rcw])), (rcw, .inl (c 2, 4 * 1001, .inr (.inl rv)))] := hD.sub (ws' := [(rc, .inr (3, [.ref rcw])), (rcw, .inl (c 2, 4 * 1001, .inr (.inl rv)))]) [4, 5] (by decide) rfl
  have hDt : va_D (fun _ => True) [(rc, .inr (3, [.ref rcw])), (rcw, .inl (c 2, 4 * 1001, .inr (.inl rv)))] := hDc.weaken (fun _ _ _ _ => trivial)
  refine z_callv (S := Unit) (w1 := fun u => [(rc, .inr (3, [.ref rcw])), (rcw, .inl (c 2, 4 * 1001, .inr (.inl (zclr rv (t + 1)))))]) (post := fun u => True) (wc := [(rc, .inr (3, [.ref rcw])), (rcw, .inl (c 2, 4 * 1001, .inr (.inl rv)))]) [4, 5] rfl (fun _ => rfl) hP hD hS (va_runV (rm := rm_removeAll) (As := [.int (zI ((t + 1 : Nat) : Int))]) (rest := []) ⟨hx, hb, hml, hown, hts⟩ (c_removeAll l D c rc rcw 1001 rv (t + 1) (by omega) (by omega)) (cwV 1 hts (gWV k_Mo_m44 k_i_Se_removeAll k_v_Se_removeAll k_n_Se k_c_Se_removeAll) rfl rfl rfl (by decide +kernel) ⟨Nat.le_of_ble_eq_true rfl, Nat.le_of_ble_eq_true rfl⟩) ⟨zblindW, va_recv hK hPc (ci := 3) (q0 := 0) rfl rfl, fun U hU hW => ⟨rfl, ⟨by rw [hU]; exact hPc, hDt⟩, hKN.moved hW⟩⟩ rfl rfl hl.1 rfl (lv_room (Nat.le_of_ble_eq_true rfl)) d_Mo_putBehind_4 ⟨Nat.zero_le _, Nat.zero_le _⟩) (fun u H locs hp_1 hP hD hS => ?_)
  have hP : va_P D vwCl [(mo, .inr (1, [.ref me, .ref ms, .int (zB dt)])), (me, .inl (c 0, ne, .inl (fun j => zI ((en j : Nat) : Int)))), (ms, .inr (3, [.ref msw])), (msw, .inl (c 2, 4 * (ne + 1), .inr (.inl mf))), (rc, .inr (3, [.ref rcw])), (rcw, .inl (c 2, 4 * 1001, .inr (.inl (zclr rv (t + 1)))))] H := hP
  have hD : va_D A [(mo, .inr (1, [.ref me, .ref ms, .int (zB dt)])), (me, .inl (c 0, ne, .inl (fun j => zI ((en j : Nat) : Int)))), (ms, .inr (3, [.ref msw])), (msw, .inl (c 2, 4 * (ne + 1), .inr (.inl mf))), (rc, .inr (3, [.ref rcw])), (rcw, .inl (c 2, 4 * 1001, .inr (.inl (zclr rv (t + 1)))))] := hD
  refine lv_iconst (v := zI 0) hx hb d_Mo_putBehind_7 (by decide) ?_
  refine lv_istore (lv' := [(4, .int (zI 0)), (0, .ref mo), (1, .ref rc), (2, .int (zI ((t : Nat) : Int))), (3, .int (zI ((x : Nat) : Int)))]) hx hb d_Mo_putBehind_8 hl (by decide) rfl (fun ls hl => ?_)
  have lp_10 : ∀ (k_ : Nat) (v : Nat), ne - v < k_ → (v ≤ ne) → ∀ (H : Heap) (locs : List Loc), va_P D vwCl [(mo, .inr (1, [.ref me, .ref ms, .int (zB dt)])), (me, .inl (c 0, ne, .inl (fun j => zI ((en j : Nat) : Int)))), (ms, .inr (3, [.ref msw])), (msw, .inl (c 2, 4 * (ne + 1), .inr (.inl mf))), (rc, .inr (3, [.ref rcw])), (rcw, .inl (c 2, 4 * 1001, .inr (.inl (pbk rv en mf t x v))))] H → va_D A [(mo, .inr (1, [.ref me, .ref ms, .int (zB dt)])), (me, .inl (c 0, ne, .inl (fun j => zI ((en j : Nat) : Int)))), (ms, .inr (3, [.ref msw])), (msw, .inl (c 2, 4 * (ne + 1), .inr (.inl mf))), (rc, .inr (3, [.ref rcw])), (rcw, .inl (c 2, 4 * 1001, .inr (.inl (pbk rv en mf t x v))))] → va_S A s.heap H locs → ∀ ls : Array Slot, lv_has ls 6 [(4, .int (zI ((v : Nat) : Int))), (0, .ref mo), (1, .ref rc), (2, .int (zI ((t : Nat) : Int))), (3, .int (zI ((x : Nat) : Int)))] → W p l e (headSpec w_Mo_putBehind rm_putBehind).room s m ([.ref mo, .ref rc, .int (zI ((t : Nat) : Int)), .int (zI ((x : Nat) : Int))] : List Value).toArray below meth c0 H locs 0 0 Q (F0 m 10 ls []) := by
    intro k_
    induction k_ with
    | zero => intro v hk_; exact absurd hk_ (Nat.not_lt_zero _)
    | succ k_ ih_10 =>
      intro v hk_ hv H locs hP hD hS ls hl
      refine lv_iload hx hb d_Mo_putBehind_10 (lv_at hl 0 rfl) ?_
      refine lv_aload_n hx hb d_Mo_putBehind_12 rfl (lv_at hl 1 rfl) ?_
      refine va_get (D := D) (ci := 1) (v := .ref me) (C := R_Mo) (T := T_Mo) (N := 3) hx hb hts (fun w h => List.mem_cons_of_mem _ (inA_Mo w h)) hown hK hP 0 rfl rfl 0 (by decide) (hw k_Mo_f9) (fun _ h9 => h9) rfl d_Mo_putBehind_13 ?_
      refine z_alen hx hb hK hP 1 0 rfl rfl d_Mo_putBehind_16 ?_
      refine z_top (v2 := .int (zI ((ne : Nat) : Int))) rfl ?_
      refine z_icmp_ge (tgt := 75) hx hb (by omega) d_Mo_putBehind_17 (by decide) (fun hc_17 => ?_) (fun hc_17 => ?_)
      · have e_ : v = ne := by omega
        rw [e_] at hP
        subst hQ
        exact W.vret hx hb hr (fun t9 ht hW => ⟨⟨(), rfl, trivial, by show va_P _ _ _ t9.heap; rw [ht]; exact hP⟩, hS.F ht⟩) hS.2.2 d_Mo_putBehind_75
      · have hev := hen v (by omega)
        refine lv_aload_n hx hb d_Mo_putBehind_20 rfl (lv_at hl 1 rfl) ?_
        refine va_get (D := D) (ci := 1) (v := .ref me) (C := R_Mo) (T := T_Mo) (N := 3) hx hb hts (fun w h => List.mem_cons_of_mem _ (inA_Mo w h)) hown hK hP 0 rfl rfl 0 (by decide) (hw k_Mo_f9) (fun _ h9 => h9) rfl d_Mo_putBehind_21 ?_
        refine lv_iload hx hb d_Mo_putBehind_24 (lv_at hl 0 rfl) ?_
        refine z_uald hx hb hK hP 1 0 rfl rfl (v) (by omega) (by omega) (by omega) d_Mo_putBehind_26 ?_
        have hPc : va_P D vwCl [] H := hP.sub (ws' := []) [] rfl
        refine vp_callSi (va_runS (rm := rm_occurrenceOf) (As := [.int (zI ((en v : Nat) : Int))]) (rest := []) ⟨hx, hb, hml, hown, hts⟩ (c_occurrenceOf l D c (en v) (by omega)) (va_cwS 1 hts (gWS k_Mo_m31 k_s_Mo_occurrenceOf k_n_Mo k_c_Mo_occurrenceOf) rfl rfl rfl (by decide +kernel) ⟨Nat.le_of_ble_eq_true rfl, Nat.le_of_ble_eq_true rfl⟩) ⟨zblind, fun U hU hW => ⟨rfl, by rw [hU]; exact hPc, hKN.moved hW⟩⟩ rfl rfl hl.1 rfl (lv_room (Nat.le_of_ble_eq_true rfl)) d_Mo_putBehind_27 ⟨Nat.zero_le _, Nat.zero_le _⟩).run (fun r hr_2 => ?_)
        subst hr_2
        refine lv_istore (lv' := [(5, .int (zI (((en v) % 256 : Nat) : Int))), (4, .int (zI ((v : Nat) : Int))), (0, .ref mo), (1, .ref rc), (2, .int (zI ((t : Nat) : Int))), (3, .int (zI ((x : Nat) : Int)))]) hx hb d_Mo_putBehind_30 hl (by decide) rfl (fun ls hl => ?_)
        refine lv_aload_n hx hb d_Mo_putBehind_32 rfl (lv_at hl 2 rfl) ?_
        refine va_get (D := D) (ci := 1) (v := .ref me) (C := R_Mo) (T := T_Mo) (N := 3) hx hb hts (fun w h => List.mem_cons_of_mem _ (inA_Mo w h)) hown hK hP 0 rfl rfl 0 (by decide) (hw k_Mo_f9) (fun _ h9 => h9) rfl d_Mo_putBehind_33 ?_
        refine lv_iload hx hb d_Mo_putBehind_36 (lv_at hl 1 rfl) ?_
        refine z_uald hx hb hK hP 1 0 rfl rfl (v) (by omega) (by omega) (by omega) d_Mo_putBehind_38 ?_
        have hPc : va_P D vwCl [] H := hP.sub (ws' := []) [] rfl
        refine vp_callSi (va_runS (rm := rm_nameOf) (As := [.int (zI ((en v : Nat) : Int))]) (rest := []) ⟨hx, hb, hml, hown, hts⟩ (c_nameOf l D c (en v) (by omega)) (va_cwS 1 hts (gWS k_Mo_m41 k_s_Mo_nameOf k_n_Mo k_c_Mo_nameOf) rfl rfl rfl (by decide +kernel) ⟨Nat.le_of_ble_eq_true rfl, Nat.le_of_ble_eq_true rfl⟩) ⟨zblind, fun U hU hW => ⟨rfl, by rw [hU]; exact hPc, hKN.moved hW⟩⟩ rfl rfl hl.1 rfl (lv_room (Nat.le_of_ble_eq_true rfl)) d_Mo_putBehind_39 ⟨Nat.zero_le _, Nat.zero_le _⟩).run (fun r hr_3 => ?_)
        subst hr_3
        refine lv_iload_n hx hb d_Mo_putBehind_42 rfl (lv_at hl 5 rfl) ?_
        refine z_icmp_ne (tgt := 69) hx hb (by omega) d_Mo_putBehind_43 (by decide) (fun hc_43 => ?_) (fun hc_43 => ?_)
        · refine lv_iinc (v := zI ((v + 1 : Nat) : Int)) (lv' := [(4, .int (zI ((v + 1 : Nat) : Int))), (5, .int (zI (((en v) % 256 : Nat) : Int))), (0, .ref mo), (1, .ref rc), (2, .int (zI ((t : Nat) : Int))), (3, .int (zI ((x : Nat) : Int)))]) hx hb d_Mo_putBehind_69 hl (k := 1) rfl (z_incN _ 1) (by decide) rfl (fun ls hl => ?_)
          refine lv_goto (tgt := 10) hx hb d_Mo_putBehind_72 (by decide) ?_
          exact ih_10 (v + 1) (by omega) (by omega) _ _ (by rw [pbk_F (fun q_ => by first | exact absurd q_.2 (by rw [hc_53]; decide) | exact hc_43 (by have := q_.1; omega))]; exact hP) (z_D_congr (by rfl) hD) hS _ (lv_sub hl [0, 2, 3, 4, 5] rfl)
        · refine lv_aload_n hx hb d_Mo_putBehind_46 rfl (lv_at hl 3 rfl) ?_
          refine lv_iload_n hx hb d_Mo_putBehind_47 rfl (lv_at hl 4 rfl) ?_
          refine lv_iload hx hb d_Mo_putBehind_48 (lv_at hl 0 rfl) ?_
          have hPc : va_P D vwCl [(rc, .inr (3, [.ref rcw])), (rcw, .inl (c 2, 4 * 1001, .inr (.inl (pbk rv en mf t x v))))] H := hP.sub (ws' := [(rc, .inr (3, [.ref rcw])), (rcw, .inl (c 2, 4 * 1001, .inr (.inl (pbk rv en mf t x v))))]) [4, 5] rfl
          refine vp_callSi (va_runV (rm := rm_holds) (As := [.int (zI ((t : Nat) : Int)), .int (zI (((en v) % 256 : Nat) : Int))]) (rest := []) ⟨hx, hb, hml, hown, hts⟩ (c_holds l D c rc rcw 1001 (pbk rv en mf t x v) t (en v % 256) (by omega) (by omega) (by omega)) (cwV 2 hts (gWV k_Mo_m35 k_i_Se_holds k_v_Se_holds k_n_Se k_c_Se_holds) rfl rfl rfl (by decide +kernel) ⟨Nat.le_of_ble_eq_true rfl, Nat.le_of_ble_eq_true rfl⟩) ⟨zblind, va_recv hK hPc (ci := 3) (q0 := 0) rfl rfl, fun U hU hW => ⟨rfl, by rw [hU]; exact hPc, hKN.moved hW⟩⟩ rfl rfl hl.1 rfl (lv_room (Nat.le_of_ble_eq_true rfl)) d_Mo_putBehind_50 ⟨Nat.zero_le _, Nat.zero_le _⟩).run (fun r hr_4 => ?_)
          subst hr_4
          refine z_ifeq_B (tgt := 69) hx hb d_Mo_putBehind_53 (by decide) (fun hc_53 => ?_) (fun hc_53 => ?_)
          · refine lv_iinc (v := zI ((v + 1 : Nat) : Int)) (lv' := [(4, .int (zI ((v + 1 : Nat) : Int))), (5, .int (zI (((en v) % 256 : Nat) : Int))), (0, .ref mo), (1, .ref rc), (2, .int (zI ((t : Nat) : Int))), (3, .int (zI ((x : Nat) : Int)))]) hx hb d_Mo_putBehind_69 hl (k := 1) rfl (z_incN _ 1) (by decide) rfl (fun ls hl => ?_)
            refine lv_goto (tgt := 10) hx hb d_Mo_putBehind_72 (by decide) ?_
            exact ih_10 (v + 1) (by omega) (by omega) _ _ (by rw [pbk_F (fun q_ => by first | exact absurd q_.2 (by rw [hc_53]; decide) | exact hc_43 (by have := q_.1; omega))]; exact hP) (z_D_congr (by rfl) hD) hS _ (lv_sub hl [0, 2, 3, 4, 5] rfl)
          · refine lv_aload_n hx hb d_Mo_putBehind_56 rfl (lv_at hl 3 rfl) ?_
            refine lv_iload_n hx hb d_Mo_putBehind_57 rfl (lv_at hl 4 rfl) ?_
            refine lv_iconst (v := zI 1) hx hb d_Mo_putBehind_58 (by decide) ?_
            refine z_iadd hx hb d_Mo_putBehind_59 ?_
            refine z_top (v2 := .int (zI ((t + 1 : Nat) : Int))) (congrArg Value.int (congrArg zI (by omega))) ?_
            refine lv_aload_n hx hb d_Mo_putBehind_60 rfl (lv_at hl 2 rfl) ?_
            refine va_get (D := D) (ci := 1) (v := .ref ms) (C := R_Mo) (T := T_Mo) (N := 3) hx hb hts (fun w h => List.mem_cons_of_mem _ (inA_Mo w h)) hown hK hP 0 rfl rfl 1 (by decide) (hw k_Mo_f15) (fun _ h9 => h9) rfl d_Mo_putBehind_61 ?_
            refine lv_iload hx hb d_Mo_putBehind_64 (lv_at hl 0 rfl) ?_
            have hPc : va_P D vwCl [(rc, .inr (3, [.ref rcw])), (rcw, .inl (c 2, 4 * 1001, .inr (.inl (pbk rv en mf t x v)))), (ms, .inr (3, [.ref msw])), (msw, .inl (c 2, 4 * (ne + 1), .inr (.inl mf)))] H := hP.sub (ws' := [(rc, .inr (3, [.ref rcw])), (rcw, .inl (c 2, 4 * 1001, .inr (.inl (pbk rv en mf t x v)))), (ms, .inr (3, [.ref msw])), (msw, .inl (c 2, 4 * (ne + 1), .inr (.inl mf)))]) [4, 5, 2, 3] rfl
            have hDc : va_D A [(rc, .inr (3, [.ref rcw])), (rcw, .inl (c 2, 4 * 1001, .inr (.inl (pbk rv en mf t x v)))), (ms, .inr (3, [.ref msw])), (msw, .inl (c 2, 4 * (ne + 1), .inr (.inl mf)))] := hD.sub (ws' := [(rc, .inr (3, [.ref rcw])), (rcw, .inl (c 2, 4 * 1001, .inr (.inl (pbk rv en mf t x v)))), (ms, .inr (3, [.ref msw])), (msw, .inl (c 2, 4 * (ne + 1), .inr (.inl mf)))]) [4, 5, 2, 3] (by decide) rfl
            have hDt : va_D (fun _ => True) [(rc, .inr (3, [.ref rcw])), (rcw, .inl (c 2, 4 * 1001, .inr (.inl (pbk rv en mf t x v)))), (ms, .inr (3, [.ref msw])), (msw, .inl (c 2, 4 * (ne + 1), .inr (.inl mf)))] := hDc.weaken (fun _ _ _ _ => trivial)
            refine z_callv (S := Unit) (w1 := fun u => [(rc, .inr (3, [.ref rcw])), (rcw, .inl (c 2, 4 * 1001, .inr (.inl (zor (pbk rv en mf t x v) (t + 1) mf (en v % 256))))), (ms, .inr (3, [.ref msw])), (msw, .inl (c 2, 4 * (ne + 1), .inr (.inl mf)))]) (post := fun u => True) (wc := [(rc, .inr (3, [.ref rcw])), (rcw, .inl (c 2, 4 * 1001, .inr (.inl (pbk rv en mf t x v)))), (ms, .inr (3, [.ref msw])), (msw, .inl (c 2, 4 * (ne + 1), .inr (.inl mf)))]) [4, 5, 2, 3] rfl (fun _ => rfl) hP hD hS (va_runV (rm := rm_addAll) (As := [.int (zI ((t + 1 : Nat) : Int)), .ref ms, .int (zI (((en v) % 256 : Nat) : Int))]) (rest := []) ⟨hx, hb, hml, hown, hts⟩ (c_addAll l D c rc rcw 1001 (pbk rv en mf t x v) (t + 1) ms msw (ne + 1) mf (en v % 256) (by omega) (by omega) (by omega) (hoc v (by omega))) (cwV 3 hts (gWV k_Mo_m48 k_i_Se_addAll k_v_Se_addAll k_n_Se k_c_Se_addAll) rfl rfl rfl (by decide +kernel) ⟨Nat.le_of_ble_eq_true rfl, Nat.le_of_ble_eq_true rfl⟩) ⟨zblindW, va_recv hK hPc (ci := 3) (q0 := 0) rfl rfl, fun U hU hW => ⟨rfl, ⟨by rw [hU]; exact hPc, hDt⟩, hKN.moved hW⟩⟩ rfl rfl hl.1 rfl (lv_room (Nat.le_of_ble_eq_true rfl)) d_Mo_putBehind_66 ⟨Nat.zero_le _, Nat.zero_le _⟩) (fun u H locs hp_5 hP hD hS => ?_)
            have hP : va_P D vwCl [(mo, .inr (1, [.ref me, .ref ms, .int (zB dt)])), (me, .inl (c 0, ne, .inl (fun j => zI ((en j : Nat) : Int)))), (ms, .inr (3, [.ref msw])), (msw, .inl (c 2, 4 * (ne + 1), .inr (.inl mf))), (rc, .inr (3, [.ref rcw])), (rcw, .inl (c 2, 4 * 1001, .inr (.inl (zor (pbk rv en mf t x v) (t + 1) mf (en v % 256)))))] H := hP
            have hD : va_D A [(mo, .inr (1, [.ref me, .ref ms, .int (zB dt)])), (me, .inl (c 0, ne, .inl (fun j => zI ((en j : Nat) : Int)))), (ms, .inr (3, [.ref msw])), (msw, .inl (c 2, 4 * (ne + 1), .inr (.inl mf))), (rc, .inr (3, [.ref rcw])), (rcw, .inl (c 2, 4 * 1001, .inr (.inl (zor (pbk rv en mf t x v) (t + 1) mf (en v % 256)))))] := hD
            refine lv_iinc (v := zI ((v + 1 : Nat) : Int)) (lv' := [(4, .int (zI ((v + 1 : Nat) : Int))), (5, .int (zI (((en v) % 256 : Nat) : Int))), (0, .ref mo), (1, .ref rc), (2, .int (zI ((t : Nat) : Int))), (3, .int (zI ((x : Nat) : Int)))]) hx hb d_Mo_putBehind_69 hl (k := 1) rfl (z_incN _ 1) (by decide) rfl (fun ls hl => ?_)
            refine lv_goto (tgt := 10) hx hb d_Mo_putBehind_72 (by decide) ?_
            exact ih_10 (v + 1) (by omega) (by omega) _ _ (by rw [pbk_T (by omega) hc_53]; exact hP) (z_D_congr (by rfl) hD) hS _ (lv_sub hl [0, 2, 3, 4, 5] rfl)
  exact lp_10 _ 0 (Nat.lt_succ_self _) (by omega) _ _ hP hD hS _ (lv_sub hl [0, 1, 2, 3, 4] rfl)

def rm_hasName : Room := { frames := 3, cells := 0, slots := 0, locals := 65 }
set_option maxHeartbeats 4000000 in
set_option maxRecDepth 100000 in
/-- Model.hasName -/
theorem c_hasName (l : Launch) (D : va_G) (c : Nat → ClassId) (rc : Nat) (rcw : Nat) (rv : Nat → Int64) (mo : Nat) (me : Nat) (ms : Nat) (msw : Nat) (en : Nat → Nat) (ne : Nat) (mf : Nat → Int64) (dt : Bool) (t : Nat) (x : Int) (hne : ne ≤ 255) (hen : ∀ j, j < ne → en j < 300000) (ht : t < 1001) (hx_ : -2147483648 ≤ x ∧ x < 2147483648) : Met l y_Mo_hasName w_Mo_hasName rm_hasName (va_Pc [.ref mo, .ref rc, .int (zI ((t : Nat) : Int)), .int (zI x)] (fun U => va_P D vwCl [(mo, .inr (1, [.ref me, .ref ms, .int (zB dt)])), (me, .inl (c 0, ne, .inl (fun j => zI ((en j : Nat) : Int)))), (rc, .inr (3, [.ref rcw])), (rcw, .inl (c 2, 4 * 1001, .inr (.inl rv)))] U.heap ∧ zK D c U)) (vp_Si (fun r => r = (zB (hnm rv en t x ne)))) 0 0 (fun _ => False) := by
  refine Met.ofW (cc := b_Mo_hasName) (maxL := 5) (ret := (some .boolean)) (by decide) rfl ?_
  intro p e s m args below meth c0 s₁ B hml hv
  obtain ⟨rfl, hP, hKN⟩ := hv
  have hK := hKN.1
  have hN := hKN.2
  have hx := B.exec
  have hb := B.bytes
  have hr := B.returns
  have hts := atoms_spec (ws := w_Mo_hasName) B.pre
  have hw : ∀ {w : Cond}, w ∈ ALLW → w.before _ s = true := fun h => hts _ (List.mem_cons_of_mem _ h)
  have hown : s.vm.findClass R_Mo = some m.cls := findClass_of_methodNamed B.named
  have hlocks := B.notSynchronized
  have hl := lv_entry ([.ref mo, .ref rc, .int (zI ((t : Nat) : Int)), .int (zI x)]) (n := 5) (Nat.le_of_ble_eq_true rfl)
  rw [lg_entry_eq]
  generalize (lg_sl ([.ref mo, .ref rc, .int (zI ((t : Nat) : Int)), .int (zI x)]) ++ List.replicate (5 - (lg_sl ([.ref mo, .ref rc, .int (zI ((t : Nat) : Int)), .int (zI x)])).length) Slot.unset).toArray = ls at hl ⊢
  have hl : lv_has ls 5 [(0, .ref mo), (1, .ref rc), (2, .int (zI ((t : Nat) : Int))), (3, .int (zI x))] := hl
  generalize hQ : MQ below _ _ _ _ _ _ = Q
  refine lv_iconst (v := zI 0) hx hb d_Mo_hasName_0 (by decide) ?_
  refine lv_istore (lv' := [(4, .int (zI 0)), (0, .ref mo), (1, .ref rc), (2, .int (zI ((t : Nat) : Int))), (3, .int (zI x))]) hx hb d_Mo_hasName_1 hl (by decide) rfl (fun ls hl => ?_)
  have lp_3 : ∀ (k_ : Nat) (v : Nat), ne - v < k_ → (v ≤ ne) → (hnm rv en t x v = false) → ∀ ls : Array Slot, lv_has ls 5 [(4, .int (zI ((v : Nat) : Int))), (0, .ref mo), (1, .ref rc), (2, .int (zI ((t : Nat) : Int))), (3, .int (zI x))] → W p l e (headSpec w_Mo_hasName rm_hasName).room s m ([.ref mo, .ref rc, .int (zI ((t : Nat) : Int)), .int (zI x)] : List Value).toArray below meth c0 s.heap [] 0 0 Q (F0 m 3 ls []) := by
    intro k_
    induction k_ with
    | zero => intro v hk_; exact absurd hk_ (Nat.not_lt_zero _)
    | succ k_ ih_3 =>
      intro v hk_ hv hhn ls hl
      refine lv_iload hx hb d_Mo_hasName_3 (lv_at hl 0 rfl) ?_
      refine lv_aload_n hx hb d_Mo_hasName_5 rfl (lv_at hl 1 rfl) ?_
      refine va_get (D := D) (ci := 1) (v := .ref me) (C := R_Mo) (T := T_Mo) (N := 3) hx hb hts (fun w h => List.mem_cons_of_mem _ (inA_Mo w h)) hown hK hP 0 rfl rfl 0 (by decide) (hw k_Mo_f9) (fun _ h9 => h9) rfl d_Mo_hasName_6 ?_
      refine z_alen hx hb hK hP 1 0 rfl rfl d_Mo_hasName_9 ?_
      refine z_top (v2 := .int (zI ((ne : Nat) : Int))) rfl ?_
      refine z_icmp_ge (tgt := 53) hx hb (by omega) d_Mo_hasName_10 (by decide) (fun hc_10 => ?_) (fun hc_10 => ?_)
      · refine lv_iconst (v := zI 0) hx hb d_Mo_hasName_53 (by decide) ?_
        have e_ : v = ne := by omega
        rw [e_] at hhn
        subst hQ
        exact W.zret (ty := .boolean) (v := (zI 0)) hx hb hr (by decide) (fun t9 ht hW => ⟨_, rfl, (by rw [hhn]; decide), ht⟩) (fun q hq => absurd hq List.not_mem_nil) d_Mo_hasName_54
      · have hev := hen v (by omega)
        refine lv_aload_n hx hb d_Mo_hasName_13 rfl (lv_at hl 1 rfl) ?_
        refine va_get (D := D) (ci := 1) (v := .ref me) (C := R_Mo) (T := T_Mo) (N := 3) hx hb hts (fun w h => List.mem_cons_of_mem _ (inA_Mo w h)) hown hK hP 0 rfl rfl 0 (by decide) (hw k_Mo_f9) (fun _ h9 => h9) rfl d_Mo_hasName_14 ?_
        refine lv_iload hx hb d_Mo_hasName_17 (lv_at hl 0 rfl) ?_
        refine z_uald hx hb hK hP 1 0 rfl rfl (v) (by omega) (by omega) (by omega) d_Mo_hasName_19 ?_
        have hPc : va_P D vwCl [] s.heap := hP.sub (ws' := []) [] rfl
        refine vp_callSi (va_runS (rm := rm_nameOf) (As := [.int (zI ((en v : Nat) : Int))]) (rest := []) ⟨hx, hb, hml, hown, hts⟩ (c_nameOf l D c (en v) (by omega)) (va_cwS 1 hts (gWS k_Mo_m41 k_s_Mo_nameOf k_n_Mo k_c_Mo_nameOf) rfl rfl rfl (by decide +kernel) ⟨Nat.le_of_ble_eq_true rfl, Nat.le_of_ble_eq_true rfl⟩) ⟨zblind, fun U hU hW => ⟨rfl, by rw [hU]; exact hPc, hKN.moved hW⟩⟩ rfl rfl hl.1 rfl (lv_room (Nat.le_of_ble_eq_true rfl)) d_Mo_hasName_20 ⟨Nat.zero_le _, Nat.zero_le _⟩).run (fun r hr_1 => ?_)
        subst hr_1
        refine lv_iload_n hx hb d_Mo_hasName_23 rfl (lv_at hl 4 rfl) ?_
        refine z_icmp_ne (tgt := 47) hx hb (by omega) d_Mo_hasName_24 (by decide) (fun hc_24 => ?_) (fun hc_24 => ?_)
        · refine lv_iinc (v := zI ((v + 1 : Nat) : Int)) (lv' := [(4, .int (zI ((v + 1 : Nat) : Int))), (0, .ref mo), (1, .ref rc), (2, .int (zI ((t : Nat) : Int))), (3, .int (zI x))]) hx hb d_Mo_hasName_47 hl (k := 0) rfl (z_incN _ 1) (by decide) rfl (fun ls hl => ?_)
          refine lv_goto (tgt := 3) hx hb d_Mo_hasName_50 (by decide) ?_
          exact ih_3 (v + 1) (by omega) (by omega) (by rw [hnm, hhn]; first | (rw [hc_42, Bool.and_false]; rfl) | (rw [decide_eq_false hc_24]; rfl)) _ (lv_sub hl [0, 1, 2, 3, 4] rfl)
        · refine lv_aload_n hx hb d_Mo_hasName_27 rfl (lv_at hl 2 rfl) ?_
          refine lv_iload_n hx hb d_Mo_hasName_28 rfl (lv_at hl 3 rfl) ?_
          refine lv_aload_n hx hb d_Mo_hasName_29 rfl (lv_at hl 1 rfl) ?_
          refine va_get (D := D) (ci := 1) (v := .ref me) (C := R_Mo) (T := T_Mo) (N := 3) hx hb hts (fun w h => List.mem_cons_of_mem _ (inA_Mo w h)) hown hK hP 0 rfl rfl 0 (by decide) (hw k_Mo_f9) (fun _ h9 => h9) rfl d_Mo_hasName_30 ?_
          refine lv_iload hx hb d_Mo_hasName_33 (lv_at hl 0 rfl) ?_
          refine z_uald hx hb hK hP 1 0 rfl rfl (v) (by omega) (by omega) (by omega) d_Mo_hasName_35 ?_
          have hPc : va_P D vwCl [] s.heap := hP.sub (ws' := []) [] rfl
          refine vp_callSi (va_runS (rm := rm_occurrenceOf) (As := [.int (zI ((en v : Nat) : Int))]) (rest := [.int (zI ((t : Nat) : Int)), .ref rc]) ⟨hx, hb, hml, hown, hts⟩ (c_occurrenceOf l D c (en v) (by omega)) (va_cwS 1 hts (gWS k_Mo_m31 k_s_Mo_occurrenceOf k_n_Mo k_c_Mo_occurrenceOf) rfl rfl rfl (by decide +kernel) ⟨Nat.le_of_ble_eq_true rfl, Nat.le_of_ble_eq_true rfl⟩) ⟨zblind, fun U hU hW => ⟨rfl, by rw [hU]; exact hPc, hKN.moved hW⟩⟩ rfl rfl hl.1 rfl (lv_room (Nat.le_of_ble_eq_true rfl)) d_Mo_hasName_36 ⟨Nat.zero_le _, Nat.zero_le _⟩).run (fun r hr_2 => ?_)
          subst hr_2
          have hPc : va_P D vwCl [(rc, .inr (3, [.ref rcw])), (rcw, .inl (c 2, 4 * 1001, .inr (.inl rv)))] s.heap := hP.sub (ws' := [(rc, .inr (3, [.ref rcw])), (rcw, .inl (c 2, 4 * 1001, .inr (.inl rv)))]) [2, 3] rfl
          refine vp_callSi (va_runV (rm := rm_holds) (As := [.int (zI ((t : Nat) : Int)), .int (zI (((en v) % 256 : Nat) : Int))]) (rest := []) ⟨hx, hb, hml, hown, hts⟩ (c_holds l D c rc rcw 1001 rv t (en v % 256) (by omega) (by omega) (by omega)) (cwV 2 hts (gWV k_Mo_m35 k_i_Se_holds k_v_Se_holds k_n_Se k_c_Se_holds) rfl rfl rfl (by decide +kernel) ⟨Nat.le_of_ble_eq_true rfl, Nat.le_of_ble_eq_true rfl⟩) ⟨zblind, va_recv hK hPc (ci := 3) (q0 := 0) rfl rfl, fun U hU hW => ⟨rfl, by rw [hU]; exact hPc, hKN.moved hW⟩⟩ rfl rfl hl.1 rfl (lv_room (Nat.le_of_ble_eq_true rfl)) d_Mo_hasName_39 ⟨Nat.zero_le _, Nat.zero_le _⟩).run (fun r hr_3 => ?_)
          subst hr_3
          refine z_ifeq_B (tgt := 47) hx hb d_Mo_hasName_42 (by decide) (fun hc_42 => ?_) (fun hc_42 => ?_)
          · refine lv_iinc (v := zI ((v + 1 : Nat) : Int)) (lv' := [(4, .int (zI ((v + 1 : Nat) : Int))), (0, .ref mo), (1, .ref rc), (2, .int (zI ((t : Nat) : Int))), (3, .int (zI x))]) hx hb d_Mo_hasName_47 hl (k := 0) rfl (z_incN _ 1) (by decide) rfl (fun ls hl => ?_)
            refine lv_goto (tgt := 3) hx hb d_Mo_hasName_50 (by decide) ?_
            exact ih_3 (v + 1) (by omega) (by omega) (by rw [hnm, hhn]; first | (rw [hc_42, Bool.and_false]; rfl) | (rw [decide_eq_false hc_24]; rfl)) _ (lv_sub hl [0, 1, 2, 3, 4] rfl)
          · refine lv_iconst (v := zI 1) hx hb d_Mo_hasName_45 (by decide) ?_
            subst hQ
            exact W.zret (ty := .boolean) (v := (zI 1)) hx hb hr (by decide) (fun t9 ht hW => ⟨_, rfl, (by rw [hnm_mono (i := v + 1) (by omega) (by rw [hnm, decide_eq_true hc_24, hc_42]; simp)]; decide), ht⟩) (fun q hq => absurd hq List.not_mem_nil) d_Mo_hasName_46
  exact lp_3 _ 0 (Nat.lt_succ_self _) (by omega) rfl _ (lv_sub hl [0, 1, 2, 3, 4] rfl)

theorem naC_le (rv : Nat → Int64) (en : Nat → Nat) (t : Nat) : ∀ i, naC rv en t i ≤ i
  | 0 => Nat.le_refl _
  | i + 1 => by
    rw [naC]
    have := naC_le rv en t i
    split <;> omega
theorem naB_T {rv : Nat → Int64} {en : Nat → Nat} {t i : Nat} (h1 : ¬ en i / 256 = naB rv en t i) (h2 : zbt rv t (en i % 256) = true) : naB rv en t (i + 1) = en i / 256 := by rw [naB, if_pos ⟨h1, h2⟩]
theorem naB_F {rv : Nat → Int64} {en : Nat → Nat} {t i : Nat} (h : ¬ (¬ en i / 256 = naB rv en t i ∧ zbt rv t (en i % 256) = true)) : naB rv en t (i + 1) = naB rv en t i := by rw [naB, if_neg h]
theorem naC_T {rv : Nat → Int64} {en : Nat → Nat} {t i : Nat} (h1 : ¬ en i / 256 = naB rv en t i) (h2 : zbt rv t (en i % 256) = true) : naC rv en t (i + 1) = naC rv en t i + 1 := by rw [naC, if_pos ⟨h1, h2⟩]
theorem naC_F {rv : Nat → Int64} {en : Nat → Nat} {t i : Nat} (h : ¬ (¬ en i / 256 = naB rv en t i ∧ zbt rv t (en i % 256) = true)) : naC rv en t (i + 1) = naC rv en t i := by rw [naC, if_neg h]

def rm_nameAt : Room := { frames := 3, cells := 0, slots := 0, locals := 65 }
set_option maxHeartbeats 4000000 in
set_option maxRecDepth 100000 in
/-- Model.nameAt -/
theorem c_nameAt (l : Launch) (D : va_G) (c : Nat → ClassId) (rc : Nat) (rcw : Nat) (rv : Nat → Int64) (mo : Nat) (me : Nat) (ms : Nat) (msw : Nat) (en : Nat → Nat) (ne : Nat) (mf : Nat → Int64) (dt : Bool) (t : Nat) (x : Int) (hne : ne ≤ 255) (hen : ∀ j, j < ne → en j < 300000) (ht : t < 1001) (hx_ : -2147483648 ≤ x ∧ x < 2147483648) : Met l y_Mo_nameAt w_Mo_nameAt rm_nameAt (va_Pc [.ref mo, .ref rc, .int (zI ((t : Nat) : Int)), .int (zI x)] (fun U => va_P D vwCl [(mo, .inr (1, [.ref me, .ref ms, .int (zB dt)])), (me, .inl (c 0, ne, .inl (fun j => zI ((en j : Nat) : Int)))), (rc, .inr (3, [.ref rcw])), (rcw, .inl (c 2, 4 * 1001, .inr (.inl rv)))] U.heap ∧ zK D c U)) (vp_Si (fun r => r = (zI (naR rv en t x ne)))) 0 0 (fun _ => False) := by
  refine Met.ofW (cc := b_Mo_nameAt) (maxL := 8) (ret := (some .int)) (by decide) rfl ?_
  intro p e s m args below meth c0 s₁ B hml hv
  obtain ⟨rfl, hP, hKN⟩ := hv
  have hK := hKN.1
  have hN := hKN.2
  have hx := B.exec
  have hb := B.bytes
  have hr := B.returns
  have hts := atoms_spec (ws := w_Mo_nameAt) B.pre
  have hw : ∀ {w : Cond}, w ∈ ALLW → w.before _ s = true := fun h => hts _ (List.mem_cons_of_mem _ h)
  have hown : s.vm.findClass R_Mo = some m.cls := findClass_of_methodNamed B.named
  have hlocks := B.notSynchronized
  have hl := lv_entry ([.ref mo, .ref rc, .int (zI ((t : Nat) : Int)), .int (zI x)]) (n := 8) (Nat.le_of_ble_eq_true rfl)
  rw [lg_entry_eq]
  generalize (lg_sl ([.ref mo, .ref rc, .int (zI ((t : Nat) : Int)), .int (zI x)]) ++ List.replicate (8 - (lg_sl ([.ref mo, .ref rc, .int (zI ((t : Nat) : Int)), .int (zI x)])).length) Slot.unset).toArray = ls at hl ⊢
  have hl : lv_has ls 8 [(0, .ref mo), (1, .ref rc), (2, .int (zI ((t : Nat) : Int))), (3, .int (zI x))] := hl
  generalize hQ : MQ below _ _ _ _ _ _ = Q
  refine lv_iconst (v := zI (-1)) hx hb d_Mo_nameAt_0 (by decide) ?_
  refine lv_istore (lv' := [(4, .int (zI (-1))), (0, .ref mo), (1, .ref rc), (2, .int (zI ((t : Nat) : Int))), (3, .int (zI x))]) hx hb d_Mo_nameAt_1 hl (by decide) rfl (fun ls hl => ?_)
  refine lv_iconst (v := zI 0) hx hb d_Mo_nameAt_3 (by decide) ?_
  refine lv_istore (lv' := [(5, .int (zI 0)), (4, .int (zI (-1))), (0, .ref mo), (1, .ref rc), (2, .int (zI ((t : Nat) : Int))), (3, .int (zI x))]) hx hb d_Mo_nameAt_4 hl (by decide) rfl (fun ls hl => ?_)
  refine lv_iconst (v := zI 0) hx hb d_Mo_nameAt_6 (by decide) ?_
  refine lv_istore (lv' := [(6, .int (zI 0)), (5, .int (zI 0)), (4, .int (zI (-1))), (0, .ref mo), (1, .ref rc), (2, .int (zI ((t : Nat) : Int))), (3, .int (zI x))]) hx hb d_Mo_nameAt_7 hl (by decide) rfl (fun ls hl => ?_)
  have lp_9 : ∀ (k_ : Nat) (v : Nat), ne - v < k_ → (v ≤ ne) → (naB rv en t v < 300000) → (naR rv en t x v = -1) → ∀ ls : Array Slot, lv_has ls 8 [(6, .int (zI ((v : Nat) : Int))), (5, .int (zI ((naB rv en t v : Nat) : Int))), (4, .int (zI (((naC rv en t v : Nat) : Int) - 1))), (0, .ref mo), (1, .ref rc), (2, .int (zI ((t : Nat) : Int))), (3, .int (zI x))] → W p l e (headSpec w_Mo_nameAt rm_nameAt).room s m ([.ref mo, .ref rc, .int (zI ((t : Nat) : Int)), .int (zI x)] : List Value).toArray below meth c0 s.heap [] 0 0 Q (F0 m 9 ls []) := by
    intro k_
    induction k_ with
    | zero => intro v hk_; exact absurd hk_ (Nat.not_lt_zero _)
    | succ k_ ih_9 =>
      intro v hk_ hv hbb hna ls hl
      refine lv_iload hx hb d_Mo_nameAt_9 (lv_at hl 0 rfl) ?_
      refine lv_aload_n hx hb d_Mo_nameAt_11 rfl (lv_at hl 3 rfl) ?_
      refine va_get (D := D) (ci := 1) (v := .ref me) (C := R_Mo) (T := T_Mo) (N := 3) hx hb hts (fun w h => List.mem_cons_of_mem _ (inA_Mo w h)) hown hK hP 0 rfl rfl 0 (by decide) (hw k_Mo_f9) (fun _ h9 => h9) rfl d_Mo_nameAt_12 ?_
      refine z_alen hx hb hK hP 1 0 rfl rfl d_Mo_nameAt_15 ?_
      refine z_top (v2 := .int (zI ((ne : Nat) : Int))) rfl ?_
      refine z_icmp_ge (tgt := 78) hx hb (by omega) d_Mo_nameAt_16 (by decide) (fun hc_16 => ?_) (fun hc_16 => ?_)
      · refine lv_iconst (v := zI (-1)) hx hb d_Mo_nameAt_78 (by decide) ?_
        have e_ : v = ne := by omega
        rw [e_] at hna
        subst hQ
        exact W.iret (v := (zI (-1))) hx hb hr (fun t9 ht hW => ⟨_, rfl, (by rw [hna]), ht⟩) (fun q hq => absurd hq List.not_mem_nil) d_Mo_nameAt_79
      · have hev := hen v (by omega)
        have hcl := naC_le rv en t v
        refine lv_aload_n hx hb d_Mo_nameAt_19 rfl (lv_at hl 3 rfl) ?_
        refine va_get (D := D) (ci := 1) (v := .ref me) (C := R_Mo) (T := T_Mo) (N := 3) hx hb hts (fun w h => List.mem_cons_of_mem _ (inA_Mo w h)) hown hK hP 0 rfl rfl 0 (by decide) (hw k_Mo_f9) (fun _ h9 => h9) rfl d_Mo_nameAt_20 ?_
        refine lv_iload hx hb d_Mo_nameAt_23 (lv_at hl 0 rfl) ?_
        refine z_uald hx hb hK hP 1 0 rfl rfl (v) (by omega) (by omega) (by omega) d_Mo_nameAt_25 ?_
        have hPc : va_P D vwCl [] s.heap := hP.sub (ws' := []) [] rfl
        refine vp_callSi (va_runS (rm := rm_nameOf) (As := [.int (zI ((en v : Nat) : Int))]) (rest := []) ⟨hx, hb, hml, hown, hts⟩ (c_nameOf l D c (en v) (by omega)) (va_cwS 1 hts (gWS k_Mo_m41 k_s_Mo_nameOf k_n_Mo k_c_Mo_nameOf) rfl rfl rfl (by decide +kernel) ⟨Nat.le_of_ble_eq_true rfl, Nat.le_of_ble_eq_true rfl⟩) ⟨zblind, fun U hU hW => ⟨rfl, by rw [hU]; exact hPc, hKN.moved hW⟩⟩ rfl rfl hl.1 rfl (lv_room (Nat.le_of_ble_eq_true rfl)) d_Mo_nameAt_26 ⟨Nat.zero_le _, Nat.zero_le _⟩).run (fun r hr_1 => ?_)
        subst hr_1
        refine lv_istore (lv' := [(7, .int (zI (((en v) / 256 : Nat) : Int))), (6, .int (zI ((v : Nat) : Int))), (5, .int (zI ((naB rv en t v : Nat) : Int))), (4, .int (zI (((naC rv en t v : Nat) : Int) - 1))), (0, .ref mo), (1, .ref rc), (2, .int (zI ((t : Nat) : Int))), (3, .int (zI x))]) hx hb d_Mo_nameAt_29 hl (by decide) rfl (fun ls hl => ?_)
        refine lv_iload hx hb d_Mo_nameAt_31 (lv_at hl 0 rfl) ?_
        refine lv_iload hx hb d_Mo_nameAt_33 (lv_at hl 2 rfl) ?_
        refine z_icmp_eq (tgt := 72) hx hb (by omega) d_Mo_nameAt_35 (by decide) (fun hc_35 => ?_) (fun hc_35 => ?_)
        · refine lv_iinc (v := zI ((v + 1 : Nat) : Int)) (lv' := [(6, .int (zI ((v + 1 : Nat) : Int))), (7, .int (zI (((en v) / 256 : Nat) : Int))), (5, .int (zI ((naB rv en t v : Nat) : Int))), (4, .int (zI (((naC rv en t v : Nat) : Int) - 1))), (0, .ref mo), (1, .ref rc), (2, .int (zI ((t : Nat) : Int))), (3, .int (zI x))]) hx hb d_Mo_nameAt_72 hl (k := 1) rfl (z_incN _ 1) (by decide) rfl (fun ls hl => ?_)
          refine lv_goto (tgt := 9) hx hb d_Mo_nameAt_75 (by decide) ?_
          exact ih_9 (v + 1) (by omega) (by omega) (by rw [naB_F (fun q_ => by first | exact absurd q_.2 (by rw [hc_53]; decide) | exact q_.1 (by omega))]; exact hbb) (by rw [naR, hna, if_pos rfl, if_neg]; intro q_; first | exact absurd q_.1.2 (by rw [hc_53]; decide) | exact q_.1.1 (by omega) | exact hc_66 (by have := q_.2; omega)) _ (by rw [naB_F (fun q_ => by first | exact absurd q_.2 (by rw [hc_53]; decide) | exact q_.1 (by omega)), naC_F (fun q_ => by first | exact absurd q_.2 (by rw [hc_53]; decide) | exact q_.1 (by omega))]; exact lv_sub hl [0, 2, 3, 4, 5, 6, 7] rfl)
        · refine lv_aload_n hx hb d_Mo_nameAt_38 rfl (lv_at hl 5 rfl) ?_
          refine lv_iload_n hx hb d_Mo_nameAt_39 rfl (lv_at hl 6 rfl) ?_
          refine lv_aload_n hx hb d_Mo_nameAt_40 rfl (lv_at hl 4 rfl) ?_
          refine va_get (D := D) (ci := 1) (v := .ref me) (C := R_Mo) (T := T_Mo) (N := 3) hx hb hts (fun w h => List.mem_cons_of_mem _ (inA_Mo w h)) hown hK hP 0 rfl rfl 0 (by decide) (hw k_Mo_f9) (fun _ h9 => h9) rfl d_Mo_nameAt_41 ?_
          refine lv_iload hx hb d_Mo_nameAt_44 (lv_at hl 1 rfl) ?_
          refine z_uald hx hb hK hP 1 0 rfl rfl (v) (by omega) (by omega) (by omega) d_Mo_nameAt_46 ?_
          have hPc : va_P D vwCl [] s.heap := hP.sub (ws' := []) [] rfl
          refine vp_callSi (va_runS (rm := rm_occurrenceOf) (As := [.int (zI ((en v : Nat) : Int))]) (rest := [.int (zI ((t : Nat) : Int)), .ref rc]) ⟨hx, hb, hml, hown, hts⟩ (c_occurrenceOf l D c (en v) (by omega)) (va_cwS 1 hts (gWS k_Mo_m31 k_s_Mo_occurrenceOf k_n_Mo k_c_Mo_occurrenceOf) rfl rfl rfl (by decide +kernel) ⟨Nat.le_of_ble_eq_true rfl, Nat.le_of_ble_eq_true rfl⟩) ⟨zblind, fun U hU hW => ⟨rfl, by rw [hU]; exact hPc, hKN.moved hW⟩⟩ rfl rfl hl.1 rfl (lv_room (Nat.le_of_ble_eq_true rfl)) d_Mo_nameAt_47 ⟨Nat.zero_le _, Nat.zero_le _⟩).run (fun r hr_2 => ?_)
          subst hr_2
          have hPc : va_P D vwCl [(rc, .inr (3, [.ref rcw])), (rcw, .inl (c 2, 4 * 1001, .inr (.inl rv)))] s.heap := hP.sub (ws' := [(rc, .inr (3, [.ref rcw])), (rcw, .inl (c 2, 4 * 1001, .inr (.inl rv)))]) [2, 3] rfl
          refine vp_callSi (va_runV (rm := rm_holds) (As := [.int (zI ((t : Nat) : Int)), .int (zI (((en v) % 256 : Nat) : Int))]) (rest := []) ⟨hx, hb, hml, hown, hts⟩ (c_holds l D c rc rcw 1001 rv t (en v % 256) (by omega) (by omega) (by omega)) (cwV 2 hts (gWV k_Mo_m35 k_i_Se_holds k_v_Se_holds k_n_Se k_c_Se_holds) rfl rfl rfl (by decide +kernel) ⟨Nat.le_of_ble_eq_true rfl, Nat.le_of_ble_eq_true rfl⟩) ⟨zblind, va_recv hK hPc (ci := 3) (q0 := 0) rfl rfl, fun U hU hW => ⟨rfl, by rw [hU]; exact hPc, hKN.moved hW⟩⟩ rfl rfl hl.1 rfl (lv_room (Nat.le_of_ble_eq_true rfl)) d_Mo_nameAt_50 ⟨Nat.zero_le _, Nat.zero_le _⟩).run (fun r hr_3 => ?_)
          subst hr_3
          refine z_ifeq_B (tgt := 72) hx hb d_Mo_nameAt_53 (by decide) (fun hc_53 => ?_) (fun hc_53 => ?_)
          · refine lv_iinc (v := zI ((v + 1 : Nat) : Int)) (lv' := [(6, .int (zI ((v + 1 : Nat) : Int))), (7, .int (zI (((en v) / 256 : Nat) : Int))), (5, .int (zI ((naB rv en t v : Nat) : Int))), (4, .int (zI (((naC rv en t v : Nat) : Int) - 1))), (0, .ref mo), (1, .ref rc), (2, .int (zI ((t : Nat) : Int))), (3, .int (zI x))]) hx hb d_Mo_nameAt_72 hl (k := 1) rfl (z_incN _ 1) (by decide) rfl (fun ls hl => ?_)
            refine lv_goto (tgt := 9) hx hb d_Mo_nameAt_75 (by decide) ?_
            exact ih_9 (v + 1) (by omega) (by omega) (by rw [naB_F (fun q_ => by first | exact absurd q_.2 (by rw [hc_53]; decide) | exact q_.1 (by omega))]; exact hbb) (by rw [naR, hna, if_pos rfl, if_neg]; intro q_; first | exact absurd q_.1.2 (by rw [hc_53]; decide) | exact q_.1.1 (by omega) | exact hc_66 (by have := q_.2; omega)) _ (by rw [naB_F (fun q_ => by first | exact absurd q_.2 (by rw [hc_53]; decide) | exact q_.1 (by omega)), naC_F (fun q_ => by first | exact absurd q_.2 (by rw [hc_53]; decide) | exact q_.1 (by omega))]; exact lv_sub hl [0, 2, 3, 4, 5, 6, 7] rfl)
          · refine lv_iload hx hb d_Mo_nameAt_56 (lv_at hl 0 rfl) ?_
            refine lv_istore (lv' := [(5, .int (zI (((en v) / 256 : Nat) : Int))), (7, .int (zI (((en v) / 256 : Nat) : Int))), (6, .int (zI ((v : Nat) : Int))), (4, .int (zI (((naC rv en t v : Nat) : Int) - 1))), (0, .ref mo), (1, .ref rc), (2, .int (zI ((t : Nat) : Int))), (3, .int (zI x))]) hx hb d_Mo_nameAt_58 hl (by decide) rfl (fun ls hl => ?_)
            refine lv_iinc (v := zI ((((naC rv en t v : Nat) : Int) - 1) + 1)) (lv' := [(4, .int (zI ((((naC rv en t v : Nat) : Int) - 1) + 1))), (5, .int (zI (((en v) / 256 : Nat) : Int))), (7, .int (zI (((en v) / 256 : Nat) : Int))), (6, .int (zI ((v : Nat) : Int))), (0, .ref mo), (1, .ref rc), (2, .int (zI ((t : Nat) : Int))), (3, .int (zI x))]) hx hb d_Mo_nameAt_60 hl (k := 3) rfl (zI_add _ _) (by decide) rfl (fun ls hl => ?_)
            refine lv_iload hx hb d_Mo_nameAt_63 (lv_at hl 0 rfl) ?_
            refine lv_iload_n hx hb d_Mo_nameAt_65 rfl (lv_at hl 7 rfl) ?_
            refine z_icmp_ne (tgt := 72) hx hb (by omega) d_Mo_nameAt_66 (by decide) (fun hc_66 => ?_) (fun hc_66 => ?_)
            · refine lv_iinc (v := zI ((v + 1 : Nat) : Int)) (lv' := [(6, .int (zI ((v + 1 : Nat) : Int))), (4, .int (zI ((((naC rv en t v : Nat) : Int) - 1) + 1))), (5, .int (zI (((en v) / 256 : Nat) : Int))), (7, .int (zI (((en v) / 256 : Nat) : Int))), (0, .ref mo), (1, .ref rc), (2, .int (zI ((t : Nat) : Int))), (3, .int (zI x))]) hx hb d_Mo_nameAt_72 hl (k := 3) rfl (z_incN _ 1) (by decide) rfl (fun ls hl => ?_)
              refine lv_goto (tgt := 9) hx hb d_Mo_nameAt_75 (by decide) ?_
              exact ih_9 (v + 1) (by omega) (by omega) (by rw [naB_T (by omega) hc_53]; omega) (by rw [naR, hna, if_pos rfl, if_neg]; intro q_; first | exact absurd q_.1.2 (by rw [hc_53]; decide) | exact q_.1.1 (by omega) | exact hc_66 (by have := q_.2; omega)) _ (by rw [naB_T (by omega) hc_53, naC_T (by omega) hc_53, show (((naC rv en t v + 1 : Nat) : Int) - 1) = ((naC rv en t v : Nat) : Int) - 1 + 1 by omega]; exact lv_sub hl [0, 2, 1, 4, 5, 6, 7] rfl)
            · refine lv_iload hx hb d_Mo_nameAt_69 (lv_at hl 2 rfl) ?_
              subst hQ
              exact W.iret (v := (zI (((en v) / 256 : Nat) : Int))) hx hb hr (fun t9 ht hW => ⟨_, rfl, (by rw [naR_mono (r := ((en v / 256 : Nat) : Int)) (by omega) (i := v + 1) (by omega) (by rw [naR, hna, if_pos rfl, if_pos ⟨⟨by omega, hc_53⟩, by omega⟩])]), ht⟩) (fun q hq => absurd hq List.not_mem_nil) d_Mo_nameAt_71
  exact lp_9 _ 0 (Nat.lt_succ_self _) (by omega) (by show 0 < 300000; omega) rfl _ (lv_sub hl [0, 1, 2, 3, 4, 5, 6] rfl)
