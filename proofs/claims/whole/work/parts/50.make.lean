def prm (en b : Nat → Nat) (n : Nat) : Prop := ∃ p q : Nat → Nat, ∀ i, i < n → p i < n ∧ q i < n ∧ p (q i) = i ∧ q (p i) = i ∧ b i = en (p i)
theorem prm_rf (en : Nat → Nat) (n : Nat) : prm en en n := ⟨id, id, fun i h => ⟨h, h, rfl, rfl, rfl⟩⟩
theorem prm_congr {en b b2 : Nat → Nat} {n : Nat} (h : prm en b n) (e : ∀ i, i < n → b2 i = b i) : prm en b2 n := by
  obtain ⟨p, q, hpq⟩ := h
  exact ⟨p, q, fun i hi => ⟨(hpq i hi).1, (hpq i hi).2.1, (hpq i hi).2.2.1, (hpq i hi).2.2.2.1, (e i hi).trans (hpq i hi).2.2.2.2⟩⟩
def swp (x y i : Nat) : Nat := if i = x then y else if i = y then x else i
theorem swp_swp (x y i : Nat) : swp x y (swp x y i) = i := by
  unfold swp
  by_cases h1 : i = x
  · subst h1
    by_cases h2 : y = i
    · simp [h2]
    · simp [h2]
  · by_cases h2 : i = y
    · subst h2; simp [h1]
    · simp [h1, h2]
theorem swp_lt {x y i n : Nat} (hx : x < n) (hy : y < n) (h : i < n) : swp x y i < n := by
  unfold swp
  split
  · exact hy
  · split
    · exact hx
    · exact h
theorem prm_swap {en b : Nat → Nat} {n x y : Nat} (hx : x < n) (hy : y < n) (h : prm en b n) : prm en (fun i => b (swp x y i)) n := by
  obtain ⟨p, q, hpq⟩ := h
  refine ⟨fun i => p (swp x y i), fun i => swp x y (q i), fun i hi => ?_⟩
  have hs := swp_lt hx hy hi
  obtain ⟨a1, a2, a3, a4, a5⟩ := hpq _ hs
  obtain ⟨b1, b2, b3, b4, b5⟩ := hpq i hi
  refine ⟨a1, swp_lt hx hy b2, ?_, ?_, a5⟩
  · show p (swp x y (swp x y (q i))) = i
    rw [swp_swp]; exact b3
  · show swp x y (q (p (swp x y i))) = i
    rw [a4, swp_swp]
/-- the state of the inner loop of an insertion: a hole at 'at', the number 'mv' that comes there -/
def insI (a : Nat → Nat) (i at_ mv : Nat) : Prop := (∀ x y, x < y → y ≤ i → ¬ x = at_ → ¬ y = at_ → a x ≤ a y) ∧ ∀ y, at_ < y → y ≤ i → mv ≤ a y
theorem ins_start {a : Nat → Nat} {i : Nat} (h : ∀ x y, x < y → y < i → a x ≤ a y) : insI a i i (a i) := ⟨fun x y h1 h2 h3 h4 => h x y h1 (by omega), fun y h1 h2 => by omega⟩
theorem ins_step {a : Nat → Nat} {i at_ mv : Nat} (hi : at_ + 1 ≤ i) (h : insI a i (at_ + 1) mv) (hm : mv < a at_) : insI (va_up a (at_ + 1) (a at_)) i at_ mv := by
  refine ⟨fun x y h1 h2 h3 h4 => ?_, fun y h1 h2 => ?_⟩
  · unfold va_up
    by_cases hy : y = at_ + 1
    · rw [if_pos hy, if_neg (by omega)]
      exact h.1 x at_ (by omega) (by omega) (by omega) (by omega)
    · rw [if_neg hy]
      by_cases hx : x = at_ + 1
      · rw [if_pos hx]
        exact h.1 at_ y (by omega) h2 (by omega) hy
      · rw [if_neg hx]
        exact h.1 x y h1 h2 hx hy
  · unfold va_up
    by_cases hy : y = at_ + 1
    · rw [if_pos hy]; omega
    · rw [if_neg hy]; exact h.2 y (by omega) h2
theorem ins_end {a : Nat → Nat} {i at_ mv : Nat} (hi : at_ ≤ i) (h : insI a i at_ mv) (he : at_ = 0 ∨ a (at_ - 1) ≤ mv) : ∀ x y, x < y → y < i + 1 → va_up a at_ mv x ≤ va_up a at_ mv y := by
  intro x y h1 h2
  unfold va_up
  by_cases hy : y = at_
  · rw [if_pos hy, if_neg (by omega)]
    rcases he with he | he
    · omega
    · by_cases hx : x = at_ - 1
      · rw [hx]; exact he
      · exact Nat.le_trans (h.1 x (at_ - 1) (by omega) (by omega) (by omega) (by omega)) he
  · rw [if_neg hy]
    by_cases hx : x = at_
    · rw [if_pos hx]; exact h.2 y (by omega) (by omega)
    · rw [if_neg hx]; exact h.1 x y h1 (by omega) hx hy
theorem ins_prm {en a : Nat → Nat} {n at_ mv : Nat} (ha : at_ + 1 < n) (h : prm en (va_up a (at_ + 1) mv) n) : prm en (va_up (va_up a (at_ + 1) (a at_)) at_ mv) n := by
  refine prm_congr (prm_swap (x := at_) (y := at_ + 1) (by omega) ha h) (fun i hi => ?_)
  unfold va_up swp
  by_cases h1 : i = at_
  · subst h1; simp
  · by_cases h2 : i = at_ + 1
    · subst h2; simp
    · simp [h1, h2]
def srt (en b : Nat → Nat) (n : Nat) : Prop := (∀ x y, x < y → y < n → b x ≤ b y) ∧ prm en b n
def tmw (fw lw : Nat → Int64) : Nat → (Nat → Int64)
  | 0 => z0J
  | i + 1 => if zbt lw 0 i = true then zadd (zor (tmw fw lw i) i fw i) i 255 else zor (tmw fw lw i) i fw i
theorem tmw_T {fw lw : Nat → Int64} {i : Nat} (h : zbt lw 0 i = true) : tmw fw lw (i + 1) = zadd (zor (tmw fw lw i) i fw i) i 255 := by rw [tmw, if_pos h]
theorem tmw_F {fw lw : Nat → Int64} {i : Nat} (h : zbt lw 0 i = false) : tmw fw lw (i + 1) = zor (tmw fw lw i) i fw i := by rw [tmw, if_neg (by rw [h]; decide)]
def tmE (fw iw lw : Nat → Int64) (nn : Bool) (n : Nat) : Nat → Int64 := if nn = true then zadd (zor (tmw fw lw n) n iw 0) n 255 else zor (tmw fw lw n) n iw 0
theorem tmE_T {fw iw lw : Nat → Int64} {nn : Bool} {n : Nat} (h : nn = true) : tmE fw iw lw nn n = zadd (zor (tmw fw lw n) n iw 0) n 255 := if_pos h
theorem tmE_F {fw iw lw : Nat → Int64} {nn : Bool} {n : Nat} (h : nn = false) : tmE fw iw lw nn n = zor (tmw fw lw n) n iw 0 := if_neg (by rw [h]; decide)
def tmN (nm : Nat → Nat) : Nat → (Nat → Nat)
  | 0 => z0N
  | i + 1 => va_up (tmN nm i) i (nm i * 256 + i)

theorem prm_lt {en b : Nat → Nat} {n B : Nat} (hen : ∀ j, j < n → en j < B) (h : prm en b n) (i : Nat) (hi : i < n) : b i < B := by
  obtain ⟨p, q, hpq⟩ := h
  obtain ⟨a1, -, -, -, a5⟩ := hpq i hi
  rw [a5]; exact hen _ a1
theorem prm_lt1 {en b : Nat → Nat} {n B at_ mv : Nat} (hen : ∀ j, j < n → en j < B) (h : prm en (va_up b at_ mv) n) (i : Nat) (hi : i < n) (hne : ¬ i = at_) : b i < B := by
  have := prm_lt hen h i hi
  unfold va_up at this
  rwa [if_neg hne] at this
theorem ins_step1 {a : Nat → Nat} {i at_ mv : Nat} (h0 : 0 < at_) (hi : at_ ≤ i) (h : insI a i at_ mv) (hm : mv < a (at_ - 1)) : insI (va_up a at_ (a (at_ - 1))) i (at_ - 1) mv := by
  obtain ⟨k, rfl⟩ : ∃ k, at_ = k + 1 := ⟨at_ - 1, by omega⟩
  exact ins_step hi h hm
theorem ins_prm1 {en a : Nat → Nat} {n at_ mv : Nat} (h0 : 0 < at_) (ha : at_ < n) (h : prm en (va_up a at_ mv) n) : prm en (va_up (va_up a at_ (a (at_ - 1))) (at_ - 1) mv) n := by
  obtain ⟨k, rfl⟩ : ∃ k, at_ = k + 1 := ⟨at_ - 1, by omega⟩
  exact ins_prm ha h
theorem prm_self {en a : Nat → Nat} {n i : Nat} (h : prm en a n) : prm en (va_up a i (a i)) n := prm_congr h (fun x _ => by unfold va_up; by_cases q : x = i <;> simp [q])
theorem tmN_at (nm : Nat → Nat) : ∀ i j, j < i → tmN nm i j = nm j * 256 + j
  | 0, j, h => by omega
  | i + 1, j, h => by
    rw [tmN]
    unfold va_up
    by_cases hj : j = i
    · rw [if_pos hj, hj]
    · rw [if_neg hj, tmN_at nm i j (by omega)]

def rm_setsInit (M : Nat) : Room := { frames := 1, cells := 1, slots := M, locals := 21 }
set_option maxHeartbeats 4000000 in
set_option maxRecDepth 100000 in
/-- Sets(count) -/
theorem c_setsInit (l : Launch) (D : va_G) (c : Nat → ClassId) (h : Nat) (k : Nat) (M : Nat) (sz : Nat) (hk : k ≤ 1001) (hM : 4 * k ≤ M) : Met l y_Se_init w_Se_init (rm_setsInit M) (va_Pc [.ref h, .int (zI ((k : Nat) : Int))] (fun U => (U.heap.size = sz ∧ va_P D vwCl [(h, .inr (3, [.null]))] U.heap ∧ va_D (fun _ => True) [(h, .inr (3, [.null]))]) ∧ zK D c U)) (va_Qv (fun (u : Nat) => True) (fun (u : Nat) t9 => va_P D vwCl [(h, .inr (3, [.ref u])), (u, .inl (c 2, 4 * k, .inr (.inl z0J)))] t9.heap ∧ va_D (va_A [(h, .inr (3, [.null]))] sz) [(h, .inr (3, [.ref u])), (u, .inl (c 2, 4 * k, .inr (.inl z0J)))]) (va_A [(h, .inr (3, [.null]))] sz)) 1 M (va_A [(h, .inr (3, [.null]))] sz) := by
  refine Met.ofW (cc := b_Se_init) (maxL := 2) (ret := none) (by decide) rfl ?_
  intro p e s m args below meth c0 s₁ B hml hv
  obtain ⟨rfl, ⟨hsz, hP, hD0⟩, hKN⟩ := hv
  have hK := hKN.1
  have hN := hKN.2
  have hx := B.exec
  have hb := B.bytes
  have hr := B.returns
  have hts := atoms_spec (ws := w_Se_init) B.pre
  have hw : ∀ {w : Cond}, w ∈ ALLW → w.before _ s = true := fun h => hts _ (List.mem_cons_of_mem _ h)
  have hown : s.vm.findClass R_Se = some m.cls := findClass_of_methodNamed B.named
  have hlocks := B.notSynchronized
  have hin : meth.name = "<init>" := (name_of_methodNamed B.named B.method).1
  subst hsz
  have hD := hD0.self (sz := s.heap.size)
  generalize hAe : va_A [(h, .inr (3, [.null]))] s.heap.size = A at hD ⊢
  have hA : ∀ q : Nat, s.heap.size ≤ q → A q := fun q h => by rw [← hAe]; exact Or.inr h
  have hS : va_S A s.heap s.heap [] := va_S.rf
  have hP : va_P D vwCl [(h, .inr (3, [.null]))] s.heap := hP
  have hl := lv_entry ([.ref h, .int (zI ((k : Nat) : Int))]) (n := 2) (Nat.le_of_ble_eq_true rfl)
  rw [lg_entry_eq]
  generalize (lg_sl ([.ref h, .int (zI ((k : Nat) : Int))]) ++ List.replicate (2 - (lg_sl ([.ref h, .int (zI ((k : Nat) : Int))])).length) Slot.unset).toArray = ls at hl ⊢
  have hl : lv_has ls 2 [(0, .ref h), (1, .int (zI ((k : Nat) : Int)))] := hl
  generalize hQ : MQ below _ _ _ _ _ _ = Q
  refine lv_aload_n hx hb d_Se_init_0 rfl (lv_at hl 0 rfl) ?_
  refine W.objInit hx hb hown (hw k_Se_m3) (hw k_i_ob) (hw k_c_ob) rfl (by rw [hml]; exact hl.1) rfl d_Se_init_1 (Nat.le_of_ble_eq_true rfl) (Nat.le_of_ble_eq_true rfl) ?_
  refine W.eq (g2 := F0 m 4 ls []) rfl ?_
  refine lv_aload_n hx hb d_Se_init_4 rfl (lv_at hl 0 rfl) ?_
  refine lv_iconst (v := zI 0) hx hb d_Se_init_5 (by decide) ?_
  refine lv_iload_n hx hb d_Se_init_6 rfl (lv_at hl 1 rfl) ?_
  refine lv_sipush (v := zI 1001) hx hb d_Se_init_7 (by decide) ?_
  refine va_mmin hx hb (by rw [hml]; exact hl.1.symm) hown (hw k_Se_m11) (hw k_s_mi) (hw k_n_mx) (hw k_c_mi) (Nat.le_of_ble_eq_true rfl) (Nat.le_of_ble_eq_true rfl) (Nat.le_of_ble_eq_true rfl) (Nat.le_of_ble_eq_true rfl) d_Se_init_10 ?_
  refine z_top (v2 := .int (zI ((k : Nat) : Int))) (congrArg Value.int (z_min1001 _ (by omega))) ?_
  refine va_mmax hx hb (by rw [hml]; exact hl.1.symm) hown (hw k_Se_m17) (hw k_s_mx) (hw k_n_mx) (hw k_c_mx) (Nat.le_of_ble_eq_true rfl) (Nat.le_of_ble_eq_true rfl) (Nat.le_of_ble_eq_true rfl) (Nat.le_of_ble_eq_true rfl) d_Se_init_13 ?_
  refine z_top (v2 := .int (zI ((k : Nat) : Int))) (congrArg Value.int (z_max0l _ (by omega))) ?_
  refine lv_iconst (v := zI 4) hx hb d_Se_init_16 (by decide) ?_
  refine z_imul hx hb d_Se_init_17 ?_
  refine z_newa (atype := .long) hx hb (hw k_a_long) rfl (fun _ h => h) hK hP hD hS hA 2 rfl (4 * k) (a0 := (4 * k, .inr (.inl z0J))) (z_defJ _) (by omega) (by omega) (by show 4 * k * 8 ≤ _; omega) (Nat.le_of_ble_eq_true rfl) (show 0 + 4 * k ≤ M by omega) d_Se_init_18 (fun a18 H hP hD hS => ?_)
  have hP : va_P D vwCl [(h, .inr (3, [.null])), (a18, .inl (c 2, 4 * k, .inr (.inl z0J)))] H := hP
  have hD : va_D A [(h, .inr (3, [.null])), (a18, .inl (c 2, 4 * k, .inr (.inl z0J)))] := hD
  refine W.widen (k := 1) (n := 0 + 4 * k) (by omega) (by omega) ?_
  refine va_putF (D := D) (ci := 3) (v := .ref a18) (ty := .array .long) (C := R_Se) (T := T_Se) (N := 1) hx hb hts (fun w h => List.mem_cons_of_mem _ (inA_Se w h)) ty_Se tyok_Se nm_Se hown hK hP hD hS 0 rfl rfl 0 (by decide) (hw k_Se_f20) (fun _ h9 => h9) rfl hin rfl (by decide +kernel) rfl rfl (Nat.le_of_ble_eq_true rfl) d_Se_init_20 (fun H locs hP hD hS => ?_)
  have hP : va_P D vwCl [(h, .inr (3, [.ref a18])), (a18, .inl (c 2, 4 * k, .inr (.inl z0J)))] H := hP
  have hD : va_D A [(h, .inr (3, [.ref a18])), (a18, .inl (c 2, 4 * k, .inr (.inl z0J)))] := hD
  subst hQ
  refine W.widen (k := 1) (n := M) (by omega) (by omega) ?_
  exact W.vret hx hb hr (fun t9 ht hW => ⟨⟨a18, rfl, trivial, by show va_P _ _ _ t9.heap; rw [ht]; exact hP.sub [0, 1] rfl, by exact hD.sub [0, 1] (by decide) rfl⟩, hS.F ht⟩) hS.2.2 d_Se_init_23

def rm_draftInit : Room := { frames := 2, cells := 8, slots := 1638, locals := 42 }
set_option maxHeartbeats 4000000 in
set_option maxRecDepth 100000 in
/-- Draft() -/
theorem c_draftInit (l : Launch) (D : va_G) (c : Nat → ClassId) (d : Nat) (sz : Nat)  : Met l y_Dr_init w_Dr_init rm_draftInit (va_Pc [.ref d] (fun U => (U.heap.size = sz ∧ va_P D vwCl [(d, .inr (0, [.null, .null, .null, .null, .null, .int (zI 0), .int (zI 0)]))] U.heap ∧ va_D (fun _ => True) [(d, .inr (0, [.null, .null, .null, .null, .null, .int (zI 0), .int (zI 0)]))]) ∧ zK D c U)) (va_Qv (fun (u : Nat × Nat × Nat × Nat × Nat × Nat × Nat × Nat) => True) (fun (u : Nat × Nat × Nat × Nat × Nat × Nat × Nat × Nat) t9 => va_P D vwCl [(d, .inr (0, [.ref u.1, .ref u.2.1, .ref u.2.2.2.1, .ref u.2.2.2.2.2.1, .ref u.2.2.2.2.2.2.2, .int (zI 0), .int (zI 0)])), (u.1, .inl (c 0, 255, .inl (fun j => zI ((z0N j : Nat) : Int)))), (u.2.1, .inr (3, [.ref u.2.2.1])), (u.2.2.1, .inl (c 2, 4 * 255, .inr (.inl z0J))), (u.2.2.2.1, .inr (3, [.ref u.2.2.2.2.1])), (u.2.2.2.2.1, .inl (c 2, 4 * 40, .inr (.inl z0J))), (u.2.2.2.2.2.1, .inr (3, [.ref u.2.2.2.2.2.2.1])), (u.2.2.2.2.2.2.1, .inl (c 2, 4 * 40, .inr (.inl z0J))), (u.2.2.2.2.2.2.2, .inl (c 1, 40, .inl (fun j => zB (z0B j))))] t9.heap ∧ va_D (va_A [(d, .inr (0, [.null, .null, .null, .null, .null, .int (zI 0), .int (zI 0)]))] sz) [(d, .inr (0, [.ref u.1, .ref u.2.1, .ref u.2.2.2.1, .ref u.2.2.2.2.2.1, .ref u.2.2.2.2.2.2.2, .int (zI 0), .int (zI 0)])), (u.1, .inl (c 0, 255, .inl (fun j => zI ((z0N j : Nat) : Int)))), (u.2.1, .inr (3, [.ref u.2.2.1])), (u.2.2.1, .inl (c 2, 4 * 255, .inr (.inl z0J))), (u.2.2.2.1, .inr (3, [.ref u.2.2.2.2.1])), (u.2.2.2.2.1, .inl (c 2, 4 * 40, .inr (.inl z0J))), (u.2.2.2.2.2.1, .inr (3, [.ref u.2.2.2.2.2.2.1])), (u.2.2.2.2.2.2.1, .inl (c 2, 4 * 40, .inr (.inl z0J))), (u.2.2.2.2.2.2.2, .inl (c 1, 40, .inl (fun j => zB (z0B j))))]) (va_A [(d, .inr (0, [.null, .null, .null, .null, .null, .int (zI 0), .int (zI 0)]))] sz)) 8 1638 (va_A [(d, .inr (0, [.null, .null, .null, .null, .null, .int (zI 0), .int (zI 0)]))] sz) := by
  refine Met.ofW (cc := b_Dr_init) (maxL := 1) (ret := none) (by decide) rfl ?_
  intro p e s m args below meth c0 s₁ B hml hv
  obtain ⟨rfl, ⟨hsz, hP, hD0⟩, hKN⟩ := hv
  have hK := hKN.1
  have hN := hKN.2
  have hx := B.exec
  have hb := B.bytes
  have hr := B.returns
  have hts := atoms_spec (ws := w_Dr_init) B.pre
  have hw : ∀ {w : Cond}, w ∈ ALLW → w.before _ s = true := fun h => hts _ (List.mem_cons_of_mem _ h)
  have hown : s.vm.findClass R_Dr = some m.cls := findClass_of_methodNamed B.named
  have hlocks := B.notSynchronized
  have hin : meth.name = "<init>" := (name_of_methodNamed B.named B.method).1
  subst hsz
  have hD := hD0.self (sz := s.heap.size)
  generalize hAe : va_A [(d, .inr (0, [.null, .null, .null, .null, .null, .int (zI 0), .int (zI 0)]))] s.heap.size = A at hD ⊢
  have hA : ∀ q : Nat, s.heap.size ≤ q → A q := fun q h => by rw [← hAe]; exact Or.inr h
  have hS : va_S A s.heap s.heap [] := va_S.rf
  have hP : va_P D vwCl [(d, .inr (0, [.null, .null, .null, .null, .null, .int (zI 0), .int (zI 0)]))] s.heap := hP
  have hl := lv_entry ([.ref d]) (n := 1) (Nat.le_of_ble_eq_true rfl)
  rw [lg_entry_eq]
  generalize (lg_sl ([.ref d]) ++ List.replicate (1 - (lg_sl ([.ref d])).length) Slot.unset).toArray = ls at hl ⊢
  have hl : lv_has ls 1 [(0, .ref d)] := hl
  generalize hQ : MQ below _ _ _ _ _ _ = Q
  refine lv_aload_n hx hb d_Dr_init_0 rfl (lv_at hl 0 rfl) ?_
  refine W.objInit hx hb hown (hw k_Dr_m3) (hw k_i_ob) (hw k_c_ob) rfl (by rw [hml]; exact hl.1) rfl d_Dr_init_1 (Nat.le_of_ble_eq_true rfl) (Nat.le_of_ble_eq_true rfl) ?_
  refine W.eq (g2 := F0 m 4 ls []) rfl ?_
  refine lv_aload_n hx hb d_Dr_init_4 rfl (lv_at hl 0 rfl) ?_
  refine lv_sipush (v := zI 255) hx hb d_Dr_init_5 (by decide) ?_
  refine z_newa (atype := .int) hx hb (hw k_a_int) rfl (fun _ h => h) hK hP hD hS hA 0 rfl (255) (a0 := (255, .inl (fun j => zI ((z0N j : Nat) : Int)))) (z_defU _) (by omega) (by omega) (by show 255 * 4 ≤ _; omega) (Nat.le_of_ble_eq_true rfl) (Nat.le_of_ble_eq_true rfl) d_Dr_init_8 (fun a8 H hP hD hS => ?_)
  have hP : va_P D vwCl [(d, .inr (0, [.null, .null, .null, .null, .null, .int (zI 0), .int (zI 0)])), (a8, .inl (c 0, 255, .inl (fun j => zI ((z0N j : Nat) : Int))))] H := hP
  have hD : va_D A [(d, .inr (0, [.null, .null, .null, .null, .null, .int (zI 0), .int (zI 0)])), (a8, .inl (c 0, 255, .inl (fun j => zI ((z0N j : Nat) : Int))))] := hD
  refine W.widen (k := 1) (n := 255) (by omega) (by omega) ?_
  refine va_putF (D := D) (ci := 0) (v := .ref a8) (ty := .array .int) (C := R_Dr) (T := T_Dr) (N := 7) hx hb hts (fun w h => List.mem_cons_of_mem _ (inA_Dr w h)) ty_Dr tyok_Dr nm_Dr hown hK hP hD hS 0 rfl rfl 0 (by decide) (hw k_Dr_f9) (fun _ h9 => h9) rfl hin rfl (by decide +kernel) rfl rfl (Nat.le_of_ble_eq_true rfl) d_Dr_init_10 (fun H locs hP hD hS => ?_)
  have hP : va_P D vwCl [(d, .inr (0, [.ref a8, .null, .null, .null, .null, .int (zI 0), .int (zI 0)])), (a8, .inl (c 0, 255, .inl (fun j => zI ((z0N j : Nat) : Int))))] H := hP
  have hD : va_D A [(d, .inr (0, [.ref a8, .null, .null, .null, .null, .int (zI 0), .int (zI 0)])), (a8, .inl (c 0, 255, .inl (fun j => zI ((z0N j : Nat) : Int))))] := hD
  refine lv_aload_n hx hb d_Dr_init_13 rfl (lv_at hl 0 rfl) ?_
  refine va_new (ci := 3) (fs := [.null]) (C := R_Se) (T := T_Se) (N := 1) hx hb hts (fun w h => List.mem_cons_of_mem _ (inA_Se w h)) ty_Se tyok_Se hown (hw k_Dr_c15) (hw k_o_Se) (hw k_n_Se) hK hP hD hS hA rfl (fun j hj => by rcases (show j = 0 by omega) with rfl <;> rfl) (Nat.le_of_ble_eq_true rfl) (Nat.le_of_ble_eq_true rfl) d_Dr_init_14 (fun a14 H hP hD hS => ?_)
  have hP : va_P D vwCl [(d, .inr (0, [.ref a8, .null, .null, .null, .null, .int (zI 0), .int (zI 0)])), (a8, .inl (c 0, 255, .inl (fun j => zI ((z0N j : Nat) : Int)))), (a14, .inr (3, [.null]))] H := hP
  have hD : va_D A [(d, .inr (0, [.ref a8, .null, .null, .null, .null, .int (zI 0), .int (zI 0)])), (a8, .inl (c 0, 255, .inl (fun j => zI ((z0N j : Nat) : Int)))), (a14, .inr (3, [.null]))] := hD
  refine W.widen (k := 2) (n := 256) (by omega) (by omega) ?_
  refine lv_dup hx hb d_Dr_init_17 rfl ?_
  refine lv_sipush (v := zI 255) hx hb d_Dr_init_18 (by decide) ?_
  have hPc : va_P D vwCl [(a14, .inr (3, [.null]))] H := hP.sub (ws' := [(a14, .inr (3, [.null]))]) [2] rfl
  have hDc : va_D A [(a14, .inr (3, [.null]))] := hD.sub (ws' := [(a14, .inr (3, [.null]))]) [2] (by decide) rfl
  have hDt : va_D (fun _ => True) [(a14, .inr (3, [.null]))] := hDc.weaken (fun _ _ _ _ => trivial)
  have hFc := va_free (wc := [(a14, .inr (3, [.null]))]) hD hS hA [2] rfl
  refine va_callv (va_runI (rm := (rm_setsInit 1020)) (As := [.int (zI 255)]) (rest := [.ref a14, .ref d]) ⟨hx, hb, hml, hown, hts⟩ (c_setsInit l D c a14 255 1020 H.size (by omega) (by omega)) (cwI 1 hts (gW k_c_Se_init) rfl rfl rfl (hw k_n_Se) (hw k_Dr_m17) (hw k_i_Se_init) rfl (by decide +kernel) ⟨Nat.le_of_ble_eq_true rfl, Nat.le_of_ble_eq_true rfl⟩) ⟨zblindA, fun U hU hW => ⟨rfl, ⟨by rw [hU], by rw [hU]; exact hPc, hDt⟩, hKN.moved hW⟩⟩ rfl rfl hl.1 rfl (lv_room (Nat.le_of_ble_eq_true rfl)) d_Dr_init_21 ⟨Nat.le_of_ble_eq_true rfl, Nat.le_of_ble_eq_true rfl⟩) hS (fun q _ h => hFc q h) hFc (fun u t9 H1 locs ht hvm hp_2 hB hz1 hk1 hS => ?_)
  obtain ⟨b21, rfl⟩ : ∃ z, z = u := ⟨_, rfl⟩
  have hp_2 : True := hp_2
  obtain ⟨hP1, hD1⟩ := hB
  rw [ht] at hP1
  obtain ⟨hP, hD⟩ := va_join (wr := [(d, .inr (0, [.ref a8, .null, .null, .null, .null, .int (zI 0), .int (zI 0)])), (a8, .inl (c 0, 255, .inl (fun j => zI ((z0N j : Nat) : Int))))]) (w1 := [(a14, .inr (3, [.ref b21])), (b21, .inl (c 2, 4 * 255, .inr (.inl z0J)))]) hP hD [2] [0, 1] rfl rfl (by decide) (by decide) hk1 hFc hP1 hD1
  generalize H1 = H at hP hS ⊢
  have hP : va_P D vwCl [(d, .inr (0, [.ref a8, .null, .null, .null, .null, .int (zI 0), .int (zI 0)])), (a8, .inl (c 0, 255, .inl (fun j => zI ((z0N j : Nat) : Int)))), (a14, .inr (3, [.ref b21])), (b21, .inl (c 2, 4 * 255, .inr (.inl z0J)))] H := hP.sub [0, 1, 2, 3] rfl
  have hD : va_D A [(d, .inr (0, [.ref a8, .null, .null, .null, .null, .int (zI 0), .int (zI 0)])), (a8, .inl (c 0, 255, .inl (fun j => zI ((z0N j : Nat) : Int)))), (a14, .inr (3, [.ref b21])), (b21, .inl (c 2, 4 * 255, .inr (.inl z0J)))] := hD.sub [0, 1, 2, 3] (by decide) rfl
  refine W.widen (k := 3) (n := 1276) (by omega) (by omega) ?_
  refine va_putF (D := D) (ci := 0) (v := .ref a14) (ty := .object "RowModels$Sets") (C := R_Dr) (T := T_Dr) (N := 7) hx hb hts (fun w h => List.mem_cons_of_mem _ (inA_Dr w h)) ty_Dr tyok_Dr nm_Dr hown hK hP hD hS 0 rfl rfl 1 (by decide) (hw k_Dr_f20) (fun _ h9 => h9) rfl hin rfl (by decide +kernel) rfl rfl (Nat.le_of_ble_eq_true rfl) d_Dr_init_24 (fun H locs hP hD hS => ?_)
  have hP : va_P D vwCl [(d, .inr (0, [.ref a8, .ref a14, .null, .null, .null, .int (zI 0), .int (zI 0)])), (a8, .inl (c 0, 255, .inl (fun j => zI ((z0N j : Nat) : Int)))), (a14, .inr (3, [.ref b21])), (b21, .inl (c 2, 4 * 255, .inr (.inl z0J)))] H := hP
  have hD : va_D A [(d, .inr (0, [.ref a8, .ref a14, .null, .null, .null, .int (zI 0), .int (zI 0)])), (a8, .inl (c 0, 255, .inl (fun j => zI ((z0N j : Nat) : Int)))), (a14, .inr (3, [.ref b21])), (b21, .inl (c 2, 4 * 255, .inr (.inl z0J)))] := hD
  refine lv_aload_n hx hb d_Dr_init_27 rfl (lv_at hl 0 rfl) ?_
  refine va_new (ci := 3) (fs := [.null]) (C := R_Se) (T := T_Se) (N := 1) hx hb hts (fun w h => List.mem_cons_of_mem _ (inA_Se w h)) ty_Se tyok_Se hown (hw k_Dr_c15) (hw k_o_Se) (hw k_n_Se) hK hP hD hS hA rfl (fun j hj => by rcases (show j = 0 by omega) with rfl <;> rfl) (Nat.le_of_ble_eq_true rfl) (Nat.le_of_ble_eq_true rfl) d_Dr_init_28 (fun a28 H hP hD hS => ?_)
  have hP : va_P D vwCl [(d, .inr (0, [.ref a8, .ref a14, .null, .null, .null, .int (zI 0), .int (zI 0)])), (a8, .inl (c 0, 255, .inl (fun j => zI ((z0N j : Nat) : Int)))), (a14, .inr (3, [.ref b21])), (b21, .inl (c 2, 4 * 255, .inr (.inl z0J))), (a28, .inr (3, [.null]))] H := hP
  have hD : va_D A [(d, .inr (0, [.ref a8, .ref a14, .null, .null, .null, .int (zI 0), .int (zI 0)])), (a8, .inl (c 0, 255, .inl (fun j => zI ((z0N j : Nat) : Int)))), (a14, .inr (3, [.ref b21])), (b21, .inl (c 2, 4 * 255, .inr (.inl z0J))), (a28, .inr (3, [.null]))] := hD
  refine W.widen (k := 4) (n := 1277) (by omega) (by omega) ?_
  refine lv_dup hx hb d_Dr_init_31 rfl ?_
  refine lv_bipush (v := zI 40) hx hb d_Dr_init_32 (by decide) ?_
  have hPc : va_P D vwCl [(a28, .inr (3, [.null]))] H := hP.sub (ws' := [(a28, .inr (3, [.null]))]) [4] rfl
  have hDc : va_D A [(a28, .inr (3, [.null]))] := hD.sub (ws' := [(a28, .inr (3, [.null]))]) [4] (by decide) rfl
  have hDt : va_D (fun _ => True) [(a28, .inr (3, [.null]))] := hDc.weaken (fun _ _ _ _ => trivial)
  have hFc := va_free (wc := [(a28, .inr (3, [.null]))]) hD hS hA [4] rfl
  refine va_callv (va_runI (rm := (rm_setsInit 160)) (As := [.int (zI 40)]) (rest := [.ref a28, .ref d]) ⟨hx, hb, hml, hown, hts⟩ (c_setsInit l D c a28 40 160 H.size (by omega) (by omega)) (cwI 1 hts (gW k_c_Se_init) rfl rfl rfl (hw k_n_Se) (hw k_Dr_m17) (hw k_i_Se_init) rfl (by decide +kernel) ⟨Nat.le_of_ble_eq_true rfl, Nat.le_of_ble_eq_true rfl⟩) ⟨zblindA, fun U hU hW => ⟨rfl, ⟨by rw [hU], by rw [hU]; exact hPc, hDt⟩, hKN.moved hW⟩⟩ rfl rfl hl.1 rfl (lv_room (Nat.le_of_ble_eq_true rfl)) d_Dr_init_34 ⟨Nat.le_of_ble_eq_true rfl, Nat.le_of_ble_eq_true rfl⟩) hS (fun q _ h => hFc q h) hFc (fun u t9 H1 locs ht hvm hp_4 hB hz1 hk1 hS => ?_)
  obtain ⟨b34, rfl⟩ : ∃ z, z = u := ⟨_, rfl⟩
  have hp_4 : True := hp_4
  obtain ⟨hP1, hD1⟩ := hB
  rw [ht] at hP1
  obtain ⟨hP, hD⟩ := va_join (wr := [(d, .inr (0, [.ref a8, .ref a14, .null, .null, .null, .int (zI 0), .int (zI 0)])), (a8, .inl (c 0, 255, .inl (fun j => zI ((z0N j : Nat) : Int)))), (a14, .inr (3, [.ref b21])), (b21, .inl (c 2, 4 * 255, .inr (.inl z0J)))]) (w1 := [(a28, .inr (3, [.ref b34])), (b34, .inl (c 2, 4 * 40, .inr (.inl z0J)))]) hP hD [4] [0, 1, 2, 3] rfl rfl (by decide) (by decide) hk1 hFc hP1 hD1
  generalize H1 = H at hP hS ⊢
  have hP : va_P D vwCl [(d, .inr (0, [.ref a8, .ref a14, .null, .null, .null, .int (zI 0), .int (zI 0)])), (a8, .inl (c 0, 255, .inl (fun j => zI ((z0N j : Nat) : Int)))), (a14, .inr (3, [.ref b21])), (b21, .inl (c 2, 4 * 255, .inr (.inl z0J))), (a28, .inr (3, [.ref b34])), (b34, .inl (c 2, 4 * 40, .inr (.inl z0J)))] H := hP.sub [0, 1, 2, 3, 4, 5] rfl
  have hD : va_D A [(d, .inr (0, [.ref a8, .ref a14, .null, .null, .null, .int (zI 0), .int (zI 0)])), (a8, .inl (c 0, 255, .inl (fun j => zI ((z0N j : Nat) : Int)))), (a14, .inr (3, [.ref b21])), (b21, .inl (c 2, 4 * 255, .inr (.inl z0J))), (a28, .inr (3, [.ref b34])), (b34, .inl (c 2, 4 * 40, .inr (.inl z0J)))] := hD.sub [0, 1, 2, 3, 4, 5] (by decide) rfl
  refine W.widen (k := 5) (n := 1437) (by omega) (by omega) ?_
  refine va_putF (D := D) (ci := 0) (v := .ref a28) (ty := .object "RowModels$Sets") (C := R_Dr) (T := T_Dr) (N := 7) hx hb hts (fun w h => List.mem_cons_of_mem _ (inA_Dr w h)) ty_Dr tyok_Dr nm_Dr hown hK hP hD hS 0 rfl rfl 2 (by decide) (hw k_Dr_f24) (fun _ h9 => h9) rfl hin rfl (by decide +kernel) rfl rfl (Nat.le_of_ble_eq_true rfl) d_Dr_init_37 (fun H locs hP hD hS => ?_)
  have hP : va_P D vwCl [(d, .inr (0, [.ref a8, .ref a14, .ref a28, .null, .null, .int (zI 0), .int (zI 0)])), (a8, .inl (c 0, 255, .inl (fun j => zI ((z0N j : Nat) : Int)))), (a14, .inr (3, [.ref b21])), (b21, .inl (c 2, 4 * 255, .inr (.inl z0J))), (a28, .inr (3, [.ref b34])), (b34, .inl (c 2, 4 * 40, .inr (.inl z0J)))] H := hP
  have hD : va_D A [(d, .inr (0, [.ref a8, .ref a14, .ref a28, .null, .null, .int (zI 0), .int (zI 0)])), (a8, .inl (c 0, 255, .inl (fun j => zI ((z0N j : Nat) : Int)))), (a14, .inr (3, [.ref b21])), (b21, .inl (c 2, 4 * 255, .inr (.inl z0J))), (a28, .inr (3, [.ref b34])), (b34, .inl (c 2, 4 * 40, .inr (.inl z0J)))] := hD
  refine lv_aload_n hx hb d_Dr_init_40 rfl (lv_at hl 0 rfl) ?_
  refine va_new (ci := 3) (fs := [.null]) (C := R_Se) (T := T_Se) (N := 1) hx hb hts (fun w h => List.mem_cons_of_mem _ (inA_Se w h)) ty_Se tyok_Se hown (hw k_Dr_c15) (hw k_o_Se) (hw k_n_Se) hK hP hD hS hA rfl (fun j hj => by rcases (show j = 0 by omega) with rfl <;> rfl) (Nat.le_of_ble_eq_true rfl) (Nat.le_of_ble_eq_true rfl) d_Dr_init_41 (fun a41 H hP hD hS => ?_)
  have hP : va_P D vwCl [(d, .inr (0, [.ref a8, .ref a14, .ref a28, .null, .null, .int (zI 0), .int (zI 0)])), (a8, .inl (c 0, 255, .inl (fun j => zI ((z0N j : Nat) : Int)))), (a14, .inr (3, [.ref b21])), (b21, .inl (c 2, 4 * 255, .inr (.inl z0J))), (a28, .inr (3, [.ref b34])), (b34, .inl (c 2, 4 * 40, .inr (.inl z0J))), (a41, .inr (3, [.null]))] H := hP
  have hD : va_D A [(d, .inr (0, [.ref a8, .ref a14, .ref a28, .null, .null, .int (zI 0), .int (zI 0)])), (a8, .inl (c 0, 255, .inl (fun j => zI ((z0N j : Nat) : Int)))), (a14, .inr (3, [.ref b21])), (b21, .inl (c 2, 4 * 255, .inr (.inl z0J))), (a28, .inr (3, [.ref b34])), (b34, .inl (c 2, 4 * 40, .inr (.inl z0J))), (a41, .inr (3, [.null]))] := hD
  refine W.widen (k := 6) (n := 1438) (by omega) (by omega) ?_
  refine lv_dup hx hb d_Dr_init_44 rfl ?_
  refine lv_bipush (v := zI 40) hx hb d_Dr_init_45 (by decide) ?_
  have hPc : va_P D vwCl [(a41, .inr (3, [.null]))] H := hP.sub (ws' := [(a41, .inr (3, [.null]))]) [6] rfl
  have hDc : va_D A [(a41, .inr (3, [.null]))] := hD.sub (ws' := [(a41, .inr (3, [.null]))]) [6] (by decide) rfl
  have hDt : va_D (fun _ => True) [(a41, .inr (3, [.null]))] := hDc.weaken (fun _ _ _ _ => trivial)
  have hFc := va_free (wc := [(a41, .inr (3, [.null]))]) hD hS hA [6] rfl
  refine va_callv (va_runI (rm := (rm_setsInit 160)) (As := [.int (zI 40)]) (rest := [.ref a41, .ref d]) ⟨hx, hb, hml, hown, hts⟩ (c_setsInit l D c a41 40 160 H.size (by omega) (by omega)) (cwI 1 hts (gW k_c_Se_init) rfl rfl rfl (hw k_n_Se) (hw k_Dr_m17) (hw k_i_Se_init) rfl (by decide +kernel) ⟨Nat.le_of_ble_eq_true rfl, Nat.le_of_ble_eq_true rfl⟩) ⟨zblindA, fun U hU hW => ⟨rfl, ⟨by rw [hU], by rw [hU]; exact hPc, hDt⟩, hKN.moved hW⟩⟩ rfl rfl hl.1 rfl (lv_room (Nat.le_of_ble_eq_true rfl)) d_Dr_init_47 ⟨Nat.le_of_ble_eq_true rfl, Nat.le_of_ble_eq_true rfl⟩) hS (fun q _ h => hFc q h) hFc (fun u t9 H1 locs ht hvm hp_6 hB hz1 hk1 hS => ?_)
  obtain ⟨b47, rfl⟩ : ∃ z, z = u := ⟨_, rfl⟩
  have hp_6 : True := hp_6
  obtain ⟨hP1, hD1⟩ := hB
  rw [ht] at hP1
  obtain ⟨hP, hD⟩ := va_join (wr := [(d, .inr (0, [.ref a8, .ref a14, .ref a28, .null, .null, .int (zI 0), .int (zI 0)])), (a8, .inl (c 0, 255, .inl (fun j => zI ((z0N j : Nat) : Int)))), (a14, .inr (3, [.ref b21])), (b21, .inl (c 2, 4 * 255, .inr (.inl z0J))), (a28, .inr (3, [.ref b34])), (b34, .inl (c 2, 4 * 40, .inr (.inl z0J)))]) (w1 := [(a41, .inr (3, [.ref b47])), (b47, .inl (c 2, 4 * 40, .inr (.inl z0J)))]) hP hD [6] [0, 1, 2, 3, 4, 5] rfl rfl (by decide) (by decide) hk1 hFc hP1 hD1
  generalize H1 = H at hP hS ⊢
  have hP : va_P D vwCl [(d, .inr (0, [.ref a8, .ref a14, .ref a28, .null, .null, .int (zI 0), .int (zI 0)])), (a8, .inl (c 0, 255, .inl (fun j => zI ((z0N j : Nat) : Int)))), (a14, .inr (3, [.ref b21])), (b21, .inl (c 2, 4 * 255, .inr (.inl z0J))), (a28, .inr (3, [.ref b34])), (b34, .inl (c 2, 4 * 40, .inr (.inl z0J))), (a41, .inr (3, [.ref b47])), (b47, .inl (c 2, 4 * 40, .inr (.inl z0J)))] H := hP.sub [0, 1, 2, 3, 4, 5, 6, 7] rfl
  have hD : va_D A [(d, .inr (0, [.ref a8, .ref a14, .ref a28, .null, .null, .int (zI 0), .int (zI 0)])), (a8, .inl (c 0, 255, .inl (fun j => zI ((z0N j : Nat) : Int)))), (a14, .inr (3, [.ref b21])), (b21, .inl (c 2, 4 * 255, .inr (.inl z0J))), (a28, .inr (3, [.ref b34])), (b34, .inl (c 2, 4 * 40, .inr (.inl z0J))), (a41, .inr (3, [.ref b47])), (b47, .inl (c 2, 4 * 40, .inr (.inl z0J)))] := hD.sub [0, 1, 2, 3, 4, 5, 6, 7] (by decide) rfl
  refine W.widen (k := 7) (n := 1598) (by omega) (by omega) ?_
  refine va_putF (D := D) (ci := 0) (v := .ref a41) (ty := .object "RowModels$Sets") (C := R_Dr) (T := T_Dr) (N := 7) hx hb hts (fun w h => List.mem_cons_of_mem _ (inA_Dr w h)) ty_Dr tyok_Dr nm_Dr hown hK hP hD hS 0 rfl rfl 3 (by decide) (hw k_Dr_f27) (fun _ h9 => h9) rfl hin rfl (by decide +kernel) rfl rfl (Nat.le_of_ble_eq_true rfl) d_Dr_init_50 (fun H locs hP hD hS => ?_)
  have hP : va_P D vwCl [(d, .inr (0, [.ref a8, .ref a14, .ref a28, .ref a41, .null, .int (zI 0), .int (zI 0)])), (a8, .inl (c 0, 255, .inl (fun j => zI ((z0N j : Nat) : Int)))), (a14, .inr (3, [.ref b21])), (b21, .inl (c 2, 4 * 255, .inr (.inl z0J))), (a28, .inr (3, [.ref b34])), (b34, .inl (c 2, 4 * 40, .inr (.inl z0J))), (a41, .inr (3, [.ref b47])), (b47, .inl (c 2, 4 * 40, .inr (.inl z0J)))] H := hP
  have hD : va_D A [(d, .inr (0, [.ref a8, .ref a14, .ref a28, .ref a41, .null, .int (zI 0), .int (zI 0)])), (a8, .inl (c 0, 255, .inl (fun j => zI ((z0N j : Nat) : Int)))), (a14, .inr (3, [.ref b21])), (b21, .inl (c 2, 4 * 255, .inr (.inl z0J))), (a28, .inr (3, [.ref b34])), (b34, .inl (c 2, 4 * 40, .inr (.inl z0J))), (a41, .inr (3, [.ref b47])), (b47, .inl (c 2, 4 * 40, .inr (.inl z0J)))] := hD
  refine lv_aload_n hx hb d_Dr_init_53 rfl (lv_at hl 0 rfl) ?_
  refine lv_bipush (v := zI 40) hx hb d_Dr_init_54 (by decide) ?_
  refine z_newa (atype := .boolean) hx hb (hw k_a_boolean) rfl (fun _ h => h) hK hP hD hS hA 1 rfl (40) (a0 := (40, .inl (fun j => zB (z0B j)))) (z_defZ _) (by omega) (by omega) (by show 40 * 1 ≤ _; omega) (Nat.le_of_ble_eq_true rfl) (Nat.le_of_ble_eq_true rfl) d_Dr_init_56 (fun a56 H hP hD hS => ?_)
  have hP : va_P D vwCl [(d, .inr (0, [.ref a8, .ref a14, .ref a28, .ref a41, .null, .int (zI 0), .int (zI 0)])), (a8, .inl (c 0, 255, .inl (fun j => zI ((z0N j : Nat) : Int)))), (a14, .inr (3, [.ref b21])), (b21, .inl (c 2, 4 * 255, .inr (.inl z0J))), (a28, .inr (3, [.ref b34])), (b34, .inl (c 2, 4 * 40, .inr (.inl z0J))), (a41, .inr (3, [.ref b47])), (b47, .inl (c 2, 4 * 40, .inr (.inl z0J))), (a56, .inl (c 1, 40, .inl (fun j => zB (z0B j))))] H := hP
  have hD : va_D A [(d, .inr (0, [.ref a8, .ref a14, .ref a28, .ref a41, .null, .int (zI 0), .int (zI 0)])), (a8, .inl (c 0, 255, .inl (fun j => zI ((z0N j : Nat) : Int)))), (a14, .inr (3, [.ref b21])), (b21, .inl (c 2, 4 * 255, .inr (.inl z0J))), (a28, .inr (3, [.ref b34])), (b34, .inl (c 2, 4 * 40, .inr (.inl z0J))), (a41, .inr (3, [.ref b47])), (b47, .inl (c 2, 4 * 40, .inr (.inl z0J))), (a56, .inl (c 1, 40, .inl (fun j => zB (z0B j))))] := hD
  refine W.widen (k := 8) (n := 1638) (by omega) (by omega) ?_
  refine va_putF (D := D) (ci := 0) (v := .ref a56) (ty := .array .boolean) (C := R_Dr) (T := T_Dr) (N := 7) hx hb hts (fun w h => List.mem_cons_of_mem _ (inA_Dr w h)) ty_Dr tyok_Dr nm_Dr hown hK hP hD hS 0 rfl rfl 4 (by decide) (hw k_Dr_f30) (fun _ h9 => h9) rfl hin rfl (by decide +kernel) rfl rfl (Nat.le_of_ble_eq_true rfl) d_Dr_init_58 (fun H locs hP hD hS => ?_)
  have hP : va_P D vwCl [(d, .inr (0, [.ref a8, .ref a14, .ref a28, .ref a41, .ref a56, .int (zI 0), .int (zI 0)])), (a8, .inl (c 0, 255, .inl (fun j => zI ((z0N j : Nat) : Int)))), (a14, .inr (3, [.ref b21])), (b21, .inl (c 2, 4 * 255, .inr (.inl z0J))), (a28, .inr (3, [.ref b34])), (b34, .inl (c 2, 4 * 40, .inr (.inl z0J))), (a41, .inr (3, [.ref b47])), (b47, .inl (c 2, 4 * 40, .inr (.inl z0J))), (a56, .inl (c 1, 40, .inl (fun j => zB (z0B j))))] H := hP
  have hD : va_D A [(d, .inr (0, [.ref a8, .ref a14, .ref a28, .ref a41, .ref a56, .int (zI 0), .int (zI 0)])), (a8, .inl (c 0, 255, .inl (fun j => zI ((z0N j : Nat) : Int)))), (a14, .inr (3, [.ref b21])), (b21, .inl (c 2, 4 * 255, .inr (.inl z0J))), (a28, .inr (3, [.ref b34])), (b34, .inl (c 2, 4 * 40, .inr (.inl z0J))), (a41, .inr (3, [.ref b47])), (b47, .inl (c 2, 4 * 40, .inr (.inl z0J))), (a56, .inl (c 1, 40, .inl (fun j => zB (z0B j))))] := hD
  subst hQ
  refine W.widen (k := 8) (n := 1638) (by omega) (by omega) ?_
  exact W.vret hx hb hr (fun t9 ht hW => ⟨⟨(a8, a14, b21, a28, b34, a41, b47, a56), rfl, trivial, by show va_P _ _ _ t9.heap; rw [ht]; exact hP.sub [0, 1, 2, 3, 4, 5, 6, 7, 8] rfl, by exact hD.sub [0, 1, 2, 3, 4, 5, 6, 7, 8] (by decide) rfl⟩, hS.F ht⟩) hS.2.2 d_Dr_init_61

def rm_readingInit : Room := { frames := 2, cells := 3, slots := 5005, locals := 42 }
set_option maxHeartbeats 4000000 in
set_option maxRecDepth 100000 in
/-- Reading() -/
theorem c_readingInit (l : Launch) (D : va_G) (c : Nat → ClassId) (rd : Nat) (sz : Nat)  : Met l y_Re_init w_Re_init rm_readingInit (va_Pc [.ref rd] (fun U => (U.heap.size = sz ∧ va_P D vwCl [(rd, .inr (2, [.null, .null, .null, .int (zI 0)]))] U.heap ∧ va_D (fun _ => True) [(rd, .inr (2, [.null, .null, .null, .int (zI 0)]))]) ∧ zK D c U)) (va_Qv (fun (u : Nat × Nat × Nat) => True) (fun (u : Nat × Nat × Nat) t9 => va_P D vwCl [(rd, .inr (2, [.ref u.1, .ref u.2.1, .null, .int (zI 0)])), (u.1, .inl (c 0, 1000, .inl (fun j => zI ((z0N j : Nat) : Int)))), (u.2.1, .inr (3, [.ref u.2.2])), (u.2.2, .inl (c 2, 4 * 1001, .inr (.inl z0J)))] t9.heap ∧ va_D (va_A [(rd, .inr (2, [.null, .null, .null, .int (zI 0)]))] sz) [(rd, .inr (2, [.ref u.1, .ref u.2.1, .null, .int (zI 0)])), (u.1, .inl (c 0, 1000, .inl (fun j => zI ((z0N j : Nat) : Int)))), (u.2.1, .inr (3, [.ref u.2.2])), (u.2.2, .inl (c 2, 4 * 1001, .inr (.inl z0J)))]) (va_A [(rd, .inr (2, [.null, .null, .null, .int (zI 0)]))] sz)) 3 5005 (va_A [(rd, .inr (2, [.null, .null, .null, .int (zI 0)]))] sz) := by
  refine Met.ofW (cc := b_Re_init) (maxL := 1) (ret := none) (by decide) rfl ?_
  intro p e s m args below meth c0 s₁ B hml hv
  obtain ⟨rfl, ⟨hsz, hP, hD0⟩, hKN⟩ := hv
  have hK := hKN.1
  have hN := hKN.2
  have hx := B.exec
  have hb := B.bytes
  have hr := B.returns
  have hts := atoms_spec (ws := w_Re_init) B.pre
  have hw : ∀ {w : Cond}, w ∈ ALLW → w.before _ s = true := fun h => hts _ (List.mem_cons_of_mem _ h)
  have hown : s.vm.findClass R_Re = some m.cls := findClass_of_methodNamed B.named
  have hlocks := B.notSynchronized
  have hin : meth.name = "<init>" := (name_of_methodNamed B.named B.method).1
  subst hsz
  have hD := hD0.self (sz := s.heap.size)
  generalize hAe : va_A [(rd, .inr (2, [.null, .null, .null, .int (zI 0)]))] s.heap.size = A at hD ⊢
  have hA : ∀ q : Nat, s.heap.size ≤ q → A q := fun q h => by rw [← hAe]; exact Or.inr h
  have hS : va_S A s.heap s.heap [] := va_S.rf
  have hP : va_P D vwCl [(rd, .inr (2, [.null, .null, .null, .int (zI 0)]))] s.heap := hP
  have hl := lv_entry ([.ref rd]) (n := 1) (Nat.le_of_ble_eq_true rfl)
  rw [lg_entry_eq]
  generalize (lg_sl ([.ref rd]) ++ List.replicate (1 - (lg_sl ([.ref rd])).length) Slot.unset).toArray = ls at hl ⊢
  have hl : lv_has ls 1 [(0, .ref rd)] := hl
  generalize hQ : MQ below _ _ _ _ _ _ = Q
  refine lv_aload_n hx hb d_Re_init_0 rfl (lv_at hl 0 rfl) ?_
  refine W.objInit hx hb hown (hw k_Re_m3) (hw k_i_ob) (hw k_c_ob) rfl (by rw [hml]; exact hl.1) rfl d_Re_init_1 (Nat.le_of_ble_eq_true rfl) (Nat.le_of_ble_eq_true rfl) ?_
  refine W.eq (g2 := F0 m 4 ls []) rfl ?_
  refine lv_aload_n hx hb d_Re_init_4 rfl (lv_at hl 0 rfl) ?_
  refine lv_sipush (v := zI 1000) hx hb d_Re_init_5 (by decide) ?_
  refine z_newa (atype := .int) hx hb (hw k_a_int) rfl (fun _ h => h) hK hP hD hS hA 0 rfl (1000) (a0 := (1000, .inl (fun j => zI ((z0N j : Nat) : Int)))) (z_defU _) (by omega) (by omega) (by show 1000 * 4 ≤ _; omega) (Nat.le_of_ble_eq_true rfl) (Nat.le_of_ble_eq_true rfl) d_Re_init_8 (fun a8 H hP hD hS => ?_)
  have hP : va_P D vwCl [(rd, .inr (2, [.null, .null, .null, .int (zI 0)])), (a8, .inl (c 0, 1000, .inl (fun j => zI ((z0N j : Nat) : Int))))] H := hP
  have hD : va_D A [(rd, .inr (2, [.null, .null, .null, .int (zI 0)])), (a8, .inl (c 0, 1000, .inl (fun j => zI ((z0N j : Nat) : Int))))] := hD
  refine W.widen (k := 1) (n := 1000) (by omega) (by omega) ?_
  refine va_putF (D := D) (ci := 2) (v := .ref a8) (ty := .array .int) (C := R_Re) (T := T_Re) (N := 4) hx hb hts (fun w h => List.mem_cons_of_mem _ (inA_Re w h)) ty_Re tyok_Re nm_Re hown hK hP hD hS 0 rfl rfl 0 (by decide) (hw k_Re_f9) (fun _ h9 => h9) rfl hin rfl (by decide +kernel) rfl rfl (Nat.le_of_ble_eq_true rfl) d_Re_init_10 (fun H locs hP hD hS => ?_)
  have hP : va_P D vwCl [(rd, .inr (2, [.ref a8, .null, .null, .int (zI 0)])), (a8, .inl (c 0, 1000, .inl (fun j => zI ((z0N j : Nat) : Int))))] H := hP
  have hD : va_D A [(rd, .inr (2, [.ref a8, .null, .null, .int (zI 0)])), (a8, .inl (c 0, 1000, .inl (fun j => zI ((z0N j : Nat) : Int))))] := hD
  refine lv_aload_n hx hb d_Re_init_13 rfl (lv_at hl 0 rfl) ?_
  refine va_new (ci := 3) (fs := [.null]) (C := R_Se) (T := T_Se) (N := 1) hx hb hts (fun w h => List.mem_cons_of_mem _ (inA_Se w h)) ty_Se tyok_Se hown (hw k_Re_c15) (hw k_o_Se) (hw k_n_Se) hK hP hD hS hA rfl (fun j hj => by rcases (show j = 0 by omega) with rfl <;> rfl) (Nat.le_of_ble_eq_true rfl) (Nat.le_of_ble_eq_true rfl) d_Re_init_14 (fun a14 H hP hD hS => ?_)
  have hP : va_P D vwCl [(rd, .inr (2, [.ref a8, .null, .null, .int (zI 0)])), (a8, .inl (c 0, 1000, .inl (fun j => zI ((z0N j : Nat) : Int)))), (a14, .inr (3, [.null]))] H := hP
  have hD : va_D A [(rd, .inr (2, [.ref a8, .null, .null, .int (zI 0)])), (a8, .inl (c 0, 1000, .inl (fun j => zI ((z0N j : Nat) : Int)))), (a14, .inr (3, [.null]))] := hD
  refine W.widen (k := 2) (n := 1001) (by omega) (by omega) ?_
  refine lv_dup hx hb d_Re_init_17 rfl ?_
  refine lv_sipush (v := zI 1001) hx hb d_Re_init_18 (by decide) ?_
  have hPc : va_P D vwCl [(a14, .inr (3, [.null]))] H := hP.sub (ws' := [(a14, .inr (3, [.null]))]) [2] rfl
  have hDc : va_D A [(a14, .inr (3, [.null]))] := hD.sub (ws' := [(a14, .inr (3, [.null]))]) [2] (by decide) rfl
  have hDt : va_D (fun _ => True) [(a14, .inr (3, [.null]))] := hDc.weaken (fun _ _ _ _ => trivial)
  have hFc := va_free (wc := [(a14, .inr (3, [.null]))]) hD hS hA [2] rfl
  refine va_callv (va_runI (rm := (rm_setsInit 4004)) (As := [.int (zI 1001)]) (rest := [.ref a14, .ref rd]) ⟨hx, hb, hml, hown, hts⟩ (c_setsInit l D c a14 1001 4004 H.size (by omega) (by omega)) (cwI 1 hts (gW k_c_Se_init) rfl rfl rfl (hw k_n_Se) (hw k_Re_m17) (hw k_i_Se_init) rfl (by decide +kernel) ⟨Nat.le_of_ble_eq_true rfl, Nat.le_of_ble_eq_true rfl⟩) ⟨zblindA, fun U hU hW => ⟨rfl, ⟨by rw [hU], by rw [hU]; exact hPc, hDt⟩, hKN.moved hW⟩⟩ rfl rfl hl.1 rfl (lv_room (Nat.le_of_ble_eq_true rfl)) d_Re_init_21 ⟨Nat.le_of_ble_eq_true rfl, Nat.le_of_ble_eq_true rfl⟩) hS (fun q _ h => hFc q h) hFc (fun u t9 H1 locs ht hvm hp_2 hB hz1 hk1 hS => ?_)
  obtain ⟨b21, rfl⟩ : ∃ z, z = u := ⟨_, rfl⟩
  have hp_2 : True := hp_2
  obtain ⟨hP1, hD1⟩ := hB
  rw [ht] at hP1
  obtain ⟨hP, hD⟩ := va_join (wr := [(rd, .inr (2, [.ref a8, .null, .null, .int (zI 0)])), (a8, .inl (c 0, 1000, .inl (fun j => zI ((z0N j : Nat) : Int))))]) (w1 := [(a14, .inr (3, [.ref b21])), (b21, .inl (c 2, 4 * 1001, .inr (.inl z0J)))]) hP hD [2] [0, 1] rfl rfl (by decide) (by decide) hk1 hFc hP1 hD1
  generalize H1 = H at hP hS ⊢
  have hP : va_P D vwCl [(rd, .inr (2, [.ref a8, .null, .null, .int (zI 0)])), (a8, .inl (c 0, 1000, .inl (fun j => zI ((z0N j : Nat) : Int)))), (a14, .inr (3, [.ref b21])), (b21, .inl (c 2, 4 * 1001, .inr (.inl z0J)))] H := hP.sub [0, 1, 2, 3] rfl
  have hD : va_D A [(rd, .inr (2, [.ref a8, .null, .null, .int (zI 0)])), (a8, .inl (c 0, 1000, .inl (fun j => zI ((z0N j : Nat) : Int)))), (a14, .inr (3, [.ref b21])), (b21, .inl (c 2, 4 * 1001, .inr (.inl z0J)))] := hD.sub [0, 1, 2, 3] (by decide) rfl
  refine W.widen (k := 3) (n := 5005) (by omega) (by omega) ?_
  refine va_putF (D := D) (ci := 2) (v := .ref a14) (ty := .object "RowModels$Sets") (C := R_Re) (T := T_Re) (N := 4) hx hb hts (fun w h => List.mem_cons_of_mem _ (inA_Re w h)) ty_Re tyok_Re nm_Re hown hK hP hD hS 0 rfl rfl 1 (by decide) (hw k_Re_f20) (fun _ h9 => h9) rfl hin rfl (by decide +kernel) rfl rfl (Nat.le_of_ble_eq_true rfl) d_Re_init_24 (fun H locs hP hD hS => ?_)
  have hP : va_P D vwCl [(rd, .inr (2, [.ref a8, .ref a14, .null, .int (zI 0)])), (a8, .inl (c 0, 1000, .inl (fun j => zI ((z0N j : Nat) : Int)))), (a14, .inr (3, [.ref b21])), (b21, .inl (c 2, 4 * 1001, .inr (.inl z0J)))] H := hP
  have hD : va_D A [(rd, .inr (2, [.ref a8, .ref a14, .null, .int (zI 0)])), (a8, .inl (c 0, 1000, .inl (fun j => zI ((z0N j : Nat) : Int)))), (a14, .inr (3, [.ref b21])), (b21, .inl (c 2, 4 * 1001, .inr (.inl z0J)))] := hD
  subst hQ
  refine W.widen (k := 3) (n := 5005) (by omega) (by omega) ?_
  exact W.vret hx hb hr (fun t9 ht hW => ⟨⟨(a8, a14, b21), rfl, trivial, by show va_P _ _ _ t9.heap; rw [ht]; exact hP.sub [0, 1, 2, 3] rfl, by exact hD.sub [0, 1, 2, 3] (by decide) rfl⟩, hS.F ht⟩) hS.2.2 d_Re_init_27

def rm_modelInit : Room := { frames := 5, cells := 0, slots := 0, locals := 111 }
set_option maxHeartbeats 4000000 in
set_option maxRecDepth 100000 in
/-- Model(entries, comes) -/
theorem c_modelInit (l : Launch) (D : va_G) (c : Nat → ClassId) (mo : Nat) (me : Nat) (ms : Nat) (msw : Nat) (en : Nat → Nat) (ne : Nat) (mf : Nat → Int64) (hne : ne ≤ 255) (hen : ∀ j, j < ne → en j < 300000) : Met l y_Mo_init w_Mo_init rm_modelInit (va_Pc [.ref mo, .ref me, .ref ms] (fun U => (va_P D vwCl [(mo, .inr (1, [.null, .null, .int (zB false)])), (me, .inl (c 0, ne, .inl (fun j => zI ((en j : Nat) : Int)))), (ms, .inr (3, [.ref msw])), (msw, .inl (c 2, 4 * (ne + 1), .inr (.inl mf)))] U.heap ∧ va_D (fun _ => True) [(mo, .inr (1, [.null, .null, .int (zB false)])), (me, .inl (c 0, ne, .inl (fun j => zI ((en j : Nat) : Int)))), (ms, .inr (3, [.ref msw])), (msw, .inl (c 2, 4 * (ne + 1), .inr (.inl mf)))]) ∧ zK D c U)) (va_Qv (fun (u : Unit) => True) (fun (u : Unit) t9 => va_P D vwCl [(mo, .inr (1, [.ref me, .ref ms, .int (zB (!twA en mf ne (ne + 1)))])), (me, .inl (c 0, ne, .inl (fun j => zI ((en j : Nat) : Int)))), (ms, .inr (3, [.ref msw])), (msw, .inl (c 2, 4 * (ne + 1), .inr (.inl mf)))] t9.heap) (zA [(mo, .inr (1, [.null, .null, .int (zB false)])), (me, .inl (c 0, ne, .inl (fun j => zI ((en j : Nat) : Int)))), (ms, .inr (3, [.ref msw])), (msw, .inl (c 2, 4 * (ne + 1), .inr (.inl mf)))])) 0 0 (zA [(mo, .inr (1, [.null, .null, .int (zB false)])), (me, .inl (c 0, ne, .inl (fun j => zI ((en j : Nat) : Int)))), (ms, .inr (3, [.ref msw])), (msw, .inl (c 2, 4 * (ne + 1), .inr (.inl mf)))]) := by
  refine Met.ofW (cc := b_Mo_init) (maxL := 3) (ret := none) (by decide) rfl ?_
  intro p e s m args below meth c0 s₁ B hml hv
  obtain ⟨rfl, ⟨hP, hD0⟩, hKN⟩ := hv
  have hK := hKN.1
  have hN := hKN.2
  have hx := B.exec
  have hb := B.bytes
  have hr := B.returns
  have hts := atoms_spec (ws := w_Mo_init) B.pre
  have hw : ∀ {w : Cond}, w ∈ ALLW → w.before _ s = true := fun h => hts _ (List.mem_cons_of_mem _ h)
  have hown : s.vm.findClass R_Mo = some m.cls := findClass_of_methodNamed B.named
  have hlocks := B.notSynchronized
  have hin : meth.name = "<init>" := (name_of_methodNamed B.named B.method).1
  have hD : va_D (zA [(mo, .inr (1, [.null, .null, .int (zB false)])), (me, .inl (c 0, ne, .inl (fun j => zI ((en j : Nat) : Int)))), (ms, .inr (3, [.ref msw])), (msw, .inl (c 2, 4 * (ne + 1), .inr (.inl mf)))]) [(mo, .inr (1, [.null, .null, .int (zB false)])), (me, .inl (c 0, ne, .inl (fun j => zI ((en j : Nat) : Int)))), (ms, .inr (3, [.ref msw])), (msw, .inl (c 2, 4 * (ne + 1), .inr (.inl mf)))] := ⟨hD0.1, fun k q h => List.mem_map.mpr ⟨q, List.mem_of_getElem? h, rfl⟩⟩
  generalize hAe : zA [(mo, .inr (1, [.null, .null, .int (zB false)])), (me, .inl (c 0, ne, .inl (fun j => zI ((en j : Nat) : Int)))), (ms, .inr (3, [.ref msw])), (msw, .inl (c 2, 4 * (ne + 1), .inr (.inl mf)))] = A at hD ⊢
  have hS : va_S A s.heap s.heap [] := va_S.rf
  have hP : va_P D vwCl [(mo, .inr (1, [.null, .null, .int (zB false)])), (me, .inl (c 0, ne, .inl (fun j => zI ((en j : Nat) : Int)))), (ms, .inr (3, [.ref msw])), (msw, .inl (c 2, 4 * (ne + 1), .inr (.inl mf)))] s.heap := hP
  have hl := lv_entry ([.ref mo, .ref me, .ref ms]) (n := 3) (Nat.le_of_ble_eq_true rfl)
  rw [lg_entry_eq]
  generalize (lg_sl ([.ref mo, .ref me, .ref ms]) ++ List.replicate (3 - (lg_sl ([.ref mo, .ref me, .ref ms])).length) Slot.unset).toArray = ls at hl ⊢
  have hl : lv_has ls 3 [(0, .ref mo), (1, .ref me), (2, .ref ms)] := hl
  generalize hQ : MQ below _ _ _ _ _ _ = Q
  refine lv_aload_n hx hb d_Mo_init_0 rfl (lv_at hl 0 rfl) ?_
  refine W.objInit hx hb hown (hw k_Mo_m3) (hw k_i_ob) (hw k_c_ob) rfl (by rw [hml]; exact hl.1) rfl d_Mo_init_1 (Nat.le_of_ble_eq_true rfl) (Nat.le_of_ble_eq_true rfl) ?_
  refine W.eq (g2 := F0 m 4 ls []) rfl ?_
  refine lv_aload_n hx hb d_Mo_init_4 rfl (lv_at hl 0 rfl) ?_
  refine lv_aload_n hx hb d_Mo_init_5 rfl (lv_at hl 1 rfl) ?_
  refine va_putF (D := D) (ci := 1) (v := .ref me) (ty := .array .int) (C := R_Mo) (T := T_Mo) (N := 3) hx hb hts (fun w h => List.mem_cons_of_mem _ (inA_Mo w h)) ty_Mo tyok_Mo nm_Mo hown hK hP hD hS 0 rfl rfl 0 (by decide) (hw k_Mo_f9) (fun _ h9 => h9) rfl hin rfl (by decide +kernel) rfl rfl (Nat.le_of_ble_eq_true rfl) d_Mo_init_6 (fun H locs hP hD hS => ?_)
  have hP : va_P D vwCl [(mo, .inr (1, [.ref me, .null, .int (zB false)])), (me, .inl (c 0, ne, .inl (fun j => zI ((en j : Nat) : Int)))), (ms, .inr (3, [.ref msw])), (msw, .inl (c 2, 4 * (ne + 1), .inr (.inl mf)))] H := hP
  have hD : va_D A [(mo, .inr (1, [.ref me, .null, .int (zB false)])), (me, .inl (c 0, ne, .inl (fun j => zI ((en j : Nat) : Int)))), (ms, .inr (3, [.ref msw])), (msw, .inl (c 2, 4 * (ne + 1), .inr (.inl mf)))] := hD
  refine lv_aload_n hx hb d_Mo_init_9 rfl (lv_at hl 0 rfl) ?_
  refine lv_aload_n hx hb d_Mo_init_10 rfl (lv_at hl 2 rfl) ?_
  refine va_putF (D := D) (ci := 1) (v := .ref ms) (ty := .object "RowModels$Sets") (C := R_Mo) (T := T_Mo) (N := 3) hx hb hts (fun w h => List.mem_cons_of_mem _ (inA_Mo w h)) ty_Mo tyok_Mo nm_Mo hown hK hP hD hS 0 rfl rfl 1 (by decide) (hw k_Mo_f15) (fun _ h9 => h9) rfl hin rfl (by decide +kernel) rfl rfl (Nat.le_of_ble_eq_true rfl) d_Mo_init_11 (fun H locs hP hD hS => ?_)
  have hP : va_P D vwCl [(mo, .inr (1, [.ref me, .ref ms, .int (zB false)])), (me, .inl (c 0, ne, .inl (fun j => zI ((en j : Nat) : Int)))), (ms, .inr (3, [.ref msw])), (msw, .inl (c 2, 4 * (ne + 1), .inr (.inl mf)))] H := hP
  have hD : va_D A [(mo, .inr (1, [.ref me, .ref ms, .int (zB false)])), (me, .inl (c 0, ne, .inl (fun j => zI ((en j : Nat) : Int)))), (ms, .inr (3, [.ref msw])), (msw, .inl (c 2, 4 * (ne + 1), .inr (.inl mf)))] := hD
  refine lv_aload_n hx hb d_Mo_init_14 rfl (lv_at hl 0 rfl) ?_
  refine lv_aload_n hx hb d_Mo_init_15 rfl (lv_at hl 1 rfl) ?_
  refine lv_aload_n hx hb d_Mo_init_16 rfl (lv_at hl 2 rfl) ?_
  have hPc : va_P D vwCl [(me, .inl (c 0, ne, .inl (fun j => zI ((en j : Nat) : Int)))), (ms, .inr (3, [.ref msw])), (msw, .inl (c 2, 4 * (ne + 1), .inr (.inl mf)))] H := hP.sub (ws' := [(me, .inl (c 0, ne, .inl (fun j => zI ((en j : Nat) : Int)))), (ms, .inr (3, [.ref msw])), (msw, .inl (c 2, 4 * (ne + 1), .inr (.inl mf)))]) [1, 2, 3] rfl
  refine vp_callSi (va_runS (rm := rm_hasTwinsAnywhere) (As := [.ref me, .ref ms]) (rest := [.ref mo]) ⟨hx, hb, hml, hown, hts⟩ (c_hasTwinsAnywhere l D c me ms msw en ne mf (by omega) hen) (va_cwS 2 hts (gWS k_Mo_m19 k_s_Mo_hasTwinsAnywhere k_n_Mo k_c_Mo_hasTwinsAnywhere) rfl rfl rfl (by decide +kernel) ⟨Nat.le_of_ble_eq_true rfl, Nat.le_of_ble_eq_true rfl⟩) ⟨zblind, fun U hU hW => ⟨rfl, by rw [hU]; exact hPc, hKN.moved hW⟩⟩ rfl rfl hl.1 rfl (lv_room (Nat.le_of_ble_eq_true rfl)) d_Mo_init_17 ⟨Nat.zero_le _, Nat.zero_le _⟩).run (fun r hr_1 => ?_)
  subst hr_1
  refine z_ifne_B (tgt := 27) hx hb d_Mo_init_20 (by decide) (fun hc_20 => ?_) (fun hc_20 => ?_)
  · refine lv_iconst (v := zI 0) hx hb d_Mo_init_27 (by decide) ?_
    refine z_top (v2 := .int (zB false)) (congrArg Value.int (by decide)) ?_
    refine va_putF (D := D) (ci := 1) (v := .int (zB false)) (ty := .boolean) (C := R_Mo) (T := T_Mo) (N := 3) hx hb hts (fun w h => List.mem_cons_of_mem _ (inA_Mo w h)) ty_Mo tyok_Mo nm_Mo hown hK hP hD hS 0 rfl rfl 2 (by decide) (hw k_Mo_f23) (fun _ h9 => h9) rfl hin rfl (by decide +kernel) (z_narB _) (z_fitB _) (Nat.le_of_ble_eq_true rfl) d_Mo_init_28 (fun H locs hP hD hS => ?_)
    have hP : va_P D vwCl [(mo, .inr (1, [.ref me, .ref ms, .int (zB false)])), (me, .inl (c 0, ne, .inl (fun j => zI ((en j : Nat) : Int)))), (ms, .inr (3, [.ref msw])), (msw, .inl (c 2, 4 * (ne + 1), .inr (.inl mf)))] H := hP
    have hD : va_D A [(mo, .inr (1, [.ref me, .ref ms, .int (zB false)])), (me, .inl (c 0, ne, .inl (fun j => zI ((en j : Nat) : Int)))), (ms, .inr (3, [.ref msw])), (msw, .inl (c 2, 4 * (ne + 1), .inr (.inl mf)))] := hD
    subst hQ
    exact W.vret hx hb hr (fun t9 ht hW => ⟨⟨(), rfl, trivial, by show va_P _ _ _ t9.heap; rw [ht]; rw [show (!twA en mf ne (ne + 1)) = false by rw [hc_20]; rfl]; exact hP⟩, hS.F ht⟩) hS.2.2 d_Mo_init_31
  · refine lv_iconst (v := zI 1) hx hb d_Mo_init_23 (by decide) ?_
    refine lv_goto (tgt := 28) hx hb d_Mo_init_24 (by decide) ?_
    refine z_top (v2 := .int (zB true)) (congrArg Value.int (by decide)) ?_
    refine va_putF (D := D) (ci := 1) (v := .int (zB true)) (ty := .boolean) (C := R_Mo) (T := T_Mo) (N := 3) hx hb hts (fun w h => List.mem_cons_of_mem _ (inA_Mo w h)) ty_Mo tyok_Mo nm_Mo hown hK hP hD hS 0 rfl rfl 2 (by decide) (hw k_Mo_f23) (fun _ h9 => h9) rfl hin rfl (by decide +kernel) (z_narB _) (z_fitB _) (Nat.le_of_ble_eq_true rfl) d_Mo_init_28 (fun H locs hP hD hS => ?_)
    have hP : va_P D vwCl [(mo, .inr (1, [.ref me, .ref ms, .int (zB true)])), (me, .inl (c 0, ne, .inl (fun j => zI ((en j : Nat) : Int)))), (ms, .inr (3, [.ref msw])), (msw, .inl (c 2, 4 * (ne + 1), .inr (.inl mf)))] H := hP
    have hD : va_D A [(mo, .inr (1, [.ref me, .ref ms, .int (zB true)])), (me, .inl (c 0, ne, .inl (fun j => zI ((en j : Nat) : Int)))), (ms, .inr (3, [.ref msw])), (msw, .inl (c 2, 4 * (ne + 1), .inr (.inl mf)))] := hD
    subst hQ
    exact W.vret hx hb hr (fun t9 ht hW => ⟨⟨(), rfl, trivial, by show va_P _ _ _ t9.heap; rw [ht]; rw [show (!twA en mf ne (ne + 1)) = true by rw [hc_20]; rfl]; exact hP⟩, hS.F ht⟩) hS.2.2 d_Mo_init_31

def rm_sort : Room := { frames := 0, cells := 0, slots := 0, locals := 0 }
set_option maxHeartbeats 4000000 in
set_option maxRecDepth 100000 in
/-- Model.sort -/
theorem c_sort (l : Launch) (D : va_G) (c : Nat → ClassId) (me : Nat) (ne : Nat) (en : Nat → Nat) (hne : ne ≤ 255) (hen : ∀ j, j < ne → en j < 300000) : Met l y_Mo_sort w_Mo_sort rm_sort (va_Pc [.ref me] (fun U => (va_P D vwCl [(me, .inl (c 0, ne, .inl (fun j => zI ((en j : Nat) : Int))))] U.heap ∧ va_D (fun _ => True) [(me, .inl (c 0, ne, .inl (fun j => zI ((en j : Nat) : Int))))]) ∧ zK D c U)) (va_Qv (fun (u : (Nat → Nat)) => srt en u ne) (fun (u : (Nat → Nat)) t9 => va_P D vwCl [(me, .inl (c 0, ne, .inl (fun j => zI ((u j : Nat) : Int))))] t9.heap) (zA [(me, .inl (c 0, ne, .inl (fun j => zI ((en j : Nat) : Int))))])) 0 0 (zA [(me, .inl (c 0, ne, .inl (fun j => zI ((en j : Nat) : Int))))]) := by
  refine Met.ofW (cc := b_Mo_sort) (maxL := 4) (ret := none) (by decide) rfl ?_
  intro p e s m args below meth c0 s₁ B hml hv
  obtain ⟨rfl, ⟨hP, hD0⟩, hKN⟩ := hv
  have hK := hKN.1
  have hN := hKN.2
  have hx := B.exec
  have hb := B.bytes
  have hr := B.returns
  have hts := atoms_spec (ws := w_Mo_sort) B.pre
  have hw : ∀ {w : Cond}, w ∈ ALLW → w.before _ s = true := fun h => hts _ (List.mem_cons_of_mem _ h)
  have hown : s.vm.findClass R_Mo = some m.cls := findClass_of_methodNamed B.named
  have hlocks := B.notSynchronized
  have hD : va_D (zA [(me, .inl (c 0, ne, .inl (fun j => zI ((en j : Nat) : Int))))]) [(me, .inl (c 0, ne, .inl (fun j => zI ((en j : Nat) : Int))))] := ⟨hD0.1, fun k q h => List.mem_map.mpr ⟨q, List.mem_of_getElem? h, rfl⟩⟩
  generalize hAe : zA [(me, .inl (c 0, ne, .inl (fun j => zI ((en j : Nat) : Int))))] = A at hD ⊢
  have hS : va_S A s.heap s.heap [] := va_S.rf
  have hP : va_P D vwCl [(me, .inl (c 0, ne, .inl (fun j => zI ((en j : Nat) : Int))))] s.heap := hP
  have hl := lv_entry ([.ref me]) (n := 4) (Nat.le_of_ble_eq_true rfl)
  rw [lg_entry_eq]
  generalize (lg_sl ([.ref me]) ++ List.replicate (4 - (lg_sl ([.ref me])).length) Slot.unset).toArray = ls at hl ⊢
  have hl : lv_has ls 4 [(0, .ref me)] := hl
  generalize hQ : MQ below _ _ _ _ _ _ = Q
  refine lv_iconst (v := zI 1) hx hb d_Mo_sort_0 (by decide) ?_
  refine lv_istore_n (lv' := [(1, .int (zI 1)), (0, .ref me)]) hx hb d_Mo_sort_1 rfl hl (by decide) rfl (fun ls hl => ?_)
  have lp_2 : ∀ (k_ : Nat) (i : Nat) (ar : Nat → Nat), ne - i < k_ → (1 ≤ i ∧ i ≤ 256) → (∀ x y, x < y → y < i → ar x ≤ ar y) → (prm en ar ne) → ∀ (H : Heap) (locs : List Loc), va_P D vwCl [(me, .inl (c 0, ne, .inl (fun j => zI ((ar j : Nat) : Int))))] H → va_D A [(me, .inl (c 0, ne, .inl (fun j => zI ((ar j : Nat) : Int))))] → va_S A s.heap H locs → ∀ ls : Array Slot, lv_has ls 4 [(1, .int (zI ((i : Nat) : Int))), (0, .ref me)] → W p l e (headSpec w_Mo_sort rm_sort).room s m ([.ref me] : List Value).toArray below meth c0 H locs 0 0 Q (F0 m 2 ls []) := by
    intro k_
    induction k_ with
    | zero => intro i ar hk_; exact absurd hk_ (Nat.not_lt_zero _)
    | succ k_ ih_2 =>
      intro i ar hk_ hi hs_ hpm H locs hP hD hS ls hl
      refine lv_iload_n hx hb d_Mo_sort_2 rfl (lv_at hl 0 rfl) ?_
      refine lv_aload_n hx hb d_Mo_sort_3 rfl (lv_at hl 1 rfl) ?_
      refine z_alen hx hb hK hP 0 0 rfl rfl d_Mo_sort_4 ?_
      refine z_top (v2 := .int (zI ((ne : Nat) : Int))) rfl ?_
      refine z_icmp_ge (tgt := 51) hx hb (by omega) d_Mo_sort_5 (by decide) (fun hc_5 => ?_) (fun hc_5 => ?_)
      · subst hQ
        exact W.vret hx hb hr (fun t9 ht hW => ⟨⟨ar, rfl, ⟨fun x y h1 h2 => hs_ x y h1 (by omega), hpm⟩, by show va_P _ _ _ t9.heap; rw [ht]; exact hP⟩, hS.F ht⟩) hS.2.2 d_Mo_sort_51
      · have hbi := prm_lt hen hpm i (by omega)
        refine lv_aload_n hx hb d_Mo_sort_8 rfl (lv_at hl 1 rfl) ?_
        refine lv_iload_n hx hb d_Mo_sort_9 rfl (lv_at hl 0 rfl) ?_
        refine z_uald hx hb hK hP 0 0 rfl rfl (i) (by omega) (by omega) (by omega) d_Mo_sort_10 ?_
        refine lv_istore_n (lv' := [(2, .int (zI ((ar i : Nat) : Int))), (1, .int (zI ((i : Nat) : Int))), (0, .ref me)]) hx hb d_Mo_sort_11 rfl hl (by decide) rfl (fun ls hl => ?_)
        refine lv_iload_n hx hb d_Mo_sort_12 rfl (lv_at hl 1 rfl) ?_
        refine lv_istore_n (lv' := [(3, .int (zI ((i : Nat) : Int))), (2, .int (zI ((ar i : Nat) : Int))), (1, .int (zI ((i : Nat) : Int))), (0, .ref me)]) hx hb d_Mo_sort_13 rfl hl (by decide) rfl (fun ls hl => ?_)
        have lp_14 : ∀ (k_ : Nat) (at_ : Nat) (br : Nat → Nat), at_ < k_ → (at_ ≤ i) → (insI br i at_ (ar i)) → (prm en (va_up br at_ (ar i)) ne) → ∀ (H : Heap) (locs : List Loc), va_P D vwCl [(me, .inl (c 0, ne, .inl (fun j => zI ((br j : Nat) : Int))))] H → va_D A [(me, .inl (c 0, ne, .inl (fun j => zI ((br j : Nat) : Int))))] → va_S A s.heap H locs → ∀ ls : Array Slot, lv_has ls 4 [(3, .int (zI ((at_ : Nat) : Int))), (2, .int (zI ((ar i : Nat) : Int))), (1, .int (zI ((i : Nat) : Int))), (0, .ref me)] → W p l e (headSpec w_Mo_sort rm_sort).room s m ([.ref me] : List Value).toArray below meth c0 H locs 0 0 Q (F0 m 14 ls []) := by
          intro k_
          induction k_ with
          | zero => intro at_ br hk_; exact absurd hk_ (Nat.not_lt_zero _)
          | succ k_ ih_14 =>
            intro at_ br hk_ hat hin hpm2 H locs hP hD hS ls hl
            refine lv_iload_n hx hb d_Mo_sort_14 rfl (lv_at hl 0 rfl) ?_
            refine z_if_le (tgt := 41) hx hb (by omega) d_Mo_sort_15 (by decide) (fun hc_15 => ?_) (fun hc_15 => ?_)
            · have he_ : at_ = 0 ∨ br (at_ - 1) ≤ ar i := by first | exact Or.inl (by omega) | exact Or.inr (by omega)
              refine lv_aload_n hx hb d_Mo_sort_41 rfl (lv_at hl 3 rfl) ?_
              refine lv_iload_n hx hb d_Mo_sort_42 rfl (lv_at hl 0 rfl) ?_
              refine lv_iload_n hx hb d_Mo_sort_43 rfl (lv_at hl 1 rfl) ?_
              refine z_uast hx hb hK hP hD hS 0 0 rfl rfl (at_) (by omega) (by omega) (by omega) d_Mo_sort_44 (fun H locs hP hD hS => ?_)
              have hP : va_P D vwCl [(me, .inl (c 0, ne, .inl (fun j => zI (((va_up br at_ (ar i)) j : Nat) : Int))))] H := hP
              have hD : va_D A [(me, .inl (c 0, ne, .inl (fun j => zI (((va_up br at_ (ar i)) j : Nat) : Int))))] := hD
              refine lv_iinc (v := zI ((i + 1 : Nat) : Int)) (lv' := [(1, .int (zI ((i + 1 : Nat) : Int))), (3, .int (zI ((at_ : Nat) : Int))), (2, .int (zI ((ar i : Nat) : Int))), (0, .ref me)]) hx hb d_Mo_sort_45 hl (k := 2) rfl (z_incN _ 1) (by decide) rfl (fun ls hl => ?_)
              refine lv_goto (tgt := 2) hx hb d_Mo_sort_48 (by decide) ?_
              exact ih_2 (i + 1) (va_up br at_ (ar i)) (by omega) (by omega) (ins_end (by omega) hin he_) hpm2 _ _ hP hD hS _ (lv_sub hl [0, 3] rfl)
            · have hba := prm_lt1 hen hpm2 (at_ - 1) (by omega) (by omega)
              refine lv_aload_n hx hb d_Mo_sort_18 rfl (lv_at hl 3 rfl) ?_
              refine lv_iload_n hx hb d_Mo_sort_19 rfl (lv_at hl 0 rfl) ?_
              refine lv_iconst (v := zI 1) hx hb d_Mo_sort_20 (by decide) ?_
              refine z_isub hx hb d_Mo_sort_21 ?_
              refine z_uald hx hb hK hP 0 0 rfl rfl (at_ - 1) (by omega) (by omega) (by omega) d_Mo_sort_22 ?_
              refine lv_iload_n hx hb d_Mo_sort_23 rfl (lv_at hl 1 rfl) ?_
              refine z_icmp_le (tgt := 41) hx hb (by omega) d_Mo_sort_24 (by decide) (fun hc_24 => ?_) (fun hc_24 => ?_)
              · have he_ : at_ = 0 ∨ br (at_ - 1) ≤ ar i := by first | exact Or.inl (by omega) | exact Or.inr (by omega)
                refine lv_aload_n hx hb d_Mo_sort_41 rfl (lv_at hl 3 rfl) ?_
                refine lv_iload_n hx hb d_Mo_sort_42 rfl (lv_at hl 0 rfl) ?_
                refine lv_iload_n hx hb d_Mo_sort_43 rfl (lv_at hl 1 rfl) ?_
                refine z_uast hx hb hK hP hD hS 0 0 rfl rfl (at_) (by omega) (by omega) (by omega) d_Mo_sort_44 (fun H locs hP hD hS => ?_)
                have hP : va_P D vwCl [(me, .inl (c 0, ne, .inl (fun j => zI (((va_up br at_ (ar i)) j : Nat) : Int))))] H := hP
                have hD : va_D A [(me, .inl (c 0, ne, .inl (fun j => zI (((va_up br at_ (ar i)) j : Nat) : Int))))] := hD
                refine lv_iinc (v := zI ((i + 1 : Nat) : Int)) (lv' := [(1, .int (zI ((i + 1 : Nat) : Int))), (3, .int (zI ((at_ : Nat) : Int))), (2, .int (zI ((ar i : Nat) : Int))), (0, .ref me)]) hx hb d_Mo_sort_45 hl (k := 2) rfl (z_incN _ 1) (by decide) rfl (fun ls hl => ?_)
                refine lv_goto (tgt := 2) hx hb d_Mo_sort_48 (by decide) ?_
                exact ih_2 (i + 1) (va_up br at_ (ar i)) (by omega) (by omega) (ins_end (by omega) hin he_) hpm2 _ _ hP hD hS _ (lv_sub hl [0, 3] rfl)
              · refine lv_aload_n hx hb d_Mo_sort_27 rfl (lv_at hl 3 rfl) ?_
                refine lv_iload_n hx hb d_Mo_sort_28 rfl (lv_at hl 0 rfl) ?_
                refine lv_aload_n hx hb d_Mo_sort_29 rfl (lv_at hl 3 rfl) ?_
                refine lv_iload_n hx hb d_Mo_sort_30 rfl (lv_at hl 0 rfl) ?_
                refine lv_iconst (v := zI 1) hx hb d_Mo_sort_31 (by decide) ?_
                refine z_isub hx hb d_Mo_sort_32 ?_
                refine z_uald hx hb hK hP 0 0 rfl rfl (at_ - 1) (by omega) (by omega) (by omega) d_Mo_sort_33 ?_
                refine z_uast hx hb hK hP hD hS 0 0 rfl rfl (at_) (by omega) (by omega) (by omega) d_Mo_sort_34 (fun H locs hP hD hS => ?_)
                have hP : va_P D vwCl [(me, .inl (c 0, ne, .inl (fun j => zI (((va_up br at_ (br (at_ - 1))) j : Nat) : Int))))] H := hP
                have hD : va_D A [(me, .inl (c 0, ne, .inl (fun j => zI (((va_up br at_ (br (at_ - 1))) j : Nat) : Int))))] := hD
                refine lv_iinc (v := zI (((at_ : Nat) : Int) + (-1))) (lv' := [(3, .int (zI (((at_ : Nat) : Int) + (-1)))), (2, .int (zI ((ar i : Nat) : Int))), (1, .int (zI ((i : Nat) : Int))), (0, .ref me)]) hx hb d_Mo_sort_35 hl (k := 0) rfl (zI_add _ _) (by decide) rfl (fun ls hl => ?_)
                refine lv_goto (tgt := 14) hx hb d_Mo_sort_38 (by decide) ?_
                exact ih_14 (at_ - 1) (va_up br at_ (br (at_ - 1))) (by omega) (by omega) (ins_step1 (by omega) (by omega) hin (by omega)) (ins_prm1 (by omega) (by omega) hpm2) _ _ hP hD hS _ (by rw [show ((at_ - 1 : Nat) : Int) = ((at_ : Nat) : Int) + (-1) by omega]; exact lv_sub hl [0, 1, 2, 3] rfl)
        exact lp_14 _ i ar (Nat.lt_succ_self _) (by omega) (ins_start hs_) (prm_self hpm) _ _ hP hD hS _ (lv_sub hl [0, 1, 2, 3] rfl)
  exact lp_2 _ 1 en (Nat.lt_succ_self _) (by omega) (fun x y h1 h2 => by omega) (prm_rf _ _) _ _ hP hD hS _ (lv_sub hl [0, 1] rfl)

def rm_toModel : Room := { frames := 6, cells := 4, slots := 1283, locals := 133 }
set_option maxHeartbeats 4000000 in
set_option maxRecDepth 100000 in
/-- Draft.toModel -/
theorem c_toModel (l : Launch) (D : va_G) (c : Nat → ClassId) (d : Nat) (dn : Nat) (df : Nat) (dfw : Nat) (di : Nat) (diw : Nat) (dl : Nat) (dlw : Nat) (dm : Nat) (nm : Nat → Nat) (fw : Nat → Int64) (iw : Nat → Int64) (lw : Nat → Int64) (mb : Nat → Bool) (nc : Nat) (pp : Nat) (sz : Nat) (hc : nc ≤ 255) (hnm : ∀ j, j < nc → nm j < 1001) : Met l y_Dr_toModel w_Dr_toModel rm_toModel (va_Pc [.ref d] (fun U => (U.heap.size = sz ∧ va_P D vwCl [(d, .inr (0, [.ref dn, .ref df, .ref di, .ref dl, .ref dm, .int (zI ((nc : Nat) : Int)), .int (zI ((pp : Nat) : Int))])), (dn, .inl (c 0, 255, .inl (fun j => zI ((nm j : Nat) : Int)))), (df, .inr (3, [.ref dfw])), (dfw, .inl (c 2, 4 * 255, .inr (.inl fw))), (di, .inr (3, [.ref diw])), (diw, .inl (c 2, 4 * 40, .inr (.inl iw))), (dl, .inr (3, [.ref dlw])), (dlw, .inl (c 2, 4 * 40, .inr (.inl lw))), (dm, .inl (c 1, 40, .inl (fun j => zB (mb j))))] U.heap ∧ va_D (fun _ => True) [(d, .inr (0, [.ref dn, .ref df, .ref di, .ref dl, .ref dm, .int (zI ((nc : Nat) : Int)), .int (zI ((pp : Nat) : Int))])), (dn, .inl (c 0, 255, .inl (fun j => zI ((nm j : Nat) : Int)))), (df, .inr (3, [.ref dfw])), (dfw, .inl (c 2, 4 * 255, .inr (.inl fw))), (di, .inr (3, [.ref diw])), (diw, .inl (c 2, 4 * 40, .inr (.inl iw))), (dl, .inr (3, [.ref dlw])), (dlw, .inl (c 2, 4 * 40, .inr (.inl lw))), (dm, .inl (c 1, 40, .inl (fun j => zB (mb j))))]) ∧ zK D c U)) (va_Qr (fun (u : Nat × Nat × Nat × (Nat → Nat)) => srt (tmN nm nc) u.2.2.2 nc) (fun (u : Nat × Nat × Nat × (Nat → Nat)) (a : Nat) t9 => va_P D vwCl [(d, .inr (0, [.ref dn, .ref df, .ref di, .ref dl, .ref dm, .int (zI ((nc : Nat) : Int)), .int (zI ((pp : Nat) : Int))])), (dn, .inl (c 0, 255, .inl (fun j => zI ((nm j : Nat) : Int)))), (df, .inr (3, [.ref dfw])), (dfw, .inl (c 2, 4 * 255, .inr (.inl fw))), (di, .inr (3, [.ref diw])), (diw, .inl (c 2, 4 * 40, .inr (.inl iw))), (dl, .inr (3, [.ref dlw])), (dlw, .inl (c 2, 4 * 40, .inr (.inl lw))), (dm, .inl (c 1, 40, .inl (fun j => zB (mb j)))), (a, .inr (1, [.ref u.1, .ref u.2.1, .int (zB (!twA u.2.2.2 (tmE fw iw lw (mb 0) nc) nc (nc + 1)))])), (u.1, .inl (c 0, nc, .inl (fun j => zI ((u.2.2.2 j : Nat) : Int)))), (u.2.1, .inr (3, [.ref u.2.2.1])), (u.2.2.1, .inl (c 2, 4 * (nc + 1), .inr (.inl (tmE fw iw lw (mb 0) nc))))] t9.heap ∧ va_D (va_A [(d, .inr (0, [.ref dn, .ref df, .ref di, .ref dl, .ref dm, .int (zI ((nc : Nat) : Int)), .int (zI ((pp : Nat) : Int))])), (dn, .inl (c 0, 255, .inl (fun j => zI ((nm j : Nat) : Int)))), (df, .inr (3, [.ref dfw])), (dfw, .inl (c 2, 4 * 255, .inr (.inl fw))), (di, .inr (3, [.ref diw])), (diw, .inl (c 2, 4 * 40, .inr (.inl iw))), (dl, .inr (3, [.ref dlw])), (dlw, .inl (c 2, 4 * 40, .inr (.inl lw))), (dm, .inl (c 1, 40, .inl (fun j => zB (mb j))))] sz) [(d, .inr (0, [.ref dn, .ref df, .ref di, .ref dl, .ref dm, .int (zI ((nc : Nat) : Int)), .int (zI ((pp : Nat) : Int))])), (dn, .inl (c 0, 255, .inl (fun j => zI ((nm j : Nat) : Int)))), (df, .inr (3, [.ref dfw])), (dfw, .inl (c 2, 4 * 255, .inr (.inl fw))), (di, .inr (3, [.ref diw])), (diw, .inl (c 2, 4 * 40, .inr (.inl iw))), (dl, .inr (3, [.ref dlw])), (dlw, .inl (c 2, 4 * 40, .inr (.inl lw))), (dm, .inl (c 1, 40, .inl (fun j => zB (mb j)))), (a, .inr (1, [.ref u.1, .ref u.2.1, .int (zB (!twA u.2.2.2 (tmE fw iw lw (mb 0) nc) nc (nc + 1)))])), (u.1, .inl (c 0, nc, .inl (fun j => zI ((u.2.2.2 j : Nat) : Int)))), (u.2.1, .inr (3, [.ref u.2.2.1])), (u.2.2.1, .inl (c 2, 4 * (nc + 1), .inr (.inl (tmE fw iw lw (mb 0) nc))))]) (va_A [(d, .inr (0, [.ref dn, .ref df, .ref di, .ref dl, .ref dm, .int (zI ((nc : Nat) : Int)), .int (zI ((pp : Nat) : Int))])), (dn, .inl (c 0, 255, .inl (fun j => zI ((nm j : Nat) : Int)))), (df, .inr (3, [.ref dfw])), (dfw, .inl (c 2, 4 * 255, .inr (.inl fw))), (di, .inr (3, [.ref diw])), (diw, .inl (c 2, 4 * 40, .inr (.inl iw))), (dl, .inr (3, [.ref dlw])), (dlw, .inl (c 2, 4 * 40, .inr (.inl lw))), (dm, .inl (c 1, 40, .inl (fun j => zB (mb j))))] sz)) 4 1283 (va_A [(d, .inr (0, [.ref dn, .ref df, .ref di, .ref dl, .ref dm, .int (zI ((nc : Nat) : Int)), .int (zI ((pp : Nat) : Int))])), (dn, .inl (c 0, 255, .inl (fun j => zI ((nm j : Nat) : Int)))), (df, .inr (3, [.ref dfw])), (dfw, .inl (c 2, 4 * 255, .inr (.inl fw))), (di, .inr (3, [.ref diw])), (diw, .inl (c 2, 4 * 40, .inr (.inl iw))), (dl, .inr (3, [.ref dlw])), (dlw, .inl (c 2, 4 * 40, .inr (.inl lw))), (dm, .inl (c 1, 40, .inl (fun j => zB (mb j))))] sz) := by
  refine Met.ofW (cc := b_Dr_toModel) (maxL := 4) (ret := (some (.object "RowModels$Model"))) (by decide) rfl ?_
  intro p e s m args below meth c0 s₁ B hml hv
  obtain ⟨rfl, ⟨hsz, hP, hD0⟩, hKN⟩ := hv
  have hK := hKN.1
  have hN := hKN.2
  have hx := B.exec
  have hb := B.bytes
  have hr := B.returns
  have hts := atoms_spec (ws := w_Dr_toModel) B.pre
  have hw : ∀ {w : Cond}, w ∈ ALLW → w.before _ s = true := fun h => hts _ (List.mem_cons_of_mem _ h)
  have hown : s.vm.findClass R_Dr = some m.cls := findClass_of_methodNamed B.named
  have hlocks := B.notSynchronized
  subst hsz
  have hD := hD0.self (sz := s.heap.size)
  generalize hAe : va_A [(d, .inr (0, [.ref dn, .ref df, .ref di, .ref dl, .ref dm, .int (zI ((nc : Nat) : Int)), .int (zI ((pp : Nat) : Int))])), (dn, .inl (c 0, 255, .inl (fun j => zI ((nm j : Nat) : Int)))), (df, .inr (3, [.ref dfw])), (dfw, .inl (c 2, 4 * 255, .inr (.inl fw))), (di, .inr (3, [.ref diw])), (diw, .inl (c 2, 4 * 40, .inr (.inl iw))), (dl, .inr (3, [.ref dlw])), (dlw, .inl (c 2, 4 * 40, .inr (.inl lw))), (dm, .inl (c 1, 40, .inl (fun j => zB (mb j))))] s.heap.size = A at hD ⊢
  have hA : ∀ q : Nat, s.heap.size ≤ q → A q := fun q h => by rw [← hAe]; exact Or.inr h
  have hS : va_S A s.heap s.heap [] := va_S.rf
  have hP : va_P D vwCl [(d, .inr (0, [.ref dn, .ref df, .ref di, .ref dl, .ref dm, .int (zI ((nc : Nat) : Int)), .int (zI ((pp : Nat) : Int))])), (dn, .inl (c 0, 255, .inl (fun j => zI ((nm j : Nat) : Int)))), (df, .inr (3, [.ref dfw])), (dfw, .inl (c 2, 4 * 255, .inr (.inl fw))), (di, .inr (3, [.ref diw])), (diw, .inl (c 2, 4 * 40, .inr (.inl iw))), (dl, .inr (3, [.ref dlw])), (dlw, .inl (c 2, 4 * 40, .inr (.inl lw))), (dm, .inl (c 1, 40, .inl (fun j => zB (mb j))))] s.heap := hP
  have hl := lv_entry ([.ref d]) (n := 4) (Nat.le_of_ble_eq_true rfl)
  rw [lg_entry_eq]
  generalize (lg_sl ([.ref d]) ++ List.replicate (4 - (lg_sl ([.ref d])).length) Slot.unset).toArray = ls at hl ⊢
  have hl : lv_has ls 4 [(0, .ref d)] := hl
  generalize hQ : MQ below _ _ _ _ _ _ = Q
  refine lv_aload_n hx hb d_Dr_toModel_0 rfl (lv_at hl 0 rfl) ?_
  refine va_get (D := D) (ci := 0) (v := .int (zI ((nc : Nat) : Int))) (C := R_Dr) (T := T_Dr) (N := 7) hx hb hts (fun w h => List.mem_cons_of_mem _ (inA_Dr w h)) hown hK hP 0 rfl rfl 5 (by decide) (hw k_Dr_f38) (fun _ h9 => h9) rfl d_Dr_toModel_1 ?_
  refine lv_iconst (v := zI 0) hx hb d_Dr_toModel_4 (by decide) ?_
  refine va_mmax hx hb (by rw [hml]; exact hl.1.symm) hown (hw k_Dr_m63) (hw k_s_mx) (hw k_n_mx) (hw k_c_mx) (Nat.le_of_ble_eq_true rfl) (Nat.le_of_ble_eq_true rfl) (Nat.le_of_ble_eq_true rfl) (Nat.le_of_ble_eq_true rfl) d_Dr_toModel_5 ?_
  refine z_top (v2 := .int (zI ((nc : Nat) : Int))) (congrArg Value.int (z_max0 _ (by omega))) ?_
  refine z_newa (atype := .int) hx hb (hw k_a_int) rfl (fun _ h => h) hK hP hD hS hA 0 rfl (nc) (a0 := (nc, .inl (fun j => zI ((z0N j : Nat) : Int)))) (z_defU _) (by omega) (by omega) (by show nc * 4 ≤ _; omega) (Nat.le_of_ble_eq_true rfl) (show 0 + nc ≤ 1283 by omega) d_Dr_toModel_8 (fun a8 H hP hD hS => ?_)
  have hP : va_P D vwCl [(d, .inr (0, [.ref dn, .ref df, .ref di, .ref dl, .ref dm, .int (zI ((nc : Nat) : Int)), .int (zI ((pp : Nat) : Int))])), (dn, .inl (c 0, 255, .inl (fun j => zI ((nm j : Nat) : Int)))), (df, .inr (3, [.ref dfw])), (dfw, .inl (c 2, 4 * 255, .inr (.inl fw))), (di, .inr (3, [.ref diw])), (diw, .inl (c 2, 4 * 40, .inr (.inl iw))), (dl, .inr (3, [.ref dlw])), (dlw, .inl (c 2, 4 * 40, .inr (.inl lw))), (dm, .inl (c 1, 40, .inl (fun j => zB (mb j)))), (a8, .inl (c 0, nc, .inl (fun j => zI ((z0N j : Nat) : Int))))] H := hP
  have hD : va_D A [(d, .inr (0, [.ref dn, .ref df, .ref di, .ref dl, .ref dm, .int (zI ((nc : Nat) : Int)), .int (zI ((pp : Nat) : Int))])), (dn, .inl (c 0, 255, .inl (fun j => zI ((nm j : Nat) : Int)))), (df, .inr (3, [.ref dfw])), (dfw, .inl (c 2, 4 * 255, .inr (.inl fw))), (di, .inr (3, [.ref diw])), (diw, .inl (c 2, 4 * 40, .inr (.inl iw))), (dl, .inr (3, [.ref dlw])), (dlw, .inl (c 2, 4 * 40, .inr (.inl lw))), (dm, .inl (c 1, 40, .inl (fun j => zB (mb j)))), (a8, .inl (c 0, nc, .inl (fun j => zI ((z0N j : Nat) : Int))))] := hD
  refine W.widen (k := 1) (n := 255) (by omega) (by omega) ?_
  refine lv_astore_n (lv' := [(1, .ref a8), (0, .ref d)]) hx hb d_Dr_toModel_10 rfl hl (by decide) rfl (fun ls hl => ?_)
  refine va_new (ci := 3) (fs := [.null]) (C := R_Se) (T := T_Se) (N := 1) hx hb hts (fun w h => List.mem_cons_of_mem _ (inA_Se w h)) ty_Se tyok_Se hown (hw k_Dr_c15) (hw k_o_Se) (hw k_n_Se) hK hP hD hS hA rfl (fun j hj => by rcases (show j = 0 by omega) with rfl <;> rfl) (Nat.le_of_ble_eq_true rfl) (Nat.le_of_ble_eq_true rfl) d_Dr_toModel_11 (fun a11 H hP hD hS => ?_)
  have hP : va_P D vwCl [(d, .inr (0, [.ref dn, .ref df, .ref di, .ref dl, .ref dm, .int (zI ((nc : Nat) : Int)), .int (zI ((pp : Nat) : Int))])), (dn, .inl (c 0, 255, .inl (fun j => zI ((nm j : Nat) : Int)))), (df, .inr (3, [.ref dfw])), (dfw, .inl (c 2, 4 * 255, .inr (.inl fw))), (di, .inr (3, [.ref diw])), (diw, .inl (c 2, 4 * 40, .inr (.inl iw))), (dl, .inr (3, [.ref dlw])), (dlw, .inl (c 2, 4 * 40, .inr (.inl lw))), (dm, .inl (c 1, 40, .inl (fun j => zB (mb j)))), (a8, .inl (c 0, nc, .inl (fun j => zI ((z0N j : Nat) : Int)))), (a11, .inr (3, [.null]))] H := hP
  have hD : va_D A [(d, .inr (0, [.ref dn, .ref df, .ref di, .ref dl, .ref dm, .int (zI ((nc : Nat) : Int)), .int (zI ((pp : Nat) : Int))])), (dn, .inl (c 0, 255, .inl (fun j => zI ((nm j : Nat) : Int)))), (df, .inr (3, [.ref dfw])), (dfw, .inl (c 2, 4 * 255, .inr (.inl fw))), (di, .inr (3, [.ref diw])), (diw, .inl (c 2, 4 * 40, .inr (.inl iw))), (dl, .inr (3, [.ref dlw])), (dlw, .inl (c 2, 4 * 40, .inr (.inl lw))), (dm, .inl (c 1, 40, .inl (fun j => zB (mb j)))), (a8, .inl (c 0, nc, .inl (fun j => zI ((z0N j : Nat) : Int)))), (a11, .inr (3, [.null]))] := hD
  refine W.widen (k := 2) (n := 256) (by omega) (by omega) ?_
  refine lv_dup hx hb d_Dr_toModel_14 rfl ?_
  refine lv_aload_n hx hb d_Dr_toModel_15 rfl (lv_at hl 1 rfl) ?_
  refine va_get (D := D) (ci := 0) (v := .int (zI ((nc : Nat) : Int))) (C := R_Dr) (T := T_Dr) (N := 7) hx hb hts (fun w h => List.mem_cons_of_mem _ (inA_Dr w h)) hown hK hP 0 rfl rfl 5 (by decide) (hw k_Dr_f38) (fun _ h9 => h9) rfl d_Dr_toModel_16 ?_
  refine lv_iconst (v := zI 1) hx hb d_Dr_toModel_19 (by decide) ?_
  refine z_iadd hx hb d_Dr_toModel_20 ?_
  refine z_top (v2 := .int (zI ((nc + 1 : Nat) : Int))) (congrArg Value.int (congrArg zI (by omega))) ?_
  have hPc : va_P D vwCl [(a11, .inr (3, [.null]))] H := hP.sub (ws' := [(a11, .inr (3, [.null]))]) [10] rfl
  have hDc : va_D A [(a11, .inr (3, [.null]))] := hD.sub (ws' := [(a11, .inr (3, [.null]))]) [10] (by decide) rfl
  have hDt : va_D (fun _ => True) [(a11, .inr (3, [.null]))] := hDc.weaken (fun _ _ _ _ => trivial)
  have hFc := va_free (wc := [(a11, .inr (3, [.null]))]) hD hS hA [10] rfl
  refine va_callv (va_runI (rm := (rm_setsInit 1024)) (As := [.int (zI ((nc + 1 : Nat) : Int))]) (rest := [.ref a11]) ⟨hx, hb, hml, hown, hts⟩ (c_setsInit l D c a11 (nc + 1) 1024 H.size (by omega) (by omega)) (cwI 1 hts (gW k_c_Se_init) rfl rfl rfl (hw k_n_Se) (hw k_Dr_m17) (hw k_i_Se_init) rfl (by decide +kernel) ⟨Nat.le_of_ble_eq_true rfl, Nat.le_of_ble_eq_true rfl⟩) ⟨zblindA, fun U hU hW => ⟨rfl, ⟨by rw [hU], by rw [hU]; exact hPc, hDt⟩, hKN.moved hW⟩⟩ rfl rfl hl.1 rfl (lv_room (Nat.le_of_ble_eq_true rfl)) d_Dr_toModel_21 ⟨Nat.le_of_ble_eq_true rfl, Nat.le_of_ble_eq_true rfl⟩) hS (fun q _ h => hFc q h) hFc (fun u t9 H1 locs ht hvm hp_2 hB hz1 hk1 hS => ?_)
  obtain ⟨b21, rfl⟩ : ∃ z, z = u := ⟨_, rfl⟩
  have hp_2 : True := hp_2
  obtain ⟨hP1, hD1⟩ := hB
  rw [ht] at hP1
  obtain ⟨hP, hD⟩ := va_join (wr := [(d, .inr (0, [.ref dn, .ref df, .ref di, .ref dl, .ref dm, .int (zI ((nc : Nat) : Int)), .int (zI ((pp : Nat) : Int))])), (dn, .inl (c 0, 255, .inl (fun j => zI ((nm j : Nat) : Int)))), (df, .inr (3, [.ref dfw])), (dfw, .inl (c 2, 4 * 255, .inr (.inl fw))), (di, .inr (3, [.ref diw])), (diw, .inl (c 2, 4 * 40, .inr (.inl iw))), (dl, .inr (3, [.ref dlw])), (dlw, .inl (c 2, 4 * 40, .inr (.inl lw))), (dm, .inl (c 1, 40, .inl (fun j => zB (mb j)))), (a8, .inl (c 0, nc, .inl (fun j => zI ((z0N j : Nat) : Int))))]) (w1 := [(a11, .inr (3, [.ref b21])), (b21, .inl (c 2, 4 * (nc + 1), .inr (.inl z0J)))]) hP hD [10] [0, 1, 2, 3, 4, 5, 6, 7, 8, 9] rfl rfl (by decide) (by decide) hk1 hFc hP1 hD1
  generalize H1 = H at hP hS ⊢
  have hP : va_P D vwCl [(d, .inr (0, [.ref dn, .ref df, .ref di, .ref dl, .ref dm, .int (zI ((nc : Nat) : Int)), .int (zI ((pp : Nat) : Int))])), (dn, .inl (c 0, 255, .inl (fun j => zI ((nm j : Nat) : Int)))), (df, .inr (3, [.ref dfw])), (dfw, .inl (c 2, 4 * 255, .inr (.inl fw))), (di, .inr (3, [.ref diw])), (diw, .inl (c 2, 4 * 40, .inr (.inl iw))), (dl, .inr (3, [.ref dlw])), (dlw, .inl (c 2, 4 * 40, .inr (.inl lw))), (dm, .inl (c 1, 40, .inl (fun j => zB (mb j)))), (a8, .inl (c 0, nc, .inl (fun j => zI ((z0N j : Nat) : Int)))), (a11, .inr (3, [.ref b21])), (b21, .inl (c 2, 4 * (nc + 1), .inr (.inl z0J)))] H := hP.sub [0, 1, 2, 3, 4, 5, 6, 7, 8, 9, 10, 11] rfl
  have hD : va_D A [(d, .inr (0, [.ref dn, .ref df, .ref di, .ref dl, .ref dm, .int (zI ((nc : Nat) : Int)), .int (zI ((pp : Nat) : Int))])), (dn, .inl (c 0, 255, .inl (fun j => zI ((nm j : Nat) : Int)))), (df, .inr (3, [.ref dfw])), (dfw, .inl (c 2, 4 * 255, .inr (.inl fw))), (di, .inr (3, [.ref diw])), (diw, .inl (c 2, 4 * 40, .inr (.inl iw))), (dl, .inr (3, [.ref dlw])), (dlw, .inl (c 2, 4 * 40, .inr (.inl lw))), (dm, .inl (c 1, 40, .inl (fun j => zB (mb j)))), (a8, .inl (c 0, nc, .inl (fun j => zI ((z0N j : Nat) : Int)))), (a11, .inr (3, [.ref b21])), (b21, .inl (c 2, 4 * (nc + 1), .inr (.inl z0J)))] := hD.sub [0, 1, 2, 3, 4, 5, 6, 7, 8, 9, 10, 11] (by decide) rfl
  refine W.widen (k := 3) (n := 1280) (by omega) (by omega) ?_
  refine lv_astore_n (lv' := [(2, .ref a11), (1, .ref a8), (0, .ref d)]) hx hb d_Dr_toModel_24 rfl hl (by decide) rfl (fun ls hl => ?_)
  refine lv_iconst (v := zI 0) hx hb d_Dr_toModel_25 (by decide) ?_
  refine lv_istore_n (lv' := [(3, .int (zI 0)), (2, .ref a11), (1, .ref a8), (0, .ref d)]) hx hb d_Dr_toModel_26 rfl hl (by decide) rfl (fun ls hl => ?_)
  have lp_27 : ∀ (k_ : Nat) (v : Nat), nc - v < k_ → (v ≤ nc) → ∀ (H : Heap) (locs : List Loc), va_P D vwCl [(d, .inr (0, [.ref dn, .ref df, .ref di, .ref dl, .ref dm, .int (zI ((nc : Nat) : Int)), .int (zI ((pp : Nat) : Int))])), (dn, .inl (c 0, 255, .inl (fun j => zI ((nm j : Nat) : Int)))), (df, .inr (3, [.ref dfw])), (dfw, .inl (c 2, 4 * 255, .inr (.inl fw))), (di, .inr (3, [.ref diw])), (diw, .inl (c 2, 4 * 40, .inr (.inl iw))), (dl, .inr (3, [.ref dlw])), (dlw, .inl (c 2, 4 * 40, .inr (.inl lw))), (dm, .inl (c 1, 40, .inl (fun j => zB (mb j)))), (a8, .inl (c 0, nc, .inl (fun j => zI (((tmN nm v) j : Nat) : Int)))), (a11, .inr (3, [.ref b21])), (b21, .inl (c 2, 4 * (nc + 1), .inr (.inl (tmw fw lw v))))] H → va_D A [(d, .inr (0, [.ref dn, .ref df, .ref di, .ref dl, .ref dm, .int (zI ((nc : Nat) : Int)), .int (zI ((pp : Nat) : Int))])), (dn, .inl (c 0, 255, .inl (fun j => zI ((nm j : Nat) : Int)))), (df, .inr (3, [.ref dfw])), (dfw, .inl (c 2, 4 * 255, .inr (.inl fw))), (di, .inr (3, [.ref diw])), (diw, .inl (c 2, 4 * 40, .inr (.inl iw))), (dl, .inr (3, [.ref dlw])), (dlw, .inl (c 2, 4 * 40, .inr (.inl lw))), (dm, .inl (c 1, 40, .inl (fun j => zB (mb j)))), (a8, .inl (c 0, nc, .inl (fun j => zI (((tmN nm v) j : Nat) : Int)))), (a11, .inr (3, [.ref b21])), (b21, .inl (c 2, 4 * (nc + 1), .inr (.inl (tmw fw lw v))))] → va_S A s.heap H locs → ∀ ls : Array Slot, lv_has ls 4 [(3, .int (zI ((v : Nat) : Int))), (2, .ref a11), (1, .ref a8), (0, .ref d)] → W p l e (headSpec w_Dr_toModel rm_toModel).room s m ([.ref d] : List Value).toArray below meth c0 H locs 3 1280 Q (F0 m 27 ls []) := by
    intro k_
    induction k_ with
    | zero => intro v hk_; exact absurd hk_ (Nat.not_lt_zero _)
    | succ k_ ih_27 =>
      intro v hk_ hv H locs hP hD hS ls hl
      refine lv_iload_n hx hb d_Dr_toModel_27 rfl (lv_at hl 0 rfl) ?_
      refine lv_aload_n hx hb d_Dr_toModel_28 rfl (lv_at hl 2 rfl) ?_
      refine z_alen hx hb hK hP 9 0 rfl rfl d_Dr_toModel_29 ?_
      refine z_top (v2 := .int (zI ((nc : Nat) : Int))) rfl ?_
      refine z_icmp_ge (tgt := 91) hx hb (by omega) d_Dr_toModel_30 (by decide) (fun hc_30 => ?_) (fun hc_30 => ?_)
      · have e_ : v = nc := by omega
        rw [e_] at hP hD
        refine lv_aload_n hx hb d_Dr_toModel_91 rfl (lv_at hl 1 rfl) ?_
        refine lv_aload_n hx hb d_Dr_toModel_92 rfl (lv_at hl 3 rfl) ?_
        refine va_get (D := D) (ci := 0) (v := .int (zI ((nc : Nat) : Int))) (C := R_Dr) (T := T_Dr) (N := 7) hx hb hts (fun w h => List.mem_cons_of_mem _ (inA_Dr w h)) hown hK hP 0 rfl rfl 5 (by decide) (hw k_Dr_f38) (fun _ h9 => h9) rfl d_Dr_toModel_93 ?_
        refine lv_aload_n hx hb d_Dr_toModel_96 rfl (lv_at hl 3 rfl) ?_
        refine va_get (D := D) (ci := 0) (v := .ref di) (C := R_Dr) (T := T_Dr) (N := 7) hx hb hts (fun w h => List.mem_cons_of_mem _ (inA_Dr w h)) hown hK hP 0 rfl rfl 2 (by decide) (hw k_Dr_f24) (fun _ h9 => h9) rfl d_Dr_toModel_97 ?_
        refine lv_iconst (v := zI 0) hx hb d_Dr_toModel_100 (by decide) ?_
        have hPc : va_P D vwCl [(a11, .inr (3, [.ref b21])), (b21, .inl (c 2, 4 * (nc + 1), .inr (.inl (tmw fw lw nc)))), (di, .inr (3, [.ref diw])), (diw, .inl (c 2, 4 * 40, .inr (.inl iw)))] H := hP.sub (ws' := [(a11, .inr (3, [.ref b21])), (b21, .inl (c 2, 4 * (nc + 1), .inr (.inl (tmw fw lw nc)))), (di, .inr (3, [.ref diw])), (diw, .inl (c 2, 4 * 40, .inr (.inl iw)))]) [10, 11, 4, 5] rfl
        have hDc : va_D A [(a11, .inr (3, [.ref b21])), (b21, .inl (c 2, 4 * (nc + 1), .inr (.inl (tmw fw lw nc)))), (di, .inr (3, [.ref diw])), (diw, .inl (c 2, 4 * 40, .inr (.inl iw)))] := hD.sub (ws' := [(a11, .inr (3, [.ref b21])), (b21, .inl (c 2, 4 * (nc + 1), .inr (.inl (tmw fw lw nc)))), (di, .inr (3, [.ref diw])), (diw, .inl (c 2, 4 * 40, .inr (.inl iw)))]) [10, 11, 4, 5] (by decide) rfl
        have hDt : va_D (fun _ => True) [(a11, .inr (3, [.ref b21])), (b21, .inl (c 2, 4 * (nc + 1), .inr (.inl (tmw fw lw nc)))), (di, .inr (3, [.ref diw])), (diw, .inl (c 2, 4 * 40, .inr (.inl iw)))] := hDc.weaken (fun _ _ _ _ => trivial)
        refine z_callv (S := Unit) (w1 := fun u => [(a11, .inr (3, [.ref b21])), (b21, .inl (c 2, 4 * (nc + 1), .inr (.inl (zor (tmw fw lw nc) nc iw 0)))), (di, .inr (3, [.ref diw])), (diw, .inl (c 2, 4 * 40, .inr (.inl iw)))]) (post := fun u => True) (wc := [(a11, .inr (3, [.ref b21])), (b21, .inl (c 2, 4 * (nc + 1), .inr (.inl (tmw fw lw nc)))), (di, .inr (3, [.ref diw])), (diw, .inl (c 2, 4 * 40, .inr (.inl iw)))]) [10, 11, 4, 5] rfl (fun _ => rfl) hP hD hS (va_runV (rm := rm_addAll) (As := [.int (zI ((nc : Nat) : Int)), .ref di, .int (zI 0)]) (rest := []) ⟨hx, hb, hml, hown, hts⟩ (c_addAll l D c a11 b21 (nc + 1) (tmw fw lw nc) nc di diw 40 iw 0 (by omega) (by omega) (by omega) (by omega)) (cwV 3 hts (gWV k_Dr_m55 k_i_Se_addAll k_v_Se_addAll k_n_Se k_c_Se_addAll) rfl rfl rfl (by decide +kernel) ⟨Nat.le_of_ble_eq_true rfl, Nat.le_of_ble_eq_true rfl⟩) ⟨zblindW, va_recv hK hPc (ci := 3) (q0 := 0) rfl rfl, fun U hU hW => ⟨rfl, ⟨by rw [hU]; exact hPc, hDt⟩, hKN.moved hW⟩⟩ rfl rfl hl.1 rfl (lv_room (Nat.le_of_ble_eq_true rfl)) d_Dr_toModel_101 ⟨Nat.le_of_ble_eq_true rfl, Nat.le_of_ble_eq_true rfl⟩) (fun u H locs hp_3 hP hD hS => ?_)
        have hP : va_P D vwCl [(d, .inr (0, [.ref dn, .ref df, .ref di, .ref dl, .ref dm, .int (zI ((nc : Nat) : Int)), .int (zI ((pp : Nat) : Int))])), (dn, .inl (c 0, 255, .inl (fun j => zI ((nm j : Nat) : Int)))), (df, .inr (3, [.ref dfw])), (dfw, .inl (c 2, 4 * 255, .inr (.inl fw))), (di, .inr (3, [.ref diw])), (diw, .inl (c 2, 4 * 40, .inr (.inl iw))), (dl, .inr (3, [.ref dlw])), (dlw, .inl (c 2, 4 * 40, .inr (.inl lw))), (dm, .inl (c 1, 40, .inl (fun j => zB (mb j)))), (a8, .inl (c 0, nc, .inl (fun j => zI (((tmN nm nc) j : Nat) : Int)))), (a11, .inr (3, [.ref b21])), (b21, .inl (c 2, 4 * (nc + 1), .inr (.inl (zor (tmw fw lw nc) nc iw 0))))] H := hP
        have hD : va_D A [(d, .inr (0, [.ref dn, .ref df, .ref di, .ref dl, .ref dm, .int (zI ((nc : Nat) : Int)), .int (zI ((pp : Nat) : Int))])), (dn, .inl (c 0, 255, .inl (fun j => zI ((nm j : Nat) : Int)))), (df, .inr (3, [.ref dfw])), (dfw, .inl (c 2, 4 * 255, .inr (.inl fw))), (di, .inr (3, [.ref diw])), (diw, .inl (c 2, 4 * 40, .inr (.inl iw))), (dl, .inr (3, [.ref dlw])), (dlw, .inl (c 2, 4 * 40, .inr (.inl lw))), (dm, .inl (c 1, 40, .inl (fun j => zB (mb j)))), (a8, .inl (c 0, nc, .inl (fun j => zI (((tmN nm nc) j : Nat) : Int)))), (a11, .inr (3, [.ref b21])), (b21, .inl (c 2, 4 * (nc + 1), .inr (.inl (zor (tmw fw lw nc) nc iw 0))))] := hD
        refine lv_aload_n hx hb d_Dr_toModel_104 rfl (lv_at hl 3 rfl) ?_
        refine va_get (D := D) (ci := 0) (v := .ref dm) (C := R_Dr) (T := T_Dr) (N := 7) hx hb hts (fun w h => List.mem_cons_of_mem _ (inA_Dr w h)) hown hK hP 0 rfl rfl 4 (by decide) (hw k_Dr_f30) (fun _ h9 => h9) rfl d_Dr_toModel_105 ?_
        refine lv_iconst (v := zI 0) hx hb d_Dr_toModel_108 (by decide) ?_
        refine z_zald hx hb hK hP 8 1 rfl rfl (0) (by omega) (by omega) (by omega) d_Dr_toModel_109 ?_
        refine z_ifeq_B (tgt := 124) hx hb d_Dr_toModel_110 (by decide) (fun hc_110 => ?_) (fun hc_110 => ?_)
        · refine lv_aload_n hx hb d_Dr_toModel_124 rfl (lv_at hl 2 rfl) ?_
          have hPc : va_P D vwCl [(a8, .inl (c 0, nc, .inl (fun j => zI (((tmN nm nc) j : Nat) : Int))))] H := hP.sub (ws' := [(a8, .inl (c 0, nc, .inl (fun j => zI (((tmN nm nc) j : Nat) : Int))))]) [9] rfl
          have hDc : va_D A [(a8, .inl (c 0, nc, .inl (fun j => zI (((tmN nm nc) j : Nat) : Int))))] := hD.sub (ws' := [(a8, .inl (c 0, nc, .inl (fun j => zI (((tmN nm nc) j : Nat) : Int))))]) [9] (by decide) rfl
          have hDt : va_D (fun _ => True) [(a8, .inl (c 0, nc, .inl (fun j => zI (((tmN nm nc) j : Nat) : Int))))] := hDc.weaken (fun _ _ _ _ => trivial)
          refine z_callv (S := (Nat → Nat)) (w1 := fun u => [(a8, .inl (c 0, nc, .inl (fun j => zI ((u j : Nat) : Int))))]) (post := fun u => srt (tmN nm nc) u nc) (wc := [(a8, .inl (c 0, nc, .inl (fun j => zI (((tmN nm nc) j : Nat) : Int))))]) [9] rfl (fun _ => rfl) hP hD hS (va_runS (rm := rm_sort) (As := [.ref a8]) (rest := []) ⟨hx, hb, hml, hown, hts⟩ (c_sort l D c a8 nc (tmN nm nc) (by omega) (fun j hj => by rw [tmN_at nm nc j hj]; have := hnm j hj; omega)) (va_cwS 1 hts (gWS k_Dr_m74 k_s_Mo_sort k_n_Mo k_c_Mo_sort) rfl rfl rfl (by decide +kernel) ⟨Nat.le_of_ble_eq_true rfl, Nat.le_of_ble_eq_true rfl⟩) ⟨zblindW, fun U hU hW => ⟨rfl, ⟨by rw [hU]; exact hPc, hDt⟩, hKN.moved hW⟩⟩ rfl rfl hl.1 rfl (lv_room (Nat.le_of_ble_eq_true rfl)) d_Dr_toModel_125 ⟨Nat.le_of_ble_eq_true rfl, Nat.le_of_ble_eq_true rfl⟩) (fun u H locs hso hP hD hS => ?_)
          obtain ⟨en2, rfl⟩ : ∃ z, z = u := ⟨_, rfl⟩
          have hso : srt (tmN nm nc) en2 nc := hso
          have hP : va_P D vwCl [(d, .inr (0, [.ref dn, .ref df, .ref di, .ref dl, .ref dm, .int (zI ((nc : Nat) : Int)), .int (zI ((pp : Nat) : Int))])), (dn, .inl (c 0, 255, .inl (fun j => zI ((nm j : Nat) : Int)))), (df, .inr (3, [.ref dfw])), (dfw, .inl (c 2, 4 * 255, .inr (.inl fw))), (di, .inr (3, [.ref diw])), (diw, .inl (c 2, 4 * 40, .inr (.inl iw))), (dl, .inr (3, [.ref dlw])), (dlw, .inl (c 2, 4 * 40, .inr (.inl lw))), (dm, .inl (c 1, 40, .inl (fun j => zB (mb j)))), (a8, .inl (c 0, nc, .inl (fun j => zI ((en2 j : Nat) : Int)))), (a11, .inr (3, [.ref b21])), (b21, .inl (c 2, 4 * (nc + 1), .inr (.inl (zor (tmw fw lw nc) nc iw 0))))] H := hP
          have hD : va_D A [(d, .inr (0, [.ref dn, .ref df, .ref di, .ref dl, .ref dm, .int (zI ((nc : Nat) : Int)), .int (zI ((pp : Nat) : Int))])), (dn, .inl (c 0, 255, .inl (fun j => zI ((nm j : Nat) : Int)))), (df, .inr (3, [.ref dfw])), (dfw, .inl (c 2, 4 * 255, .inr (.inl fw))), (di, .inr (3, [.ref diw])), (diw, .inl (c 2, 4 * 40, .inr (.inl iw))), (dl, .inr (3, [.ref dlw])), (dlw, .inl (c 2, 4 * 40, .inr (.inl lw))), (dm, .inl (c 1, 40, .inl (fun j => zB (mb j)))), (a8, .inl (c 0, nc, .inl (fun j => zI ((en2 j : Nat) : Int)))), (a11, .inr (3, [.ref b21])), (b21, .inl (c 2, 4 * (nc + 1), .inr (.inl (zor (tmw fw lw nc) nc iw 0))))] := hD
          refine va_new (ci := 1) (fs := [.null, .null, .int (zB false)]) (C := R_Mo) (T := T_Mo) (N := 3) hx hb hts (fun w h => List.mem_cons_of_mem _ (inA_Mo w h)) ty_Mo tyok_Mo hown (hw k_Dr_c70) (hw k_o_Mo) (hw k_n_Mo) hK hP hD hS hA rfl (fun j hj => by rcases (show j = 0 ∨ j = 1 ∨ j = 2 by omega) with rfl | rfl | rfl <;> rfl) (Nat.le_of_ble_eq_true rfl) (Nat.le_of_ble_eq_true rfl) d_Dr_toModel_128 (fun a128 H hP hD hS => ?_)
          have hP : va_P D vwCl [(d, .inr (0, [.ref dn, .ref df, .ref di, .ref dl, .ref dm, .int (zI ((nc : Nat) : Int)), .int (zI ((pp : Nat) : Int))])), (dn, .inl (c 0, 255, .inl (fun j => zI ((nm j : Nat) : Int)))), (df, .inr (3, [.ref dfw])), (dfw, .inl (c 2, 4 * 255, .inr (.inl fw))), (di, .inr (3, [.ref diw])), (diw, .inl (c 2, 4 * 40, .inr (.inl iw))), (dl, .inr (3, [.ref dlw])), (dlw, .inl (c 2, 4 * 40, .inr (.inl lw))), (dm, .inl (c 1, 40, .inl (fun j => zB (mb j)))), (a8, .inl (c 0, nc, .inl (fun j => zI ((en2 j : Nat) : Int)))), (a11, .inr (3, [.ref b21])), (b21, .inl (c 2, 4 * (nc + 1), .inr (.inl (zor (tmw fw lw nc) nc iw 0)))), (a128, .inr (1, [.null, .null, .int (zB false)]))] H := hP
          have hD : va_D A [(d, .inr (0, [.ref dn, .ref df, .ref di, .ref dl, .ref dm, .int (zI ((nc : Nat) : Int)), .int (zI ((pp : Nat) : Int))])), (dn, .inl (c 0, 255, .inl (fun j => zI ((nm j : Nat) : Int)))), (df, .inr (3, [.ref dfw])), (dfw, .inl (c 2, 4 * 255, .inr (.inl fw))), (di, .inr (3, [.ref diw])), (diw, .inl (c 2, 4 * 40, .inr (.inl iw))), (dl, .inr (3, [.ref dlw])), (dlw, .inl (c 2, 4 * 40, .inr (.inl lw))), (dm, .inl (c 1, 40, .inl (fun j => zB (mb j)))), (a8, .inl (c 0, nc, .inl (fun j => zI ((en2 j : Nat) : Int)))), (a11, .inr (3, [.ref b21])), (b21, .inl (c 2, 4 * (nc + 1), .inr (.inl (zor (tmw fw lw nc) nc iw 0)))), (a128, .inr (1, [.null, .null, .int (zB false)]))] := hD
          refine W.widen (k := 4) (n := 1283) (by omega) (by omega) ?_
          refine lv_dup hx hb d_Dr_toModel_131 rfl ?_
          refine lv_aload_n hx hb d_Dr_toModel_132 rfl (lv_at hl 2 rfl) ?_
          refine lv_aload_n hx hb d_Dr_toModel_133 rfl (lv_at hl 1 rfl) ?_
          have hPc : va_P D vwCl [(a128, .inr (1, [.null, .null, .int (zB false)])), (a8, .inl (c 0, nc, .inl (fun j => zI ((en2 j : Nat) : Int)))), (a11, .inr (3, [.ref b21])), (b21, .inl (c 2, 4 * (nc + 1), .inr (.inl (zor (tmw fw lw nc) nc iw 0))))] H := hP.sub (ws' := [(a128, .inr (1, [.null, .null, .int (zB false)])), (a8, .inl (c 0, nc, .inl (fun j => zI ((en2 j : Nat) : Int)))), (a11, .inr (3, [.ref b21])), (b21, .inl (c 2, 4 * (nc + 1), .inr (.inl (zor (tmw fw lw nc) nc iw 0))))]) [12, 9, 10, 11] rfl
          have hDc : va_D A [(a128, .inr (1, [.null, .null, .int (zB false)])), (a8, .inl (c 0, nc, .inl (fun j => zI ((en2 j : Nat) : Int)))), (a11, .inr (3, [.ref b21])), (b21, .inl (c 2, 4 * (nc + 1), .inr (.inl (zor (tmw fw lw nc) nc iw 0))))] := hD.sub (ws' := [(a128, .inr (1, [.null, .null, .int (zB false)])), (a8, .inl (c 0, nc, .inl (fun j => zI ((en2 j : Nat) : Int)))), (a11, .inr (3, [.ref b21])), (b21, .inl (c 2, 4 * (nc + 1), .inr (.inl (zor (tmw fw lw nc) nc iw 0))))]) [12, 9, 10, 11] (by decide) rfl
          have hDt : va_D (fun _ => True) [(a128, .inr (1, [.null, .null, .int (zB false)])), (a8, .inl (c 0, nc, .inl (fun j => zI ((en2 j : Nat) : Int)))), (a11, .inr (3, [.ref b21])), (b21, .inl (c 2, 4 * (nc + 1), .inr (.inl (zor (tmw fw lw nc) nc iw 0))))] := hDc.weaken (fun _ _ _ _ => trivial)
          refine z_callv (S := Unit) (w1 := fun u => [(a128, .inr (1, [.ref a8, .ref a11, .int (zB (!twA en2 (zor (tmw fw lw nc) nc iw 0) nc (nc + 1)))])), (a8, .inl (c 0, nc, .inl (fun j => zI ((en2 j : Nat) : Int)))), (a11, .inr (3, [.ref b21])), (b21, .inl (c 2, 4 * (nc + 1), .inr (.inl (zor (tmw fw lw nc) nc iw 0))))]) (post := fun u => True) (wc := [(a128, .inr (1, [.null, .null, .int (zB false)])), (a8, .inl (c 0, nc, .inl (fun j => zI ((en2 j : Nat) : Int)))), (a11, .inr (3, [.ref b21])), (b21, .inl (c 2, 4 * (nc + 1), .inr (.inl (zor (tmw fw lw nc) nc iw 0))))]) [12, 9, 10, 11] rfl (fun _ => rfl) hP hD hS (va_runI (rm := rm_modelInit) (As := [.ref a8, .ref a11]) (rest := [.ref a128]) ⟨hx, hb, hml, hown, hts⟩ (c_modelInit l D c a128 a8 a11 b21 en2 nc (zor (tmw fw lw nc) nc iw 0) (by omega) (fun j hj => prm_lt (fun j hj => by rw [tmN_at nm nc j hj]; have := hnm j hj; omega) hso.2 j hj)) (cwI 2 hts (gW k_c_Mo_init) rfl rfl rfl (hw k_n_Mo) (hw k_Dr_m78) (hw k_i_Mo_init) rfl (by decide +kernel) ⟨Nat.le_of_ble_eq_true rfl, Nat.le_of_ble_eq_true rfl⟩) ⟨zblindW, fun U hU hW => ⟨rfl, ⟨by rw [hU]; exact hPc, hDt⟩, hKN.moved hW⟩⟩ rfl rfl hl.1 rfl (lv_room (Nat.le_of_ble_eq_true rfl)) d_Dr_toModel_134 ⟨Nat.le_of_ble_eq_true rfl, Nat.le_of_ble_eq_true rfl⟩) (fun u H locs hp_5 hP hD hS => ?_)
          have hP : va_P D vwCl [(d, .inr (0, [.ref dn, .ref df, .ref di, .ref dl, .ref dm, .int (zI ((nc : Nat) : Int)), .int (zI ((pp : Nat) : Int))])), (dn, .inl (c 0, 255, .inl (fun j => zI ((nm j : Nat) : Int)))), (df, .inr (3, [.ref dfw])), (dfw, .inl (c 2, 4 * 255, .inr (.inl fw))), (di, .inr (3, [.ref diw])), (diw, .inl (c 2, 4 * 40, .inr (.inl iw))), (dl, .inr (3, [.ref dlw])), (dlw, .inl (c 2, 4 * 40, .inr (.inl lw))), (dm, .inl (c 1, 40, .inl (fun j => zB (mb j)))), (a8, .inl (c 0, nc, .inl (fun j => zI ((en2 j : Nat) : Int)))), (a11, .inr (3, [.ref b21])), (b21, .inl (c 2, 4 * (nc + 1), .inr (.inl (zor (tmw fw lw nc) nc iw 0)))), (a128, .inr (1, [.ref a8, .ref a11, .int (zB (!twA en2 (zor (tmw fw lw nc) nc iw 0) nc (nc + 1)))]))] H := hP
          have hD : va_D A [(d, .inr (0, [.ref dn, .ref df, .ref di, .ref dl, .ref dm, .int (zI ((nc : Nat) : Int)), .int (zI ((pp : Nat) : Int))])), (dn, .inl (c 0, 255, .inl (fun j => zI ((nm j : Nat) : Int)))), (df, .inr (3, [.ref dfw])), (dfw, .inl (c 2, 4 * 255, .inr (.inl fw))), (di, .inr (3, [.ref diw])), (diw, .inl (c 2, 4 * 40, .inr (.inl iw))), (dl, .inr (3, [.ref dlw])), (dlw, .inl (c 2, 4 * 40, .inr (.inl lw))), (dm, .inl (c 1, 40, .inl (fun j => zB (mb j)))), (a8, .inl (c 0, nc, .inl (fun j => zI ((en2 j : Nat) : Int)))), (a11, .inr (3, [.ref b21])), (b21, .inl (c 2, 4 * (nc + 1), .inr (.inl (zor (tmw fw lw nc) nc iw 0)))), (a128, .inr (1, [.ref a8, .ref a11, .int (zB (!twA en2 (zor (tmw fw lw nc) nc iw 0) nc (nc + 1)))]))] := hD
          subst hQ
          refine W.widen (k := 4) (n := 1283) (by omega) (by omega) ?_
          exact W.aret (v := .ref a128) hx hb hr (Or.inl ⟨_, rfl⟩) (Or.inr ⟨_, rfl⟩) (fun t9 ht hW => ⟨⟨(a8, a11, b21, en2), _, rfl, hso, by show va_P _ _ _ t9.heap; rw [ht]; rw [tmE_F (nn := mb 0) hc_110]; exact hP.sub [0, 1, 2, 3, 4, 5, 6, 7, 8, 12, 9, 10, 11] rfl, by rw [tmE_F (nn := mb 0) hc_110]; exact hD.sub [0, 1, 2, 3, 4, 5, 6, 7, 8, 12, 9, 10, 11] (by decide) rfl⟩, hS.F ht⟩) hS.2.2 d_Dr_toModel_137
        · refine lv_aload_n hx hb d_Dr_toModel_113 rfl (lv_at hl 1 rfl) ?_
          refine lv_aload_n hx hb d_Dr_toModel_114 rfl (lv_at hl 3 rfl) ?_
          refine va_get (D := D) (ci := 0) (v := .int (zI ((nc : Nat) : Int))) (C := R_Dr) (T := T_Dr) (N := 7) hx hb hts (fun w h => List.mem_cons_of_mem _ (inA_Dr w h)) hown hK hP 0 rfl rfl 5 (by decide) (hw k_Dr_f38) (fun _ h9 => h9) rfl d_Dr_toModel_115 ?_
          refine lv_sipush (v := zI 255) hx hb d_Dr_toModel_118 (by decide) ?_
          have hPc : va_P D vwCl [(a11, .inr (3, [.ref b21])), (b21, .inl (c 2, 4 * (nc + 1), .inr (.inl (zor (tmw fw lw nc) nc iw 0))))] H := hP.sub (ws' := [(a11, .inr (3, [.ref b21])), (b21, .inl (c 2, 4 * (nc + 1), .inr (.inl (zor (tmw fw lw nc) nc iw 0))))]) [10, 11] rfl
          have hDc : va_D A [(a11, .inr (3, [.ref b21])), (b21, .inl (c 2, 4 * (nc + 1), .inr (.inl (zor (tmw fw lw nc) nc iw 0))))] := hD.sub (ws' := [(a11, .inr (3, [.ref b21])), (b21, .inl (c 2, 4 * (nc + 1), .inr (.inl (zor (tmw fw lw nc) nc iw 0))))]) [10, 11] (by decide) rfl
          have hDt : va_D (fun _ => True) [(a11, .inr (3, [.ref b21])), (b21, .inl (c 2, 4 * (nc + 1), .inr (.inl (zor (tmw fw lw nc) nc iw 0))))] := hDc.weaken (fun _ _ _ _ => trivial)
          refine z_callv (S := Unit) (w1 := fun u => [(a11, .inr (3, [.ref b21])), (b21, .inl (c 2, 4 * (nc + 1), .inr (.inl (zadd (zor (tmw fw lw nc) nc iw 0) nc 255))))]) (post := fun u => True) (wc := [(a11, .inr (3, [.ref b21])), (b21, .inl (c 2, 4 * (nc + 1), .inr (.inl (zor (tmw fw lw nc) nc iw 0))))]) [10, 11] rfl (fun _ => rfl) hP hD hS (va_runV (rm := rm_add) (As := [.int (zI ((nc : Nat) : Int)), .int (zI 255)]) (rest := []) ⟨hx, hb, hml, hown, hts⟩ (c_add l D c a11 b21 (nc + 1) (zor (tmw fw lw nc) nc iw 0) nc 255 (by omega) (by omega) (by omega)) (cwV 2 hts (gWV k_Dr_m44 k_i_Se_add k_v_Se_add k_n_Se k_c_Se_add) rfl rfl rfl (by decide +kernel) ⟨Nat.le_of_ble_eq_true rfl, Nat.le_of_ble_eq_true rfl⟩) ⟨zblindW, va_recv hK hPc (ci := 3) (q0 := 0) rfl rfl, fun U hU hW => ⟨rfl, ⟨by rw [hU]; exact hPc, hDt⟩, hKN.moved hW⟩⟩ rfl rfl hl.1 rfl (lv_room (Nat.le_of_ble_eq_true rfl)) d_Dr_toModel_121 ⟨Nat.le_of_ble_eq_true rfl, Nat.le_of_ble_eq_true rfl⟩) (fun u H locs hp_6 hP hD hS => ?_)
          have hP : va_P D vwCl [(d, .inr (0, [.ref dn, .ref df, .ref di, .ref dl, .ref dm, .int (zI ((nc : Nat) : Int)), .int (zI ((pp : Nat) : Int))])), (dn, .inl (c 0, 255, .inl (fun j => zI ((nm j : Nat) : Int)))), (df, .inr (3, [.ref dfw])), (dfw, .inl (c 2, 4 * 255, .inr (.inl fw))), (di, .inr (3, [.ref diw])), (diw, .inl (c 2, 4 * 40, .inr (.inl iw))), (dl, .inr (3, [.ref dlw])), (dlw, .inl (c 2, 4 * 40, .inr (.inl lw))), (dm, .inl (c 1, 40, .inl (fun j => zB (mb j)))), (a8, .inl (c 0, nc, .inl (fun j => zI (((tmN nm nc) j : Nat) : Int)))), (a11, .inr (3, [.ref b21])), (b21, .inl (c 2, 4 * (nc + 1), .inr (.inl (zadd (zor (tmw fw lw nc) nc iw 0) nc 255))))] H := hP
          have hD : va_D A [(d, .inr (0, [.ref dn, .ref df, .ref di, .ref dl, .ref dm, .int (zI ((nc : Nat) : Int)), .int (zI ((pp : Nat) : Int))])), (dn, .inl (c 0, 255, .inl (fun j => zI ((nm j : Nat) : Int)))), (df, .inr (3, [.ref dfw])), (dfw, .inl (c 2, 4 * 255, .inr (.inl fw))), (di, .inr (3, [.ref diw])), (diw, .inl (c 2, 4 * 40, .inr (.inl iw))), (dl, .inr (3, [.ref dlw])), (dlw, .inl (c 2, 4 * 40, .inr (.inl lw))), (dm, .inl (c 1, 40, .inl (fun j => zB (mb j)))), (a8, .inl (c 0, nc, .inl (fun j => zI (((tmN nm nc) j : Nat) : Int)))), (a11, .inr (3, [.ref b21])), (b21, .inl (c 2, 4 * (nc + 1), .inr (.inl (zadd (zor (tmw fw lw nc) nc iw 0) nc 255))))] := hD
          refine lv_aload_n hx hb d_Dr_toModel_124 rfl (lv_at hl 2 rfl) ?_
          have hPc : va_P D vwCl [(a8, .inl (c 0, nc, .inl (fun j => zI (((tmN nm nc) j : Nat) : Int))))] H := hP.sub (ws' := [(a8, .inl (c 0, nc, .inl (fun j => zI (((tmN nm nc) j : Nat) : Int))))]) [9] rfl
          have hDc : va_D A [(a8, .inl (c 0, nc, .inl (fun j => zI (((tmN nm nc) j : Nat) : Int))))] := hD.sub (ws' := [(a8, .inl (c 0, nc, .inl (fun j => zI (((tmN nm nc) j : Nat) : Int))))]) [9] (by decide) rfl
          have hDt : va_D (fun _ => True) [(a8, .inl (c 0, nc, .inl (fun j => zI (((tmN nm nc) j : Nat) : Int))))] := hDc.weaken (fun _ _ _ _ => trivial)
          refine z_callv (S := (Nat → Nat)) (w1 := fun u => [(a8, .inl (c 0, nc, .inl (fun j => zI ((u j : Nat) : Int))))]) (post := fun u => srt (tmN nm nc) u nc) (wc := [(a8, .inl (c 0, nc, .inl (fun j => zI (((tmN nm nc) j : Nat) : Int))))]) [9] rfl (fun _ => rfl) hP hD hS (va_runS (rm := rm_sort) (As := [.ref a8]) (rest := []) ⟨hx, hb, hml, hown, hts⟩ (c_sort l D c a8 nc (tmN nm nc) (by omega) (fun j hj => by rw [tmN_at nm nc j hj]; have := hnm j hj; omega)) (va_cwS 1 hts (gWS k_Dr_m74 k_s_Mo_sort k_n_Mo k_c_Mo_sort) rfl rfl rfl (by decide +kernel) ⟨Nat.le_of_ble_eq_true rfl, Nat.le_of_ble_eq_true rfl⟩) ⟨zblindW, fun U hU hW => ⟨rfl, ⟨by rw [hU]; exact hPc, hDt⟩, hKN.moved hW⟩⟩ rfl rfl hl.1 rfl (lv_room (Nat.le_of_ble_eq_true rfl)) d_Dr_toModel_125 ⟨Nat.le_of_ble_eq_true rfl, Nat.le_of_ble_eq_true rfl⟩) (fun u H locs hso hP hD hS => ?_)
          obtain ⟨en2, rfl⟩ : ∃ z, z = u := ⟨_, rfl⟩
          have hso : srt (tmN nm nc) en2 nc := hso
          have hP : va_P D vwCl [(d, .inr (0, [.ref dn, .ref df, .ref di, .ref dl, .ref dm, .int (zI ((nc : Nat) : Int)), .int (zI ((pp : Nat) : Int))])), (dn, .inl (c 0, 255, .inl (fun j => zI ((nm j : Nat) : Int)))), (df, .inr (3, [.ref dfw])), (dfw, .inl (c 2, 4 * 255, .inr (.inl fw))), (di, .inr (3, [.ref diw])), (diw, .inl (c 2, 4 * 40, .inr (.inl iw))), (dl, .inr (3, [.ref dlw])), (dlw, .inl (c 2, 4 * 40, .inr (.inl lw))), (dm, .inl (c 1, 40, .inl (fun j => zB (mb j)))), (a8, .inl (c 0, nc, .inl (fun j => zI ((en2 j : Nat) : Int)))), (a11, .inr (3, [.ref b21])), (b21, .inl (c 2, 4 * (nc + 1), .inr (.inl (zadd (zor (tmw fw lw nc) nc iw 0) nc 255))))] H := hP
          have hD : va_D A [(d, .inr (0, [.ref dn, .ref df, .ref di, .ref dl, .ref dm, .int (zI ((nc : Nat) : Int)), .int (zI ((pp : Nat) : Int))])), (dn, .inl (c 0, 255, .inl (fun j => zI ((nm j : Nat) : Int)))), (df, .inr (3, [.ref dfw])), (dfw, .inl (c 2, 4 * 255, .inr (.inl fw))), (di, .inr (3, [.ref diw])), (diw, .inl (c 2, 4 * 40, .inr (.inl iw))), (dl, .inr (3, [.ref dlw])), (dlw, .inl (c 2, 4 * 40, .inr (.inl lw))), (dm, .inl (c 1, 40, .inl (fun j => zB (mb j)))), (a8, .inl (c 0, nc, .inl (fun j => zI ((en2 j : Nat) : Int)))), (a11, .inr (3, [.ref b21])), (b21, .inl (c 2, 4 * (nc + 1), .inr (.inl (zadd (zor (tmw fw lw nc) nc iw 0) nc 255))))] := hD
          refine va_new (ci := 1) (fs := [.null, .null, .int (zB false)]) (C := R_Mo) (T := T_Mo) (N := 3) hx hb hts (fun w h => List.mem_cons_of_mem _ (inA_Mo w h)) ty_Mo tyok_Mo hown (hw k_Dr_c70) (hw k_o_Mo) (hw k_n_Mo) hK hP hD hS hA rfl (fun j hj => by rcases (show j = 0 ∨ j = 1 ∨ j = 2 by omega) with rfl | rfl | rfl <;> rfl) (Nat.le_of_ble_eq_true rfl) (Nat.le_of_ble_eq_true rfl) d_Dr_toModel_128 (fun a128 H hP hD hS => ?_)
          have hP : va_P D vwCl [(d, .inr (0, [.ref dn, .ref df, .ref di, .ref dl, .ref dm, .int (zI ((nc : Nat) : Int)), .int (zI ((pp : Nat) : Int))])), (dn, .inl (c 0, 255, .inl (fun j => zI ((nm j : Nat) : Int)))), (df, .inr (3, [.ref dfw])), (dfw, .inl (c 2, 4 * 255, .inr (.inl fw))), (di, .inr (3, [.ref diw])), (diw, .inl (c 2, 4 * 40, .inr (.inl iw))), (dl, .inr (3, [.ref dlw])), (dlw, .inl (c 2, 4 * 40, .inr (.inl lw))), (dm, .inl (c 1, 40, .inl (fun j => zB (mb j)))), (a8, .inl (c 0, nc, .inl (fun j => zI ((en2 j : Nat) : Int)))), (a11, .inr (3, [.ref b21])), (b21, .inl (c 2, 4 * (nc + 1), .inr (.inl (zadd (zor (tmw fw lw nc) nc iw 0) nc 255)))), (a128, .inr (1, [.null, .null, .int (zB false)]))] H := hP
          have hD : va_D A [(d, .inr (0, [.ref dn, .ref df, .ref di, .ref dl, .ref dm, .int (zI ((nc : Nat) : Int)), .int (zI ((pp : Nat) : Int))])), (dn, .inl (c 0, 255, .inl (fun j => zI ((nm j : Nat) : Int)))), (df, .inr (3, [.ref dfw])), (dfw, .inl (c 2, 4 * 255, .inr (.inl fw))), (di, .inr (3, [.ref diw])), (diw, .inl (c 2, 4 * 40, .inr (.inl iw))), (dl, .inr (3, [.ref dlw])), (dlw, .inl (c 2, 4 * 40, .inr (.inl lw))), (dm, .inl (c 1, 40, .inl (fun j => zB (mb j)))), (a8, .inl (c 0, nc, .inl (fun j => zI ((en2 j : Nat) : Int)))), (a11, .inr (3, [.ref b21])), (b21, .inl (c 2, 4 * (nc + 1), .inr (.inl (zadd (zor (tmw fw lw nc) nc iw 0) nc 255)))), (a128, .inr (1, [.null, .null, .int (zB false)]))] := hD
          refine W.widen (k := 4) (n := 1283) (by omega) (by omega) ?_
          refine lv_dup hx hb d_Dr_toModel_131 rfl ?_
          refine lv_aload_n hx hb d_Dr_toModel_132 rfl (lv_at hl 2 rfl) ?_
          refine lv_aload_n hx hb d_Dr_toModel_133 rfl (lv_at hl 1 rfl) ?_
          have hPc : va_P D vwCl [(a128, .inr (1, [.null, .null, .int (zB false)])), (a8, .inl (c 0, nc, .inl (fun j => zI ((en2 j : Nat) : Int)))), (a11, .inr (3, [.ref b21])), (b21, .inl (c 2, 4 * (nc + 1), .inr (.inl (zadd (zor (tmw fw lw nc) nc iw 0) nc 255))))] H := hP.sub (ws' := [(a128, .inr (1, [.null, .null, .int (zB false)])), (a8, .inl (c 0, nc, .inl (fun j => zI ((en2 j : Nat) : Int)))), (a11, .inr (3, [.ref b21])), (b21, .inl (c 2, 4 * (nc + 1), .inr (.inl (zadd (zor (tmw fw lw nc) nc iw 0) nc 255))))]) [12, 9, 10, 11] rfl
          have hDc : va_D A [(a128, .inr (1, [.null, .null, .int (zB false)])), (a8, .inl (c 0, nc, .inl (fun j => zI ((en2 j : Nat) : Int)))), (a11, .inr (3, [.ref b21])), (b21, .inl (c 2, 4 * (nc + 1), .inr (.inl (zadd (zor (tmw fw lw nc) nc iw 0) nc 255))))] := hD.sub (ws' := [(a128, .inr (1, [.null, .null, .int (zB false)])), (a8, .inl (c 0, nc, .inl (fun j => zI ((en2 j : Nat) : Int)))), (a11, .inr (3, [.ref b21])), (b21, .inl (c 2, 4 * (nc + 1), .inr (.inl (zadd (zor (tmw fw lw nc) nc iw 0) nc 255))))]) [12, 9, 10, 11] (by decide) rfl
          have hDt : va_D (fun _ => True) [(a128, .inr (1, [.null, .null, .int (zB false)])), (a8, .inl (c 0, nc, .inl (fun j => zI ((en2 j : Nat) : Int)))), (a11, .inr (3, [.ref b21])), (b21, .inl (c 2, 4 * (nc + 1), .inr (.inl (zadd (zor (tmw fw lw nc) nc iw 0) nc 255))))] := hDc.weaken (fun _ _ _ _ => trivial)
          refine z_callv (S := Unit) (w1 := fun u => [(a128, .inr (1, [.ref a8, .ref a11, .int (zB (!twA en2 (zadd (zor (tmw fw lw nc) nc iw 0) nc 255) nc (nc + 1)))])), (a8, .inl (c 0, nc, .inl (fun j => zI ((en2 j : Nat) : Int)))), (a11, .inr (3, [.ref b21])), (b21, .inl (c 2, 4 * (nc + 1), .inr (.inl (zadd (zor (tmw fw lw nc) nc iw 0) nc 255))))]) (post := fun u => True) (wc := [(a128, .inr (1, [.null, .null, .int (zB false)])), (a8, .inl (c 0, nc, .inl (fun j => zI ((en2 j : Nat) : Int)))), (a11, .inr (3, [.ref b21])), (b21, .inl (c 2, 4 * (nc + 1), .inr (.inl (zadd (zor (tmw fw lw nc) nc iw 0) nc 255))))]) [12, 9, 10, 11] rfl (fun _ => rfl) hP hD hS (va_runI (rm := rm_modelInit) (As := [.ref a8, .ref a11]) (rest := [.ref a128]) ⟨hx, hb, hml, hown, hts⟩ (c_modelInit l D c a128 a8 a11 b21 en2 nc (zadd (zor (tmw fw lw nc) nc iw 0) nc 255) (by omega) (fun j hj => prm_lt (fun j hj => by rw [tmN_at nm nc j hj]; have := hnm j hj; omega) hso.2 j hj)) (cwI 2 hts (gW k_c_Mo_init) rfl rfl rfl (hw k_n_Mo) (hw k_Dr_m78) (hw k_i_Mo_init) rfl (by decide +kernel) ⟨Nat.le_of_ble_eq_true rfl, Nat.le_of_ble_eq_true rfl⟩) ⟨zblindW, fun U hU hW => ⟨rfl, ⟨by rw [hU]; exact hPc, hDt⟩, hKN.moved hW⟩⟩ rfl rfl hl.1 rfl (lv_room (Nat.le_of_ble_eq_true rfl)) d_Dr_toModel_134 ⟨Nat.le_of_ble_eq_true rfl, Nat.le_of_ble_eq_true rfl⟩) (fun u H locs hp_8 hP hD hS => ?_)
          have hP : va_P D vwCl [(d, .inr (0, [.ref dn, .ref df, .ref di, .ref dl, .ref dm, .int (zI ((nc : Nat) : Int)), .int (zI ((pp : Nat) : Int))])), (dn, .inl (c 0, 255, .inl (fun j => zI ((nm j : Nat) : Int)))), (df, .inr (3, [.ref dfw])), (dfw, .inl (c 2, 4 * 255, .inr (.inl fw))), (di, .inr (3, [.ref diw])), (diw, .inl (c 2, 4 * 40, .inr (.inl iw))), (dl, .inr (3, [.ref dlw])), (dlw, .inl (c 2, 4 * 40, .inr (.inl lw))), (dm, .inl (c 1, 40, .inl (fun j => zB (mb j)))), (a8, .inl (c 0, nc, .inl (fun j => zI ((en2 j : Nat) : Int)))), (a11, .inr (3, [.ref b21])), (b21, .inl (c 2, 4 * (nc + 1), .inr (.inl (zadd (zor (tmw fw lw nc) nc iw 0) nc 255)))), (a128, .inr (1, [.ref a8, .ref a11, .int (zB (!twA en2 (zadd (zor (tmw fw lw nc) nc iw 0) nc 255) nc (nc + 1)))]))] H := hP
          have hD : va_D A [(d, .inr (0, [.ref dn, .ref df, .ref di, .ref dl, .ref dm, .int (zI ((nc : Nat) : Int)), .int (zI ((pp : Nat) : Int))])), (dn, .inl (c 0, 255, .inl (fun j => zI ((nm j : Nat) : Int)))), (df, .inr (3, [.ref dfw])), (dfw, .inl (c 2, 4 * 255, .inr (.inl fw))), (di, .inr (3, [.ref diw])), (diw, .inl (c 2, 4 * 40, .inr (.inl iw))), (dl, .inr (3, [.ref dlw])), (dlw, .inl (c 2, 4 * 40, .inr (.inl lw))), (dm, .inl (c 1, 40, .inl (fun j => zB (mb j)))), (a8, .inl (c 0, nc, .inl (fun j => zI ((en2 j : Nat) : Int)))), (a11, .inr (3, [.ref b21])), (b21, .inl (c 2, 4 * (nc + 1), .inr (.inl (zadd (zor (tmw fw lw nc) nc iw 0) nc 255)))), (a128, .inr (1, [.ref a8, .ref a11, .int (zB (!twA en2 (zadd (zor (tmw fw lw nc) nc iw 0) nc 255) nc (nc + 1)))]))] := hD
          subst hQ
          refine W.widen (k := 4) (n := 1283) (by omega) (by omega) ?_
          exact W.aret (v := .ref a128) hx hb hr (Or.inl ⟨_, rfl⟩) (Or.inr ⟨_, rfl⟩) (fun t9 ht hW => ⟨⟨(a8, a11, b21, en2), _, rfl, hso, by show va_P _ _ _ t9.heap; rw [ht]; rw [tmE_T (nn := mb 0) hc_110]; exact hP.sub [0, 1, 2, 3, 4, 5, 6, 7, 8, 12, 9, 10, 11] rfl, by rw [tmE_T (nn := mb 0) hc_110]; exact hD.sub [0, 1, 2, 3, 4, 5, 6, 7, 8, 12, 9, 10, 11] (by decide) rfl⟩, hS.F ht⟩) hS.2.2 d_Dr_toModel_137
      · refine lv_iload_n hx hb d_Dr_toModel_33 rfl (lv_at hl 0 rfl) ?_
        refine lv_aload_n hx hb d_Dr_toModel_34 rfl (lv_at hl 3 rfl) ?_
        refine va_get (D := D) (ci := 0) (v := .ref dn) (C := R_Dr) (T := T_Dr) (N := 7) hx hb hts (fun w h => List.mem_cons_of_mem _ (inA_Dr w h)) hown hK hP 0 rfl rfl 0 (by decide) (hw k_Dr_f9) (fun _ h9 => h9) rfl d_Dr_toModel_35 ?_
        refine z_alen hx hb hK hP 1 0 rfl rfl d_Dr_toModel_38 ?_
        refine z_top (v2 := .int (zI (255 : Int))) rfl ?_
        refine z_icmp_ge (tgt := 91) hx hb (by omega) d_Dr_toModel_39 (by decide) (fun hc_39 => absurd hc_39 (by omega)) (fun hc_39 => ?_)
        refine lv_aload_n hx hb d_Dr_toModel_42 rfl (lv_at hl 2 rfl) ?_
        refine lv_iload_n hx hb d_Dr_toModel_43 rfl (lv_at hl 0 rfl) ?_
        refine lv_aload_n hx hb d_Dr_toModel_44 rfl (lv_at hl 3 rfl) ?_
        refine va_get (D := D) (ci := 0) (v := .ref dn) (C := R_Dr) (T := T_Dr) (N := 7) hx hb hts (fun w h => List.mem_cons_of_mem _ (inA_Dr w h)) hown hK hP 0 rfl rfl 0 (by decide) (hw k_Dr_f9) (fun _ h9 => h9) rfl d_Dr_toModel_45 ?_
        refine lv_iload_n hx hb d_Dr_toModel_48 rfl (lv_at hl 0 rfl) ?_
        refine z_uald hx hb hK hP 1 0 rfl rfl (v) (by omega) (by omega) (by omega) d_Dr_toModel_49 ?_
        refine lv_iload_n hx hb d_Dr_toModel_50 rfl (lv_at hl 0 rfl) ?_
        have hPc : va_P D vwCl [] H := hP.sub (ws' := []) [] rfl
        refine vp_callSi (va_runS (rm := rm_entry) (As := [.int (zI ((nm v : Nat) : Int)), .int (zI ((v : Nat) : Int))]) (rest := [.int (zI ((v : Nat) : Int)), .ref a8]) ⟨hx, hb, hml, hown, hts⟩ (c_entry l D c (nm v) v (by have := hnm v (by omega); omega) (by omega)) (va_cwS 2 hts (gWS k_Dr_m69 k_s_Mo_entry k_n_Mo k_c_Mo_entry) rfl rfl rfl (by decide +kernel) ⟨Nat.le_of_ble_eq_true rfl, Nat.le_of_ble_eq_true rfl⟩) ⟨zblind, fun U hU hW => ⟨rfl, by rw [hU]; exact hPc, hKN.moved hW⟩⟩ rfl rfl hl.1 rfl (lv_room (Nat.le_of_ble_eq_true rfl)) d_Dr_toModel_51 ⟨Nat.le_of_ble_eq_true rfl, Nat.le_of_ble_eq_true rfl⟩).run (fun r hr_9 => ?_)
        subst hr_9
        refine z_uast hx hb hK hP hD hS 9 0 rfl rfl (v) (by omega) (by omega) (by omega) d_Dr_toModel_54 (fun H locs hP hD hS => ?_)
        have hP : va_P D vwCl [(d, .inr (0, [.ref dn, .ref df, .ref di, .ref dl, .ref dm, .int (zI ((nc : Nat) : Int)), .int (zI ((pp : Nat) : Int))])), (dn, .inl (c 0, 255, .inl (fun j => zI ((nm j : Nat) : Int)))), (df, .inr (3, [.ref dfw])), (dfw, .inl (c 2, 4 * 255, .inr (.inl fw))), (di, .inr (3, [.ref diw])), (diw, .inl (c 2, 4 * 40, .inr (.inl iw))), (dl, .inr (3, [.ref dlw])), (dlw, .inl (c 2, 4 * 40, .inr (.inl lw))), (dm, .inl (c 1, 40, .inl (fun j => zB (mb j)))), (a8, .inl (c 0, nc, .inl (fun j => zI (((va_up (tmN nm v) v ((nm v) * 256 + v)) j : Nat) : Int)))), (a11, .inr (3, [.ref b21])), (b21, .inl (c 2, 4 * (nc + 1), .inr (.inl (tmw fw lw v))))] H := hP
        have hD : va_D A [(d, .inr (0, [.ref dn, .ref df, .ref di, .ref dl, .ref dm, .int (zI ((nc : Nat) : Int)), .int (zI ((pp : Nat) : Int))])), (dn, .inl (c 0, 255, .inl (fun j => zI ((nm j : Nat) : Int)))), (df, .inr (3, [.ref dfw])), (dfw, .inl (c 2, 4 * 255, .inr (.inl fw))), (di, .inr (3, [.ref diw])), (diw, .inl (c 2, 4 * 40, .inr (.inl iw))), (dl, .inr (3, [.ref dlw])), (dlw, .inl (c 2, 4 * 40, .inr (.inl lw))), (dm, .inl (c 1, 40, .inl (fun j => zB (mb j)))), (a8, .inl (c 0, nc, .inl (fun j => zI (((va_up (tmN nm v) v ((nm v) * 256 + v)) j : Nat) : Int)))), (a11, .inr (3, [.ref b21])), (b21, .inl (c 2, 4 * (nc + 1), .inr (.inl (tmw fw lw v))))] := hD
        refine lv_aload_n hx hb d_Dr_toModel_55 rfl (lv_at hl 1 rfl) ?_
        refine lv_iload_n hx hb d_Dr_toModel_56 rfl (lv_at hl 0 rfl) ?_
        refine lv_aload_n hx hb d_Dr_toModel_57 rfl (lv_at hl 3 rfl) ?_
        refine va_get (D := D) (ci := 0) (v := .ref df) (C := R_Dr) (T := T_Dr) (N := 7) hx hb hts (fun w h => List.mem_cons_of_mem _ (inA_Dr w h)) hown hK hP 0 rfl rfl 1 (by decide) (hw k_Dr_f20) (fun _ h9 => h9) rfl d_Dr_toModel_58 ?_
        refine lv_iload_n hx hb d_Dr_toModel_61 rfl (lv_at hl 0 rfl) ?_
        have hPc : va_P D vwCl [(a11, .inr (3, [.ref b21])), (b21, .inl (c 2, 4 * (nc + 1), .inr (.inl (tmw fw lw v)))), (df, .inr (3, [.ref dfw])), (dfw, .inl (c 2, 4 * 255, .inr (.inl fw)))] H := hP.sub (ws' := [(a11, .inr (3, [.ref b21])), (b21, .inl (c 2, 4 * (nc + 1), .inr (.inl (tmw fw lw v)))), (df, .inr (3, [.ref dfw])), (dfw, .inl (c 2, 4 * 255, .inr (.inl fw)))]) [10, 11, 2, 3] rfl
        have hDc : va_D A [(a11, .inr (3, [.ref b21])), (b21, .inl (c 2, 4 * (nc + 1), .inr (.inl (tmw fw lw v)))), (df, .inr (3, [.ref dfw])), (dfw, .inl (c 2, 4 * 255, .inr (.inl fw)))] := hD.sub (ws' := [(a11, .inr (3, [.ref b21])), (b21, .inl (c 2, 4 * (nc + 1), .inr (.inl (tmw fw lw v)))), (df, .inr (3, [.ref dfw])), (dfw, .inl (c 2, 4 * 255, .inr (.inl fw)))]) [10, 11, 2, 3] (by decide) rfl
        have hDt : va_D (fun _ => True) [(a11, .inr (3, [.ref b21])), (b21, .inl (c 2, 4 * (nc + 1), .inr (.inl (tmw fw lw v)))), (df, .inr (3, [.ref dfw])), (dfw, .inl (c 2, 4 * 255, .inr (.inl fw)))] := hDc.weaken (fun _ _ _ _ => trivial)
        refine z_callv (S := Unit) (w1 := fun u => [(a11, .inr (3, [.ref b21])), (b21, .inl (c 2, 4 * (nc + 1), .inr (.inl (zor (tmw fw lw v) v fw v)))), (df, .inr (3, [.ref dfw])), (dfw, .inl (c 2, 4 * 255, .inr (.inl fw)))]) (post := fun u => True) (wc := [(a11, .inr (3, [.ref b21])), (b21, .inl (c 2, 4 * (nc + 1), .inr (.inl (tmw fw lw v)))), (df, .inr (3, [.ref dfw])), (dfw, .inl (c 2, 4 * 255, .inr (.inl fw)))]) [10, 11, 2, 3] rfl (fun _ => rfl) hP hD hS (va_runV (rm := rm_addAll) (As := [.int (zI ((v : Nat) : Int)), .ref df, .int (zI ((v : Nat) : Int))]) (rest := []) ⟨hx, hb, hml, hown, hts⟩ (c_addAll l D c a11 b21 (nc + 1) (tmw fw lw v) v df dfw 255 fw v (by omega) (by omega) (by omega) (by omega)) (cwV 3 hts (gWV k_Dr_m55 k_i_Se_addAll k_v_Se_addAll k_n_Se k_c_Se_addAll) rfl rfl rfl (by decide +kernel) ⟨Nat.le_of_ble_eq_true rfl, Nat.le_of_ble_eq_true rfl⟩) ⟨zblindW, va_recv hK hPc (ci := 3) (q0 := 0) rfl rfl, fun U hU hW => ⟨rfl, ⟨by rw [hU]; exact hPc, hDt⟩, hKN.moved hW⟩⟩ rfl rfl hl.1 rfl (lv_room (Nat.le_of_ble_eq_true rfl)) d_Dr_toModel_62 ⟨Nat.le_of_ble_eq_true rfl, Nat.le_of_ble_eq_true rfl⟩) (fun u H locs hp_10 hP hD hS => ?_)
        have hP : va_P D vwCl [(d, .inr (0, [.ref dn, .ref df, .ref di, .ref dl, .ref dm, .int (zI ((nc : Nat) : Int)), .int (zI ((pp : Nat) : Int))])), (dn, .inl (c 0, 255, .inl (fun j => zI ((nm j : Nat) : Int)))), (df, .inr (3, [.ref dfw])), (dfw, .inl (c 2, 4 * 255, .inr (.inl fw))), (di, .inr (3, [.ref diw])), (diw, .inl (c 2, 4 * 40, .inr (.inl iw))), (dl, .inr (3, [.ref dlw])), (dlw, .inl (c 2, 4 * 40, .inr (.inl lw))), (dm, .inl (c 1, 40, .inl (fun j => zB (mb j)))), (a8, .inl (c 0, nc, .inl (fun j => zI (((va_up (tmN nm v) v ((nm v) * 256 + v)) j : Nat) : Int)))), (a11, .inr (3, [.ref b21])), (b21, .inl (c 2, 4 * (nc + 1), .inr (.inl (zor (tmw fw lw v) v fw v))))] H := hP
        have hD : va_D A [(d, .inr (0, [.ref dn, .ref df, .ref di, .ref dl, .ref dm, .int (zI ((nc : Nat) : Int)), .int (zI ((pp : Nat) : Int))])), (dn, .inl (c 0, 255, .inl (fun j => zI ((nm j : Nat) : Int)))), (df, .inr (3, [.ref dfw])), (dfw, .inl (c 2, 4 * 255, .inr (.inl fw))), (di, .inr (3, [.ref diw])), (diw, .inl (c 2, 4 * 40, .inr (.inl iw))), (dl, .inr (3, [.ref dlw])), (dlw, .inl (c 2, 4 * 40, .inr (.inl lw))), (dm, .inl (c 1, 40, .inl (fun j => zB (mb j)))), (a8, .inl (c 0, nc, .inl (fun j => zI (((va_up (tmN nm v) v ((nm v) * 256 + v)) j : Nat) : Int)))), (a11, .inr (3, [.ref b21])), (b21, .inl (c 2, 4 * (nc + 1), .inr (.inl (zor (tmw fw lw v) v fw v))))] := hD
        refine lv_aload_n hx hb d_Dr_toModel_65 rfl (lv_at hl 3 rfl) ?_
        refine va_get (D := D) (ci := 0) (v := .ref dl) (C := R_Dr) (T := T_Dr) (N := 7) hx hb hts (fun w h => List.mem_cons_of_mem _ (inA_Dr w h)) hown hK hP 0 rfl rfl 3 (by decide) (hw k_Dr_f27) (fun _ h9 => h9) rfl d_Dr_toModel_66 ?_
        refine lv_iconst (v := zI 0) hx hb d_Dr_toModel_69 (by decide) ?_
        refine lv_iload_n hx hb d_Dr_toModel_70 rfl (lv_at hl 0 rfl) ?_
        have hPc : va_P D vwCl [(dl, .inr (3, [.ref dlw])), (dlw, .inl (c 2, 4 * 40, .inr (.inl lw)))] H := hP.sub (ws' := [(dl, .inr (3, [.ref dlw])), (dlw, .inl (c 2, 4 * 40, .inr (.inl lw)))]) [6, 7] rfl
        refine vp_callSi (va_runV (rm := rm_holds) (As := [.int (zI 0), .int (zI ((v : Nat) : Int))]) (rest := []) ⟨hx, hb, hml, hown, hts⟩ (c_holds l D c dl dlw 40 lw 0 v (by omega) (by omega) (by omega)) (cwV 2 hts (gWV k_Dr_m59 k_i_Se_holds k_v_Se_holds k_n_Se k_c_Se_holds) rfl rfl rfl (by decide +kernel) ⟨Nat.le_of_ble_eq_true rfl, Nat.le_of_ble_eq_true rfl⟩) ⟨zblind, va_recv hK hPc (ci := 3) (q0 := 0) rfl rfl, fun U hU hW => ⟨rfl, by rw [hU]; exact hPc, hKN.moved hW⟩⟩ rfl rfl hl.1 rfl (lv_room (Nat.le_of_ble_eq_true rfl)) d_Dr_toModel_71 ⟨Nat.le_of_ble_eq_true rfl, Nat.le_of_ble_eq_true rfl⟩).run (fun r hr_11 => ?_)
        subst hr_11
        refine z_ifeq_B (tgt := 85) hx hb d_Dr_toModel_74 (by decide) (fun hc_74 => ?_) (fun hc_74 => ?_)
        · refine lv_iinc (v := zI ((v + 1 : Nat) : Int)) (lv' := [(3, .int (zI ((v + 1 : Nat) : Int))), (2, .ref a11), (1, .ref a8), (0, .ref d)]) hx hb d_Dr_toModel_85 hl (k := 0) rfl (z_incN _ 1) (by decide) rfl (fun ls hl => ?_)
          refine lv_goto (tgt := 27) hx hb d_Dr_toModel_88 (by decide) ?_
          exact ih_27 (v + 1) (by omega) (by omega) _ _ (by rw [tmw_F hc_74]; exact hP) (z_D_congr (by rfl) hD) hS _ (lv_sub hl [0, 1, 2, 3] rfl)
        · refine lv_aload_n hx hb d_Dr_toModel_77 rfl (lv_at hl 1 rfl) ?_
          refine lv_iload_n hx hb d_Dr_toModel_78 rfl (lv_at hl 0 rfl) ?_
          refine lv_sipush (v := zI 255) hx hb d_Dr_toModel_79 (by decide) ?_
          have hPc : va_P D vwCl [(a11, .inr (3, [.ref b21])), (b21, .inl (c 2, 4 * (nc + 1), .inr (.inl (zor (tmw fw lw v) v fw v))))] H := hP.sub (ws' := [(a11, .inr (3, [.ref b21])), (b21, .inl (c 2, 4 * (nc + 1), .inr (.inl (zor (tmw fw lw v) v fw v))))]) [10, 11] rfl
          have hDc : va_D A [(a11, .inr (3, [.ref b21])), (b21, .inl (c 2, 4 * (nc + 1), .inr (.inl (zor (tmw fw lw v) v fw v))))] := hD.sub (ws' := [(a11, .inr (3, [.ref b21])), (b21, .inl (c 2, 4 * (nc + 1), .inr (.inl (zor (tmw fw lw v) v fw v))))]) [10, 11] (by decide) rfl
          have hDt : va_D (fun _ => True) [(a11, .inr (3, [.ref b21])), (b21, .inl (c 2, 4 * (nc + 1), .inr (.inl (zor (tmw fw lw v) v fw v))))] := hDc.weaken (fun _ _ _ _ => trivial)
          refine z_callv (S := Unit) (w1 := fun u => [(a11, .inr (3, [.ref b21])), (b21, .inl (c 2, 4 * (nc + 1), .inr (.inl (zadd (zor (tmw fw lw v) v fw v) v 255))))]) (post := fun u => True) (wc := [(a11, .inr (3, [.ref b21])), (b21, .inl (c 2, 4 * (nc + 1), .inr (.inl (zor (tmw fw lw v) v fw v))))]) [10, 11] rfl (fun _ => rfl) hP hD hS (va_runV (rm := rm_add) (As := [.int (zI ((v : Nat) : Int)), .int (zI 255)]) (rest := []) ⟨hx, hb, hml, hown, hts⟩ (c_add l D c a11 b21 (nc + 1) (zor (tmw fw lw v) v fw v) v 255 (by omega) (by omega) (by omega)) (cwV 2 hts (gWV k_Dr_m44 k_i_Se_add k_v_Se_add k_n_Se k_c_Se_add) rfl rfl rfl (by decide +kernel) ⟨Nat.le_of_ble_eq_true rfl, Nat.le_of_ble_eq_true rfl⟩) ⟨zblindW, va_recv hK hPc (ci := 3) (q0 := 0) rfl rfl, fun U hU hW => ⟨rfl, ⟨by rw [hU]; exact hPc, hDt⟩, hKN.moved hW⟩⟩ rfl rfl hl.1 rfl (lv_room (Nat.le_of_ble_eq_true rfl)) d_Dr_toModel_82 ⟨Nat.le_of_ble_eq_true rfl, Nat.le_of_ble_eq_true rfl⟩) (fun u H locs hp_12 hP hD hS => ?_)
          have hP : va_P D vwCl [(d, .inr (0, [.ref dn, .ref df, .ref di, .ref dl, .ref dm, .int (zI ((nc : Nat) : Int)), .int (zI ((pp : Nat) : Int))])), (dn, .inl (c 0, 255, .inl (fun j => zI ((nm j : Nat) : Int)))), (df, .inr (3, [.ref dfw])), (dfw, .inl (c 2, 4 * 255, .inr (.inl fw))), (di, .inr (3, [.ref diw])), (diw, .inl (c 2, 4 * 40, .inr (.inl iw))), (dl, .inr (3, [.ref dlw])), (dlw, .inl (c 2, 4 * 40, .inr (.inl lw))), (dm, .inl (c 1, 40, .inl (fun j => zB (mb j)))), (a8, .inl (c 0, nc, .inl (fun j => zI (((va_up (tmN nm v) v ((nm v) * 256 + v)) j : Nat) : Int)))), (a11, .inr (3, [.ref b21])), (b21, .inl (c 2, 4 * (nc + 1), .inr (.inl (zadd (zor (tmw fw lw v) v fw v) v 255))))] H := hP
          have hD : va_D A [(d, .inr (0, [.ref dn, .ref df, .ref di, .ref dl, .ref dm, .int (zI ((nc : Nat) : Int)), .int (zI ((pp : Nat) : Int))])), (dn, .inl (c 0, 255, .inl (fun j => zI ((nm j : Nat) : Int)))), (df, .inr (3, [.ref dfw])), (dfw, .inl (c 2, 4 * 255, .inr (.inl fw))), (di, .inr (3, [.ref diw])), (diw, .inl (c 2, 4 * 40, .inr (.inl iw))), (dl, .inr (3, [.ref dlw])), (dlw, .inl (c 2, 4 * 40, .inr (.inl lw))), (dm, .inl (c 1, 40, .inl (fun j => zB (mb j)))), (a8, .inl (c 0, nc, .inl (fun j => zI (((va_up (tmN nm v) v ((nm v) * 256 + v)) j : Nat) : Int)))), (a11, .inr (3, [.ref b21])), (b21, .inl (c 2, 4 * (nc + 1), .inr (.inl (zadd (zor (tmw fw lw v) v fw v) v 255))))] := hD
          refine lv_iinc (v := zI ((v + 1 : Nat) : Int)) (lv' := [(3, .int (zI ((v + 1 : Nat) : Int))), (2, .ref a11), (1, .ref a8), (0, .ref d)]) hx hb d_Dr_toModel_85 hl (k := 0) rfl (z_incN _ 1) (by decide) rfl (fun ls hl => ?_)
          refine lv_goto (tgt := 27) hx hb d_Dr_toModel_88 (by decide) ?_
          exact ih_27 (v + 1) (by omega) (by omega) _ _ (by rw [tmw_T hc_74]; exact hP) (z_D_congr (by rfl) hD) hS _ (lv_sub hl [0, 1, 2, 3] rfl)
  exact lp_27 _ 0 (Nat.lt_succ_self _) (by omega) _ _ hP hD hS _ (lv_sub hl [0, 1, 2, 3] rfl)
