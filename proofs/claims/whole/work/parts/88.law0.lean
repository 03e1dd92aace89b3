def pC (c : Nat → ClassId) (mo me ms msw : Nat → Nat) (en : Nat → Nat → Nat) (ne : Nat → Nat) (mf : Nat → Nat → Int64) (dt : Nat → Bool) (k : Nat) : va_W := [((mo k), .inr (1, [.ref (me k), .ref (ms k), .int (zB (dt k))])), ((me k), .inl (c 0, ne k, .inl (fun j => zI (((en k) j : Nat) : Int)))), ((ms k), .inr (3, [.ref (msw k)])), ((msw k), .inl (c 2, 4 * (ne k + 1), .inr (.inl (mf k))))]
def pL (c : Nat → ClassId) (mo me ms msw : Nat → Nat) (en : Nat → Nat → Nat) (ne : Nat → Nat) (mf : Nat → Nat → Int64) (dt : Nat → Bool) : Nat → va_W
  | 0 => []
  | k + 1 => pL c mo me ms msw en ne mf dt k ++ pC c mo me ms msw en ne mf dt k
theorem pL_split {c : Nat → ClassId} {mo me ms msw : Nat → Nat} {en : Nat → Nat → Nat} {ne : Nat → Nat} {mf : Nat → Nat → Int64} {dt : Nat → Bool} {k : Nat} : ∀ {n : Nat}, k < n → ∃ P1 P2, pL c mo me ms msw en ne mf dt n = P1 ++ (pC c mo me ms msw en ne mf dt k ++ P2)
  | 0, h => by omega
  | n + 1, h => by
    by_cases e : k = n
    · subst e
      exact ⟨pL c mo me ms msw en ne mf dt k, [], by rw [List.append_nil]; rfl⟩
    · obtain ⟨P1, P2, hq⟩ := pL_split (n := n) (show k < n by omega)
      exact ⟨P1, P2 ++ pC c mo me ms msw en ne mf dt n, by rw [pL, hq, List.append_assoc, List.append_assoc]⟩
theorem pL_congr {c : Nat → ClassId} {mo me ms msw mo2 me2 ms2 msw2 : Nat → Nat} {en en2 : Nat → Nat → Nat} {ne ne2 : Nat → Nat} {mf mf2 : Nat → Nat → Int64} {dt dt2 : Nat → Bool} : ∀ {n : Nat}, (∀ k, k < n → mo2 k = mo k ∧ me2 k = me k ∧ ms2 k = ms k ∧ msw2 k = msw k ∧ en2 k = en k ∧ ne2 k = ne k ∧ mf2 k = mf k ∧ dt2 k = dt k) → pL c mo2 me2 ms2 msw2 en2 ne2 mf2 dt2 n = pL c mo me ms msw en ne mf dt n
  | 0, _ => rfl
  | n + 1, h => by
    obtain ⟨h1, h2, h3, h4, h5, h6, h7, h8⟩ := h n (by omega)
    rw [pL, pL, pL_congr (n := n) (fun k hk => h k (by omega))]
    unfold pC
    rw [h1, h2, h3, h4, h5, h6, h7, h8]
theorem z_mid {D : va_G} {cl : List vw_C} {X P1 C P2 : va_W} {H : Heap} (h : va_P D cl (X ++ (P1 ++ (C ++ P2))) H) : va_P D cl C H := by
  intro k q hq
  obtain ⟨j, hj⟩ := List.getElem?_of_mem (show q ∈ X ++ (P1 ++ (C ++ P2)) from List.mem_append_right _ (List.mem_append_right _ (List.mem_append_left _ (List.mem_of_getElem? hq))))
  exact h j q hj
theorem z_midD {A : Nat → Prop} {X P1 C P2 cx : va_W} (is : List Nat) (hn : va_nd is = true) (h : va_D A (X ++ (P1 ++ (C ++ P2)))) (hC : is.map (fun i => X[i]?) = cx.map some) : va_D A (cx ++ C) := by
  have at1 : ∀ (k : Nat) (q : Nat × va_E), cx[k]? = some q → ∃ i, is[k]? = some i ∧ X[i]? = some q := fun k q hq => va_in_of is hC hq
  have hlen : cx.length = is.length := by
    have := congrArg List.length hC
    simpa using this.symm
  refine h.by (fun k => if k < cx.length then (is[k]?).getD 0 else X.length + (P1.length + (k - cx.length))) (fun k q hk => ?_) (fun i j hi hj e => ?_)
  · by_cases c : k < cx.length
    · rw [if_pos c]
      rw [List.getElem?_append_left c] at hk
      obtain ⟨i, i1, i2⟩ := at1 k q hk
      rw [i1]
      have hl := (List.getElem?_eq_some_iff.mp i2).1
      show (X ++ (P1 ++ (C ++ P2)))[i]? = some q
      rw [List.getElem?_append_left hl]; exact i2
    · rw [if_neg c]
      rw [List.getElem?_append_right (by omega)] at hk
      have hl := (List.getElem?_eq_some_iff.mp hk).1
      rw [List.getElem?_append_right (by omega), show X.length + (P1.length + (k - cx.length)) - X.length = P1.length + (k - cx.length) by omega, List.getElem?_append_right (by omega), show P1.length + (k - cx.length) - P1.length = k - cx.length by omega, List.getElem?_append_left hl]
      exact hk
  · rw [List.length_append] at hi hj
    have bnd : ∀ k, k < cx.length → (is[k]?).getD 0 < X.length := by
      intro k hk
      obtain ⟨q, hq⟩ : ∃ q, cx[k]? = some q := ⟨_, List.getElem?_eq_getElem hk⟩
      obtain ⟨i, i1, i2⟩ := at1 k q hq
      rw [i1]
      exact (List.getElem?_eq_some_iff.mp i2).1
    by_cases c1 : i < cx.length <;> by_cases c2 : j < cx.length
    · rw [if_pos c1, if_pos c2] at e
      obtain ⟨a, ha⟩ : ∃ a, is[i]? = some a := ⟨_, List.getElem?_eq_getElem (by omega)⟩
      obtain ⟨b, hb⟩ : ∃ b, is[j]? = some b := ⟨_, List.getElem?_eq_getElem (by omega)⟩
      rw [ha, hb] at e
      have e : a = b := e
      subst e
      exact va_nd_inj is hn i j a ha hb
    · rw [if_pos c1, if_neg c2] at e
      have := bnd i c1; omega
    · rw [if_neg c1, if_pos c2] at e
      have := bnd j c2; omega
    · rw [if_neg c1, if_neg c2] at e
      omega
theorem z_midP {D : va_G} {cl : List vw_C} {A : Nat → Prop} {X P1 C P2 cx cx1 : va_W} {H H1 : Heap} (is : List Nat) (hP : va_P D cl (X ++ (P1 ++ (C ++ P2))) H) (hD : va_D A (X ++ (P1 ++ (C ++ P2)))) (hC : is.map (fun i => X[i]?) = cx.map some) (hw : cx1.map Prod.fst = cx.map Prod.fst) (hk : ∀ q : Nat, q < H.size → ¬ zA (cx ++ C) q → H1[q]? = H[q]?) (hP1 : va_P D cl (cx1 ++ C) H1) : va_P D cl (zrepl X is cx1 ++ (P1 ++ (C ++ P2))) H1 := by
  have hlen : is.length = cx1.length := by
    have h1 := congrArg List.length hC
    have h2 := congrArg List.length hw
    simp only [List.length_map] at h1 h2
    omega
  have hfst := z_fst_repl is X cx1 (z_fst_of hC hw)
  have hzl : (zrepl X is cx1).length = X.length := by
    have := congrArg List.length hfst
    simpa using this
  have inC : ∀ (k : Nat) (q : Nat × va_E), (X ++ (P1 ++ (C ++ P2)))[k]? = some q → q.1 ∈ C.map Prod.fst → q ∈ C := by
    intro k q hq hm
    obtain ⟨y, y1, y2⟩ := List.mem_map.mp hm
    obtain ⟨j, hj⟩ := List.getElem?_of_mem (show y ∈ X ++ (P1 ++ (C ++ P2)) from List.mem_append_right _ (List.mem_append_right _ (List.mem_append_left _ y1)))
    have e := hD.1 k j q y hq hj y2.symm
    subst e
    rw [hq] at hj
    cases hj
    exact y1
  have nin : ∀ (k : Nat) (q : Nat × va_E), (X ++ (P1 ++ (C ++ P2)))[k]? = some q → q.1 ∈ cx.map Prod.fst → k ∈ is := by
    intro k q hq hm
    obtain ⟨y, y1, y2⟩ := List.mem_map.mp hm
    obtain ⟨j, hj⟩ := List.getElem?_of_mem y1
    obtain ⟨i, i1, i2⟩ := va_in_of is hC hj
    have hl := (List.getElem?_eq_some_iff.mp i2).1
    have e := hD.1 k i q y hq (by rw [List.getElem?_append_left hl]; exact i2) y2.symm
    subst e
    exact List.mem_of_getElem? i1
  intro k q hq
  by_cases c : k < X.length
  · rw [List.getElem?_append_left (by omega)] at hq
    rcases z_at_repl is X cx1 k q hq with h | ⟨h, hn⟩
    · obtain ⟨j, hj⟩ := List.getElem?_of_mem h
      exact hP1 j q (by rw [List.getElem?_append_left (List.getElem?_eq_some_iff.mp hj).1]; exact hj)
    · have h2 : (X ++ (P1 ++ (C ++ P2)))[k]? = some q := by rw [List.getElem?_append_left c]; exact h
      by_cases m : q.1 ∈ C.map Prod.fst
      · obtain ⟨j, hj⟩ := List.getElem?_of_mem (inC k q h2 m)
        exact hP1 (cx1.length + j) q (by rw [List.getElem?_append_right (by omega), show cx1.length + j - cx1.length = j by omega]; exact hj)
      · refine (hP k q h2).kept (hk q.1 (hP k q h2).lt (fun z => ?_))
        unfold zA at z
        rw [List.map_append] at z
        rcases List.mem_append.mp z with z | z
        · exact hn (by omega) (nin k q h2 z)
        · exact m z
  · rw [List.getElem?_append_right (by omega)] at hq
    have h2 : (X ++ (P1 ++ (C ++ P2)))[k]? = some q := by rw [List.getElem?_append_right (by omega), ← hzl]; exact hq
    by_cases m : q.1 ∈ C.map Prod.fst
    · obtain ⟨j, hj⟩ := List.getElem?_of_mem (inC k q h2 m)
      exact hP1 (cx1.length + j) q (by rw [List.getElem?_append_right (by omega), show cx1.length + j - cx1.length = j by omega]; exact hj)
    · refine (hP k q h2).kept (hk q.1 (hP k q h2).lt (fun z => ?_))
      unfold zA at z
      rw [List.map_append] at z
      rcases List.mem_append.mp z with z | z
      · have := nin k q h2 z
        have hb : k < X.length := by
          obtain ⟨j, hj⟩ := List.getElem?_of_mem this
          obtain ⟨y, hy⟩ : ∃ y, cx[j]? = some y := by
            have h1 := congrArg List.length hC
            simp only [List.length_map] at h1
            exact ⟨_, List.getElem?_eq_getElem (by have := (List.getElem?_eq_some_iff.mp hj).1; omega)⟩
          obtain ⟨i, i1, i2⟩ := va_in_of is hC hy
          rw [hj] at i1
          cases i1
          exact (List.getElem?_eq_some_iff.mp i2).1
        exact c hb
      · exact m z
theorem z_midF {A : Nat → Prop} {X P1 C P2 cx : va_W} {is : List Nat} (hD : va_D A (X ++ (P1 ++ (C ++ P2)))) (hC : is.map (fun i => X[i]?) = cx.map some) : ∀ q, zA (cx ++ C) q → A q := by
  intro q hm
  unfold zA at hm
  rw [List.map_append] at hm
  rcases List.mem_append.mp hm with z | z
  · obtain ⟨y, y1, y2⟩ := List.mem_map.mp z
    obtain ⟨j, hj⟩ := List.getElem?_of_mem y1
    obtain ⟨i, i1, i2⟩ := va_in_of is hC hj
    rw [← y2]
    exact hD.2 i y (by rw [List.getElem?_append_left (List.getElem?_eq_some_iff.mp i2).1]; exact i2)
  · obtain ⟨y, y1, y2⟩ := List.mem_map.mp z
    obtain ⟨j, hj⟩ := List.getElem?_of_mem (show y ∈ X ++ (P1 ++ (C ++ P2)) from List.mem_append_right _ (List.mem_append_right _ (List.mem_append_left _ y1)))
    rw [← y2]
    exact hD.2 j y hj
section ZM
variable {p : Program} {l : Launch} {e : Env} {R : Room} {s : State} {m : MethodId} {args : Array Value} {below : List Frame} {meth : Method} {c : Code} {H : Heap} {locs : List Loc} {cells slots : Nat} {Q : State → Prop}
variable {pc : Nat} {ls : Array Slot} {rest st0 : List Value} {a : Array Value} {A0 : Nat → Prop} {H0 : Heap} {D : va_G} {cl : List vw_C} {X P1 C P2 cx : va_W}
theorem z_calliP {S : Type} {post : Int32 → S → Prop} {w1 : S → va_W} (is : List Nat) (hC : is.map (fun i => X[i]?) = cx.map some) (hw : ∀ u, (w1 u).map Prod.fst = cx.map Prod.fst) (hP : va_P D cl (X ++ (P1 ++ (C ++ P2))) H) (hD : va_D A0 (X ++ (P1 ++ (C ++ P2)))) (hS : va_S A0 H0 H locs) (hr : va_Run p l e R s m args below meth c H locs cells slots 0 0 (F0 m pc ls st0) rest (va_Qi post (fun u t => va_P D cl (w1 u ++ C) t.heap) (zA (cx ++ C)) a) (zA (cx ++ C))) (kk : ∀ (r : Int32) (u : S) (H1 : Heap) (locs1 : List Loc), post r u → va_P D cl (zrepl X is (w1 u) ++ (P1 ++ (C ++ P2))) H1 → va_D A0 (zrepl X is (w1 u) ++ (P1 ++ (C ++ P2))) → va_S A0 H0 H1 locs1 → W p l e R s m args below meth c H1 locs1 cells slots Q (F0 m (pc + 3) ls (.int r :: rest))) : W p l e R s m args below meth c H locs cells slots Q (F0 m pc ls st0) :=
  va_calli hr hS (fun q _ h => z_midF hD hC q h) (z_midF hD hC) (fun r u t H1 locs1 ht hvm hp hB hz hk hS1 => kk r u H1 locs1 hp (z_midP is hP hD hC (hw u) hk (ht ▸ hB)) (z_D_congr (by rw [List.map_append, z_fst_repl is X (w1 u) (z_fst_of hC (hw u)), ← List.map_append]) hD) hS1)
theorem z_sld {cc : ByteArray} (hexec : p.tables.exec = Jvm.exec) (hb : c.code = cc) {b L : Nat} {xs : Nat → Int32} (hX : va_X b L xs s H0) (hbl : b < H0.size) (hbA : ¬ A0 b) (hS : va_S A0 H0 H locs) {z : Int} (i : Nat) (hz : z = (i : Int)) (hi : i < L) (hL : L < 2147483648) (hdg : decode cc pc = .ok (.iaload, 1)) (kk : W p l e R s m args below meth c H locs cells slots Q (F0 m (pc + 1) ls (.int (xs i) :: rest))) : W p l e R s m args below meth c H locs cells slots Q (F0 m pc ls (.int (zI z) :: .ref b :: rest)) := va_sld hexec hb hX hbl hbA hS (zI_in hz hi hL) hdg (by rw [zI_cl hz (by omega)]; exact kk)
end ZM
def cW (c : Nat → ClassId) (x : Nat) (xm : Nat) (d : Nat) (dn : Nat) (df : Nat) (dfw : Nat) (di : Nat) (diw : Nat) (dl : Nat) (dlw : Nat) (dm : Nat) (rd : Nat) (rn : Nat) (rc : Nat) (rcw : Nat) (mg : Nat → Option Nat) (mk : Nat) (nm : Nat → Nat) (fw : Nat → Int64) (iw : Nat → Int64) (lw : Nat → Int64) (mb : Nat → Bool) (nc : Nat) (pp : Nat) (rmo : Option Nat) (nr : Nat → Nat) (rv : Nat → Int64) (ct : Nat) : va_W := [(x, .inr (4, [.ref d, .ref xm, .ref rd, .int (zI ((mk : Nat) : Int))])), (xm, .inl (c 3, 50, .inr (.inr (.inr (.inr mg))))), (d, .inr (0, [.ref dn, .ref df, .ref di, .ref dl, .ref dm, .int (zI ((nc : Nat) : Int)), .int (zI ((pp : Nat) : Int))])), (dn, .inl (c 0, 255, .inl (fun j => zI ((nm j : Nat) : Int)))), (df, .inr (3, [.ref dfw])), (dfw, .inl (c 2, 4 * 255, .inr (.inl fw))), (di, .inr (3, [.ref diw])), (diw, .inl (c 2, 4 * 40, .inr (.inl iw))), (dl, .inr (3, [.ref dlw])), (dlw, .inl (c 2, 4 * 40, .inr (.inl lw))), (dm, .inl (c 1, 40, .inl (fun j => zB (mb j)))), (rd, .inr (2, [.ref rn, .ref rc, va_rf rmo, .int (zI ((ct : Nat) : Int))])), (rn, .inl (c 0, 1000, .inl (fun j => zI ((nr j : Nat) : Int)))), (rc, .inr (3, [.ref rcw])), (rcw, .inl (c 2, 4 * 1001, .inr (.inl rv)))]
def rW (c : Nat → ClassId) (o0 : Nat) (ka : Nat) (na : Nat) (xla : Nat) (xra : Nat) (aa : Nat) (ea : Nat) (pa : Nat) (ba : Nat) (oa : Nat) (sa : Nat) (qa : Nat) (ca : Nat) (ta : Nat) (td : Nat) (pp : Nat) (nc : Nat) (mk : Nat) (ct : Nat) (kd : Nat → Nat) (nv : Nat → Nat) (lf : Nat → Int) (rt : Nat → Int) (ab : Nat → Int) (em : Nat → Bool) (pv : Nat → Nat) (bv : Nat → Nat) (ov : Nat → Nat) (sv : Nat → Nat) (rdv : Nat → Nat) (cv : Nat → Bool) (lt : Nat → Bool) (tv : Nat → Nat) (nn : Nat) (db : Nat) (mm : Int) (wh : Bool) (lq : Bool) : va_W := [(o0, .inr (5, [.ref ka, .ref na, .ref xla, .ref xra, .ref aa, .ref ea, .int (zI ((nn : Nat) : Int)), .ref pa, .int (zI ((pp : Nat) : Int)), .int (zI ((nc : Nat) : Int)), .int (zI ((db : Nat) : Int)), .ref ba, .ref oa, .ref sa, .int (zI ((mk : Nat) : Int)), .int (zI mm), .ref qa, .int (zI ((ct : Nat) : Int)), .ref ca, .ref ta, .int (zB wh), .int (zB lq), .ref td])), (ka, .inl (c 0, 8000, .inl (fun j => zI ((kd j : Nat) : Int)))), (na, .inl (c 0, 8000, .inl (fun j => zI ((nv j : Nat) : Int)))), (xla, .inl (c 0, 8000, .inl (fun j => zI (lf j)))), (xra, .inl (c 0, 8000, .inl (fun j => zI (rt j)))), (aa, .inl (c 0, 8000, .inl (fun j => zI (ab j)))), (ea, .inl (c 1, 8000, .inl (fun j => zB (em j)))), (pa, .inl (c 0, 40, .inl (fun j => zI ((pv j : Nat) : Int)))), (ba, .inl (c 0, 50, .inl (fun j => zI ((bv j : Nat) : Int)))), (oa, .inl (c 0, 50, .inl (fun j => zI ((ov j : Nat) : Int)))), (sa, .inl (c 0, 50, .inl (fun j => zI ((sv j : Nat) : Int)))), (qa, .inl (c 0, 1000, .inl (fun j => zI ((rdv j : Nat) : Int)))), (ca, .inl (c 1, 8000, .inl (fun j => zB (cv j)))), (ta, .inl (c 1, 8000, .inl (fun j => zB (lt j)))), (td, .inl (c 0, 8000, .inl (fun j => zI ((tv j : Nat) : Int))))]
theorem z_swapG {A B C : va_W} (k : Nat) (q : Nat × va_E) (hk : (B ++ (A ++ C))[k]? = some q) : (A ++ (B ++ C))[if k < B.length then k + A.length else if k < B.length + A.length then k - B.length else k]? = some q := by
  by_cases h1 : k < B.length
  · rw [if_pos h1]
    rw [List.getElem?_append_left h1] at hk
    rw [List.getElem?_append_right (by omega), show k + A.length - A.length = k by omega, List.getElem?_append_left h1]; exact hk
  · rw [if_neg h1]
    rw [List.getElem?_append_right (by omega)] at hk
    by_cases h2 : k < B.length + A.length
    · rw [if_pos h2]
      rw [List.getElem?_append_left (by omega)] at hk
      rw [List.getElem?_append_left (by omega)]; exact hk
    · rw [if_neg h2]
      rw [List.getElem?_append_right (by omega)] at hk
      rw [List.getElem?_append_right (by omega), List.getElem?_append_right (by omega), show k - A.length - B.length = k - B.length - A.length by omega]; exact hk
theorem z_swP {D : va_G} {cl : List vw_C} {A B C : va_W} {H : Heap} (h : va_P D cl (A ++ (B ++ C)) H) : va_P D cl (B ++ (A ++ C)) H := h.by _ z_swapG
theorem z_swD {Z : Nat → Prop} {A B C : va_W} (h : va_D Z (A ++ (B ++ C))) : va_D Z (B ++ (A ++ C)) := h.by _ z_swapG (fun i j hi hj e => by
  simp only [List.length_append] at hi hj
  by_cases h1 : i < B.length <;> by_cases h2 : j < B.length
  · rw [if_pos h1, if_pos h2] at e; omega
  · rw [if_pos h1, if_neg h2] at e
    by_cases h3 : j < B.length + A.length
    · rw [if_pos h3] at e; omega
    · rw [if_neg h3] at e; omega
  · rw [if_neg h1, if_pos h2] at e
    by_cases h3 : i < B.length + A.length
    · rw [if_pos h3] at e; omega
    · rw [if_neg h3] at e; omega
  · rw [if_neg h1, if_neg h2] at e
    by_cases h3 : i < B.length + A.length <;> by_cases h4 : j < B.length + A.length
    · rw [if_pos h3, if_pos h4] at e; omega
    · rw [if_pos h3, if_neg h4] at e; omega
    · rw [if_neg h3, if_pos h4] at e; omega
    · rw [if_neg h3, if_neg h4] at e; omega)
