def rdRel (kd nv : Nat → Nat) (lf rt : Nat → Int) (em : Nat → Bool) (b r : Nat) (nd : Nat → Nat) (ne : Nat) (rv : Nat → Int64) (nr : Nat → Nat) (ct : Nat) (rdv : Nat → Nat) (cv : Nat → Bool) (wh : Bool) : Prop :=
  (∀ i, i < ct → rdv i = nr i ∧ 1 ≤ nr i ∧ nr i ≤ 1000) ∧ (∀ q, b ≤ q → q ≤ r → cv q = csS kd lf rt em nv b r nr ct q) ∧ wh = csW kd lf rt em nv b r nr ct ∧
  (∀ t, t ≤ ct → ∀ o, o < 256 → zbt rv t o = ((decide (o < ne) && csS kd lf rt em nv b r nr t (nd o)) || (decide (o = 255) && csW kd lf rt em nv b r nr t))) ∧ ct ≤ 1000
theorem zbt_pbk (rv : Nat → Int64) (en : Nat → Nat) (f : Nat → Int64) (t x : Nat) : ∀ (n i o : Nat), o < 256 → (∀ k, k < n → en k % 256 < 256) → zbt (pbk rv en f t x n) i o = if i = t + 1 then anyN (fun k => decide (en k / 256 = x) && (zbt rv t (en k % 256) && zbt f (en k % 256) o)) n else zbt rv i o
  | 0, i, o, h, _ => by
    rw [pbk, zbt_clr _ _ _ _ h]
    by_cases e : i = t + 1
    · rw [if_pos e, if_pos e]; rfl
    · rw [if_neg e, if_neg e]
  | n + 1, i, o, h, hk => by
    have ih := fun i o h => zbt_pbk rv en f t x n i o h (fun k hk2 => hk k (by omega))
    have ht : zbt (pbk rv en f t x n) t (en n % 256) = zbt rv t (en n % 256) := by rw [ih t _ (hk n (by omega)), if_neg (by omega)]
    by_cases c : en n / 256 = x ∧ zbt (pbk rv en f t x n) t (en n % 256) = true
    · rw [pbk_T c.1 c.2, zbt_or _ _ _ _ _ _ h]
      by_cases e : i = t + 1
      · rw [if_pos e, if_pos e, ih (t + 1) o h, if_pos rfl, anyN, decide_eq_true c.1, ← ht, c.2]; simp
      · rw [if_neg e, if_neg e, ih i o h, if_neg e]
    · rw [pbk_F c, ih i o h]
      by_cases e : i = t + 1
      · rw [if_pos e, if_pos e, anyN]
        have : (decide (en n / 256 = x) && (zbt rv t (en n % 256) && zbt f (en n % 256) o)) = false := by
          by_cases d : en n / 256 = x
          · have : zbt rv t (en n % 256) = false := by
              cases hz : zbt rv t (en n % 256) with
              | false => rfl
              | true => exact absurd ⟨d, ht.trans hz⟩ c
            rw [this]; simp
          · rw [decide_eq_false d]; simp
        rw [this, Bool.or_false]
      · rw [if_neg e, if_neg e]
section RD
variable {kd nv : Nat → Nat} {lf rt ab : Nat → Int} {em : Nat → Bool} {st : Nat → Nat} {b r : Nat} {nd nm en : Nat → Nat} {ne : Nat} {mf rv : Nat → Int64} {dt : Bool} {nr rdv : Nat → Nat} {ct : Nat} {cv : Nat → Bool} {wh : Bool}
theorem rd_begin (h : mRel kd nv lf rt ab em st b r nd nm en ne mf dt) (rv : Nat → Int64) (nr rdv : Nat → Nat) (cv : Nat → Bool) : rdRel kd nv lf rt em b r nd ne (zor (zclr rv 0) 0 mf ne) nr 0 rdv (cpF cv (fi kd lf rt em r) b (r + 1)) (em r) := by
  obtain ⟨h1, h2, h3, h4, h5, h6, h7⟩ := h
  refine ⟨fun i hi => by omega, fun q q1 q2 => cpF_in _ _ q1 (by omega), rfl, fun t ht o ho => ?_, by omega⟩
  rw [show t = 0 by omega, zbt_or _ _ _ _ _ _ ho, if_pos rfl, zbt_clr _ _ _ _ ho, if_pos rfl, h6 o ho]
  rfl
theorem rd_read (h : mRel kd nv lf rt ab em st b r nd nm en ne mf dt) (g : rdRel kd nv lf rt em b r nd ne rv nr ct rdv cv wh) {x : Nat} (hx : 1 ≤ x ∧ x ≤ 1000) (hct : ct < 1000) : rdRel kd nv lf rt em b r nd ne (pbk rv en mf ct x ne) (va_up nr ct x) (ct + 1) (va_up rdv ct x) (cpF cv (goS kd lf rt em nv b r cv x (r + 1)) b (r + 1)) (goW kd lf rt em nv b r cv x (r + 1)) := by
  obtain ⟨h1, h2, h3, h4, h5, h6, h7⟩ := h
  obtain ⟨g1, g2, g3, g4, g5⟩ := g
  have hcs : ∀ t, t ≤ ct → csS kd lf rt em nv b r (va_up nr ct x) t = csS kd lf rt em nv b r nr t := fun t ht => csS_congr (fun i hi => up_lt (by omega))
  have hcw : ∀ t, t ≤ ct → csW kd lf rt em nv b r (va_up nr ct x) t = csW kd lf rt em nv b r nr t := fun t ht => csW_congr (fun i hi => up_lt (by omega))
  have hS : csS kd lf rt em nv b r (va_up nr ct x) (ct + 1) = goS kd lf rt em nv b r (csS kd lf rt em nv b r nr ct) x (r + 1) := by rw [csS, hcs ct (Nat.le_refl _), up_at]
  have hW : csW kd lf rt em nv b r (va_up nr ct x) (ct + 1) = goW kd lf rt em nv b r (csS kd lf rt em nv b r nr ct) x (r + 1) := by rw [csW, hcs ct (Nat.le_refl _), up_at]
  refine ⟨fun i hi => ?_, fun q q1 q2 => ?_, ?_, fun t ht o ho => ?_, by omega⟩
  · by_cases e : i = ct
    · rw [e, up_at, up_at]; exact ⟨rfl, hx⟩
    · rw [up_ne e, up_ne e]; exact g1 i (by omega)
  · rw [cpF_in _ _ q1 (by omega), hS]
    exact goS_congr (fun p p1 p2 => g2 p p1 (by omega))
  · rw [hW]
    exact goW_congr (fun p p1 p2 => g2 p p1 (by omega))
  · rw [zbt_pbk _ _ _ _ _ _ _ _ ho (fun k _ => Nat.mod_lt _ (by omega))]
    by_cases e : t = ct + 1
    · rw [if_pos e, e, hS, hW]
      obtain ⟨hs, p, q, hpq⟩ := ent h4 h2
      have key : ∀ G : Nat → Bool, (anyN (fun k => decide (en k / 256 = x) && (zbt rv ct (en k % 256) && G (en k % 256))) ne = true) ↔ ∃ o1, o1 < ne ∧ nm o1 = x ∧ csS kd lf rt em nv b r nr ct (nd o1) = true ∧ G o1 = true := by
        intro G
        have hbit : ∀ o1, o1 < ne → zbt rv ct o1 = csS kd lf rt em nv b r nr ct (nd o1) := fun o1 ho1 => by
          rw [g4 ct (Nat.le_refl _) o1 (by omega), decide_eq_true ho1, decide_eq_false (show ¬ o1 = 255 by omega)]; simp
        rw [anyN_iff]
        constructor
        · rintro ⟨i, i1, i2⟩
          obtain ⟨a1, a2, a3, a4, a5, a6⟩ := hpq i i1
          obtain ⟨e1, e2⟩ := Bool.and_eq_true_iff.mp i2
          obtain ⟨e3, e4⟩ := Bool.and_eq_true_iff.mp e2
          rw [a6] at e3 e4
          exact ⟨p i, a1, by rw [← a5]; exact of_decide_eq_true e1, by rw [← hbit _ a1]; exact e3, e4⟩
        · rintro ⟨o1, c1, c2, c3, c4⟩
          obtain ⟨-, b2, b3, -⟩ := hpq o1 c1
          obtain ⟨a1, a2, a3, a4, a5, a6⟩ := hpq (q o1) b2
          rw [b3] at a5 a6
          exact ⟨q o1, b2, by rw [a5, a6, decide_eq_true c2, hbit _ c1, c3, c4]; rfl⟩
      have go : ∀ G : Nat → Bool, (∃ o1, o1 < ne ∧ nm o1 = x ∧ csS kd lf rt em nv b r nr ct (nd o1) = true ∧ G (nd o1) = true) ↔ anyR b (r + 1) (fun p => csS kd lf rt em nv b r nr ct p && decide (nv p = x) && G p) = true := by
        intro G
        rw [anyR_iff]
        constructor
        · rintro ⟨o1, c1, c2, c3, c4⟩
          obtain ⟨a1, a2, a3, a4, -⟩ := h3.1 o1 c1
          exact ⟨nd o1, a1, a2, by rw [c3, c4, decide_eq_true (by omega)]; rfl⟩
        · rintro ⟨p, p1, p2, p3⟩
          obtain ⟨e1, e2⟩ := Bool.and_eq_true_iff.mp p3
          obtain ⟨e3, e4⟩ := Bool.and_eq_true_iff.mp e1
          obtain ⟨o1, c1, c2⟩ := h3.2.2.1 p p1 p2 (csS_in h1 e3).2.2
          have hv := (h3.1 o1 c1).2.2.2.1
          rw [c2] at hv
          have := of_decide_eq_true e4
          exact ⟨o1, c1, by omega, by rw [c2]; exact e3, by rw [c2]; exact e2⟩
      apply bool_iff
      rw [key (fun k => zbt mf k o)]
      by_cases c : o < ne
      · rw [decide_eq_true c, decide_eq_false (show ¬ o = 255 by omega), Bool.true_and, Bool.false_and, Bool.or_false]
        refine Iff.trans ?_ (go (fun p => fo kd lf rt em b (r + 1) p (nd o)))
        constructor
        · rintro ⟨o1, c1, c2, c3, c4⟩
          refine ⟨o1, c1, c2, c3, ?_⟩
          have c4 : zbt mf o1 o = true := c4
          rw [h5 o1 c1 o ho, decide_eq_true c, decide_eq_false (show ¬ o = 255 by omega)] at c4
          simpa using c4
        · rintro ⟨o1, c1, c2, c3, c4⟩
          refine ⟨o1, c1, c2, c3, ?_⟩
          show zbt mf o1 o = true
          rw [h5 o1 c1 o ho, decide_eq_true c, c4]; rfl
      · by_cases c5 : o = 255
        · rw [decide_eq_false c, decide_eq_true c5, Bool.false_and, Bool.false_or, Bool.true_and]
          refine Iff.trans ?_ (go (fun p => la kd lf rt em r p))
          constructor
          · rintro ⟨o1, c1, c2, c3, c4⟩
            refine ⟨o1, c1, c2, c3, ?_⟩
            have c4 : zbt mf o1 o = true := c4
            rw [h5 o1 c1 o ho, decide_eq_false c, decide_eq_true c5] at c4
            simpa using c4
          · rintro ⟨o1, c1, c2, c3, c4⟩
            refine ⟨o1, c1, c2, c3, ?_⟩
            show zbt mf o1 o = true
            rw [h5 o1 c1 o ho, decide_eq_false c, decide_eq_true c5, c4]; rfl
        · rw [decide_eq_false c, decide_eq_false c5]
          constructor
          · rintro ⟨o1, c1, c2, c3, c4⟩
            have c4 : zbt mf o1 o = true := c4
            rw [h5 o1 c1 o ho, decide_eq_false c, decide_eq_false c5] at c4
            simp at c4
          · intro z; simp at z
    · rw [if_neg e, hcs t (by omega), hcw t (by omega)]
      exact g4 t (by omega) o ho
theorem rd_back (g : rdRel kd nv lf rt em b r nd ne rv nr (ct + 1) rdv cv wh) {cv2 : Nat → Bool} (hc : ∀ q, b ≤ q → q ≤ r → cv2 q = csS kd lf rt em nv b r rdv ct q) : rdRel kd nv lf rt em b r nd ne rv nr ct rdv cv2 (csW kd lf rt em nv b r rdv ct) ∧ nr ct = rdv ct := by
  obtain ⟨g1, g2, g3, g4, g5⟩ := g
  have he : ∀ i, i < ct → rdv i = nr i := fun i hi => (g1 i (by omega)).1
  refine ⟨⟨fun i hi => g1 i (by omega), fun q q1 q2 => by rw [hc q q1 q2, csS_congr he], csW_congr he, fun t ht o ho => g4 t (by omega) o ho, by omega⟩, (g1 ct (by omega)).1.symm⟩
theorem rd_whole (h : mRel kd nv lf rt ab em st b r nd nm en ne mf dt) (g : rdRel kd nv lf rt em b r nd ne rv nr ct rdv cv wh) : zbt rv ct 255 = wh := by
  rw [g.2.2.2.1 ct (Nat.le_refl _) 255 (by omega), g.2.2.1, decide_eq_false (show ¬ 255 < ne by have := h.2.1; omega)]
  simp
theorem rd_name (h : mRel kd nv lf rt ab em st b r nd nm en ne mf dt) (g : rdRel kd nv lf rt em b r nd ne rv nr ct rdv cv wh) : ∀ p, b ≤ p → p ≤ r → cv p = true → kd p = 0 := fun p p1 p2 p3 => by
  rw [g.2.1 p p1 p2] at p3
  exact (csS_in h.1 p3).2.2
theorem rd_can (h : mRel kd nv lf rt ab em st b r nd nm en ne mf dt) (g : rdRel kd nv lf rt em b r nd ne rv nr ct rdv cv wh) (y : Int) : hnm rv en ct y ne = anyR b (r + 1) (fun p => cv p && decide (((nv p : Nat) : Int) = y)) := by
  have hn := rd_name h g
  obtain ⟨h1, h2, h3, h4, h5, h6, h7⟩ := h
  obtain ⟨g1, g2, g3, g4, g5⟩ := g
  apply bool_iff
  rw [hnm_ex h4 h2, can_ex h3 (fun p p1 p2 p3 => hn p p1 (by omega) p3)]
  constructor
  · rintro ⟨o, o1, o2, o3⟩
    refine ⟨o, o1, o2, ?_⟩
    rw [g4 ct (Nat.le_refl _) o (by omega), decide_eq_true o1, decide_eq_false (show ¬ o = 255 by omega)] at o3
    have := h3.1 o o1
    rw [g2 _ this.1 (by omega)]
    simpa using o3
  · rintro ⟨o, o1, o2, o3⟩
    refine ⟨o, o1, o2, ?_⟩
    have := h3.1 o o1
    rw [g2 _ this.1 (by omega)] at o3
    rw [g4 ct (Nat.le_refl _) o (by omega), decide_eq_true o1, o3]; rfl
theorem rd_next (h : mRel kd nv lf rt ab em st b r nd nm en ne mf dt) (g : rdRel kd nv lf rt em b r nd ne rv nr ct rdv cv wh) (y : Int) : naR rv en ct y ne = nxR (cnF cv nv b (r + 1)) y 1001 := by
  have hc := fun z => rd_can h g z
  obtain ⟨h1, h2, h3, h4, h5, h6, h7⟩ := h
  have hn : ∀ o, o < ne → 1 ≤ nm o ∧ nm o ≤ 1000 := fun o ho => (h3.1 o ho).2.2.2.2
  refine na_nx h4 h2 hn (fun n => ?_)
  unfold cnF
  rw [← hc ((n : Nat) : Int), Bool.and_eq_true, hnm_ex h4 h2, decide_eq_true_eq]
  constructor
  · rintro ⟨n1, o, o1, o2, o3⟩
    exact ⟨o, o1, by omega, o3⟩
  · rintro ⟨o, o1, o2, o3⟩
    exact ⟨by have := (hn o o1).1; omega, o, o1, by omega, o3⟩
theorem m_hen (h : mRel kd nv lf rt ab em st b r nd nm en ne mf dt) : (∀ i, i < ne → en i < 300000) ∧ (∀ i, i < ne → en i % 256 < ne + 1) := by
  obtain ⟨h1, h2, h3, h4, h5, h6, h7⟩ := h
  obtain ⟨hs, p, q, hpq⟩ := ent h4 h2
  refine ⟨fun i hi => ?_, fun i hi => ?_⟩
  · obtain ⟨a1, a2, a3, a4, a5, a6⟩ := hpq i hi
    have := (h3.1 _ a1).2.2.2.2.2
    omega
  · obtain ⟨a1, a2, a3, a4, a5, a6⟩ := hpq i hi
    omega
theorem m_nv (h : mRel kd nv lf rt ab em st b r nd nm en ne mf dt) : ∀ p, b ≤ p → p ≤ r → nv p ≤ 1000 := fun p p1 p2 => h.2.2.1.2.2.2 p p1 (by omega)
theorem rd_agr {kd2 nv2 : Nat → Nat} {lf2 rt2 : Nat → Int} {em2 : Nat → Bool} (h : mRel kd nv lf rt ab em st b r nd nm en ne mf dt) (g : rdRel kd nv lf rt em b r nd ne rv nr ct rdv cv wh) (ha : ∀ p, p ≤ r → kd2 p = kd p ∧ lf2 p = lf p ∧ rt2 p = rt p ∧ em2 p = em p) (hb : ∀ p, p ≤ r → nv2 p = nv p) : rdRel kd2 nv2 lf2 rt2 em2 b r nd ne rv nr ct rdv cv wh := by
  have h1 := h.1
  have ha2 : agr kd kd2 lf lf2 rt rt2 em em2 b (r + 1) := fun p _ p2 => ha p (by omega)
  have hS : ∀ t, csS kd2 lf2 rt2 em2 nv2 b r nr t = csS kd lf rt em nv b r nr t := by
    intro t
    induction t with
    | zero => exact funext fun q => fi_agr h1 ha2 q h1.1 (Nat.le_refl _) (by omega)
    | succ t ih =>
      rw [csS, csS, ih]
      funext q
      unfold goS
      exact anyR_congr (fun i i1 i2 => by rw [hb i (by omega), fo_agr h1 ha2])
  have hW : ∀ t, csW kd2 lf2 rt2 em2 nv2 b r nr t = csW kd lf rt em nv b r nr t := by
    intro t
    cases t with
    | zero => exact (ha r (Nat.le_refl _)).2.2.2
    | succ t =>
      rw [csW, csW, hS]
      unfold goW
      exact anyR_congr (fun i i1 i2 => by rw [hb i (by omega), la_agr h1 ha2 _ h1.1 (Nat.le_refl _) (by omega)])
  obtain ⟨g1, g2, g3, g4, g5⟩ := g
  exact ⟨g1, fun q q1 q2 => by rw [hS]; exact g2 q q1 q2, by rw [hW]; exact g3, fun t ht o ho => by rw [hS, hW]; exact g4 t ht o ho, g5⟩
end RD
