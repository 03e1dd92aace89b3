/-! models: both sides -/
def mRel (kd nv : Nat → Nat) (lf rt ab : Nat → Int) (em : Nat → Bool) (st : Nat → Nat) (b r : Nat) (nd nm en : Nat → Nat) (ne : Nat) (mf : Nat → Int64) (dt : Bool) : Prop :=
  tr kd lf rt ab em st b r ∧ ne ≤ 255 ∧ nmR kd nv nd nm b (r + 1) ne ∧ srt (tmN nm ne) en ne ∧
  (∀ i, i < ne → ∀ o, o < 256 → zbt mf i o = ((decide (o < ne) && fo kd lf rt em b (r + 1) (nd i) (nd o)) || (decide (o = 255) && la kd lf rt em r (nd i)))) ∧
  (∀ o, o < 256 → zbt mf ne o = ((decide (o < ne) && fi kd lf rt em r (nd o)) || (decide (o = 255) && em r))) ∧
  dt = !twA en mf ne (ne + 1)
theorem zbt_tmw (fw lw : Nat → Int64) : ∀ (n i o : Nat), o < 256 → zbt (tmw fw lw n) i o = (decide (i < n) && (zbt fw i o || (decide (o = 255) && zbt lw 0 i)))
  | 0, i, o, h => by rw [tmw, decide_eq_false (by omega)]; exact zbt_zero i o
  | n + 1, i, o, h => by
    have hz : zbt (zor (tmw fw lw n) n fw n) i o = if i = n then zbt fw n o else zbt (tmw fw lw n) i o := by
      rw [zbt_or _ _ _ _ _ _ h]
      by_cases e : i = n
      · rw [if_pos e, if_pos e, zbt_tmw fw lw n n o h, decide_eq_false (show ¬ n < n by omega)]; simp
      · rw [if_neg e, if_neg e]
    cases hl : zbt lw 0 n with
    | true =>
      rw [tmw_T hl, zbt_add _ _ _ _ _ (by omega) h, hz]
      by_cases e : i = n
      · subst e
        rw [if_pos rfl, decide_eq_true rfl, decide_eq_true (show i < i + 1 by omega), hl]
        cases decide (o = 255) <;> cases zbt fw i o <;> rfl
      · rw [if_neg e, decide_eq_false e, zbt_tmw fw lw n i o h]
        by_cases c : i < n
        · rw [decide_eq_true c, decide_eq_true (show i < n + 1 by omega)]; simp
        · rw [decide_eq_false c, decide_eq_false (show ¬ i < n + 1 by omega)]; simp
    | false =>
      rw [tmw_F hl, hz]
      by_cases e : i = n
      · subst e
        rw [if_pos rfl, decide_eq_true (show i < i + 1 by omega), hl]
        simp
      · rw [if_neg e, zbt_tmw fw lw n i o h]
        by_cases c : i < n
        · rw [decide_eq_true c, decide_eq_true (show i < n + 1 by omega)]
        · rw [decide_eq_false c, decide_eq_false (show ¬ i < n + 1 by omega)]
theorem zbt_tmE (fw iw lw : Nat → Int64) (b : Bool) (n i o : Nat) (h : o < 256) : zbt (tmE fw iw lw b n) i o = if i = n then (zbt iw 0 o || (decide (o = 255) && b)) else zbt (tmw fw lw n) i o := by
  have hz : zbt (zor (tmw fw lw n) n iw 0) i o = if i = n then zbt iw 0 o else zbt (tmw fw lw n) i o := by
    rw [zbt_or _ _ _ _ _ _ h]
    by_cases e : i = n
    · rw [if_pos e, if_pos e, zbt_tmw fw lw n n o h, decide_eq_false (show ¬ n < n by omega)]; simp
    · rw [if_neg e, if_neg e]
  cases b with
  | true =>
    rw [tmE_T rfl, zbt_add _ _ _ _ _ (by omega) h, hz]
    by_cases e : i = n
    · rw [if_pos e, if_pos e, decide_eq_true e]
      cases decide (o = 255) <;> cases zbt iw 0 o <;> rfl
    · rw [if_neg e, if_neg e, decide_eq_false e]; simp
  | false =>
    rw [tmE_F rfl, hz]
    by_cases e : i = n
    · rw [if_pos e, if_pos e]; simp
    · rw [if_neg e, if_neg e]
section MR
variable {kd nv : Nat → Nat} {lf rt ab : Nat → Int} {em : Nat → Bool} {st pv : Nat → Nat} {dl nn b r : Nat} {nd nm en : Nat → Nat} {fw iw lw mf : Nat → Int64} {mb : Nat → Bool} {nc ne : Nat} {dt : Bool}
theorem m_make (h : dRel kd nv lf rt ab em st pv dl nn nd nm fw iw lw mb nc 1) {en2 : Nat → Nat} (hs : srt (tmN nm nc) en2 nc) : mRel kd nv lf rt ab em st dl (pv 0) nd nm en2 nc (tmE fw iw lw (mb 0) nc) (!twA en2 (tmE fw iw lw (mb 0) nc) nc (nc + 1)) := by
  obtain ⟨⟨h1, h2, h3⟩, hpr, hnm, hiw, hlw, hmb, hfw⟩ := h
  have hnn : pv 0 + 1 = nn := hpr.2.2 (by omega)
  refine ⟨(hpr.1 0 (by omega)).1, h2, by rw [hnn]; exact hnm, hs, fun i hi o ho => ?_, fun o ho => ?_, rfl⟩
  · rw [zbt_tmE _ _ _ _ _ _ _ ho, if_neg (by omega), zbt_tmw _ _ _ _ _ ho, decide_eq_true hi, hfw i hi o ho, hlw 0 (by omega) i (by omega), decide_eq_true hi, hnn]
    simp
  · rw [zbt_tmE _ _ _ _ _ _ _ ho, if_pos rfl, hiw 0 (by omega) o ho, hmb 0 (by omega)]
theorem fo_agr {kd2 : Nat → Nat} {lf2 rt2 : Nat → Int} {em2 : Nat → Bool} (h : tr kd lf rt ab em st b r) (ha : agr kd kd2 lf lf2 rt rt2 em em2 b (r + 1)) (p q : Nat) : fo kd2 lf2 rt2 em2 b (r + 1) p q = fo kd lf rt em b (r + 1) p q := by
  apply bool_iff
  rw [fo_iff, fo_iff]
  constructor
  · rintro ⟨u, u1, u2, u3⟩
    exact ⟨u, u1, u2, by rw [← fc_agr h ha u1 (by omega) u2]; exact u3⟩
  · rintro ⟨u, u1, u2, u3⟩
    exact ⟨u, u1, u2, by rw [fc_agr h ha u1 (by omega) u2]; exact u3⟩
theorem m_agr {kd2 nv2 : Nat → Nat} {lf2 rt2 ab2 : Nat → Int} {em2 : Nat → Bool} {st2 : Nat → Nat} (h : mRel kd nv lf rt ab em st b r nd nm en ne mf dt) (ha : ∀ p, p ≤ r → kd2 p = kd p ∧ lf2 p = lf p ∧ rt2 p = rt p ∧ em2 p = em p) (hb : ∀ p, p ≤ r → ab2 p = ab p ∧ st2 p = st p ∧ nv2 p = nv p) : mRel kd2 nv2 lf2 rt2 ab2 em2 st2 b r nd nm en ne mf dt := by
  obtain ⟨h1, h2, h3, h4, h5, h6, h7⟩ := h
  have ha2 : agr kd kd2 lf lf2 rt rt2 em em2 b (r + 1) := fun p _ p2 => ha p (by omega)
  refine ⟨tr_agr h1 ha2 (fun p _ p2 => ⟨(hb p p2).1, (hb p p2).2.1⟩), h2, ⟨fun o ho => ?_, h3.2.1, fun p p1 p2 p3 => ?_, fun p p1 p2 => ?_⟩, h4, fun i hi o ho => ?_, fun o ho => ?_, h7⟩
  · obtain ⟨a1, a2, a3, a4, a5, a6⟩ := h3.1 o ho
    rw [(ha (nd o) (by omega)).1, (hb (nd o) (by omega)).2.2]
    exact ⟨a1, a2, a3, a4, a5, a6⟩
  · rw [(ha p (by omega)).1] at p3
    exact h3.2.2.1 p p1 p2 p3
  · rw [(hb p (by omega)).2.2]
    exact h3.2.2.2 p p1 p2
  · rw [h5 i hi o ho, fo_agr h1 ha2, la_agr h1 ha2 _ h1.1 (Nat.le_refl _) (by omega)]
  · rw [h6 o ho, fi_agr h1 ha2 _ h1.1 (Nat.le_refl _) (by omega), (ha r (Nat.le_refl _)).2.2.2]
end MR
/-- the entries of a model: names and occurrences, sorted -/
theorem ent {nm en : Nat → Nat} {ne : Nat} (h : srt (tmN nm ne) en ne) (hne : ne ≤ 255) : (∀ x y, x < y → y < ne → en x ≤ en y) ∧ ∃ p q : Nat → Nat, ∀ i, i < ne → p i < ne ∧ q i < ne ∧ p (q i) = i ∧ q (p i) = i ∧ en i / 256 = nm (p i) ∧ en i % 256 = p i := by
  refine ⟨h.1, ?_⟩
  obtain ⟨p, q, hpq⟩ := h.2
  refine ⟨p, q, fun i hi => ?_⟩
  obtain ⟨a1, a2, a3, a4, a5⟩ := hpq i hi
  rw [tmN_at nm ne (p i) a1] at a5
  exact ⟨a1, a2, a3, a4, by omega, by omega⟩
def dup (g : Nat → Bool) (nm : Nat → Nat) (n : Nat) : Prop := ∃ x y, x < n ∧ y < n ∧ ¬ x = y ∧ g x = true ∧ g y = true ∧ nm x = nm y
theorem twi_iff {en : Nat → Nat} {f : Nat → Int64} {t : Nat} : ∀ {n : Nat}, twi en f t n = true ↔ ∃ i, i < n ∧ zbt f t (en i % 256) = true ∧ en i / 256 = twB en f t i
  | 0 => by
    constructor
    · intro h; cases h
    · rintro ⟨i, h, _⟩; omega
  | n + 1 => by
    rw [twi, Bool.or_eq_true, Bool.and_eq_true, twi_iff (n := n), decide_eq_true_eq]
    constructor
    · rintro (⟨i, h, z⟩ | ⟨h1, h2⟩)
      · exact ⟨i, by omega, z⟩
      · exact ⟨n, by omega, h1, h2⟩
    · rintro ⟨i, h, z⟩
      by_cases e : i = n
      · exact Or.inr (e ▸ z)
      · exact Or.inl ⟨i, by omega, z⟩
theorem twB_or (en : Nat → Nat) (f : Nat → Int64) (t : Nat) : ∀ n, (twB en f t n = 0 ∧ ∀ i, i < n → zbt f t (en i % 256) = false) ∨ ∃ i, i < n ∧ zbt f t (en i % 256) = true ∧ twB en f t n = en i / 256 ∧ ∀ k, i < k → k < n → zbt f t (en k % 256) = false
  | 0 => Or.inl ⟨rfl, fun i h => by omega⟩
  | n + 1 => by
    cases hb : zbt f t (en n % 256) with
    | true => exact Or.inr ⟨n, by omega, hb, twB_T hb, fun k h1 h2 => by omega⟩
    | false =>
      rw [twB_F hb]
      rcases twB_or en f t n with ⟨h1, h2⟩ | ⟨i, i1, i2, i3, i4⟩
      · refine Or.inl ⟨h1, fun i hi => ?_⟩
        by_cases e : i = n
        · rw [e]; exact hb
        · exact h2 i (by omega)
      · refine Or.inr ⟨i, by omega, i2, i3, fun k k1 k2 => ?_⟩
        by_cases e : k = n
        · rw [e]; exact hb
        · exact i4 k k1 (by omega)
theorem twi_dup {nm en : Nat → Nat} {ne t : Nat} {f : Nat → Int64} (h : srt (tmN nm ne) en ne) (hne : ne ≤ 255) (hn : ∀ o, o < ne → 1 ≤ nm o) : twi en f t ne = true ↔ dup (fun o => zbt f t o) nm ne := by
  obtain ⟨hs, p, q, hpq⟩ := ent h hne
  rw [twi_iff]
  constructor
  · rintro ⟨i, i1, i2, i3⟩
    obtain ⟨a1, a2, a3, a4, a5, a6⟩ := hpq i i1
    rcases twB_or en f t i with ⟨h1, h2⟩ | ⟨k, k1, k2, k3, k4⟩
    · have := hn (p i) a1
      omega
    · obtain ⟨b1, b2, b3, b4, b5, b6⟩ := hpq k (by omega)
      refine ⟨p k, p i, b1, a1, fun z => ?_, by rw [← b6]; exact k2, by rw [← a6]; exact i2, by rw [← b5, ← a5, i3, k3]⟩
      have : k = i := by rw [← b4, ← a4, z]
      omega
  · rintro ⟨x, y, x1, y1, xy, gx, gy, e⟩
    obtain ⟨-, a2, a3, -⟩ := hpq x x1
    obtain ⟨-, b2, b3, -⟩ := hpq y y1
    have key : ∀ i k, i < k → k < ne → zbt f t (en i % 256) = true → zbt f t (en k % 256) = true → en i / 256 = en k / 256 → ∃ j, j < ne ∧ zbt f t (en j % 256) = true ∧ en j / 256 = twB en f t j := by
      intro i k ik kn gi gk ee
      rcases twB_or en f t k with ⟨h1, h2⟩ | ⟨w, w1, w2, w3, w4⟩
      · rw [h2 i ik] at gi; cases gi
      · have hw : i ≤ w := by
          rcases Nat.lt_or_ge w i with c | c
          · rw [w4 i c ik] at gi; cases gi
          · exact c
        have h1 : en i / 256 ≤ en w / 256 := by
          rcases Nat.lt_or_ge i w with c | c
          · exact Nat.div_le_div_right (hs i w c (by omega))
          · rw [show i = w by omega]; exact Nat.le_refl _
        have h2 : en w / 256 ≤ en k / 256 := Nat.div_le_div_right (hs w k w1 kn)
        exact ⟨k, kn, gk, by omega⟩
    obtain ⟨-, -, -, -, c5, c6⟩ := hpq (q x) a2
    obtain ⟨-, -, -, -, d5, d6⟩ := hpq (q y) b2
    rw [a3] at c5 c6
    rw [b3] at d5 d6
    rcases Nat.lt_trichotomy (q x) (q y) with c | c | c
    · exact key (q x) (q y) c b2 (by rw [c6]; exact gx) (by rw [d6]; exact gy) (by omega)
    · exact absurd (by rw [← a3, ← b3, c]) xy
    · exact key (q y) (q x) c a2 (by rw [d6]; exact gy) (by rw [c6]; exact gx) (by omega)
theorem twR_dup {kd nv nd nm : Nat → Nat} {b n ne : Nat} (h : nmR kd nv nd nm b n ne) {lt : Nat → Bool} (hl : ∀ p, lt p = true → kd p = 0) : twR lt nv b n = true ↔ dup (fun o => lt (nd o)) nm ne := by
  unfold twR
  rw [anyR_iff]
  constructor
  · rintro ⟨p, p1, p2, p3⟩
    obtain ⟨q, q1, q2, q3⟩ := anyR_iff.mp p3
    unfold twQ at q3
    obtain ⟨e1, e2⟩ := Bool.and_eq_true_iff.mp q3
    obtain ⟨e3, e4⟩ := Bool.and_eq_true_iff.mp e2
    have e5 := of_decide_eq_true e4
    obtain ⟨x, x1, x2⟩ := h.2.2.1 p p1 p2 (hl p e1)
    obtain ⟨y, y1, y2⟩ := h.2.2.1 q q1 (by omega) (hl q e3)
    refine ⟨x, y, x1, y1, fun z => ?_, by show lt (nd x) = true; rw [x2]; exact e1, by show lt (nd y) = true; rw [y2]; exact e3, ?_⟩
    · rw [z, y2] at x2; omega
    · have := (h.1 x x1).2.2.2.1
      have := (h.1 y y1).2.2.2.1
      rw [x2] at *
      rw [y2] at *
      omega
  · rintro ⟨x, y, x1, y1, xy, gx, gy, e⟩
    have hx := h.1 x x1
    have hy := h.1 y y1
    have gx : lt (nd x) = true := gx
    have gy : lt (nd y) = true := gy
    rcases Nat.lt_or_gt_of_ne xy with c | c
    · refine ⟨nd y, hy.1, hy.2.1, anyR_iff.mpr ⟨nd x, hx.1, h.2.1 x y c y1, ?_⟩⟩
      unfold twQ
      rw [gy, gx, decide_eq_true (by omega)]; rfl
    · refine ⟨nd x, hx.1, hx.2.1, anyR_iff.mpr ⟨nd y, hy.1, h.2.1 y x c x1, ?_⟩⟩
      unfold twQ
      rw [gx, gy, decide_eq_true (by omega)]; rfl
theorem twA_iff {en : Nat → Nat} {f : Nat → Int64} {ne : Nat} : ∀ {n : Nat}, twA en f ne n = true ↔ ∃ i, i < n ∧ twi en f i ne = true
  | 0 => by
    constructor
    · intro h; cases h
    · rintro ⟨i, h, _⟩; omega
  | n + 1 => by
    rw [twA, Bool.or_eq_true, twA_iff (n := n)]
    constructor
    · rintro (⟨i, h, z⟩ | h1)
      · exact ⟨i, by omega, z⟩
      · exact ⟨n, by omega, h1⟩
    · rintro ⟨i, h, z⟩
      by_cases e : i = n
      · exact Or.inr (e ▸ z)
      · exact Or.inl ⟨i, by omega, z⟩
theorem dup_congr {f g : Nat → Bool} {nm : Nat → Nat} {n : Nat} (h : ∀ o, o < n → f o = g o) : dup f nm n ↔ dup g nm n := by
  constructor
  · rintro ⟨x, y, x1, y1, xy, gx, gy, e⟩
    exact ⟨x, y, x1, y1, xy, by rw [← h x x1]; exact gx, by rw [← h y y1]; exact gy, e⟩
  · rintro ⟨x, y, x1, y1, xy, gx, gy, e⟩
    exact ⟨x, y, x1, y1, xy, by rw [h x x1]; exact gx, by rw [h y y1]; exact gy, e⟩
theorem m_det {kd nv : Nat → Nat} {lf rt ab : Nat → Int} {em : Nat → Bool} {st : Nat → Nat} {b r : Nat} {nd nm en : Nat → Nat} {ne : Nat} {mf : Nat → Int64} {dt : Bool} (h : mRel kd nv lf rt ab em st b r nd nm en ne mf dt) : dt = dtR kd lf rt em nv b r (r + 1) := by
  obtain ⟨h1, h2, h3, h4, h5, h6, h7⟩ := h
  have hn : ∀ o, o < ne → 1 ≤ nm o := fun o ho => (h3.1 o ho).2.2.2.2.1
  have hF : twi en mf ne ne = twR (fi kd lf rt em r) nv b (r + 1) := bool_iff (by
    rw [twi_dup h4 h2 hn, twR_dup h3 (fun p hp => (fi_in h1 _ r p (Nat.le_refl _) h1.1 (Nat.le_refl _) hp).2.2)]
    exact dup_congr (fun o ho => by rw [h6 o (by omega), decide_eq_true ho, decide_eq_false (show ¬ o = 255 by omega)]; simp))
  have hO : ∀ i, i < ne → twi en mf i ne = twR (fo kd lf rt em b (r + 1) (nd i)) nv b (r + 1) := fun i hi => bool_iff (by
    rw [twi_dup h4 h2 hn, twR_dup h3 (fun p hp => (fo_in h1 hp).2.2)]
    exact dup_congr (fun o ho => by rw [h5 i hi o (by omega), decide_eq_true ho, decide_eq_false (show ¬ o = 255 by omega)]; simp))
  rw [h7]
  have e : twA en mf ne (ne + 1) = (twR (fi kd lf rt em r) nv b (r + 1) || anyR b (r + 1) (fun p => decide (kd p = 0) && twR (fo kd lf rt em b (r + 1) p) nv b (r + 1))) := bool_iff (by
    rw [twA_iff, Bool.or_eq_true, anyR_iff]
    constructor
    · rintro ⟨i, i1, i2⟩
      by_cases c : i = ne
      · rw [c, hF] at i2; exact Or.inl i2
      · have hx := h3.1 i (by omega)
        rw [hO i (by omega)] at i2
        exact Or.inr ⟨nd i, hx.1, hx.2.1, by rw [i2, decide_eq_true hx.2.2.1]; rfl⟩
    · rintro (i2 | ⟨p, p1, p2, p3⟩)
      · exact ⟨ne, by omega, by rw [hF]; exact i2⟩
      · obtain ⟨e1, e2⟩ := Bool.and_eq_true_iff.mp p3
        obtain ⟨o, o1, o2⟩ := h3.2.2.1 p p1 p2 (of_decide_eq_true e1)
        exact ⟨o, by omega, by rw [hO o o1, o2]; exact e2⟩)
  rw [e]
  unfold dtR
  cases twR (fi kd lf rt em r) nv b (r + 1) <;> rfl
