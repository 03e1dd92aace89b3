/-! the relation of both sides: arrays that agree, trees that grow -/
def agr (kd kd2 : Nat → Nat) (lf lf2 rt rt2 : Nat → Int) (em em2 : Nat → Bool) (b n : Nat) : Prop := ∀ p, b ≤ p → p < n → kd2 p = kd p ∧ lf2 p = lf p ∧ rt2 p = rt p ∧ em2 p = em p
section AG
variable {kd kd2 : Nat → Nat} {lf lf2 rt rt2 ab ab2 : Nat → Int} {em em2 : Nat → Bool} {st st2 : Nat → Nat} {b r : Nat}
theorem fiF_agr (h : tr kd lf rt ab em st b r) {n : Nat} (ha : agr kd kd2 lf lf2 rt rt2 em em2 b n) (q : Nat) : ∀ (k p : Nat), b ≤ p → p ≤ r → p < n → fiF kd2 lf2 rt2 em2 k p q = fiF kd lf rt em k p q := by
  intro k
  induction k with
  | zero => intro p h1 h2 h3; rfl
  | succ k ih =>
    intro p h1 h2 h3
    obtain ⟨a1, a2, a3, a4⟩ := ha p h1 h3
    rw [fiF, fiF, a1, a2, a3]
    by_cases hk : kd p = 0
    · rw [if_pos hk, if_pos hk]
    · rw [if_neg hk, if_neg hk]
      obtain ⟨-, l2, l3, -⟩ := tr_L h h1 h2 hk
      rw [ih _ l2 (by omega) (by omega), (ha _ l2 (by omega)).2.2.2]
      by_cases h4 : 4 ≤ kd p
      · obtain ⟨-, r2, r3, -⟩ := tr_R h h1 h2 h4
        rw [ih _ r2 (by omega) (by omega)]
      · rw [decide_eq_false (show ¬ kd p = 5 by omega), decide_eq_false (show ¬ kd p = 4 by omega)]
        simp
theorem laF_agr (h : tr kd lf rt ab em st b r) {n : Nat} (ha : agr kd kd2 lf lf2 rt rt2 em em2 b n) (q : Nat) : ∀ (k p : Nat), b ≤ p → p ≤ r → p < n → laF kd2 lf2 rt2 em2 k p q = laF kd lf rt em k p q := by
  intro k
  induction k with
  | zero => intro p h1 h2 h3; rfl
  | succ k ih =>
    intro p h1 h2 h3
    obtain ⟨a1, a2, a3, a4⟩ := ha p h1 h3
    rw [laF, laF, a1, a2, a3]
    by_cases hk : kd p = 0
    · rw [if_pos hk, if_pos hk]
    · rw [if_neg hk, if_neg hk]
      obtain ⟨-, l2, l3, -⟩ := tr_L h h1 h2 hk
      rw [ih _ l2 (by omega) (by omega)]
      by_cases h4 : 4 ≤ kd p
      · obtain ⟨-, r2, r3, -⟩ := tr_R h h1 h2 h4
        rw [ih _ r2 (by omega) (by omega), (ha _ r2 (by omega)).2.2.2]
      · rw [decide_eq_false (show ¬ kd p = 5 by omega), decide_eq_false (show ¬ kd p = 4 by omega)]
        simp
theorem fi_agr (h : tr kd lf rt ab em st b r) {n : Nat} (ha : agr kd kd2 lf lf2 rt rt2 em em2 b n) {p : Nat} (q : Nat) (h1 : b ≤ p) (h2 : p ≤ r) (h3 : p < n) : fi kd2 lf2 rt2 em2 p q = fi kd lf rt em p q := fiF_agr h ha q _ p h1 h2 h3
theorem la_agr (h : tr kd lf rt ab em st b r) {n : Nat} (ha : agr kd kd2 lf lf2 rt rt2 em em2 b n) {p : Nat} (q : Nat) (h1 : b ≤ p) (h2 : p ≤ r) (h3 : p < n) : la kd2 lf2 rt2 em2 p q = la kd lf rt em p q := laF_agr h ha q _ p h1 h2 h3
theorem fc_agr (h : tr kd lf rt ab em st b r) {n : Nat} (ha : agr kd kd2 lf lf2 rt rt2 em em2 b n) {u p q : Nat} (h1 : b ≤ u) (h2 : u ≤ r) (h3 : u < n) : fc kd2 lf2 rt2 em2 u p q = fc kd lf rt em u p q := by
  obtain ⟨a1, a2, a3, a4⟩ := ha u h1 h3
  unfold fc
  rw [a1, a2, a3]
  by_cases hk : kd u = 0
  · rw [decide_eq_false (show ¬ kd u = 4 by omega), decide_eq_false (show ¬ kd u = 2 by omega), decide_eq_false (show ¬ kd u = 3 by omega)]
    simp
  · obtain ⟨-, l2, l3, -⟩ := tr_L h h1 h2 hk
    rw [la_agr h ha p l2 (by omega) (by omega), fi_agr h ha q l2 (by omega) (by omega)]
    by_cases h4 : 4 ≤ kd u
    · obtain ⟨-, r2, r3, -⟩ := tr_R h h1 h2 h4
      rw [fi_agr h ha q r2 (by omega) (by omega)]
    · rw [decide_eq_false (show ¬ kd u = 4 by omega)]
      simp
theorem tr_agr (h : tr kd lf rt ab em st b r) (ha : agr kd kd2 lf lf2 rt rt2 em em2 b (r + 1)) (hb : ∀ p, b ≤ p → p ≤ r → ab2 p = ab p ∧ st2 p = st p) : tr kd2 lf2 rt2 ab2 em2 st2 b r := by
  refine ⟨h.1, by rw [(hb r h.1 (Nat.le_refl _)).1]; exact h.2.1, fun p h1 h2 => ?_⟩
  obtain ⟨a1, a2, a3, a4⟩ := ha p h1 (by omega)
  obtain ⟨c1, c2, c3, c4, c5, c6, c7, c8⟩ := h.2.2 p h1 h2
  obtain ⟨b1, b2⟩ := hb p h1 h2
  unfold trn
  rw [a1, a2, a3, a4, b1, b2]
  refine ⟨c1, c2, c3, c4, fun h3 h4 => ?_, fun h3 => ?_, c7, fun h3 => ?_⟩
  · obtain ⟨d1, d2, d3, d4⟩ := c5 h3 h4
    obtain ⟨e1, e2⟩ := hb (p - 1) (by omega) (by omega)
    exact ⟨d1, d2, by rw [e2]; exact d3, by rw [e1]; exact d4⟩
  · obtain ⟨d1, d2, d3, d4, d5, d6, d7⟩ := c6 h3
    obtain ⟨e1, e2⟩ := hb (p - 1) (by omega) (by omega)
    have f := h.2.2 (p - 1) (by omega) (by omega)
    have f3 := f.2.2.1
    obtain ⟨g1, g2⟩ := hb (st (p - 1) - 1) (by omega) (by omega)
    exact ⟨d1, d2, by rw [e1]; exact d3, by rw [e2]; exact d4, by rw [e2]; exact d5, by rw [e2, g1]; exact d6, by rw [e2, g2]; exact d7⟩
  · obtain ⟨u, u1, u2, u3, u4, u5⟩ := c8 h3
    obtain ⟨v1, v2, v3, v4⟩ := ha u (by omega) (by omega)
    exact ⟨u, u1, u2, u3, by rw [v1]; exact u4, by rw [v1, v2, v3]; exact u5⟩
/-- a name is a tree -/
theorem tr_one {n : Nat} (hk : kd n = 0) (ha : ab n = -1) (hs : st n = n) : tr kd lf rt ab em st n n := by
  refine ⟨Nat.le_refl _, ha, fun p h1 h2 => ?_⟩
  have e : p = n := by omega
  subst e
  exact ⟨by omega, by omega, by omega, fun _ => hs, fun q => by omega, fun q => by omega, fun q => by omega, fun q => by omega⟩
/-- one node over a tree -/
theorem tr_un (h : tr kd lf rt ab em st b r) (ha : agr kd kd2 lf lf2 rt rt2 em em2 b (r + 1)) (hb : ∀ p, b ≤ p → p < r → ab2 p = ab p) (hs : ∀ p, b ≤ p → p ≤ r → st2 p = st p) (k1 : 1 ≤ kd2 (r + 1)) (k3 : kd2 (r + 1) ≤ 3) (hl : lf2 (r + 1) = ((r : Nat) : Int)) (har : ab2 r = ((r + 1 : Nat) : Int)) (han : ab2 (r + 1) = -1) (hsn : st2 (r + 1) = st r) (he : kd2 (r + 1) = 1 ∨ kd2 (r + 1) = 2 → em2 (r + 1) = true) : tr kd2 lf2 rt2 ab2 em2 st2 b (r + 1) := by
  have hbr := h.1
  have hr0 := h.2.2 r hbr (Nat.le_refl _)
  refine ⟨by omega, han, fun p h1 h2 => ?_⟩
  by_cases hp : p = r + 1
  · subst hp
    refine ⟨by omega, by rw [hsn]; exact hr0.2.1, by rw [hsn]; have := hr0.2.2.1; omega, fun q => by omega, fun _ _ => ⟨by omega, hl, by rw [hsn, show r + 1 - 1 = r by omega, hs r hbr (Nat.le_refl _)], har⟩, fun q => by omega, he, fun q => by omega⟩
  · obtain ⟨a1, a2, a3, a4⟩ := ha p h1 (by omega)
    obtain ⟨c1, c2, c3, c4, c5, c6, c7, c8⟩ := h.2.2 p h1 (by omega)
    unfold trn
    rw [a1, a2, a3, a4, hs p h1 (by omega)]
    refine ⟨c1, c2, c3, c4, fun h3 h4 => ?_, fun h3 => ?_, c7, fun h3 => ?_⟩
    · obtain ⟨d1, d2, d3, d4⟩ := c5 h3 h4
      exact ⟨d1, d2, by rw [hs (p - 1) (by omega) (by omega)]; exact d3, by rw [hb (p - 1) (by omega) (by omega)]; exact d4⟩
    · obtain ⟨d1, d2, d3, d4, d5, d6, d7⟩ := c6 h3
      have f := h.2.2 (p - 1) (by omega) (by omega)
      have f3 := f.2.2.1
      rw [hs (p - 1) (by omega) (by omega), hb (p - 1) (by omega) (by omega), hb (st (p - 1) - 1) (by omega) (by omega), hs (st (p - 1) - 1) (by omega) (by omega)]
      exact ⟨d1, d2, d3, d4, d5, d6, d7⟩
    · by_cases hpr : p = r
      · subst hpr
        exact ⟨p + 1, har, by omega, by omega, by omega, Or.inl hl⟩
      · obtain ⟨u, u1, u2, u3, u4, u5⟩ := c8 (by omega)
        obtain ⟨v1, v2, v3, v4⟩ := ha u (by omega) (by omega)
        exact ⟨u, by rw [hb p h1 (by omega)]; exact u1, u2, by omega, by rw [v1]; exact u4, by rw [v1, v2, v3]; exact u5⟩
/-- one node over two trees, one behind the other -/
theorem tr_bin {m : Nat} (h : tr kd lf rt ab em st b m) (g : tr kd lf rt ab em st (m + 1) r) (hsr : st r = m + 1) (ha : agr kd kd2 lf lf2 rt rt2 em em2 b (r + 1)) (hb : ∀ p, b ≤ p → p < r → ¬ p = m → ab2 p = ab p) (hs : ∀ p, b ≤ p → p ≤ r → st2 p = st p) (k1 : kd2 (r + 1) = 4 ∨ kd2 (r + 1) = 5) (hl : lf2 (r + 1) = ((m : Nat) : Int)) (hrt : rt2 (r + 1) = ((r : Nat) : Int)) (ham : ab2 m = ((r + 1 : Nat) : Int)) (har : ab2 r = ((r + 1 : Nat) : Int)) (han : ab2 (r + 1) = -1) (hsn : st2 (r + 1) = st m) : tr kd2 lf2 rt2 ab2 em2 st2 b (r + 1) := by
  have hbm := h.1
  have hmr := g.1
  have hm0 := h.2.2 m hbm (Nat.le_refl _)
  refine ⟨by omega, han, fun p h1 h2 => ?_⟩
  by_cases hp : p = r + 1
  · subst hp
    refine ⟨by omega, by rw [hsn]; exact hm0.2.1, by rw [hsn]; have := hm0.2.2.1; omega, fun q => by omega, fun _ _ => by omega, fun _ => ?_, fun q => by omega, fun q => by omega⟩
    rw [show r + 1 - 1 = r by omega, hs r (by omega) (Nat.le_refl _), hsr, show m + 1 - 1 = m by omega, hs m hbm (by omega)]
    exact ⟨by omega, hrt, har, by omega, hl, ham, hsn⟩
  · obtain ⟨a1, a2, a3, a4⟩ := ha p h1 (by omega)
    unfold trn
    rw [a1, a2, a3, a4, hs p h1 (by omega)]
    by_cases hpm : p ≤ m
    · obtain ⟨c1, c2, c3, c4, c5, c6, c7, c8⟩ := h.2.2 p h1 hpm
      refine ⟨c1, c2, c3, c4, fun h3 h4 => ?_, fun h3 => ?_, c7, fun h3 => ?_⟩
      · obtain ⟨d1, d2, d3, d4⟩ := c5 h3 h4
        exact ⟨d1, d2, by rw [hs (p - 1) (by omega) (by omega)]; exact d3, by rw [hb (p - 1) (by omega) (by omega) (by omega)]; exact d4⟩
      · obtain ⟨d1, d2, d3, d4, d5, d6, d7⟩ := c6 h3
        have f3 := (h.2.2 (p - 1) (by omega) (by omega)).2.2.1
        rw [hs (p - 1) (by omega) (by omega), hb (p - 1) (by omega) (by omega) (by omega), hb (st (p - 1) - 1) (by omega) (by omega) (by omega), hs (st (p - 1) - 1) (by omega) (by omega)]
        exact ⟨d1, d2, d3, d4, d5, d6, d7⟩
      · by_cases hpr : p = m
        · subst hpr
          exact ⟨r + 1, ham, by omega, by omega, by omega, Or.inl hl⟩
        · obtain ⟨u, u1, u2, u3, u4, u5⟩ := c8 (by omega)
          obtain ⟨v1, v2, v3, v4⟩ := ha u (by omega) (by omega)
          exact ⟨u, by rw [hb p h1 (by omega) hpr]; exact u1, u2, by omega, by rw [v1]; exact u4, by rw [v1, v2, v3]; exact u5⟩
    · obtain ⟨c1, c2, c3, c4, c5, c6, c7, c8⟩ := g.2.2 p (by omega) (by omega)
      refine ⟨c1, by omega, c3, c4, fun h3 h4 => ?_, fun h3 => ?_, c7, fun h3 => ?_⟩
      · obtain ⟨d1, d2, d3, d4⟩ := c5 h3 h4
        exact ⟨by omega, d2, by rw [hs (p - 1) (by omega) (by omega)]; exact d3, by rw [hb (p - 1) (by omega) (by omega) (by omega)]; exact d4⟩
      · obtain ⟨d1, d2, d3, d4, d5, d6, d7⟩ := c6 h3
        have f3 := (g.2.2 (p - 1) (by omega) (by omega)).2.2.1
        rw [hs (p - 1) (by omega) (by omega), hb (p - 1) (by omega) (by omega) (by omega), hb (st (p - 1) - 1) (by omega) (by omega) (by omega), hs (st (p - 1) - 1) (by omega) (by omega)]
        exact ⟨by omega, d2, d3, by omega, d5, d6, d7⟩
      · by_cases hpr : p = r
        · subst hpr
          exact ⟨p + 1, har, by omega, by omega, by omega, Or.inr ⟨by omega, hrt⟩⟩
        · obtain ⟨u, u1, u2, u3, u4, u5⟩ := c8 (by omega)
          obtain ⟨v1, v2, v3, v4⟩ := ha u (by omega) (by omega)
          exact ⟨u, by rw [hb p h1 (by omega) (by omega)]; exact u1, u2, by omega, by rw [v1]; exact u4, by rw [v1, v2, v3]; exact u5⟩
/-- the root turned from 'maybe' or 'some' to 'any' -/
theorem tr_any (h : tr kd lf rt ab em st b r) (hk : kd r = 1 ∨ kd r = 3) : tr (va_up kd r 2) lf rt ab (va_up em r true) st b r := by
  refine ⟨h.1, h.2.1, fun p h1 h2 => ?_⟩
  obtain ⟨c1, c2, c3, c4, c5, c6, c7, c8⟩ := h.2.2 p h1 h2
  unfold trn
  by_cases hp : p = r
  · subst hp
    rw [up_at, up_at]
    refine ⟨by omega, c2, c3, fun q => by omega, fun _ _ => c5 (by omega) (by omega), fun q => by omega, fun _ => rfl, fun q => by omega⟩
  · rw [up_ne hp, up_ne hp]
    refine ⟨c1, c2, c3, c4, c5, c6, c7, fun h3 => ?_⟩
    obtain ⟨u, u1, u2, u3, u4, u5⟩ := c8 h3
    refine ⟨u, u1, u2, u3, ?_, ?_⟩
    · by_cases hu : u = r
      · rw [hu, up_at]; omega
      · rw [up_ne hu]; exact u4
    · by_cases hu : u = r
      · rcases u5 with e | ⟨e, e2⟩
        · exact Or.inl e
        · have e9 : 4 ≤ kd r := hu ▸ e
          rcases hk with z | z <;> rw [z] at e9 <;> exact absurd e9 (by decide)
      · rw [up_ne hu]; exact u5
end AG
/-- where part i of a draft begins -/
def pb (pv : Nat → Nat) (dl : Nat) : Nat → Nat
  | 0 => dl
  | i + 1 => pv i + 1
/-- the parts of a draft: trees, one behind the other, from dl on up to nn -/
def prt (kd : Nat → Nat) (lf rt ab : Nat → Int) (em : Nat → Bool) (st pv : Nat → Nat) (dl nn pp : Nat) : Prop := (∀ i, i < pp → tr kd lf rt ab em st (pb pv dl i) (pv i) ∧ st (pv i) = pb pv dl i ∧ dl ≤ pb pv dl i ∧ pv i < nn) ∧ (pp = 0 → nn = dl) ∧ (0 < pp → pv (pp - 1) + 1 = nn)
theorem prt_at {kd : Nat → Nat} {lf rt ab : Nat → Int} {em : Nat → Bool} {st pv : Nat → Nat} {dl nn pp : Nat} (h : prt kd lf rt ab em st pv dl nn pp) : ∀ (k u : Nat), k ≤ pp → dl ≤ u → u < pb pv dl k → ∃ i, i < k ∧ pb pv dl i ≤ u ∧ u ≤ pv i := by
  intro k
  induction k with
  | zero => intro u h0 h1 h2; have h2 : u < dl := h2; omega
  | succ k ih =>
    intro u h0 h1 h2
    by_cases c : u < pb pv dl k
    · obtain ⟨i, i1, i2, i3⟩ := ih u (by omega) h1 c
      exact ⟨i, by omega, i2, i3⟩
    · have h2 : u < pv k + 1 := h2
      exact ⟨k, by omega, by omega, by omega⟩
theorem prt_of {kd : Nat → Nat} {lf rt ab : Nat → Int} {em : Nat → Bool} {st pv : Nat → Nat} {dl nn pp u : Nat} (h : prt kd lf rt ab em st pv dl nn pp) (h1 : dl ≤ u) (h2 : u < nn) : ∃ i, i < pp ∧ pb pv dl i ≤ u ∧ u ≤ pv i := by
  have hp : 0 < pp := by
    rcases Nat.eq_zero_or_pos pp with e | e
    · have := h.2.1 e; omega
    · exact e
  have h3 := h.2.2 hp
  obtain ⟨q, rfl⟩ : ∃ q, pp = q + 1 := ⟨pp - 1, by omega⟩
  exact prt_at h (q + 1) u (Nat.le_refl _) h1 (by show u < pv q + 1; rw [show q + 1 - 1 = q by omega] at h3; omega)
theorem pb_congr {pv pv2 : Nat → Nat} {dl i : Nat} (h : ∀ k, k < i → pv2 k = pv k) : pb pv2 dl i = pb pv dl i := by
  cases i with
  | zero => rfl
  | succ i => show pv2 i + 1 = pv i + 1; rw [h i (by omega)]
theorem prt_mono {kd : Nat → Nat} {lf rt ab : Nat → Int} {em : Nat → Bool} {st pv : Nat → Nat} {dl nn pp : Nat} (h : prt kd lf rt ab em st pv dl nn pp) : ∀ {i k : Nat}, i < k → k < pp → pv i < pb pv dl k := by
  intro i k h1 h2
  induction k with
  | zero => omega
  | succ k ih =>
    show pv i < pv k + 1
    by_cases e : i = k
    · rw [e]; omega
    · have := ih (by omega) (by omega)
      have := (h.1 k (by omega)).1.1
      omega
/-- the names of a draft or a model: occurrence o is node nd o -/
def nmR (kd nv nd nm : Nat → Nat) (b n k : Nat) : Prop := (∀ o, o < k → b ≤ nd o ∧ nd o < n ∧ kd (nd o) = 0 ∧ nv (nd o) = nm o ∧ 1 ≤ nm o ∧ nm o ≤ 1000) ∧ (∀ o o2, o < o2 → o2 < k → nd o < nd o2) ∧ (∀ p, b ≤ p → p < n → kd p = 0 → ∃ o, o < k ∧ nd o = p) ∧ (∀ p, b ≤ p → p < n → nv p ≤ 1000)
def dRel (kd nv : Nat → Nat) (lf rt ab : Nat → Int) (em : Nat → Bool) (st pv : Nat → Nat) (dl nn : Nat) (nd nm : Nat → Nat) (fw iw lw : Nat → Int64) (mb : Nat → Bool) (nc pp : Nat) : Prop :=
  (pp ≤ 40 ∧ nc ≤ 255 ∧ (pp = 0 → nc = 0)) ∧ prt kd lf rt ab em st pv dl nn pp ∧ nmR kd nv nd nm dl nn nc ∧
  (∀ i, i < pp → ∀ o, o < 256 → zbt iw i o = (decide (o < nc) && fi kd lf rt em (pv i) (nd o))) ∧
  (∀ i, i < pp → ∀ o, o < 256 → zbt lw i o = (decide (o < nc) && la kd lf rt em (pv i) (nd o))) ∧
  (∀ i, i < pp → mb i = em (pv i)) ∧
  (∀ o, o < nc → ∀ o2, o2 < 256 → zbt fw o o2 = (decide (o2 < nc) && fo kd lf rt em dl nn (nd o) (nd o2)))
