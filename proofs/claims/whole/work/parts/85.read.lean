/-! reading: both sides -/
theorem hnm_iff {rv : Nat → Int64} {en : Nat → Nat} {t : Nat} {x : Int} : ∀ {n : Nat}, hnm rv en t x n = true ↔ ∃ i, i < n ∧ ((en i / 256 : Nat) : Int) = x ∧ zbt rv t (en i % 256) = true
  | 0 => by
    constructor
    · intro h; cases h
    · rintro ⟨i, h, _⟩; omega
  | n + 1 => by
    rw [hnm, Bool.or_eq_true, Bool.and_eq_true, hnm_iff (n := n), decide_eq_true_eq]
    constructor
    · rintro (⟨i, h, z⟩ | ⟨h1, h2⟩)
      · exact ⟨i, by omega, z⟩
      · exact ⟨n, by omega, h1, h2⟩
    · rintro ⟨i, h, z⟩
      by_cases e : i = n
      · exact Or.inr (e ▸ z)
      · exact Or.inl ⟨i, by omega, z⟩
/-- a name in a set of occurrences -/
theorem hnm_ex {nm en : Nat → Nat} {ne t : Nat} {rv : Nat → Int64} {x : Int} (h : srt (tmN nm ne) en ne) (hne : ne ≤ 255) : hnm rv en t x ne = true ↔ ∃ o, o < ne ∧ ((nm o : Nat) : Int) = x ∧ zbt rv t o = true := by
  obtain ⟨hs, p, q, hpq⟩ := ent h hne
  rw [hnm_iff]
  constructor
  · rintro ⟨i, i1, i2, i3⟩
    obtain ⟨a1, a2, a3, a4, a5, a6⟩ := hpq i i1
    exact ⟨p i, a1, by rw [← a5]; exact i2, by rw [← a6]; exact i3⟩
  · rintro ⟨o, o1, o2, o3⟩
    obtain ⟨-, b2, b3, -⟩ := hpq o o1
    obtain ⟨a1, a2, a3, a4, a5, a6⟩ := hpq (q o) b2
    rw [b3] at a5 a6
    exact ⟨q o, b2, by rw [a5]; exact o2, by rw [a6]; exact o3⟩
/-- the same in a set of nodes -/
theorem can_ex {kd nv nd nm : Nat → Nat} {b n ne : Nat} (h : nmR kd nv nd nm b n ne) {cv : Nat → Bool} (hc : ∀ p, b ≤ p → p < n → cv p = true → kd p = 0) {x : Int} : anyR b n (fun p => cv p && decide (((nv p : Nat) : Int) = x)) = true ↔ ∃ o, o < ne ∧ ((nm o : Nat) : Int) = x ∧ cv (nd o) = true := by
  rw [anyR_iff]
  constructor
  · rintro ⟨p, p1, p2, p3⟩
    obtain ⟨e1, e2⟩ := Bool.and_eq_true_iff.mp p3
    obtain ⟨o, o1, o2⟩ := h.2.2.1 p p1 p2 (hc p p1 p2 e1)
    have := (h.1 o o1).2.2.2.1
    rw [o2] at this
    exact ⟨o, o1, by rw [← this]; exact of_decide_eq_true e2, by rw [o2]; exact e1⟩
  · rintro ⟨o, o1, o2, o3⟩
    obtain ⟨a1, a2, a3, a4, -⟩ := h.1 o o1
    exact ⟨nd o, a1, a2, by rw [o3, decide_eq_true (by rw [a4]; exact o2)]; rfl⟩
theorem cntN_same {f : Nat → Bool} {a : Nat} : ∀ {n : Nat}, a ≤ n → (∀ i, a ≤ i → i < n → f i = false) → cntN f n = cntN f a := by
  intro n h hf
  induction n with
  | zero => rw [show a = 0 by omega]
  | succ n ih =>
    by_cases e : a = n + 1
    · rw [e]
    · rw [cntN_F (hf n (by omega) (by omega)), ih (by omega) (fun i h1 h2 => hf i h1 (by omega))]
theorem cntN_lt {f : Nat → Bool} {a n : Nat} (h : a < n) (ha : f a = true) : cntN f a < cntN f n := by
  induction n with
  | zero => omega
  | succ n ih =>
    have h1 : cntN f n ≤ cntN f (n + 1) := by rw [cntN]; omega
    by_cases e : a = n
    · subst e; rw [cntN_T ha]; omega
    · have := ih (by omega); omega
theorem nxR_hit {f : Nat → Bool} {y : Int} {n m : Nat} (hn : n < m) (hf : f n = true) (hc : ((cntN f n : Nat) : Int) = y) : nxR f y m = ((n : Nat) : Int) := by
  have h0 : ∀ k, k ≤ n → nxR f y k = -1 := by
    intro k
    induction k with
    | zero => intro _; rfl
    | succ k ih =>
      intro hk
      rw [nxR, ih (by omega), if_pos rfl, if_neg]
      rintro ⟨z1, z2⟩
      have := cntN_lt (show k < n by omega) z1
      omega
  exact nxR_mono (by omega) (show n + 1 ≤ m by omega) (by rw [nxR, h0 n (Nat.le_refl _), if_pos rfl, if_pos ⟨hf, hc⟩])
theorem nxR_ex {f : Nat → Bool} {y : Int} : ∀ {m : Nat}, ¬ nxR f y m = -1 → ∃ n, n < m ∧ f n = true ∧ ((cntN f n : Nat) : Int) = y
  | 0, h => absurd rfl h
  | m + 1, h => by
    rw [nxR] at h
    by_cases c : nxR f y m = -1
    · rw [if_pos c] at h
      by_cases d : f m = true ∧ ((cntN f m : Nat) : Int) = y
      · exact ⟨m, by omega, d.1, d.2⟩
      · rw [if_neg d] at h; exact absurd rfl h
    · obtain ⟨n, n1, n2⟩ := nxR_ex c
      exact ⟨n, by omega, n2⟩
/-- what the class's look knows behind v entries -/
theorem na_inv {nm en : Nat → Nat} {ne t : Nat} {rv : Nat → Int64} {f : Nat → Bool} (hs : ∀ x y, x < y → y < ne → en x ≤ en y) (h1 : ∀ i, i < ne → 1 ≤ en i / 256) (hf0 : f 0 = false) (hf : ∀ n, f n = true ↔ ∃ i, i < ne ∧ en i / 256 = n ∧ zbt rv t (en i % 256) = true) : ∀ v, v ≤ ne → (∀ w, w < v → zbt rv t (en w % 256) = true → en w / 256 ≤ naB rv en t v) ∧ (naB rv en t v = 0 ∨ ∃ w, w < v ∧ zbt rv t (en w % 256) = true ∧ en w / 256 = naB rv en t v) ∧ naC rv en t v = cntN f (naB rv en t v + 1) := by
  intro v
  induction v with
  | zero =>
    intro _
    refine ⟨fun w hw => by omega, Or.inl rfl, ?_⟩
    show 0 = cntN f 1
    rw [cntN_F hf0]; rfl
  | succ v ih =>
    intro hv
    obtain ⟨a1, a2, a3⟩ := ih (by omega)
    by_cases c : ¬ en v / 256 = naB rv en t v ∧ zbt rv t (en v % 256) = true
    · have hle : naB rv en t v ≤ en v / 256 := by
        rcases a2 with e | ⟨w, w1, w2, w3⟩
        · omega
        · rw [← w3]; exact Nat.div_le_div_right (hs w v w1 (by omega))
      have hfv : f (en v / 256) = true := (hf _).mpr ⟨v, by omega, rfl, c.2⟩
      rw [naB_T c.1 c.2, naC_T c.1 c.2]
      refine ⟨fun w hw hb => ?_, Or.inr ⟨v, by omega, c.2, rfl⟩, ?_⟩
      · by_cases e : w = v
        · rw [e]; exact Nat.le_refl _
        · have := a1 w (by omega) hb; omega
      · rw [cntN_T hfv, a3]
        congr 1
        refine (cntN_same (by omega) (fun i i1 i2 => ?_)).symm
        cases hi : f i with
        | false => rfl
        | true =>
          obtain ⟨w, w1, w2, w3⟩ := (hf i).mp hi
          rcases Nat.lt_or_ge w v with d | d
          · have := a1 w d w3; omega
          · rcases Nat.lt_or_ge v w with d2 | d2
            · have := Nat.div_le_div_right (c := 256) (hs v w d2 w1); omega
            · rw [show w = v by omega] at w2; omega
    · rw [naB_F c, naC_F c]
      refine ⟨fun w hw hb => ?_, ?_, a3⟩
      · by_cases e : w = v
        · rw [e] at hb ⊢
          rcases Decidable.em (en v / 256 = naB rv en t v) with d | d
          · omega
          · exact absurd ⟨d, hb⟩ c
        · exact a1 w (by omega) hb
      · rcases a2 with e | ⟨w, w1, w2⟩
        · exact Or.inl e
        · exact Or.inr ⟨w, by omega, w2⟩
theorem na_step {nm en : Nat → Nat} {ne t : Nat} {rv : Nat → Int64} {f : Nat → Bool} (hs : ∀ x y, x < y → y < ne → en x ≤ en y) (h1 : ∀ i, i < ne → 1 ≤ en i / 256) (hf0 : f 0 = false) (hf : ∀ n, f n = true ↔ ∃ i, i < ne ∧ en i / 256 = n ∧ zbt rv t (en i % 256) = true) {v : Nat} (hv : v < ne) (c : ¬ en v / 256 = naB rv en t v ∧ zbt rv t (en v % 256) = true) : naC rv en t v = cntN f (en v / 256) := by
  have hw := (na_inv (nm := nm) hs h1 hf0 hf (v + 1) (by omega)).2.2
  rw [naB_T c.1 c.2, naC_T c.1 c.2, cntN_T ((hf _).mpr ⟨v, hv, rfl, c.2⟩)] at hw
  omega
theorem naR_hit {rv : Nat → Int64} {en : Nat → Nat} {t : Nat} {x : Int} : ∀ {n : Nat}, ¬ naR rv en t x n = -1 → ∃ v, v < n ∧ (¬ en v / 256 = naB rv en t v ∧ zbt rv t (en v % 256) = true) ∧ ((naC rv en t v : Nat) : Int) = x ∧ naR rv en t x n = ((en v / 256 : Nat) : Int)
  | 0, h => absurd rfl h
  | n + 1, h => by
    by_cases c : naR rv en t x n = -1
    · by_cases d : (¬ en n / 256 = naB rv en t n ∧ zbt rv t (en n % 256) = true) ∧ ((naC rv en t n : Nat) : Int) = x
      · exact ⟨n, by omega, d.1, d.2, by rw [naR, if_pos c, if_pos d]⟩
      · rw [naR, if_pos c, if_neg d] at h; exact absurd rfl h
    · obtain ⟨v, v1, v2, v3, v4⟩ := naR_hit c
      exact ⟨v, by omega, v2, v3, by rw [naR, if_neg c]; exact v4⟩
theorem na_nx {nm en : Nat → Nat} {ne t : Nat} {rv : Nat → Int64} {f : Nat → Bool} {x : Int} (h : srt (tmN nm ne) en ne) (hne : ne ≤ 255) (hn : ∀ o, o < ne → 1 ≤ nm o ∧ nm o ≤ 1000) (hf : ∀ n, f n = true ↔ ∃ o, o < ne ∧ nm o = n ∧ zbt rv t o = true) : naR rv en t x ne = nxR f x 1001 := by
  obtain ⟨hs, p, q, hpq⟩ := ent h hne
  have h1 : ∀ i, i < ne → 1 ≤ en i / 256 := fun i hi => by
    obtain ⟨a1, a2, a3, a4, a5, a6⟩ := hpq i hi
    rw [a5]; exact (hn _ a1).1
  have hf2 : ∀ n, f n = true ↔ ∃ i, i < ne ∧ en i / 256 = n ∧ zbt rv t (en i % 256) = true := fun n => by
    rw [hf n]
    constructor
    · rintro ⟨o, o1, o2, o3⟩
      obtain ⟨-, b2, b3, -⟩ := hpq o o1
      obtain ⟨a1, a2, a3, a4, a5, a6⟩ := hpq (q o) b2
      rw [b3] at a5 a6
      exact ⟨q o, b2, by rw [a5]; exact o2, by rw [a6]; exact o3⟩
    · rintro ⟨i, i1, i2, i3⟩
      obtain ⟨a1, a2, a3, a4, a5, a6⟩ := hpq i i1
      exact ⟨p i, a1, by rw [← a5]; exact i2, by rw [← a6]; exact i3⟩
  have hf0 : f 0 = false := by
    cases hz : f 0 with
    | false => rfl
    | true =>
      obtain ⟨o, o1, o2, -⟩ := (hf 0).mp hz
      have := (hn o o1).1; omega
  by_cases c : naR rv en t x ne = -1
  · rw [c]
    by_cases d : nxR f x 1001 = -1
    · exact d.symm
    · exfalso
      obtain ⟨n, n1, n2, n3⟩ := nxR_ex d
      obtain ⟨i0, j1, j2, j3⟩ := (hf2 n).mp n2
      obtain ⟨v, ⟨v1, v2, v3⟩, vmin⟩ := pk_least (fun i => i < ne ∧ en i / 256 = n ∧ zbt rv t (en i % 256) = true) ⟨i0, j1, j2, j3⟩
      have hb : ¬ en v / 256 = naB rv en t v := by
        intro z
        rcases (na_inv (nm := nm) hs h1 hf0 hf2 v (by omega)).2.1 with e | ⟨w, w1, w2, w3⟩
        · have := h1 v v1; omega
        · exact vmin w w1 ⟨by omega, by omega, w2⟩
      have hc := na_step (nm := nm) hs h1 hf0 hf2 v1 ⟨hb, v3⟩
      by_cases e : naR rv en t x v = -1
      · have hh : naR rv en t x (v + 1) = ((en v / 256 : Nat) : Int) := by rw [naR, if_pos e, if_pos ⟨⟨hb, v3⟩, by rw [hc, v2]; exact n3⟩]
        have := naR_mono (by omega) (show v + 1 ≤ ne by omega) hh
        omega
      · have := naR_mono e (show v ≤ ne by omega) rfl
        exact e (this ▸ c)
  · obtain ⟨v, v1, v2, v3, v4⟩ := naR_hit c
    have hc := na_step (nm := nm) hs h1 hf0 hf2 v1 v2
    obtain ⟨a1, a2, a3, a4, a5, a6⟩ := hpq v v1
    have := (hn _ a1).2
    rw [v4, nxR_hit (n := en v / 256) (by omega) ((hf2 _).mpr ⟨v, v1, rfl, v2.2⟩) (by rw [← hc]; exact v3)]
