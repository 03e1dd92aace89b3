/-! the draft: both sides keep together -/
theorem zbt_lfw (fw iw lw : Nat → Int64) (i k : Nat) : ∀ (n o o2 : Nat), o2 < 256 → zbt (lfw fw iw lw i k n) o o2 = (zbt fw o o2 || (decide (o < n) && (zbt lw i o && zbt iw k o2)))
  | 0, o, o2, h => by rw [lfw, decide_eq_false (by omega)]; simp
  | n + 1, o, o2, h => by
    cases hl : zbt lw i n with
    | true =>
      rw [lfw_T hl, zbt_or _ _ _ _ _ _ h]
      by_cases e : o = n
      · subst e
        rw [if_pos rfl, zbt_lfw fw iw lw i k o o o2 h, decide_eq_false (show ¬ o < o by omega), decide_eq_true (show o < o + 1 by omega), hl]
        simp
      · rw [if_neg e, zbt_lfw fw iw lw i k n o o2 h]
        by_cases c : o < n
        · rw [decide_eq_true c, decide_eq_true (show o < n + 1 by omega)]
        · rw [decide_eq_false c, decide_eq_false (show ¬ o < n + 1 by omega)]
    | false =>
      rw [lfw_F hl, zbt_lfw fw iw lw i k n o o2 h]
      by_cases e : o = n
      · subst e
        rw [decide_eq_false (show ¬ o < o by omega), hl]
        simp
      · by_cases c : o < n
        · rw [decide_eq_true c, decide_eq_true (show o < n + 1 by omega)]
        · rw [decide_eq_false c, decide_eq_false (show ¬ o < n + 1 by omega)]
theorem zbt_jrI (iw : Nat → Int64) (mb : Nat → Bool) (q i o : Nat) (h : o < 256) : zbt (jrI iw mb q) i o = if i = q then (zbt iw q o || (mb q && zbt iw (q + 1) o)) else zbt iw i o := by
  cases hm : mb q with
  | true =>
    rw [jrI_T hm, zbt_or _ _ _ _ _ _ h]
    by_cases e : i = q
    · rw [if_pos e, if_pos e]; simp
    · rw [if_neg e, if_neg e]
  | false =>
    rw [jrI_F hm]
    by_cases e : i = q
    · rw [if_pos e, e]; simp
    · rw [if_neg e]
theorem zbt_jrL (lw : Nat → Int64) (mb : Nat → Bool) (q i o : Nat) (h : o < 256) : zbt (zor (jrL0 lw mb q) q (jrL0 lw mb q) (q + 1)) i o = if i = q then ((mb (q + 1) && zbt lw q o) || zbt lw (q + 1) o) else zbt lw i o := by
  rw [zbt_or _ _ _ _ _ _ h]
  cases hm : mb (q + 1) with
  | true =>
    rw [jrL0_T hm]
    by_cases e : i = q
    · rw [if_pos e, if_pos e]; simp
    · rw [if_neg e, if_neg e]
  | false =>
    rw [jrL0_F hm]
    by_cases e : i = q
    · rw [if_pos e, if_pos e, zbt_clr _ q q o h, if_pos rfl, zbt_clr _ q (q + 1) o h, if_neg (by omega)]; simp
    · rw [if_neg e, if_neg e, zbt_clr _ q i o h, if_neg e]
section DR
variable {kd nv : Nat → Nat} {lf rt ab : Nat → Int} {em : Nat → Bool} {st pv : Nat → Nat} {dl nn : Nat} {nd nm : Nat → Nat} {fw iw lw : Nat → Int64} {mb : Nat → Bool} {nc pp : Nat}
theorem fo_rng (h : prt kd lf rt ab em st pv dl nn pp) {p q : Nat} (hf : fo kd lf rt em dl nn p q = true) : p < nn ∧ q < nn := by
  obtain ⟨u, u1, u2, u3⟩ := fo_iff.mp hf
  obtain ⟨i, i1, i2, i3⟩ := prt_of h u1 u2
  have ht := (h.1 i i1).1
  have hv := (h.1 i i1).2.2.2
  obtain ⟨k1, k2⟩ := fc_la u3
  obtain ⟨-, l2, l3, -⟩ := tr_L ht i2 i3 k1
  have h5 := (la_in ht _ _ p (Nat.le_refl _) l2 (by omega) k2).2.1
  refine ⟨by omega, ?_⟩
  unfold fc at u3
  rcases Bool.or_eq_true_iff.mp u3 with c | c
  · obtain ⟨c1, c2⟩ := Bool.and_eq_true_iff.mp c
    have c3 := of_decide_eq_true c1
    obtain ⟨-, r2, r3, -⟩ := tr_R ht i2 i3 (by omega)
    have := (fi_in ht _ _ q (Nat.le_refl _) r2 (by omega) (Bool.and_eq_true_iff.mp c2).2).2.1
    omega
  · have := (fi_in ht _ _ q (Nat.le_refl _) l2 (by omega) (Bool.and_eq_true_iff.mp (Bool.and_eq_true_iff.mp c).2).2).2.1
    omega
variable {kd2 : Nat → Nat} {lf2 rt2 : Nat → Int} {em2 : Nat → Bool}
theorem fo_ext (h : prt kd lf rt ab em st pv dl nn pp) (hd : dl ≤ nn) (ha : ∀ p, p < nn → kd2 p = kd p ∧ lf2 p = lf p ∧ rt2 p = rt p ∧ em2 p = em p) (p q : Nat) : fo kd2 lf2 rt2 em2 dl (nn + 1) p q = (fo kd lf rt em dl nn p q || fc kd2 lf2 rt2 em2 nn p q) := by
  have key : ∀ u, dl ≤ u → u < nn → fc kd2 lf2 rt2 em2 u p q = fc kd lf rt em u p q := by
    intro u u1 u2
    obtain ⟨i, i1, i2, i3⟩ := prt_of h u1 u2
    exact fc_agr (h.1 i i1).1 (n := nn) (fun x _ x2 => ha x x2) i2 i3 u2
  apply bool_iff
  rw [Bool.or_eq_true, fo_iff, fo_iff]
  constructor
  · rintro ⟨u, u1, u2, u3⟩
    by_cases e : u = nn
    · exact Or.inr (e ▸ u3)
    · exact Or.inl ⟨u, u1, by omega, by rw [← key u u1 (by omega)]; exact u3⟩
  · rintro (⟨u, u1, u2, u3⟩ | u3)
    · exact ⟨u, u1, by omega, by rw [key u u1 u2]; exact u3⟩
    · exact ⟨nn, hd, by omega, u3⟩
theorem prt_dl (h : prt kd lf rt ab em st pv dl nn pp) : dl ≤ nn := by
  rcases Nat.eq_zero_or_pos pp with e | e
  · have := h.2.1 e; omega
  · have h1 := h.1 (pp - 1) (by omega)
    have := h1.1.1
    omega
theorem fi_ext (h : prt kd lf rt ab em st pv dl nn pp) (ha : ∀ p, p < nn → kd2 p = kd p ∧ lf2 p = lf p ∧ rt2 p = rt p ∧ em2 p = em p) {i : Nat} (hi : i < pp) (q : Nat) : fi kd2 lf2 rt2 em2 (pv i) q = fi kd lf rt em (pv i) q := fi_agr (h.1 i hi).1 (n := nn) (fun x _ x2 => ha x x2) q (h.1 i hi).1.1 (Nat.le_refl _) (h.1 i hi).2.2.2
theorem la_ext (h : prt kd lf rt ab em st pv dl nn pp) (ha : ∀ p, p < nn → kd2 p = kd p ∧ lf2 p = lf p ∧ rt2 p = rt p ∧ em2 p = em p) {i : Nat} (hi : i < pp) (q : Nat) : la kd2 lf2 rt2 em2 (pv i) q = la kd lf rt em (pv i) q := la_agr (h.1 i hi).1 (n := nn) (fun x _ x2 => ha x x2) q (h.1 i hi).1.1 (Nat.le_refl _) (h.1 i hi).2.2.2
theorem up_agr {K : Nat} {x y : Int} {e : Bool} : ∀ p, p < nn → va_up kd nn K p = kd p ∧ va_up lf nn x p = lf p ∧ va_up rt nn y p = rt p ∧ va_up em nn e p = em p := fun p hp => ⟨up_lt hp, up_lt hp, up_lt hp, up_lt hp⟩
theorem d_name (h : dRel kd nv lf rt ab em st pv dl nn nd nm fw iw lw mb nc pp) (hp : pp < 40) (hc : nc < 255) {x : Nat} (hx : 1 ≤ x ∧ x ≤ 1000) :
    dRel (va_up kd nn 0) (va_up nv nn x) (va_up lf nn (-1)) (va_up rt nn (-1)) (va_up ab nn (-1)) (va_up em nn false) (va_up st nn nn) (va_up pv pp nn) dl (nn + 1) (va_up nd nc nn) (va_up nm nc x) (zclr fw nc) (zadd (zclr iw pp) pp nc) (zadd (zclr lw pp) pp nc) (va_up mb pp false) (nc + 1) (pp + 1) := by
  obtain ⟨⟨h1, h2, h3⟩, hpr, hnm, hiw, hlw, hmb, hfw⟩ := h
  have hdl := prt_dl hpr
  have ha := up_agr (kd := kd) (lf := lf) (rt := rt) (em := em) (nn := nn) (K := 0) (x := -1) (y := -1) (e := false)
  have hkn : va_up kd nn 0 nn = 0 := up_at
  have hpv : ∀ i, i < pp → va_up pv pp nn i = pv i := fun i hi => up_lt hi
  have hnd : ∀ o, o < nc → va_up nd nc nn o = nd o := fun o ho => up_lt ho
  have hfin : ∀ i, i < pp → ∀ q, nn ≤ q → fi kd lf rt em (pv i) q = false := fun i hi q hq => by
    cases hf : fi kd lf rt em (pv i) q with
    | false => rfl
    | true => have := (fi_in (hpr.1 i hi).1 _ _ q (Nat.le_refl _) (hpr.1 i hi).1.1 (Nat.le_refl _) hf).2.1; have := (hpr.1 i hi).2.2.2; omega
  have hlan : ∀ i, i < pp → ∀ q, nn ≤ q → la kd lf rt em (pv i) q = false := fun i hi q hq => by
    cases hf : la kd lf rt em (pv i) q with
    | false => rfl
    | true => have := (la_in (hpr.1 i hi).1 _ _ q (Nat.le_refl _) (hpr.1 i hi).1.1 (Nat.le_refl _) hf).2.1; have := (hpr.1 i hi).2.2.2; omega
  have hfon : ∀ p q, (nn ≤ p ∨ nn ≤ q) → fo kd lf rt em dl nn p q = false := fun p q hq => by
    cases hf : fo kd lf rt em dl nn p q with
    | false => rfl
    | true => have := fo_rng hpr hf; omega
  have hfc : ∀ p q, fc (va_up kd nn 0) (va_up lf nn (-1)) (va_up rt nn (-1)) (va_up em nn false) nn p q = false := fun p q => by
    cases hf : fc (va_up kd nn 0) (va_up lf nn (-1)) (va_up rt nn (-1)) (va_up em nn false) nn p q with
    | false => rfl
    | true => exact absurd hkn (fc_la hf).1
  refine ⟨⟨by omega, by omega, fun q => by omega⟩, ⟨fun i hi => ?_, fun q => by omega, fun _ => by rw [show pp + 1 - 1 = pp by omega, up_at]⟩, ⟨fun o ho => ?_, fun o o2 h4 h5 => ?_, fun p p1 p2 p3 => ?_, fun p p1 p2 => ?_⟩, fun i hi o ho => ?_, fun i hi o ho => ?_, fun i hi => ?_, fun o ho o2 ho2 => ?_⟩
  · by_cases e : i = pp
    · have hb : pb (va_up pv pp nn) dl i = nn := by
        rw [e, pb_congr (pv := pv) (fun k hk => up_lt hk)]
        cases pp with
        | zero => exact (hpr.2.1 rfl).symm
        | succ q => exact hpr.2.2 (by omega)
      rw [hb, e, up_at]
      exact ⟨tr_one hkn up_at up_at, up_at, hdl, by omega⟩
    · have hi2 : i < pp := by omega
      obtain ⟨g1, g2, g3, g4⟩ := hpr.1 i hi2
      rw [pb_congr (pv := pv) (fun k hk => up_lt (by omega)), hpv i hi2]
      exact ⟨tr_agr g1 (fun x _ x2 => ha x (by omega)) (fun x _ x2 => ⟨up_lt (by omega), up_lt (by omega)⟩), by rw [up_lt g4]; exact g2, g3, by omega⟩
  · by_cases e : o = nc
    · rw [e, up_at, up_at, up_at, up_at]
      exact ⟨hdl, by omega, rfl, rfl, hx.1, hx.2⟩
    · obtain ⟨a1, a2, a3, a4, a5, a6⟩ := hnm.1 o (by omega)
      rw [up_ne e, up_ne e, up_lt a2, up_lt a2]
      exact ⟨a1, by omega, a3, a4, a5, a6⟩
  · by_cases e : o2 = nc
    · rw [e, up_at, up_lt (show o < nc by omega)]
      exact (hnm.1 o (by omega)).2.1
    · rw [up_lt (show o < nc by omega), up_ne e]
      exact hnm.2.1 o o2 h4 (by omega)
  · by_cases e : p = nn
    · exact ⟨nc, by omega, by rw [up_at, e]⟩
    · rw [up_ne e] at p3
      obtain ⟨o, o1, o2⟩ := hnm.2.2.1 p p1 (by omega) p3
      exact ⟨o, by omega, by rw [up_lt o1]; exact o2⟩
  · by_cases e : p = nn
    · rw [e, up_at]; exact hx.2
    · rw [up_ne e]; exact hnm.2.2.2 p p1 (by omega)
  · rw [zbt_add _ _ _ _ _ (by omega) ho, zbt_clr _ _ _ _ ho]
    by_cases e : i = pp
    · rw [if_pos e, e, up_at, fi_name hkn, decide_eq_true rfl]
      by_cases c : o = nc
      · rw [c, up_at]; simp
      · by_cases c2 : o < nc
        · have := (hnm.1 o c2).2.1
          rw [up_lt c2, decide_eq_false c, decide_eq_false (show ¬ nd o = nn by omega)]; simp
        · rw [decide_eq_false c, decide_eq_false (show ¬ o < nc + 1 by omega)]; simp
    · have hi2 : i < pp := by omega
      rw [if_neg e, decide_eq_false e, hpv i hi2, fi_ext hpr ha hi2, hiw i hi2 o ho]
      by_cases c2 : o < nc
      · rw [up_lt c2, decide_eq_true c2, decide_eq_true (show o < nc + 1 by omega)]; simp
      · by_cases c : o = nc
        · rw [c, up_at, hfin i hi2 nn (Nat.le_refl _)]; simp
        · rw [decide_eq_false c2, decide_eq_false (show ¬ o < nc + 1 by omega)]; simp
  · rw [zbt_add _ _ _ _ _ (by omega) ho, zbt_clr _ _ _ _ ho]
    by_cases e : i = pp
    · rw [if_pos e, e, up_at, la_name hkn, decide_eq_true rfl]
      by_cases c : o = nc
      · rw [c, up_at]; simp
      · by_cases c2 : o < nc
        · have := (hnm.1 o c2).2.1
          rw [up_lt c2, decide_eq_false c, decide_eq_false (show ¬ nd o = nn by omega)]; simp
        · rw [decide_eq_false c, decide_eq_false (show ¬ o < nc + 1 by omega)]; simp
    · have hi2 : i < pp := by omega
      rw [if_neg e, decide_eq_false e, hpv i hi2, la_ext hpr ha hi2, hlw i hi2 o ho]
      by_cases c2 : o < nc
      · rw [up_lt c2, decide_eq_true c2, decide_eq_true (show o < nc + 1 by omega)]; simp
      · by_cases c : o = nc
        · rw [c, up_at, hlan i hi2 nn (Nat.le_refl _)]; simp
        · rw [decide_eq_false c2, decide_eq_false (show ¬ o < nc + 1 by omega)]; simp
  · by_cases e : i = pp
    · rw [e, up_at, up_at, up_at]
    · rw [up_ne e, up_ne e, up_lt (hpr.1 i (by omega)).2.2.2]
      exact hmb i (by omega)
  · rw [zbt_clr _ _ _ _ ho2, fo_ext hpr hdl ha, hfc, Bool.or_false]
    by_cases e : o = nc
    · rw [if_pos e, e, up_at, hfon _ _ (Or.inl (Nat.le_refl _))]; simp
    · have ho3 : o < nc := by omega
      rw [if_neg e, up_lt ho3, hfw o ho3 o2 ho2]
      by_cases c2 : o2 < nc
      · rw [up_lt c2, decide_eq_true c2, decide_eq_true (show o2 < nc + 1 by omega)]
      · by_cases c : o2 = nc
        · rw [c, up_at, hfon _ _ (Or.inr (Nat.le_refl _))]; simp
        · rw [decide_eq_false c2, decide_eq_false (show ¬ o2 < nc + 1 by omega)]; simp
end DR
