theorem nmR_up {kd nv nd nm : Nat → Nat} {b nn k K : Nat} (h : nmR kd nv nd nm b nn k) (hK : ¬ K = 0) : nmR (va_up kd nn K) (va_up nv nn 0) nd nm b (nn + 1) k := by
  refine ⟨fun o ho => ?_, h.2.1, fun p p1 p2 p3 => ?_, fun p p1 p2 => ?_⟩
  · obtain ⟨a1, a2, a3, a4, a5, a6⟩ := h.1 o ho
    rw [up_lt a2, up_lt a2]
    exact ⟨a1, by omega, a3, a4, a5, a6⟩
  · by_cases e : p = nn
    · rw [e, up_at] at p3; exact absurd p3 hK
    · rw [up_ne e] at p3
      exact h.2.2.1 p p1 (by omega) p3
  · by_cases e : p = nn
    · rw [e, up_at]; omega
    · rw [up_ne e]; exact h.2.2.2 p p1 (by omega)
section DJ
variable {kd nv : Nat → Nat} {lf rt ab : Nat → Int} {em : Nat → Bool} {st pv : Nat → Nat} {dl nn : Nat} {nd nm : Nat → Nat} {fw iw lw : Nat → Int64} {mb : Nat → Bool} {nc q : Nat}
theorem j_prt (h : prt kd lf rt ab em st pv dl nn (q + 2)) {K : Nat} (hK : K = 4 ∨ K = 5) (E : Bool) : prt (va_up kd nn K) (va_up lf nn ((pv q : Nat) : Int)) (va_up rt nn ((pv (q + 1) : Nat) : Int)) (va_up (va_up (va_up ab nn (-1)) (pv q) ((nn : Nat) : Int)) (pv (q + 1)) ((nn : Nat) : Int)) (va_up em nn E) (va_up st nn (st (pv q))) (va_up pv q nn) dl (nn + 1) (q + 1) := by
  obtain ⟨g1, g2, g3, g4⟩ := h.1 q (by omega)
  obtain ⟨f1, f2, f3, f4⟩ := h.1 (q + 1) (by omega)
  have hnn : pv (q + 1) + 1 = nn := h.2.2 (by omega)
  have f1' : tr kd lf rt ab em st (pv q + 1) (pv (q + 1)) := f1
  have f2' : st (pv (q + 1)) = pv q + 1 := f2
  have hlt : pv q < pv (q + 1) := f1'.1
  refine ⟨fun i hi => ?_, fun e => by omega, fun _ => by rw [show q + 1 - 1 = q by omega, up_at]⟩
  by_cases e : i = q
  · subst e
    rw [pb_congr (pv := pv) (fun k hk => up_lt hk), up_at, up_at]
    refine ⟨?_, g2, g3, by omega⟩
    have hb := tr_bin (kd2 := va_up kd nn K) (lf2 := va_up lf nn ((pv i : Nat) : Int)) (rt2 := va_up rt nn ((pv (i + 1) : Nat) : Int)) (ab2 := va_up (va_up (va_up ab nn (-1)) (pv i) ((nn : Nat) : Int)) (pv (i + 1)) ((nn : Nat) : Int)) (em2 := va_up em nn E) (st2 := va_up st nn (st (pv i))) g1 f1' f2' (fun x _ x2 => ⟨up_lt (by omega), up_lt (by omega), up_lt (by omega), up_lt (by omega)⟩) (fun x _ x2 x3 => by rw [up_ne (by omega), up_ne x3, up_ne (by omega)]) (fun x _ x2 => up_lt (by omega)) (by rw [hnn, up_at]; exact hK) (by rw [hnn, up_at]) (by rw [hnn, up_at]) (by rw [hnn, up_ne (by omega), up_at]) (by rw [hnn, up_at]) (by rw [hnn, up_ne (by omega), up_ne (by omega), up_at]) (by rw [hnn, up_at])
    rw [hnn] at hb
    exact hb
  · have hi2 : i < q := by omega
    obtain ⟨c1, c2, c3, c4⟩ := h.1 i (by omega)
    have hm : pv i < pv q := by
      have := prt_mono h hi2 (show q < q + 2 by omega)
      have := g1.1
      omega
    rw [pb_congr (pv := pv) (fun k hk => up_lt (by omega)), up_lt hi2]
    exact ⟨tr_agr c1 (fun x _ x2 => ⟨up_lt (by omega), up_lt (by omega), up_lt (by omega), up_lt (by omega)⟩) (fun x _ x2 => ⟨by rw [up_ne (by omega), up_ne (by omega), up_ne (by omega)], up_lt (by omega)⟩), by rw [up_lt c4]; exact c2, c3, by omega⟩
theorem j_all (h : prt kd lf rt ab em st pv dl nn (q + 2)) {K : Nat} (hK : K = 4 ∨ K = 5) (E : Bool) (x : Nat) :
    fi (va_up kd nn K) (va_up lf nn ((pv q : Nat) : Int)) (va_up rt nn ((pv (q + 1) : Nat) : Int)) (va_up em nn E) nn x = (fi kd lf rt em (pv q) x || ((decide (K = 5) || (decide (K = 4) && em (pv q))) && fi kd lf rt em (pv (q + 1)) x)) ∧
    la (va_up kd nn K) (va_up lf nn ((pv q : Nat) : Int)) (va_up rt nn ((pv (q + 1) : Nat) : Int)) (va_up em nn E) nn x = (((decide (K = 5) || decide (K = 4)) && la kd lf rt em (pv (q + 1)) x) || ((!decide (K = 4) || em (pv (q + 1))) && la kd lf rt em (pv q) x)) ∧
    ∀ p, fc (va_up kd nn K) (va_up lf nn ((pv q : Nat) : Int)) (va_up rt nn ((pv (q + 1) : Nat) : Int)) (va_up em nn E) nn p x = (decide (K = 4) && (la kd lf rt em (pv q) p && fi kd lf rt em (pv (q + 1)) x)) := by
  have ha := up_agr (kd := kd) (lf := lf) (rt := rt) (em := em) (nn := nn) (K := K) (x := ((pv q : Nat) : Int)) (y := ((pv (q + 1) : Nat) : Int)) (e := E)
  have hq := (h.1 q (by omega)).2.2.2
  have hq1 := (h.1 (q + 1) (by omega)).2.2.2
  have hp2 := (j_prt h hK E).1 q (by omega)
  rw [up_at] at hp2
  have hkn : va_up kd nn K nn = K := up_at
  have hL : (va_up lf nn ((pv q : Nat) : Int) nn).toNat = pv q := by rw [up_at, Int.toNat_natCast]
  have hR : (va_up rt nn ((pv (q + 1) : Nat) : Int) nn).toNat = pv (q + 1) := by rw [up_at, Int.toNat_natCast]
  refine ⟨?_, ?_, fun p => ?_⟩
  · rw [fi_node hp2.1 x hp2.1.1 (Nat.le_refl _) (by rw [hkn]; omega), hkn, hL, hR, fi_ext h ha (show q < q + 2 by omega), fi_ext h ha (show q + 1 < q + 2 by omega), up_lt hq]
  · rw [la_node hp2.1 x hp2.1.1 (Nat.le_refl _) (by rw [hkn]; omega), hkn, hL, hR, la_ext h ha (show q < q + 2 by omega), la_ext h ha (show q + 1 < q + 2 by omega), up_lt hq1]
  · unfold fc
    rw [hkn, hL, hR, la_ext h ha (show q < q + 2 by omega), fi_ext h ha (show q + 1 < q + 2 by omega), decide_eq_false (show ¬ K = 2 by omega), decide_eq_false (show ¬ K = 3 by omega)]
    simp
theorem d_row (h : dRel kd nv lf rt ab em st pv dl nn nd nm fw iw lw mb nc (q + 2)) :
    dRel (va_up kd nn 4) (va_up nv nn 0) (va_up lf nn ((pv q : Nat) : Int)) (va_up rt nn ((pv (q + 1) : Nat) : Int)) (va_up (va_up (va_up ab nn (-1)) (pv q) ((nn : Nat) : Int)) (pv (q + 1)) ((nn : Nat) : Int)) (va_up em nn (em (pv q) && em (pv (q + 1)))) (va_up st nn (st (pv q))) (va_up pv q nn) dl (nn + 1) nd nm (lfw fw iw lw q (q + 1) nc) (jrI iw mb q) (zor (jrL0 lw mb q) q (jrL0 lw mb q) (q + 1)) (va_up mb q (mb q && mb (q + 1))) nc (q + 1) := by
  obtain ⟨⟨h1, h2, h3⟩, hpr, hnm, hiw, hlw, hmb, hfw⟩ := h
  have hdl := prt_dl hpr
  have ha := up_agr (kd := kd) (lf := lf) (rt := rt) (em := em) (nn := nn) (K := 4) (x := ((pv q : Nat) : Int)) (y := ((pv (q + 1) : Nat) : Int)) (e := em (pv q) && em (pv (q + 1)))
  have hall := fun x => j_all hpr (Or.inl rfl) (em (pv q) && em (pv (q + 1))) (K := 4) x
  refine ⟨⟨by omega, h2, fun e => by omega⟩, j_prt hpr (Or.inl rfl) _, nmR_up hnm (by omega), fun i hi o ho => ?_, fun i hi o ho => ?_, fun i hi => ?_, fun o ho o2 ho2 => ?_⟩
  · rw [zbt_jrI _ _ _ _ _ ho]
    by_cases e : i = q
    · rw [if_pos e, e, up_at, (hall _).1, hiw q (by omega) o ho, hiw (q + 1) (by omega) o ho, hmb q (by omega)]
      simp only [decide_eq_false (show ¬ (4 : Nat) = 5 by omega), decide_eq_true (show (4 : Nat) = 4 by rfl), Bool.false_or, Bool.true_and]
      cases decide (o < nc) <;> cases em (pv q) <;> cases fi kd lf rt em (pv q) (nd o) <;> cases fi kd lf rt em (pv (q + 1)) (nd o) <;> rfl
    · rw [if_neg e, up_lt (show i < q by omega), fi_ext hpr ha (show i < q + 2 by omega), hiw i (by omega) o ho]
  · rw [zbt_jrL _ _ _ _ _ ho]
    by_cases e : i = q
    · rw [if_pos e, e, up_at, (hall _).2.1, hlw q (by omega) o ho, hlw (q + 1) (by omega) o ho, hmb (q + 1) (by omega)]
      simp only [decide_eq_false (show ¬ (4 : Nat) = 5 by omega), decide_eq_true (show (4 : Nat) = 4 by rfl), Bool.false_or, Bool.true_and, Bool.not_true]
      cases decide (o < nc) <;> cases em (pv (q + 1)) <;> cases la kd lf rt em (pv q) (nd o) <;> cases la kd lf rt em (pv (q + 1)) (nd o) <;> rfl
    · rw [if_neg e, up_lt (show i < q by omega), la_ext hpr ha (show i < q + 2 by omega), hlw i (by omega) o ho]
  · by_cases e : i = q
    · rw [e, up_at, up_at, up_at, hmb q (by omega), hmb (q + 1) (by omega)]
    · rw [up_ne e, up_ne e, up_lt (hpr.1 i (by omega)).2.2.2]
      exact hmb i (by omega)
  · rw [zbt_lfw _ _ _ _ _ _ _ _ ho2, fo_ext hpr hdl ha, (hall _).2.2, hfw o ho o2 ho2, hlw q (by omega) o (by omega), hiw (q + 1) (by omega) o2 ho2, decide_eq_true ho, decide_eq_true (show (4 : Nat) = 4 by rfl)]
    cases decide (o2 < nc) <;> cases fo kd lf rt em dl nn (nd o) (nd o2) <;> cases la kd lf rt em (pv q) (nd o) <;> cases fi kd lf rt em (pv (q + 1)) (nd o2) <;> rfl
theorem d_choice (h : dRel kd nv lf rt ab em st pv dl nn nd nm fw iw lw mb nc (q + 2)) :
    dRel (va_up kd nn 5) (va_up nv nn 0) (va_up lf nn ((pv q : Nat) : Int)) (va_up rt nn ((pv (q + 1) : Nat) : Int)) (va_up (va_up (va_up ab nn (-1)) (pv q) ((nn : Nat) : Int)) (pv (q + 1)) ((nn : Nat) : Int)) (va_up em nn (em (pv q) || em (pv (q + 1)))) (va_up st nn (st (pv q))) (va_up pv q nn) dl (nn + 1) nd nm fw (zor iw q iw (q + 1)) (zor lw q lw (q + 1)) (va_up mb q (mb q || mb (q + 1))) nc (q + 1) := by
  obtain ⟨⟨h1, h2, h3⟩, hpr, hnm, hiw, hlw, hmb, hfw⟩ := h
  have hdl := prt_dl hpr
  have ha := up_agr (kd := kd) (lf := lf) (rt := rt) (em := em) (nn := nn) (K := 5) (x := ((pv q : Nat) : Int)) (y := ((pv (q + 1) : Nat) : Int)) (e := em (pv q) || em (pv (q + 1)))
  have hall := fun x => j_all hpr (Or.inr rfl) (em (pv q) || em (pv (q + 1))) (K := 5) x
  refine ⟨⟨by omega, h2, fun e => by omega⟩, j_prt hpr (Or.inr rfl) _, nmR_up hnm (by omega), fun i hi o ho => ?_, fun i hi o ho => ?_, fun i hi => ?_, fun o ho o2 ho2 => ?_⟩
  · rw [zbt_or _ _ _ _ _ _ ho]
    by_cases e : i = q
    · rw [if_pos e, e, up_at, (hall _).1, hiw q (by omega) o ho, hiw (q + 1) (by omega) o ho, decide_eq_true (show (5 : Nat) = 5 by rfl)]
      cases decide (o < nc) <;> cases fi kd lf rt em (pv q) (nd o) <;> cases fi kd lf rt em (pv (q + 1)) (nd o) <;> rfl
    · rw [if_neg e, up_lt (show i < q by omega), fi_ext hpr ha (show i < q + 2 by omega), hiw i (by omega) o ho]
  · rw [zbt_or _ _ _ _ _ _ ho]
    by_cases e : i = q
    · rw [if_pos e, e, up_at, (hall _).2.1, hlw q (by omega) o ho, hlw (q + 1) (by omega) o ho, decide_eq_true (show (5 : Nat) = 5 by rfl), decide_eq_false (show ¬ (5 : Nat) = 4 by omega)]
      cases decide (o < nc) <;> cases la kd lf rt em (pv q) (nd o) <;> cases la kd lf rt em (pv (q + 1)) (nd o) <;> rfl
    · rw [if_neg e, up_lt (show i < q by omega), la_ext hpr ha (show i < q + 2 by omega), hlw i (by omega) o ho]
  · by_cases e : i = q
    · rw [e, up_at, up_at, up_at, hmb q (by omega), hmb (q + 1) (by omega)]
    · rw [up_ne e, up_ne e, up_lt (hpr.1 i (by omega)).2.2.2]
      exact hmb i (by omega)
  · rw [fo_ext hpr hdl ha, (hall _).2.2, hfw o ho o2 ho2, decide_eq_false (show ¬ (5 : Nat) = 4 by omega)]
    simp
end DJ
