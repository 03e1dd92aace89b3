section DO
variable {kd nv : Nat → Nat} {lf rt ab : Nat → Int} {em : Nat → Bool} {st pv : Nat → Nat} {dl nn : Nat} {nd nm : Nat → Nat} {fw iw lw : Nat → Int64} {mb : Nat → Bool} {nc q : Nat}
variable {kd2 nv2 : Nat → Nat} {lf2 rt2 ab2 : Nat → Int} {em2 : Nat → Bool} {st2 pv2 : Nat → Nat} {nn2 : Nat} {fw2 : Nat → Int64} {mb2 : Nat → Bool}
theorem d_asm (h : dRel kd nv lf rt ab em st pv dl nn nd nm fw iw lw mb nc (q + 1)) (hpr : prt kd2 lf2 rt2 ab2 em2 st2 pv2 dl nn2 (q + 1)) (hnm : nmR kd2 nv2 nd nm dl nn2 nc) (hfi : ∀ i, i < q + 1 → ∀ x, fi kd2 lf2 rt2 em2 (pv2 i) x = fi kd lf rt em (pv i) x) (hla : ∀ i, i < q + 1 → ∀ x, la kd2 lf2 rt2 em2 (pv2 i) x = la kd lf rt em (pv i) x) (hmb : ∀ i, i < q + 1 → mb2 i = em2 (pv2 i)) (hfw : ∀ o, o < nc → ∀ o2, o2 < 256 → zbt fw2 o o2 = (decide (o2 < nc) && fo kd2 lf2 rt2 em2 dl nn2 (nd o) (nd o2))) : dRel kd2 nv2 lf2 rt2 ab2 em2 st2 pv2 dl nn2 nd nm fw2 iw lw mb2 nc (q + 1) := by
  obtain ⟨h1, -, -, hiw, hlw, -, -⟩ := h
  exact ⟨h1, hpr, hnm, fun i hi o ho => by rw [hfi i hi]; exact hiw i hi o ho, fun i hi o ho => by rw [hla i hi]; exact hlw i hi o ho, hmb, hfw⟩
theorem fwL (h : dRel kd nv lf rt ab em st pv dl nn nd nm fw iw lw mb nc (q + 1)) {o o2 : Nat} (ho : o < nc) (ho2 : o2 < 256) : zbt (lfw fw iw lw q q nc) o o2 = (decide (o2 < nc) && (fo kd lf rt em dl nn (nd o) (nd o2) || (la kd lf rt em (pv q) (nd o) && fi kd lf rt em (pv q) (nd o2)))) := by
  obtain ⟨⟨h1, h2, h3⟩, hpr, hnm, hiw, hlw, hmb, hfw⟩ := h
  rw [zbt_lfw _ _ _ _ _ _ _ _ ho2, hfw o ho o2 ho2, hlw q (by omega) o (by omega), hiw q (by omega) o2 ho2, decide_eq_true ho]
  cases decide (o2 < nc) <;> cases fo kd lf rt em dl nn (nd o) (nd o2) <;> cases la kd lf rt em (pv q) (nd o) <;> cases fi kd lf rt em (pv q) (nd o2) <;> rfl
/-- a part's root that is 'maybe', 'any' or 'some' -/
theorem un_at (h : prt kd lf rt ab em st pv dl nn (q + 1)) (k1 : 1 ≤ kd (pv q)) (k3 : kd (pv q) ≤ 3) (x : Nat) : fi kd lf rt em (pv q) x = fi kd lf rt em (lf (pv q)).toNat x ∧ la kd lf rt em (pv q) x = la kd lf rt em (lf (pv q)).toNat x ∧ (lf (pv q)).toNat < pv q ∧ pb pv dl q ≤ (lf (pv q)).toNat := by
  have ht := (h.1 q (by omega)).1
  obtain ⟨-, l2, l3, -⟩ := tr_L ht ht.1 (Nat.le_refl _) (show ¬ kd (pv q) = 0 by omega)
  refine ⟨fi_one ht ht.1 (Nat.le_refl _) (by omega) (by omega) (fun z => by omega) x, ?_, l3, l2⟩
  rw [la_node ht x ht.1 (Nat.le_refl _) (by omega), decide_eq_false (show ¬ kd (pv q) = 5 by omega), decide_eq_false (show ¬ kd (pv q) = 4 by omega)]
  simp
theorem star_in (h : prt kd lf rt ab em st pv dl nn (q + 1)) (hk : kd (pv q) = 2 ∨ kd (pv q) = 3) (p x : Nat) : (fo kd lf rt em dl nn p x || (la kd lf rt em (pv q) p && fi kd lf rt em (pv q) x)) = fo kd lf rt em dl nn p x := by
  have hv := h.1 q (by omega)
  obtain ⟨u1, -⟩ := un_at h (by omega) (by omega) x
  obtain ⟨-, u2, -⟩ := un_at h (by omega) (by omega) p
  cases hc : (la kd lf rt em (pv q) p && fi kd lf rt em (pv q) x) with
  | false => rw [Bool.or_false]
  | true =>
    have : fo kd lf rt em dl nn p x = true := fo_iff.mpr ⟨pv q, by have := hv.1.1; have := hv.2.2.1; omega, hv.2.2.2, by
      unfold fc
      rw [← u1, ← u2, hc]
      rcases hk with e | e
      · rw [decide_eq_true e]; simp
      · rw [decide_eq_true e]; simp⟩
    rw [this]; rfl
theorem em_at (h : prt kd lf rt ab em st pv dl nn (q + 1)) (hk : kd (pv q) = 1 ∨ kd (pv q) = 2) : em (pv q) = true := by
  have ht := (h.1 q (by omega)).1
  exact (ht.2.2 _ ht.1 (Nat.le_refl _)).2.2.2.2.2.2.1 hk
/-- nothing new on the reference's side -/
theorem d_same1 (h : dRel kd nv lf rt ab em st pv dl nn nd nm fw iw lw mb nc (q + 1)) (hk : kd (pv q) = 1 ∨ kd (pv q) = 2) : dRel kd nv lf rt ab em st pv dl nn nd nm fw iw lw (va_up mb q true) nc (q + 1) := by
  obtain ⟨h1, hpr, hnm, hiw, hlw, hmb, hfw⟩ := id h
  refine d_asm h hpr hnm (fun _ _ _ => rfl) (fun _ _ _ => rfl) (fun i hi => ?_) hfw
  by_cases e : i = q
  · rw [e, up_at, em_at hpr hk]
  · rw [up_ne e]; exact hmb i hi
theorem d_same3 (h : dRel kd nv lf rt ab em st pv dl nn nd nm fw iw lw mb nc (q + 1)) (hk : kd (pv q) = 2 ∨ kd (pv q) = 3) : dRel kd nv lf rt ab em st pv dl nn nd nm (lfw fw iw lw q q nc) iw lw mb nc (q + 1) := by
  obtain ⟨h1, hpr, hnm, hiw, hlw, hmb, hfw⟩ := id h
  exact d_asm h hpr hnm (fun _ _ _ => rfl) (fun _ _ _ => rfl) hmb (fun o ho o2 ho2 => by rw [fwL h ho ho2, star_in hpr hk])
theorem d_same2 (h : dRel kd nv lf rt ab em st pv dl nn nd nm fw iw lw mb nc (q + 1)) (hk : kd (pv q) = 2) : dRel kd nv lf rt ab em st pv dl nn nd nm (lfw fw iw lw q q nc) iw lw (va_up mb q true) nc (q + 1) := d_same1 (d_same3 h (Or.inl hk)) (Or.inr hk)
/-- the root is turned to 'any' -/
theorem up_prt (h : prt kd lf rt ab em st pv dl nn (q + 1)) (hk : kd (pv q) = 1 ∨ kd (pv q) = 3) : prt (va_up kd (pv q) 2) lf rt ab (va_up em (pv q) true) st pv dl nn (q + 1) := by
  refine ⟨fun i hi => ?_, h.2.1, h.2.2⟩
  obtain ⟨c1, c2, c3, c4⟩ := h.1 i hi
  by_cases e : i = q
  · subst e
    exact ⟨tr_any c1 hk, c2, c3, c4⟩
  · have hm := prt_mono h (show i < q by omega) (show q < q + 1 by omega)
    have := (h.1 q (by omega)).1.1
    exact ⟨tr_agr c1 (fun x _ x2 => ⟨up_ne (by omega), rfl, rfl, up_ne (by omega)⟩) (fun x _ _ => ⟨rfl, rfl⟩), c2, c3, c4⟩
theorem up_fl (h : prt kd lf rt ab em st pv dl nn (q + 1)) (hk : kd (pv q) = 1 ∨ kd (pv q) = 3) : ∀ i, i < q + 1 → ∀ x, fi (va_up kd (pv q) 2) lf rt (va_up em (pv q) true) (pv i) x = fi kd lf rt em (pv i) x ∧ la (va_up kd (pv q) 2) lf rt (va_up em (pv q) true) (pv i) x = la kd lf rt em (pv i) x := by
  intro i hi x
  have ha : agr kd (va_up kd (pv q) 2) lf lf rt rt em (va_up em (pv q) true) (pb pv dl i) (pv q) := fun y _ y2 => ⟨up_ne (by omega), rfl, rfl, up_ne (by omega)⟩
  have ht := (h.1 i hi).1
  by_cases e : i = q
  · subst e
    obtain ⟨u1, u2, u3, u4⟩ := un_at h (by omega) (by omega) x
    obtain ⟨v1, v2, -⟩ := un_at (up_prt h hk) (by rw [up_at]; omega) (by rw [up_at]; omega) x
    rw [u1, u2, v1, v2]
    exact ⟨fi_agr ht ha x u4 (by omega) u3, la_agr ht ha x u4 (by omega) u3⟩
  · have hm := prt_mono h (show i < q by omega) (show q < q + 1 by omega)
    have := (h.1 q (by omega)).1.1
    exact ⟨fi_agr ht ha x ht.1 (Nat.le_refl _) (by omega), la_agr ht ha x ht.1 (Nat.le_refl _) (by omega)⟩
theorem up_fo (h : prt kd lf rt ab em st pv dl nn (q + 1)) (hk : kd (pv q) = 1 ∨ kd (pv q) = 3) (p x : Nat) : fo (va_up kd (pv q) 2) lf rt (va_up em (pv q) true) dl nn p x = (fo kd lf rt em dl nn p x || (la kd lf rt em (pv q) p && fi kd lf rt em (pv q) x)) := by
  have hv := h.1 q (by omega)
  have hnn : pv q + 1 = nn := h.2.2 (by omega)
  have hkey : ∀ u, dl ≤ u → u < pv q → fc (va_up kd (pv q) 2) lf rt (va_up em (pv q) true) u p x = fc kd lf rt em u p x := by
    intro u u1 u2
    obtain ⟨i, i1, i2, i3⟩ := prt_of h u1 (show u < nn by omega)
    exact fc_agr (h.1 i i1).1 (n := pv q) (fun y _ y2 => ⟨up_ne (by omega), rfl, rfl, up_ne (by omega)⟩) i2 i3 u2
  obtain ⟨u1, -, u3, u4⟩ := un_at h (by omega) (by omega) x
  obtain ⟨-, u2, -, -⟩ := un_at h (by omega) (by omega) p
  have ha : agr kd (va_up kd (pv q) 2) lf lf rt rt em (va_up em (pv q) true) (pb pv dl q) (pv q) := fun y _ y2 => ⟨up_ne (by omega), rfl, rfl, up_ne (by omega)⟩
  have hroot : fc (va_up kd (pv q) 2) lf rt (va_up em (pv q) true) (pv q) p x = (la kd lf rt em (pv q) p && fi kd lf rt em (pv q) x) := by
    unfold fc
    rw [up_at, la_agr hv.1 ha p u4 (by omega) u3, fi_agr hv.1 ha x u4 (by omega) u3, ← u1, ← u2]
    simp
  apply bool_iff
  rw [Bool.or_eq_true, fo_iff, fo_iff]
  constructor
  · rintro ⟨u, w1, w2, w3⟩
    by_cases e : u = pv q
    · rw [e, hroot] at w3; exact Or.inr w3
    · exact Or.inl ⟨u, w1, w2, by rw [← hkey u w1 (by omega)]; exact w3⟩
  · rintro (⟨u, w1, w2, w3⟩ | w3)
    · by_cases e : u = pv q
      · refine ⟨u, w1, w2, ?_⟩
        rw [e, hroot]
        rw [e] at w3
        unfold fc at w3
        rw [← u1, ← u2] at w3
        rcases Bool.or_eq_true_iff.mp w3 with z | z
        · have := of_decide_eq_true (Bool.and_eq_true_iff.mp z).1
          omega
        · exact (Bool.and_eq_true_iff.mp z).2
      · exact ⟨u, w1, w2, by rw [hkey u w1 (by omega)]; exact w3⟩
    · exact ⟨pv q, by have := hv.1.1; have := hv.2.2.1; omega, by omega, by rw [hroot]; exact w3⟩
theorem up_nm (h : nmR kd nv nd nm dl nn nc) {y : Nat} (hk : ¬ kd y = 0) : nmR (va_up kd y 2) nv nd nm dl nn nc := by
  refine ⟨fun o ho => ?_, h.2.1, fun p p1 p2 p3 => ?_, h.2.2.2⟩
  · obtain ⟨a1, a2, a3, a4, a5, a6⟩ := h.1 o ho
    rw [up_ne (fun z => by rw [z] at a3; exact hk a3)]
    exact ⟨a1, a2, a3, a4, a5, a6⟩
  · by_cases e : p = y
    · rw [e, up_at] at p3; omega
    · rw [up_ne e] at p3; exact h.2.2.1 p p1 p2 p3
theorem d_up2 (h : dRel kd nv lf rt ab em st pv dl nn nd nm fw iw lw mb nc (q + 1)) (hk : kd (pv q) = 1 ∨ kd (pv q) = 3) : dRel (va_up kd (pv q) 2) nv lf rt ab (va_up em (pv q) true) st pv dl nn nd nm (lfw fw iw lw q q nc) iw lw (va_up mb q true) nc (q + 1) := by
  obtain ⟨h1, hpr, hnm, hiw, hlw, hmb, hfw⟩ := id h
  refine d_asm h (up_prt hpr hk) (up_nm hnm (by omega)) (fun i hi x => (up_fl hpr hk i hi x).1) (fun i hi x => (up_fl hpr hk i hi x).2) (fun i hi => ?_) (fun o ho o2 ho2 => by rw [fwL h ho ho2, up_fo hpr hk])
  by_cases e : i = q
  · rw [e, up_at, up_at]
  · have hm := prt_mono hpr (show i < q by omega) (show q < q + 1 by omega)
    have := (hpr.1 q (by omega)).1.1
    rw [up_ne e, up_ne (by omega)]; exact hmb i hi
theorem d_up3 (h : dRel kd nv lf rt ab em st pv dl nn nd nm fw iw lw mb nc (q + 1)) (hk : kd (pv q) = 1) : dRel (va_up kd (pv q) 2) nv lf rt ab (va_up em (pv q) true) st pv dl nn nd nm (lfw fw iw lw q q nc) iw lw mb nc (q + 1) := by
  obtain ⟨h1, hpr, hnm, hiw, hlw, hmb, hfw⟩ := id h
  refine d_asm h (up_prt hpr (Or.inl hk)) (up_nm hnm (by omega)) (fun i hi x => (up_fl hpr (Or.inl hk) i hi x).1) (fun i hi x => (up_fl hpr (Or.inl hk) i hi x).2) (fun i hi => ?_) (fun o ho o2 ho2 => by rw [fwL h ho ho2, up_fo hpr (Or.inl hk)])
  by_cases e : i = q
  · rw [e, up_at, hmb q (by omega), em_at hpr (Or.inl hk)]
  · have hm := prt_mono hpr (show i < q by omega) (show q < q + 1 by omega)
    have := (hpr.1 q (by omega)).1.1
    rw [up_ne (by omega)]; exact hmb i hi
theorem d_up1 (h : dRel kd nv lf rt ab em st pv dl nn nd nm fw iw lw mb nc (q + 1)) (hk : kd (pv q) = 3) : dRel (va_up kd (pv q) 2) nv lf rt ab (va_up em (pv q) true) st pv dl nn nd nm fw iw lw (va_up mb q true) nc (q + 1) := by
  obtain ⟨h1, hpr, hnm, hiw, hlw, hmb, hfw⟩ := id h
  refine d_asm h (up_prt hpr (Or.inr hk)) (up_nm hnm (by omega)) (fun i hi x => (up_fl hpr (Or.inr hk) i hi x).1) (fun i hi x => (up_fl hpr (Or.inr hk) i hi x).2) (fun i hi => ?_) (fun o ho o2 ho2 => by rw [hfw o ho o2 ho2, up_fo hpr (Or.inr hk), star_in hpr (Or.inr hk)])
  by_cases e : i = q
  · rw [e, up_at, up_at]
  · have hm := prt_mono hpr (show i < q by omega) (show q < q + 1 by omega)
    have := (hpr.1 q (by omega)).1.1
    rw [up_ne e, up_ne (by omega)]; exact hmb i hi
/-- a new node over the last part -/
theorem u_prt (h : prt kd lf rt ab em st pv dl nn (q + 1)) {K : Nat} (k1 : 1 ≤ K) (k3 : K ≤ 3) (E : Bool) (hE : K = 1 ∨ K = 2 → E = true) : prt (va_up kd nn K) (va_up lf nn ((pv q : Nat) : Int)) (va_up rt nn (-1)) (va_up (va_up ab nn (-1)) (pv q) ((nn : Nat) : Int)) (va_up em nn E) (va_up st nn (st (pv q))) (va_up pv q nn) dl (nn + 1) (q + 1) := by
  obtain ⟨g1, g2, g3, g4⟩ := h.1 q (by omega)
  have hnn : pv q + 1 = nn := h.2.2 (by omega)
  refine ⟨fun i hi => ?_, fun e => by omega, fun _ => by rw [show q + 1 - 1 = q by omega, up_at]⟩
  by_cases e : i = q
  · subst e
    rw [pb_congr (pv := pv) (fun k hk => up_lt hk), up_at, up_at]
    refine ⟨?_, g2, g3, by omega⟩
    have hb := tr_un (kd2 := va_up kd nn K) (lf2 := va_up lf nn ((pv i : Nat) : Int)) (rt2 := va_up rt nn (-1)) (ab2 := va_up (va_up ab nn (-1)) (pv i) ((nn : Nat) : Int)) (em2 := va_up em nn E) (st2 := va_up st nn (st (pv i))) g1 (fun x _ x2 => ⟨up_lt (by omega), up_lt (by omega), up_lt (by omega), up_lt (by omega)⟩) (fun x _ x2 => by rw [up_ne (by omega), up_ne (by omega)]) (fun x _ x2 => up_lt (by omega)) (by rw [hnn, up_at]; exact k1) (by rw [hnn, up_at]; exact k3) (by rw [hnn, up_at]) (by rw [hnn, up_at]) (by rw [hnn, up_ne (by omega), up_at]) (by rw [hnn, up_at]) (by rw [hnn, up_at, up_at]; exact hE)
    rw [hnn] at hb
    exact hb
  · have hi2 : i < q := by omega
    obtain ⟨c1, c2, c3, c4⟩ := h.1 i (by omega)
    have hm : pv i < pv q := by
      have := prt_mono h hi2 (show q < q + 1 by omega)
      have := g1.1
      omega
    rw [pb_congr (pv := pv) (fun k hk => up_lt (by omega)), up_lt hi2]
    exact ⟨tr_agr c1 (fun x _ x2 => ⟨up_lt (by omega), up_lt (by omega), up_lt (by omega), up_lt (by omega)⟩) (fun x _ x2 => ⟨by rw [up_ne (by omega), up_ne (by omega)], up_lt (by omega)⟩), by rw [up_lt c4]; exact c2, c3, by omega⟩
theorem u_all (h : prt kd lf rt ab em st pv dl nn (q + 1)) {K : Nat} (k1 : 1 ≤ K) (k3 : K ≤ 3) (E : Bool) (hE : K = 1 ∨ K = 2 → E = true) (i : Nat) (hi : i < q + 1) (x : Nat) :
    fi (va_up kd nn K) (va_up lf nn ((pv q : Nat) : Int)) (va_up rt nn (-1)) (va_up em nn E) (va_up pv q nn i) x = fi kd lf rt em (pv i) x ∧ la (va_up kd nn K) (va_up lf nn ((pv q : Nat) : Int)) (va_up rt nn (-1)) (va_up em nn E) (va_up pv q nn i) x = la kd lf rt em (pv i) x ∧
    ∀ p, fo (va_up kd nn K) (va_up lf nn ((pv q : Nat) : Int)) (va_up rt nn (-1)) (va_up em nn E) dl (nn + 1) p x = (fo kd lf rt em dl nn p x || ((decide (K = 2) || decide (K = 3)) && (la kd lf rt em (pv q) p && fi kd lf rt em (pv q) x))) := by
  have ha := up_agr (kd := kd) (lf := lf) (rt := rt) (em := em) (nn := nn) (K := K) (x := ((pv q : Nat) : Int)) (y := -1) (e := E)
  have hq : q < q + 1 := by omega
  have hp2 := u_prt h k1 k3 E hE
  have hkn : va_up kd nn K nn = K := up_at
  have hL : (va_up lf nn ((pv q : Nat) : Int) nn).toNat = pv q := by rw [up_at, Int.toNat_natCast]
  have hun := fun y => un_at hp2 (by rw [up_at, hkn]; exact k1) (by rw [up_at, hkn]; exact k3) y
  rw [up_at, hL] at hun
  refine ⟨?_, ?_, fun p => ?_⟩
  · by_cases e : i = q
    · rw [e, up_at, (hun x).1, fi_ext h ha hq]
    · rw [up_ne e, fi_ext h ha hi]
  · by_cases e : i = q
    · rw [e, up_at, (hun x).2.1, la_ext h ha hq]
    · rw [up_ne e, la_ext h ha hi]
  · rw [fo_ext h (prt_dl h) ha]
    congr 1
    unfold fc
    rw [hkn, hL, la_ext h ha hq, fi_ext h ha hq, decide_eq_false (show ¬ K = 4 by omega)]
    simp
theorem d_new1 (h : dRel kd nv lf rt ab em st pv dl nn nd nm fw iw lw mb nc (q + 1)) : dRel (va_up kd nn 1) (va_up nv nn 0) (va_up lf nn ((pv q : Nat) : Int)) (va_up rt nn (-1)) (va_up (va_up ab nn (-1)) (pv q) ((nn : Nat) : Int)) (va_up em nn true) (va_up st nn (st (pv q))) (va_up pv q nn) dl (nn + 1) nd nm fw iw lw (va_up mb q true) nc (q + 1) := by
  obtain ⟨h1, hpr, hnm, hiw, hlw, hmb, hfw⟩ := id h
  have hall := u_all hpr (K := 1) (by omega) (by omega) true (fun _ => rfl)
  refine d_asm h (u_prt hpr (by omega) (by omega) true (fun _ => rfl)) (nmR_up hnm (by omega)) (fun i hi x => (hall i hi x).1) (fun i hi x => (hall i hi x).2.1) (fun i hi => ?_) (fun o ho o2 ho2 => by rw [(hall q (by omega) _).2.2, hfw o ho o2 ho2]; simp)
  by_cases e : i = q
  · rw [e, up_at, up_at, up_at]
  · rw [up_ne e, up_ne e, up_lt (hpr.1 i hi).2.2.2]; exact hmb i hi
theorem d_new2 (h : dRel kd nv lf rt ab em st pv dl nn nd nm fw iw lw mb nc (q + 1)) : dRel (va_up kd nn 2) (va_up nv nn 0) (va_up lf nn ((pv q : Nat) : Int)) (va_up rt nn (-1)) (va_up (va_up ab nn (-1)) (pv q) ((nn : Nat) : Int)) (va_up em nn true) (va_up st nn (st (pv q))) (va_up pv q nn) dl (nn + 1) nd nm (lfw fw iw lw q q nc) iw lw (va_up mb q true) nc (q + 1) := by
  obtain ⟨h1, hpr, hnm, hiw, hlw, hmb, hfw⟩ := id h
  have hall := u_all hpr (K := 2) (by omega) (by omega) true (fun _ => rfl)
  refine d_asm h (u_prt hpr (by omega) (by omega) true (fun _ => rfl)) (nmR_up hnm (by omega)) (fun i hi x => (hall i hi x).1) (fun i hi x => (hall i hi x).2.1) (fun i hi => ?_) (fun o ho o2 ho2 => by rw [(hall q (by omega) _).2.2, fwL h ho ho2]; simp)
  by_cases e : i = q
  · rw [e, up_at, up_at, up_at]
  · rw [up_ne e, up_ne e, up_lt (hpr.1 i hi).2.2.2]; exact hmb i hi
theorem d_new3 (h : dRel kd nv lf rt ab em st pv dl nn nd nm fw iw lw mb nc (q + 1)) : dRel (va_up kd nn 3) (va_up nv nn 0) (va_up lf nn ((pv q : Nat) : Int)) (va_up rt nn (-1)) (va_up (va_up ab nn (-1)) (pv q) ((nn : Nat) : Int)) (va_up em nn (em (pv q))) (va_up st nn (st (pv q))) (va_up pv q nn) dl (nn + 1) nd nm (lfw fw iw lw q q nc) iw lw mb nc (q + 1) := by
  obtain ⟨h1, hpr, hnm, hiw, hlw, hmb, hfw⟩ := id h
  have hall := u_all hpr (K := 3) (by omega) (by omega) (em (pv q)) (fun z => by omega)
  refine d_asm h (u_prt hpr (by omega) (by omega) (em (pv q)) (fun z => by omega)) (nmR_up hnm (by omega)) (fun i hi x => (hall i hi x).1) (fun i hi x => (hall i hi x).2.1) (fun i hi => ?_) (fun o ho o2 ho2 => by rw [(hall q (by omega) _).2.2, fwL h ho ho2]; simp)
  by_cases e : i = q
  · rw [e, up_at, up_at]; exact hmb q (by omega)
  · rw [up_ne e, up_lt (hpr.1 i hi).2.2.2]; exact hmb i hi
theorem d_empty (kd nv : Nat → Nat) (lf rt ab : Nat → Int) (em : Nat → Bool) (st pv : Nat → Nat) (n : Nat) (nd nm : Nat → Nat) (fw iw lw : Nat → Int64) (mb : Nat → Bool) : dRel kd nv lf rt ab em st pv n n nd nm fw iw lw mb 0 0 :=
  ⟨⟨by omega, by omega, fun _ => rfl⟩, ⟨fun i hi => by omega, fun _ => rfl, fun z => by omega⟩, ⟨fun o ho => by omega, fun o o2 h1 h2 => by omega, fun p p1 p2 => by omega, fun p p1 p2 => by omega⟩, fun i hi => by omega, fun i hi => by omega, fun i hi => by omega, fun o ho => by omega⟩
end DO
