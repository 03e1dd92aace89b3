/-! rows for the reference's loops -/
def orF (a f : Nat → Bool) : Nat → Bool := fun q => a q || f q
def enI (f : Nat → Nat → Bool) (lx : Nat → Bool) (tx : Nat → Nat) (n : Nat) (T : Nat → Bool) : Prop := ∀ q, (lx q || anyN (fun i => f (tx i) q) n) = T q
theorem up_lt {α : Type} {tx : Nat → α} {k i : Nat} {x : α} (h : i < k) : va_up tx k x i = tx i := by unfold va_up; rw [if_neg (by omega)]
theorem up_at {α : Type} {tx : Nat → α} {k : Nat} {x : α} : va_up tx k x k = x := by unfold va_up; rw [if_pos rfl]
theorem up_ne {α : Type} {tx : Nat → α} {k i : Nat} {x : α} (h : ¬ i = k) : va_up tx k x i = tx i := by unfold va_up; rw [if_neg h]
theorem enI_name {f : Nat → Nat → Bool} {lx : Nat → Bool} {tx : Nat → Nat} {k : Nat} {T : Nat → Bool} (h : enI f lx tx (k + 1) T) (hf : ∀ q, f (tx k) q = decide (q = tx k)) : enI f (va_up lx (tx k) true) tx k T := by
  intro q
  rw [← h q, anyN, hf q]
  by_cases e : q = tx k
  · rw [e, up_at, decide_eq_true rfl]; simp
  · rw [up_ne e, decide_eq_false e]; simp
theorem enI_one {f : Nat → Nat → Bool} {lx : Nat → Bool} {tx : Nat → Nat} {k L : Nat} {T : Nat → Bool} (h : enI f lx tx (k + 1) T) (hf : ∀ q, f (tx k) q = f L q) : enI f lx (va_up tx k L) (k + 1) T := by
  intro q
  rw [← h q, anyN, anyN, up_at, hf q, anyN_congr (f := fun i => f (va_up tx k L i) q) (g := fun i => f (tx i) q) (fun i hi => by rw [up_lt hi])]
theorem enI_two {f : Nat → Nat → Bool} {lx : Nat → Bool} {tx : Nat → Nat} {k L R : Nat} {T : Nat → Bool} (h : enI f lx tx (k + 1) T) (hf : ∀ q, f (tx k) q = (f L q || f R q)) : enI f lx (va_up (va_up tx k L) (k + 1) R) (k + 1 + 1) T := by
  intro q
  rw [← h q, anyN, anyN, anyN, up_at, up_lt (show k < k + 1 by omega), up_at, hf q, anyN_congr (f := fun i => f (va_up (va_up tx k L) (k + 1) R i) q) (g := fun i => f (tx i) q) (fun i hi => by rw [up_lt (show i < k + 1 by omega), up_lt hi])]
  cases lx q <;> cases anyN (fun i => f (tx i) q) k <;> cases f L q <;> cases f R q <;> rfl
def enS (st tx : Nat → Nat) (n : Nat) : Nat := sumN (fun i => tx i + 1 - st (tx i)) n
theorem enS_s {st tx : Nat → Nat} {k : Nat} : enS st tx (k + 1) = enS st tx k + (tx k + 1 - st (tx k)) := rfl
theorem enS_one {st tx : Nat → Nat} {k L : Nat} : enS st (va_up tx k L) (k + 1) = enS st tx k + (L + 1 - st L) := by
  unfold enS
  rw [sumN, up_at, sumN_congr (f := fun i => va_up tx k L i + 1 - st (va_up tx k L i)) (g := fun i => tx i + 1 - st (tx i)) (fun i hi => by rw [up_lt hi])]
theorem enS_two {st tx : Nat → Nat} {k L R : Nat} : enS st (va_up (va_up tx k L) (k + 1) R) (k + 1 + 1) = enS st tx k + (L + 1 - st L) + (R + 1 - st R) := by
  unfold enS
  rw [sumN, sumN, up_at, up_lt (show k < k + 1 by omega), up_at, sumN_congr (f := fun i => va_up (va_up tx k L) (k + 1) R i + 1 - st (va_up (va_up tx k L) (k + 1) R i)) (g := fun i => tx i + 1 - st (tx i)) (fun i hi => by rw [up_lt (show i < k + 1 by omega), up_lt hi])]
def enR (b r : Nat) (tx : Nat → Nat) (n : Nat) : Prop := ∀ i, i < n → b ≤ tx i ∧ tx i ≤ r
theorem enR_one {b r : Nat} {tx : Nat → Nat} {k L : Nat} (h : enR b r tx (k + 1)) (h1 : b ≤ L ∧ L ≤ r) : enR b r (va_up tx k L) (k + 1) := by
  intro i hi
  by_cases e : i = k
  · rw [e, up_at]; exact h1
  · rw [up_ne e]; exact h i hi
theorem enR_two {b r : Nat} {tx : Nat → Nat} {k L R : Nat} (h : enR b r tx (k + 1)) (h1 : b ≤ L ∧ L ≤ r) (h2 : b ≤ R ∧ R ≤ r) : enR b r (va_up (va_up tx k L) (k + 1) R) (k + 1 + 1) := by
  intro i hi
  by_cases e : i = k + 1
  · rw [e, up_at]; exact h2
  · rw [up_ne e]; exact enR_one h h1 i (by omega)
section TR2
variable {kd : Nat → Nat} {lf rt ab : Nat → Int} {em : Nat → Bool} {st : Nat → Nat} {b r : Nat}
theorem tr_z1 (h : tr kd lf rt ab em st b r) {p : Nat} (h1 : b ≤ p) (h2 : p ≤ r) : 1 ≤ p + 1 - st p ∧ b ≤ st p ∧ st p ≤ p := by
  obtain ⟨a1, a2, a3, -⟩ := h.2.2 p h1 h2
  exact ⟨by omega, a2, a3⟩
theorem tr_zL (h : tr kd lf rt ab em st b r) {p : Nat} (h1 : b ≤ p) (h2 : p ≤ r) (hk : ¬ kd p = 0) : ((lf p).toNat + 1 - st (lf p).toNat) + 1 ≤ p + 1 - st p := by
  obtain ⟨a1, a2, a3, a4, a5, a6, a7, a8⟩ := h.2.2 p h1 h2
  by_cases h3 : kd p ≤ 3
  · obtain ⟨c1, c2, c3, c4⟩ := a5 (by omega) h3
    obtain ⟨d1, d2, d3, -⟩ := h.2.2 (p - 1) (by omega) (by omega)
    rw [c2, Int.toNat_natCast]; omega
  · obtain ⟨c1, c2, c3, c4, c5, c6, c7⟩ := a6 (by omega)
    obtain ⟨d1, d2, d3, -⟩ := h.2.2 (p - 1) (by omega) (by omega)
    obtain ⟨f1, f2, f3, -⟩ := h.2.2 (st (p - 1) - 1) (by omega) (by omega)
    rw [c5, Int.toNat_natCast]; omega
theorem tr_zLR (h : tr kd lf rt ab em st b r) {p : Nat} (h1 : b ≤ p) (h2 : p ≤ r) (hk : 4 ≤ kd p) : ((lf p).toNat + 1 - st (lf p).toNat) + ((rt p).toNat + 1 - st (rt p).toNat) + 1 ≤ p + 1 - st p := by
  obtain ⟨a1, a2, a3, a4, a5, a6, a7, a8⟩ := h.2.2 p h1 h2
  obtain ⟨c1, c2, c3, c4, c5, c6, c7⟩ := a6 (by omega)
  obtain ⟨d1, d2, d3, -⟩ := h.2.2 (p - 1) (by omega) (by omega)
  obtain ⟨f1, f2, f3, -⟩ := h.2.2 (st (p - 1) - 1) (by omega) (by omega)
  rw [c5, c2, Int.toNat_natCast, Int.toNat_natCast]; omega
theorem enS_ge (h : tr kd lf rt ab em st b r) {tx : Nat → Nat} {n : Nat} (hr : enR b r tx n) : n ≤ enS st tx n := sumN_ge (fun i hi => (tr_z1 h (hr i hi).1 (hr i hi).2).1)
theorem tr_kd (h : tr kd lf rt ab em st b r) {p : Nat} (h1 : b ≤ p) (h2 : p ≤ r) : kd p ≤ 5 := (h.2.2 p h1 h2).1
theorem fi_one (h : tr kd lf rt ab em st b r) {p : Nat} (h1 : b ≤ p) (h2 : p ≤ r) (hk : ¬ kd p = 0) (hs : ¬ kd p = 5) (ht : ¬ (kd p = 4 ∧ em (lf p).toNat = true)) (q : Nat) : fi kd lf rt em p q = fi kd lf rt em (lf p).toNat q := by
  rw [fi_node h q h1 h2 hk, decide_eq_false hs]
  by_cases h4 : kd p = 4
  · have : em (lf p).toNat = false := by
      cases he : em (lf p).toNat with
      | true => exact absurd ⟨h4, he⟩ ht
      | false => rfl
    rw [this]; simp
  · rw [decide_eq_false h4]; simp
theorem fi_two (h : tr kd lf rt ab em st b r) {p : Nat} (h1 : b ≤ p) (h2 : p ≤ r) (ht : kd p = 5 ∨ (kd p = 4 ∧ em (lf p).toNat = true)) (q : Nat) : fi kd lf rt em p q = (fi kd lf rt em (lf p).toNat q || fi kd lf rt em (rt p).toNat q) := by
  rw [fi_node h q h1 h2 (by omega)]
  rcases ht with e | ⟨e, e2⟩
  · rw [decide_eq_true e]; simp
  · rw [decide_eq_true e, e2]; simp
theorem tr_up (h : tr kd lf rt ab em st b r) {x : Nat} (h1 : b ≤ x) (h2 : x ≤ r) (ha : ¬ ab x < 0) : ∃ u : Nat, ab x = ((u : Nat) : Int) ∧ x < u ∧ u ≤ r ∧ ¬ kd u = 0 ∧ (lf u = ((x : Nat) : Int) ∨ (4 ≤ kd u ∧ rt u = ((x : Nat) : Int))) := by
  by_cases e : x = r
  · have := h.2.1
    rw [e] at ha
    omega
  · exact (h.2.2 x h1 h2).2.2.2.2.2.2.2 (by omega)
theorem tr_abr (h : tr kd lf rt ab em st b r) {x : Nat} (h1 : b ≤ x) (h2 : x ≤ r) : -1 ≤ ab x ∧ ab x ≤ ((r : Nat) : Int) := by
  by_cases e : x = r
  · have := h.2.1
    rw [e]
    omega
  · obtain ⟨u, a, b, c, -⟩ := (h.2.2 x h1 h2).2.2.2.2.2.2.2 (by omega)
    omega
theorem fo_step (h : tr kd lf rt ab em st b r) {p x u : Nat} (h1 : b ≤ x) (h2 : x ≤ r) (hx : la kd lf rt em x p = true) (hu : ab x = ((u : Nat) : Int)) (u1 : x < u) (u2 : u ≤ r) (q : Nat) : fo kd lf rt em b (u + 1) p q = (fo kd lf rt em b (x + 1) p q || fc kd lf rt em u p q) := by
  apply bool_iff
  rw [Bool.or_eq_true, fo_iff, fo_iff]
  constructor
  · rintro ⟨y, y1, y2, y3⟩
    by_cases c : y ≤ x
    · exact Or.inl ⟨y, y1, by omega, y3⟩
    · obtain ⟨k1, k2⟩ := fc_la y3
      have := (la_next h h1 h2 hx hu (show x < y by omega) (by omega) k1 k2).1
      have e : y = u := by omega
      exact Or.inr (e ▸ y3)
  · rintro (⟨y, y1, y2, y3⟩ | y3)
    · exact ⟨y, y1, by omega, y3⟩
    · exact ⟨u, by omega, by omega, y3⟩
theorem lv_row (h : tr kd lf rt ab em st b r) {p x u : Nat} {lt lx : Nat → Bool} (h1 : b ≤ x) (h2 : x ≤ r) (hx : la kd lf rt em x p = true) (hu : ab x = ((u : Nat) : Int)) (u1 : x < u) (u2 : u ≤ r) (hk : kd u = 4) (hl : lf u = ((x : Nat) : Int)) (hq : ∀ q, lx q = (lt q || fo kd lf rt em b (x + 1) p q)) : ∀ q, orF lx (fi kd lf rt em (rt u).toNat) q = (lt q || fo kd lf rt em b (u + 1) p q) := by
  intro q
  have e : (lf u).toNat = x := by rw [hl, Int.toNat_natCast]
  rw [fo_step h h1 h2 hx hu u1 u2 q]
  unfold orF fc
  rw [hq q, e, hx, decide_eq_true hk, decide_eq_false (show ¬ kd u = 2 by omega), decide_eq_false (show ¬ kd u = 3 by omega)]
  cases lt q <;> cases fo kd lf rt em b (x + 1) p q <;> cases fi kd lf rt em (rt u).toNat q <;> rfl
theorem lv_star (h : tr kd lf rt ab em st b r) {p x u : Nat} {lt lx : Nat → Bool} (h1 : b ≤ x) (h2 : x ≤ r) (hx : la kd lf rt em x p = true) (hu : ab x = ((u : Nat) : Int)) (u1 : x < u) (u2 : u ≤ r) (hk : kd u = 2 ∨ kd u = 3) (hl : lf u = ((x : Nat) : Int) ∨ (4 ≤ kd u ∧ rt u = ((x : Nat) : Int))) (hq : ∀ q, lx q = (lt q || fo kd lf rt em b (x + 1) p q)) : ∀ q, orF lx (fi kd lf rt em u) q = (lt q || fo kd lf rt em b (u + 1) p q) := by
  intro q
  have hl2 : lf u = ((x : Nat) : Int) := by
    rcases hl with e | e
    · exact e
    · omega
  have e : (lf u).toNat = x := by rw [hl2, Int.toNat_natCast]
  have hf := fi_one h (p := u) (by omega) u2 (by omega) (by omega) (fun z => by omega) q
  rw [fo_step h h1 h2 hx hu u1 u2 q]
  unfold orF fc
  rw [hq q, hf, e, hx, decide_eq_false (show ¬ kd u = 4 by omega)]
  have hd : (decide (kd u = 2) || decide (kd u = 3)) = true := by
    rcases hk with e | e
    · rw [decide_eq_true e]; rfl
    · rw [decide_eq_true e]; simp
  rw [hd]
  cases lt q <;> cases fo kd lf rt em b (x + 1) p q <;> cases fi kd lf rt em x q <;> rfl
theorem lv_skip (h : tr kd lf rt ab em st b r) {p x u : Nat} {lt lx : Nat → Bool} (h1 : b ≤ x) (h2 : x ≤ r) (hx : la kd lf rt em x p = true) (hu : ab x = ((u : Nat) : Int)) (u1 : x < u) (u2 : u ≤ r) (hk : ¬ kd u = 2) (hk3 : ¬ kd u = 3) (hr : ¬ (kd u = 4 ∧ lf u = ((x : Nat) : Int))) (hq : ∀ q, lx q = (lt q || fo kd lf rt em b (x + 1) p q)) : ∀ q, lx q = (lt q || fo kd lf rt em b (u + 1) p q) := by
  intro q
  rw [fo_step h h1 h2 hx hu u1 u2 q]
  have hc : fc kd lf rt em u p q = false := by
    cases hc : fc kd lf rt em u p q with
    | false => rfl
    | true =>
      obtain ⟨k1, k2⟩ := fc_la hc
      have e := (la_next h h1 h2 hx hu u1 u2 k1 k2).2 rfl
      have h4 : kd u = 4 := by
        unfold fc at hc
        rw [decide_eq_false hk, decide_eq_false hk3] at hc
        simp only [Bool.or_self, Bool.false_and, Bool.or_false] at hc
        exact of_decide_eq_true (Bool.and_eq_true_iff.mp hc).1
      have hL := (tr_L h (show b ≤ u by omega) u2 k1).1
      rw [e] at hL
      exact absurd ⟨h4, hL⟩ hr
  rw [hc, hq q, Bool.or_false]
/-- two parts of one node can't both end with p -/
theorem la_excl (h : tr kd lf rt ab em st b r) {p x y u : Nat} (x1 : b ≤ x) (y1 : b ≤ y) (hx : x < u) (hy : y < u) (u2 : u ≤ r) (ax : ab x = ((u : Nat) : Int)) (ay : ab y = ((u : Nat) : Int)) (hne : ¬ x = y) (lx : la kd lf rt em x p = true) : la kd lf rt em y p = false := by
  cases hl : la kd lf rt em y p with
  | false => rfl
  | true =>
    rcases Nat.lt_or_gt_of_ne hne with c | c
    · have := la_chain h p y y x (Nat.le_refl _) y1 (by omega) x1 c lx hl
      omega
    · have := la_chain h p x x y (Nat.le_refl _) x1 (by omega) y1 c hl lx
      omega
theorem lv_onR (h : tr kd lf rt ab em st b r) {p x u : Nat} (h1 : b ≤ x) (hx : la kd lf rt em x p = true) (hu : ab x = ((u : Nat) : Int)) (u1 : x < u) (u2 : u ≤ r) (hk : kd u = 4) (hl : lf u = ((x : Nat) : Int)) : em (rt u).toNat = la kd lf rt em u p := by
  have e : (lf u).toNat = x := by rw [hl, Int.toNat_natCast]
  obtain ⟨-, r2, r3, r4, r5⟩ := tr_R h (show b ≤ u by omega) u2 (by omega)
  rw [la_node h p (by omega) u2 (by omega), la_excl h h1 r2 u1 r3 u2 hu r4 (by omega) hx, e, hx, decide_eq_true hk]
  simp
theorem lv_onT (h : tr kd lf rt ab em st b r) {p x u : Nat} (h1 : b ≤ x) (hx : la kd lf rt em x p = true) (u1 : x < u) (u2 : u ≤ r) (hk : ¬ kd u = 0) (hl : lf u = ((x : Nat) : Int) ∨ (4 ≤ kd u ∧ rt u = ((x : Nat) : Int))) (hr : ¬ (kd u = 4 ∧ lf u = ((x : Nat) : Int))) : true = la kd lf rt em u p := by
  have h5 := tr_kd h (show b ≤ u by omega) u2
  rw [la_node h p (by omega) u2 hk]
  rcases hl with e | ⟨e, e2⟩
  · have e1 : (lf u).toNat = x := by rw [e, Int.toNat_natCast]
    rw [e1, hx, decide_eq_false (show ¬ kd u = 4 from fun q => hr ⟨q, e⟩)]
    simp
  · have e1 : (rt u).toNat = x := by rw [e2, Int.toNat_natCast]
    rw [e1, hx]
    rcases (show kd u = 4 ∨ kd u = 5 by omega) with k | k
    · rw [decide_eq_true k]; simp
    · rw [decide_eq_true k]; simp
theorem la_none (h : tr kd lf rt ab em st b r) {p x u : Nat} (h1 : b ≤ x) (h2 : x ≤ r) (hx : la kd lf rt em x p = true) (hu : ab x = ((u : Nat) : Int)) (hf : la kd lf rt em u p = false) : ∀ (n z : Nat), z ≤ n → x < z → z ≤ r → la kd lf rt em z p = false := by
  intro n
  induction n with
  | zero => intro z h0 h3; omega
  | succ n ih =>
    intro z h0 h3 h4
    cases hz : la kd lf rt em z p with
    | false => rfl
    | true =>
      rcases la_down h (by omega) h4 hz with ⟨e, hk⟩ | ⟨w, w1, w2, w3, w4⟩
      · have := (la_in h _ x p (Nat.le_refl _) h1 h2 hx).2.1
        omega
      · rcases Nat.lt_trichotomy x w with c | c | c
        · have := ih w (by omega) c (by omega)
          rw [w4] at this
          cases this
        · subst c
          have e : z = u := by omega
          rw [e, hf] at hz
          cases hz
        · have := la_chain h p x x w (Nat.le_refl _) h1 h2 w1 c w4 hx
          omega
def lvOff (kd : Nat → Nat) (lf rt : Nat → Int) (em : Nat → Bool) (r p x : Nat) : Prop := (∀ y, x < y → y ≤ r → ¬ kd y = 0 → la kd lf rt em (lf y).toNat p = false) ∧ la kd lf rt em r p = false
theorem lv_off (h : tr kd lf rt ab em st b r) {p x u : Nat} (h1 : b ≤ x) (h2 : x ≤ r) (hx : la kd lf rt em x p = true) (hu : ab x = ((u : Nat) : Int)) (u1 : x < u) (u2 : u ≤ r) (hf : la kd lf rt em u p = false) : lvOff kd lf rt em r p u := by
  refine ⟨fun y y1 y2 hk => ?_, ?_⟩
  · obtain ⟨-, l2, l3, l4⟩ := tr_L h (show b ≤ y by omega) y2 hk
    cases hy : la kd lf rt em (lf y).toNat p with
    | false => rfl
    | true =>
      rcases Nat.lt_trichotomy (lf y).toNat x with c | c | c
      · have := la_chain h p x x (lf y).toNat (Nat.le_refl _) h1 h2 l2 c hy hx
        omega
      · rw [c] at l4; omega
      · have := la_none h h1 h2 hx hu hf (lf y).toNat (lf y).toNat (Nat.le_refl _) c (by omega)
        rw [hy] at this
        cases this
  · exact la_none h h1 h2 hx hu hf r r (Nat.le_refl _) (by omega) (Nat.le_refl _)
theorem lv_exit (h : tr kd lf rt ab em st b r) {p x : Nat} {on : Bool} {lt lx : Nat → Bool} (hx : b ≤ x ∧ x ≤ r) (hon : on = la kd lf rt em x p) (hq : ∀ q, lx q = (lt q || fo kd lf rt em b (x + 1) p q)) (hoff : on = false → lvOff kd lf rt em r p x) (he : on = false ∨ ab x < 0) : lx = orF lt (fo kd lf rt em b (r + 1) p) ∧ on = la kd lf rt em r p := by
  have hr : x = r ∨ on = false := by
    rcases he with e | e
    · exact Or.inr e
    · by_cases c : x = r
      · exact Or.inl c
      · obtain ⟨u, a, -⟩ := (h.2.2 x hx.1 hx.2).2.2.2.2.2.2.2 (by omega)
        omega
  rcases hr with e | e
  · subst e
    exact ⟨funext fun q => hq q, hon⟩
  · obtain ⟨o1, o2⟩ := hoff e
    refine ⟨funext fun q => ?_, by rw [o2]; exact e⟩
    show lx q = (lt q || _)
    rw [hq q]
    congr 1
    apply bool_iff
    rw [fo_iff, fo_iff]
    constructor
    · rintro ⟨y, y1, y2, y3⟩
      exact ⟨y, y1, by omega, y3⟩
    · rintro ⟨y, y1, y2, y3⟩
      by_cases c : y ≤ x
      · exact ⟨y, y1, by omega, y3⟩
      · obtain ⟨k1, k2⟩ := fc_la y3
        rw [o1 y (by omega) (by omega) k1] at k2
        cases k2
theorem fo_start (h : tr kd lf rt ab em st b r) {p : Nat} (h1 : b ≤ p) (h2 : p ≤ r) (hk : kd p = 0) (lt : Nat → Bool) : ∀ q, lt q = (lt q || fo kd lf rt em b (p + 1) p q) := by
  intro q
  have : fo kd lf rt em b (p + 1) p q = false := by
    cases hf : fo kd lf rt em b (p + 1) p q with
    | false => rfl
    | true =>
      obtain ⟨y, y1, y2, y3⟩ := fo_iff.mp hf
      obtain ⟨k1, k2⟩ := fc_la y3
      obtain ⟨-, l2, l3, l4⟩ := tr_L h y1 (by omega) k1
      have := (la_in h _ _ p (Nat.le_refl _) l2 (by omega) k2).2.1
      omega
  rw [this, Bool.or_false]
end TR2
def anyR (b n : Nat) (f : Nat → Bool) : Bool := anyN (fun j => f (b + j)) (n - b)
theorem anyR_0 {b : Nat} {f : Nat → Bool} : anyR b b f = false := by unfold anyR; rw [Nat.sub_self]; rfl
theorem anyR_s {b n : Nat} {f : Nat → Bool} (h : b ≤ n) : anyR b (n + 1) f = (anyR b n f || f n) := by
  unfold anyR
  rw [show n + 1 - b = (n - b) + 1 by omega, anyN, show b + (n - b) = n by omega]
theorem anyR_iff {b n : Nat} {f : Nat → Bool} : anyR b n f = true ↔ ∃ i, b ≤ i ∧ i < n ∧ f i = true := by
  unfold anyR
  rw [anyN_iff]
  constructor
  · rintro ⟨i, h1, h2⟩
    exact ⟨b + i, by omega, by omega, h2⟩
  · rintro ⟨u, h1, h2, h3⟩
    exact ⟨u - b, by omega, by rw [show b + (u - b) = u by omega]; exact h3⟩
theorem anyR_congr {b n : Nat} {f g : Nat → Bool} (h : ∀ i, b ≤ i → i < n → f i = g i) : anyR b n f = anyR b n g := by
  unfold anyR
  exact anyN_congr (fun i hi => h _ (by omega) (by omega))
theorem anyR_F {b n : Nat} : anyR b n (fun _ => false) = false := by
  cases h : anyR b n (fun _ => false) with
  | false => rfl
  | true =>
    obtain ⟨_, _, _, z⟩ := anyR_iff.mp h
    cases z
theorem anyR_mono {b n m : Nat} {f : Nat → Bool} (h : n ≤ m) (hf : anyR b n f = true) : anyR b m f = true := by
  obtain ⟨i, h1, h2, h3⟩ := anyR_iff.mp hf
  exact anyR_iff.mpr ⟨i, h1, by omega, h3⟩
def clF (lt : Nat → Bool) (b n : Nat) : Nat → Bool := fun q => if b ≤ q ∧ q < n then false else lt q
theorem clF_0 (lt : Nat → Bool) (b : Nat) : clF lt b b = lt := funext fun q => if_neg (by omega)
theorem clF_s (lt : Nat → Bool) {b n : Nat} (h : b ≤ n) : va_up (clF lt b n) n false = clF lt b (n + 1) := by
  funext q
  unfold va_up clF
  by_cases e : q = n
  · rw [if_pos e, if_pos (by omega)]
  · rw [if_neg e]
    by_cases c : b ≤ q ∧ q < n
    · rw [if_pos c, if_pos (by omega)]
    · rw [if_neg c, if_neg (by omega)]
theorem clF_in (lt : Nat → Bool) {b n q : Nat} (h1 : b ≤ q) (h2 : q < n) : clF lt b n q = false := if_pos ⟨h1, h2⟩
def cpF (cv lx : Nat → Bool) (b n : Nat) : Nat → Bool := fun q => if b ≤ q ∧ q < n then lx q else cv q
theorem cpF_0 (cv lx : Nat → Bool) (b : Nat) : cpF cv lx b b = cv := funext fun q => if_neg (by omega)
theorem cpF_s (cv lx : Nat → Bool) {b n : Nat} (h : b ≤ n) : va_up (cpF cv lx b n) n (lx n) = cpF cv lx b (n + 1) := by
  funext q
  unfold va_up cpF
  by_cases e : q = n
  · rw [if_pos e, if_pos (by omega), e]
  · rw [if_neg e]
    by_cases c : b ≤ q ∧ q < n
    · rw [if_pos c, if_pos (by omega)]
    · rw [if_neg c, if_neg (by omega)]
theorem cpF_in (cv lx : Nat → Bool) {b n q : Nat} (h1 : b ≤ q) (h2 : q < n) : cpF cv lx b n q = lx q := if_pos ⟨h1, h2⟩
theorem cpF_congr {cv lx ly : Nat → Bool} {b n : Nat} (h : ∀ q, b ≤ q → q < n → lx q = ly q) : cpF cv lx b n = cpF cv ly b n := by
  funext q
  unfold cpF
  by_cases c : b ≤ q ∧ q < n
  · rw [if_pos c, if_pos c, h q c.1 c.2]
  · rw [if_neg c, if_neg c]
/-- two names of one kind in a set: the reference's look -/
def twQ (lt : Nat → Bool) (nv : Nat → Nat) (p q : Nat) : Bool := lt p && (lt q && decide (nv p = nv q))
def twP (lt : Nat → Bool) (nv : Nat → Nat) (b p : Nat) : Bool := anyR b p (twQ lt nv p)
def twR (lt : Nat → Bool) (nv : Nat → Nat) (b n : Nat) : Bool := anyR b n (twP lt nv b)
theorem twR_congr {lt lu : Nat → Bool} {nv : Nat → Nat} {b n : Nat} (h : ∀ q, b ≤ q → q < n → lt q = lu q) : twR lt nv b n = twR lu nv b n := anyR_congr (fun p h1 h2 => anyR_congr (fun q h3 h4 => by unfold twQ; rw [h p h1 h2, h q h3 (by omega)]))
def goS (kd : Nat → Nat) (lf rt : Nat → Int) (em : Nat → Bool) (nv : Nat → Nat) (b r : Nat) (cv : Nat → Bool) (x n q : Nat) : Bool := anyR b n (fun p => cv p && decide (nv p = x) && fo kd lf rt em b (r + 1) p q)
def goW (kd : Nat → Nat) (lf rt : Nat → Int) (em : Nat → Bool) (nv : Nat → Nat) (b r : Nat) (cv : Nat → Bool) (x n : Nat) : Bool := anyR b n (fun p => cv p && decide (nv p = x) && la kd lf rt em r p)
def dtR (kd : Nat → Nat) (lf rt : Nat → Int) (em : Nat → Bool) (nv : Nat → Nat) (b r n : Nat) : Bool := !(twR (fi kd lf rt em r) nv b (r + 1)) && !(anyR b n (fun p => decide (kd p = 0) && twR (fo kd lf rt em b (r + 1) p) nv b (r + 1)))
