/-! the reference's trees: node p of kind kd p (0 a name, 1 maybe, 2 any, 3 some, 4 row, 5 choice), its parts by lf, rt, its above by ab -/
def anyN (f : Nat → Bool) : Nat → Bool
  | 0 => false
  | k + 1 => anyN f k || f k
def sumN (f : Nat → Nat) : Nat → Nat
  | 0 => 0
  | k + 1 => sumN f k + f k
theorem anyN_congr {f g : Nat → Bool} : ∀ {n : Nat}, (∀ i, i < n → f i = g i) → anyN f n = anyN g n
  | 0, _ => rfl
  | n + 1, h => by rw [anyN, anyN, anyN_congr (n := n) (fun i hi => h i (by omega)), h n (by omega)]
theorem sumN_congr {f g : Nat → Nat} : ∀ {n : Nat}, (∀ i, i < n → f i = g i) → sumN f n = sumN g n
  | 0, _ => rfl
  | n + 1, h => by rw [sumN, sumN, sumN_congr (n := n) (fun i hi => h i (by omega)), h n (by omega)]
theorem anyN_iff {f : Nat → Bool} : ∀ {n : Nat}, anyN f n = true ↔ ∃ i, i < n ∧ f i = true
  | 0 => by constructor
            · intro h; cases h
            · rintro ⟨i, h, _⟩; omega
  | n + 1 => by
    rw [anyN, Bool.or_eq_true, anyN_iff (n := n)]
    constructor
    · rintro (⟨i, h, q⟩ | h)
      · exact ⟨i, by omega, q⟩
      · exact ⟨n, by omega, h⟩
    · rintro ⟨i, h, q⟩
      by_cases e : i = n
      · exact Or.inr (e ▸ q)
      · exact Or.inl ⟨i, by omega, q⟩
theorem sumN_ge {f : Nat → Nat} : ∀ {n : Nat}, (∀ i, i < n → 1 ≤ f i) → n ≤ sumN f n
  | 0, _ => Nat.le_refl _
  | n + 1, h => by
    rw [sumN]
    have h1 := sumN_ge (f := f) (n := n) (fun i hi => h i (by omega))
    have h2 := h n (by omega)
    omega
theorem bool_iff {a b : Bool} (h : a = true ↔ b = true) : a = b := by
  cases a <;> cases b <;> simp_all
def fiF (kd : Nat → Nat) (lf rt : Nat → Int) (em : Nat → Bool) : Nat → Nat → Nat → Bool
  | 0, _, _ => false
  | k + 1, p, q => if kd p = 0 then decide (q = p) else (fiF kd lf rt em k (lf p).toNat q || ((decide (kd p = 5) || (decide (kd p = 4) && em (lf p).toNat)) && fiF kd lf rt em k (rt p).toNat q))
def laF (kd : Nat → Nat) (lf rt : Nat → Int) (em : Nat → Bool) : Nat → Nat → Nat → Bool
  | 0, _, _ => false
  | k + 1, p, q => if kd p = 0 then decide (q = p) else (((decide (kd p = 5) || decide (kd p = 4)) && laF kd lf rt em k (rt p).toNat q) || ((!decide (kd p = 4) || em (rt p).toNat) && laF kd lf rt em k (lf p).toNat q))
def fi (kd : Nat → Nat) (lf rt : Nat → Int) (em : Nat → Bool) (p q : Nat) : Bool := fiF kd lf rt em (p + 1) p q
def la (kd : Nat → Nat) (lf rt : Nat → Int) (em : Nat → Bool) (p q : Nat) : Bool := laF kd lf rt em (p + 1) p q
/-- one node of a tree that lies in the places b .. r, in the order of its parts; st p: where the part at p begins -/
def trn (kd : Nat → Nat) (lf rt ab : Nat → Int) (em : Nat → Bool) (st : Nat → Nat) (b r p : Nat) : Prop :=
  kd p ≤ 5 ∧ b ≤ st p ∧ st p ≤ p ∧ (kd p = 0 → st p = p) ∧
  (1 ≤ kd p → kd p ≤ 3 → b < p ∧ lf p = ((p - 1 : Nat) : Int) ∧ st p = st (p - 1) ∧ ab (p - 1) = ((p : Nat) : Int)) ∧
  (4 ≤ kd p → b < p ∧ rt p = ((p - 1 : Nat) : Int) ∧ ab (p - 1) = ((p : Nat) : Int) ∧ b < st (p - 1) ∧ lf p = ((st (p - 1) - 1 : Nat) : Int) ∧ ab (st (p - 1) - 1) = ((p : Nat) : Int) ∧ st p = st (st (p - 1) - 1)) ∧
  (kd p = 1 ∨ kd p = 2 → em p = true) ∧
  (p < r → ∃ u : Nat, ab p = ((u : Nat) : Int) ∧ p < u ∧ u ≤ r ∧ ¬ kd u = 0 ∧ (lf u = ((p : Nat) : Int) ∨ (4 ≤ kd u ∧ rt u = ((p : Nat) : Int))))
def tr (kd : Nat → Nat) (lf rt ab : Nat → Int) (em : Nat → Bool) (st : Nat → Nat) (b r : Nat) : Prop :=
  b ≤ r ∧ ab r = -1 ∧ ∀ p, b ≤ p → p ≤ r → trn kd lf rt ab em st b r p
section TR
variable {kd : Nat → Nat} {lf rt ab : Nat → Int} {em : Nat → Bool} {st : Nat → Nat} {b r : Nat}
/-- the left part of a node that is no name -/
theorem tr_L (h : tr kd lf rt ab em st b r) {p : Nat} (h1 : b ≤ p) (h2 : p ≤ r) (hk : ¬ kd p = 0) : lf p = (((lf p).toNat : Nat) : Int) ∧ b ≤ (lf p).toNat ∧ (lf p).toNat < p ∧ ab (lf p).toNat = ((p : Nat) : Int) := by
  obtain ⟨a1, a2, a3, a4, a5, a6, a7, a8⟩ := h.2.2 p h1 h2
  by_cases h3 : kd p ≤ 3
  · obtain ⟨c1, c2, c3, c4⟩ := a5 (by omega) h3
    rw [c2]
    refine ⟨by rw [Int.toNat_natCast], ?_, ?_, ?_⟩
    · rw [Int.toNat_natCast]; omega
    · rw [Int.toNat_natCast]; omega
    · rw [Int.toNat_natCast]; exact c4
  · obtain ⟨c1, c2, c3, c4, c5, c6, c7⟩ := a6 (by omega)
    obtain ⟨d1, d2, d3, -⟩ := h.2.2 (p - 1) (by omega) (by omega)
    rw [c5]
    refine ⟨by rw [Int.toNat_natCast], ?_, ?_, ?_⟩
    · rw [Int.toNat_natCast]; omega
    · rw [Int.toNat_natCast]; omega
    · rw [Int.toNat_natCast]; exact c6
theorem tr_R (h : tr kd lf rt ab em st b r) {p : Nat} (h1 : b ≤ p) (h2 : p ≤ r) (hk : 4 ≤ kd p) : rt p = (((rt p).toNat : Nat) : Int) ∧ b ≤ (rt p).toNat ∧ (rt p).toNat < p ∧ ab (rt p).toNat = ((p : Nat) : Int) ∧ (lf p).toNat < (rt p).toNat := by
  obtain ⟨a1, a2, a3, a4, a5, a6, a7, a8⟩ := h.2.2 p h1 h2
  obtain ⟨c1, c2, c3, c4, c5, c6, c7⟩ := a6 hk
  obtain ⟨d1, d2, d3, -⟩ := h.2.2 (p - 1) (by omega) (by omega)
  rw [c2, c5]
  refine ⟨by rw [Int.toNat_natCast], ?_, ?_, ?_, ?_⟩
  · rw [Int.toNat_natCast]; omega
  · rw [Int.toNat_natCast]; omega
  · rw [Int.toNat_natCast]; exact c3
  · rw [Int.toNat_natCast, Int.toNat_natCast]; omega
theorem fiF_eq (h : tr kd lf rt ab em st b r) : ∀ (n p k : Nat) (q : Nat), p ≤ n → b ≤ p → p ≤ r → p + 1 ≤ k → fiF kd lf rt em k p q = fi kd lf rt em p q := by
  intro n
  induction n with
  | zero =>
    intro p k q h0 h1 h2 h3
    obtain ⟨k, rfl⟩ : ∃ j, k = j + 1 := ⟨k - 1, by omega⟩
    have hp : p = 0 := by omega
    subst hp
    by_cases hk : kd 0 = 0
    · unfold fi; rw [fiF, fiF, if_pos hk, if_pos hk]
    · have := (tr_L h h1 h2 hk).2.2.1
      omega
  | succ n ih =>
    intro p k q h0 h1 h2 h3
    obtain ⟨k, rfl⟩ : ∃ j, k = j + 1 := ⟨k - 1, by omega⟩
    unfold fi
    rw [fiF, fiF]
    by_cases hk : kd p = 0
    · rw [if_pos hk, if_pos hk]
    · rw [if_neg hk, if_neg hk]
      obtain ⟨-, l2, l3, -⟩ := tr_L h h1 h2 hk
      rw [ih (lf p).toNat k q (by omega) l2 (by omega) (by omega), ih (lf p).toNat p q (by omega) l2 (by omega) (by omega)]
      by_cases h4 : 4 ≤ kd p
      · obtain ⟨-, r2, r3, -⟩ := tr_R h h1 h2 h4
        rw [ih (rt p).toNat k q (by omega) r2 (by omega) (by omega), ih (rt p).toNat p q (by omega) r2 (by omega) (by omega)]
      · rw [decide_eq_false (show ¬ kd p = 5 by omega), decide_eq_false (show ¬ kd p = 4 by omega)]
        simp
theorem laF_eq (h : tr kd lf rt ab em st b r) : ∀ (n p k : Nat) (q : Nat), p ≤ n → b ≤ p → p ≤ r → p + 1 ≤ k → laF kd lf rt em k p q = la kd lf rt em p q := by
  intro n
  induction n with
  | zero =>
    intro p k q h0 h1 h2 h3
    obtain ⟨k, rfl⟩ : ∃ j, k = j + 1 := ⟨k - 1, by omega⟩
    have hp : p = 0 := by omega
    subst hp
    by_cases hk : kd 0 = 0
    · unfold la; rw [laF, laF, if_pos hk, if_pos hk]
    · have := (tr_L h h1 h2 hk).2.2.1
      omega
  | succ n ih =>
    intro p k q h0 h1 h2 h3
    obtain ⟨k, rfl⟩ : ∃ j, k = j + 1 := ⟨k - 1, by omega⟩
    unfold la
    rw [laF, laF]
    by_cases hk : kd p = 0
    · rw [if_pos hk, if_pos hk]
    · rw [if_neg hk, if_neg hk]
      obtain ⟨-, l2, l3, -⟩ := tr_L h h1 h2 hk
      rw [ih (lf p).toNat k q (by omega) l2 (by omega) (by omega), ih (lf p).toNat p q (by omega) l2 (by omega) (by omega)]
      by_cases h4 : 4 ≤ kd p
      · obtain ⟨-, r2, r3, -⟩ := tr_R h h1 h2 h4
        rw [ih (rt p).toNat k q (by omega) r2 (by omega) (by omega), ih (rt p).toNat p q (by omega) r2 (by omega) (by omega)]
      · rw [decide_eq_false (show ¬ kd p = 5 by omega), decide_eq_false (show ¬ kd p = 4 by omega)]
        simp
theorem fi_name {p q : Nat} (hk : kd p = 0) : fi kd lf rt em p q = decide (q = p) := by
  unfold fi; rw [fiF, if_pos hk]
theorem la_name {p q : Nat} (hk : kd p = 0) : la kd lf rt em p q = decide (q = p) := by
  unfold la; rw [laF, if_pos hk]
theorem fi_node (h : tr kd lf rt ab em st b r) {p : Nat} (q : Nat) (h1 : b ≤ p) (h2 : p ≤ r) (hk : ¬ kd p = 0) : fi kd lf rt em p q = (fi kd lf rt em (lf p).toNat q || ((decide (kd p = 5) || (decide (kd p = 4) && em (lf p).toNat)) && fi kd lf rt em (rt p).toNat q)) := by
  have e : fi kd lf rt em p q = fiF kd lf rt em (p + 1) p q := rfl
  rw [e, fiF, if_neg hk]
  obtain ⟨-, l2, l3, -⟩ := tr_L h h1 h2 hk
  rw [fiF_eq h _ (lf p).toNat p q (Nat.le_refl _) l2 (by omega) (by omega)]
  by_cases h4 : 4 ≤ kd p
  · obtain ⟨-, r2, r3, -⟩ := tr_R h h1 h2 h4
    rw [fiF_eq h _ (rt p).toNat p q (Nat.le_refl _) r2 (by omega) (by omega)]
  · rw [decide_eq_false (show ¬ kd p = 5 by omega), decide_eq_false (show ¬ kd p = 4 by omega)]
    simp
theorem la_node (h : tr kd lf rt ab em st b r) {p : Nat} (q : Nat) (h1 : b ≤ p) (h2 : p ≤ r) (hk : ¬ kd p = 0) : la kd lf rt em p q = (((decide (kd p = 5) || decide (kd p = 4)) && la kd lf rt em (rt p).toNat q) || ((!decide (kd p = 4) || em (rt p).toNat) && la kd lf rt em (lf p).toNat q)) := by
  have e : la kd lf rt em p q = laF kd lf rt em (p + 1) p q := rfl
  rw [e, laF, if_neg hk]
  obtain ⟨-, l2, l3, -⟩ := tr_L h h1 h2 hk
  rw [laF_eq h _ (lf p).toNat p q (Nat.le_refl _) l2 (by omega) (by omega)]
  by_cases h4 : 4 ≤ kd p
  · obtain ⟨-, r2, r3, -⟩ := tr_R h h1 h2 h4
    rw [laF_eq h _ (rt p).toNat p q (Nat.le_refl _) r2 (by omega) (by omega)]
  · rw [decide_eq_false (show ¬ kd p = 5 by omega), decide_eq_false (show ¬ kd p = 4 by omega)]
    simp
/-- what is first, or last, in a part is a name of it -/
theorem fi_in (h : tr kd lf rt ab em st b r) : ∀ (n p q : Nat), p ≤ n → b ≤ p → p ≤ r → fi kd lf rt em p q = true → b ≤ q ∧ q ≤ p ∧ kd q = 0 := by
  intro n
  induction n with
  | zero =>
    intro p q h0 h1 h2 hf
    by_cases hk : kd p = 0
    · rw [fi_name hk] at hf
      have := of_decide_eq_true hf
      subst this
      exact ⟨h1, Nat.le_refl _, hk⟩
    · have := (tr_L h h1 h2 hk).2.2.1
      omega
  | succ n ih =>
    intro p q h0 h1 h2 hf
    by_cases hk : kd p = 0
    · rw [fi_name hk] at hf
      have := of_decide_eq_true hf
      subst this
      exact ⟨h1, Nat.le_refl _, hk⟩
    · rw [fi_node h q h1 h2 hk] at hf
      obtain ⟨-, l2, l3, -⟩ := tr_L h h1 h2 hk
      rcases Bool.or_eq_true_iff.mp hf with h3 | h3
      · obtain ⟨c1, c2, c3⟩ := ih _ q (by omega) l2 (by omega) h3
        exact ⟨c1, by omega, c3⟩
      · obtain ⟨h4, h5⟩ := Bool.and_eq_true_iff.mp h3
        have h6 : 4 ≤ kd p := by
          rcases Bool.or_eq_true_iff.mp h4 with h7 | h7
          · have := of_decide_eq_true h7; omega
          · have := of_decide_eq_true (Bool.and_eq_true_iff.mp h7).1; omega
        obtain ⟨-, r2, r3, -⟩ := tr_R h h1 h2 h6
        obtain ⟨c1, c2, c3⟩ := ih _ q (by omega) r2 (by omega) h5
        exact ⟨c1, by omega, c3⟩
/-- a node whose rows can end with q: q itself, or one of its parts is such a node too -/
theorem la_down (h : tr kd lf rt ab em st b r) {p q : Nat} (h1 : b ≤ p) (h2 : p ≤ r) (hl : la kd lf rt em p q = true) : (p = q ∧ kd p = 0) ∨ ∃ x, b ≤ x ∧ x < p ∧ ab x = ((p : Nat) : Int) ∧ la kd lf rt em x q = true := by
  by_cases hk : kd p = 0
  · rw [la_name hk] at hl
    exact Or.inl ⟨(of_decide_eq_true hl).symm, hk⟩
  · right
    rw [la_node h q h1 h2 hk] at hl
    obtain ⟨-, l2, l3, l4⟩ := tr_L h h1 h2 hk
    rcases Bool.or_eq_true_iff.mp hl with h3 | h3
    · obtain ⟨h4, h5⟩ := Bool.and_eq_true_iff.mp h3
      have h6 : 4 ≤ kd p := by
        rcases Bool.or_eq_true_iff.mp h4 with h7 | h7
        · have := of_decide_eq_true h7; omega
        · have := of_decide_eq_true h7; omega
      obtain ⟨-, r2, r3, r4, -⟩ := tr_R h h1 h2 h6
      exact ⟨_, r2, r3, r4, h5⟩
    · exact ⟨_, l2, l3, l4, (Bool.and_eq_true_iff.mp h3).2⟩
theorem la_in (h : tr kd lf rt ab em st b r) : ∀ (n p q : Nat), p ≤ n → b ≤ p → p ≤ r → la kd lf rt em p q = true → b ≤ q ∧ q ≤ p ∧ kd q = 0 := by
  intro n
  induction n with
  | zero =>
    intro p q h0 h1 h2 hl
    rcases la_down h h1 h2 hl with ⟨e, hk⟩ | ⟨x, x1, x2, -⟩
    · subst e; exact ⟨h1, Nat.le_refl _, hk⟩
    · omega
  | succ n ih =>
    intro p q h0 h1 h2 hl
    rcases la_down h h1 h2 hl with ⟨e, hk⟩ | ⟨x, x1, x2, x3, x4⟩
    · subst e; exact ⟨h1, Nat.le_refl _, hk⟩
    · obtain ⟨c1, c2, c3⟩ := ih x q (by omega) x1 (by omega) x4
      exact ⟨c1, by omega, c3⟩
/-- the nodes whose rows can end with q are a chain by 'above' -/
theorem la_chain (h : tr kd lf rt ab em st b r) (q : Nat) : ∀ (n z x : Nat), z ≤ n → b ≤ z → z ≤ r → b ≤ x → x < z → la kd lf rt em x q = true → la kd lf rt em z q = true → ab x ≤ ((z : Nat) : Int) := by
  intro n
  induction n with
  | zero => intro z x h0 h1 h2 h3 h4; omega
  | succ n ih =>
    intro z x h0 h1 h2 h3 h4 hx hz
    rcases la_down h h1 h2 hz with ⟨e, hk⟩ | ⟨w, w1, w2, w3, w4⟩
    · have := (la_in h _ x q (Nat.le_refl _) h3 (by omega) hx).2.1
      omega
    · rcases Nat.lt_trichotomy x w with c | c | c
      · have := ih w x (by omega) w1 (by omega) h3 c hx w4
        omega
      · subst c; omega
      · have := ih x w (by omega) h3 (by omega) w1 c w4 hx
        omega
/-- what a node adds to what can follow p -/
def fc (kd : Nat → Nat) (lf rt : Nat → Int) (em : Nat → Bool) (u p q : Nat) : Bool := (decide (kd u = 4) && (la kd lf rt em (lf u).toNat p && fi kd lf rt em (rt u).toNat q)) || ((decide (kd u = 2) || decide (kd u = 3)) && (la kd lf rt em (lf u).toNat p && fi kd lf rt em (lf u).toNat q))
def fo (kd : Nat → Nat) (lf rt : Nat → Int) (em : Nat → Bool) (b n p q : Nat) : Bool := anyN (fun j => fc kd lf rt em (b + j) p q) (n - b)
theorem fo_iff {n p q : Nat} : fo kd lf rt em b n p q = true ↔ ∃ u, b ≤ u ∧ u < n ∧ fc kd lf rt em u p q = true := by
  unfold fo
  rw [anyN_iff]
  constructor
  · rintro ⟨i, h1, h2⟩
    exact ⟨b + i, by omega, by omega, h2⟩
  · rintro ⟨u, h1, h2, h3⟩
    exact ⟨u - b, by omega, by rw [show b + (u - b) = u by omega]; exact h3⟩
theorem fc_la {u p q : Nat} (h : fc kd lf rt em u p q = true) : ¬ kd u = 0 ∧ la kd lf rt em (lf u).toNat p = true := by
  unfold fc at h
  rcases Bool.or_eq_true_iff.mp h with h1 | h1
  · obtain ⟨a, b⟩ := Bool.and_eq_true_iff.mp h1
    have := of_decide_eq_true a
    exact ⟨by omega, (Bool.and_eq_true_iff.mp b).1⟩
  · obtain ⟨a, b⟩ := Bool.and_eq_true_iff.mp h1
    refine ⟨?_, (Bool.and_eq_true_iff.mp b).1⟩
    rcases Bool.or_eq_true_iff.mp a with c | c
    · have := of_decide_eq_true c; omega
    · have := of_decide_eq_true c; omega
/-- a node whose left part can end with p, when x can: it isn't between x and the node above x; if it is that one, x is its left part -/
theorem la_next (h : tr kd lf rt ab em st b r) {p x y u : Nat} (h1 : b ≤ x) (h2 : x ≤ r) (hx : la kd lf rt em x p = true) (hu : ab x = ((u : Nat) : Int)) (y1 : x < y) (y2 : y ≤ r) (hk : ¬ kd y = 0) (hy : la kd lf rt em (lf y).toNat p = true) : u ≤ y ∧ (y = u → (lf y).toNat = x) := by
  obtain ⟨-, l2, l3, l4⟩ := tr_L h (by omega) y2 hk
  rcases Nat.lt_trichotomy (lf y).toNat x with c | c | c
  · have := la_chain h p x x (lf y).toNat (Nat.le_refl _) h1 h2 l2 c hy hx
    omega
  · rw [c] at l4
    exact ⟨by omega, fun _ => c⟩
  · have := la_chain h p (lf y).toNat (lf y).toNat x (Nat.le_refl _) l2 (by omega) h1 c hx hy
    exact ⟨by omega, fun e => by omega⟩
end TR
