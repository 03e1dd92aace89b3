theorem lxF {lt f : Nat → Bool} {b n q : Nat} (h1 : b ≤ q) (h2 : q < n) : orF (clF lt b n) f q = f q := by
  unfold orF; rw [clF_in lt h1 h2, Bool.false_or]
theorem cpF_cpF {cv f g : Nat → Bool} {b n : Nat} : cpF (cpF cv f b n) g b n = cpF cv g b n := by
  funext q
  unfold cpF
  by_cases c : b ≤ q ∧ q < n
  · rw [if_pos c, if_pos c]
  · rw [if_neg c, if_neg c, if_neg c]
section G
variable {kd : Nat → Nat} {lf rt ab : Nat → Int} {em : Nat → Bool} {st nv : Nat → Nat} {b r : Nat}
theorem goS_0 {cv : Nat → Bool} {x q : Nat} : goS kd lf rt em nv b r cv x b q = false := anyR_0
theorem goW_0 {cv : Nat → Bool} {x : Nat} : goW kd lf rt em nv b r cv x b = false := anyR_0
theorem goS_s {cv : Nat → Bool} {x n q : Nat} (h : b ≤ n) : goS kd lf rt em nv b r cv x (n + 1) q = (goS kd lf rt em nv b r cv x n q || (cv n && decide (nv n = x) && fo kd lf rt em b (r + 1) n q)) := anyR_s h
theorem goW_s {cv : Nat → Bool} {x n : Nat} (h : b ≤ n) : goW kd lf rt em nv b r cv x (n + 1) = (goW kd lf rt em nv b r cv x n || (cv n && decide (nv n = x) && la kd lf rt em r n)) := anyR_s h
theorem goS_congr {cv cw : Nat → Bool} {x n q : Nat} (h : ∀ p, b ≤ p → p < n → cv p = cw p) : goS kd lf rt em nv b r cv x n q = goS kd lf rt em nv b r cw x n q := anyR_congr (fun i h1 h2 => by rw [h i h1 h2])
theorem goW_congr {cv cw : Nat → Bool} {x n : Nat} (h : ∀ p, b ≤ p → p < n → cv p = cw p) : goW kd lf rt em nv b r cv x n = goW kd lf rt em nv b r cw x n := anyR_congr (fun i h1 h2 => by rw [h i h1 h2])
theorem fo_in (h : tr kd lf rt ab em st b r) {p q : Nat} (hf : fo kd lf rt em b (r + 1) p q = true) : b ≤ q ∧ q ≤ r ∧ kd q = 0 := by
  obtain ⟨u, u1, u2, u3⟩ := fo_iff.mp hf
  obtain ⟨k1, k2⟩ := fc_la u3
  obtain ⟨-, l2, l3, -⟩ := tr_L h u1 (by omega) k1
  unfold fc at u3
  rcases Bool.or_eq_true_iff.mp u3 with c | c
  · obtain ⟨c1, c2⟩ := Bool.and_eq_true_iff.mp c
    have c3 := of_decide_eq_true c1
    obtain ⟨-, r2, r3, -⟩ := tr_R h u1 (show u ≤ r by omega) (by omega)
    obtain ⟨d1, d2, d3⟩ := fi_in h _ _ q (Nat.le_refl _) r2 (by omega) (Bool.and_eq_true_iff.mp c2).2
    exact ⟨d1, by omega, d3⟩
  · obtain ⟨c1, c2⟩ := Bool.and_eq_true_iff.mp c
    obtain ⟨d1, d2, d3⟩ := fi_in h _ _ q (Nat.le_refl _) l2 (by omega) (Bool.and_eq_true_iff.mp c2).2
    exact ⟨d1, by omega, d3⟩
end G
/-- what can come when the first j names of rd were read -/
def csS (kd : Nat → Nat) (lf rt : Nat → Int) (em : Nat → Bool) (nv : Nat → Nat) (b r : Nat) (rd : Nat → Nat) : Nat → Nat → Bool
  | 0 => fi kd lf rt em r
  | j + 1 => goS kd lf rt em nv b r (csS kd lf rt em nv b r rd j) (rd j) (r + 1)
/-- whether it is a whole row then -/
def csW (kd : Nat → Nat) (lf rt : Nat → Int) (em : Nat → Bool) (nv : Nat → Nat) (b r : Nat) (rd : Nat → Nat) : Nat → Bool
  | 0 => em r
  | j + 1 => goW kd lf rt em nv b r (csS kd lf rt em nv b r rd j) (rd j) (r + 1)
theorem csS_in {kd : Nat → Nat} {lf rt ab : Nat → Int} {em : Nat → Bool} {st nv : Nat → Nat} {b r : Nat} {rd : Nat → Nat} (h : tr kd lf rt ab em st b r) {j q : Nat} (hc : csS kd lf rt em nv b r rd j q = true) : b ≤ q ∧ q ≤ r ∧ kd q = 0 := by
  cases j with
  | zero =>
    obtain ⟨d1, d2, d3⟩ := fi_in h _ r q (Nat.le_refl _) h.1 (Nat.le_refl _) hc
    exact ⟨d1, d2, d3⟩
  | succ j =>
    rw [csS] at hc
    unfold goS at hc
    obtain ⟨p, p1, p2, p3⟩ := anyR_iff.mp hc
    exact fo_in h (Bool.and_eq_true_iff.mp p3).2
theorem csS_congr {kd : Nat → Nat} {lf rt : Nat → Int} {em : Nat → Bool} {nv : Nat → Nat} {b r : Nat} {rd rd2 : Nat → Nat} : ∀ {j : Nat}, (∀ i, i < j → rd i = rd2 i) → csS kd lf rt em nv b r rd j = csS kd lf rt em nv b r rd2 j
  | 0, _ => rfl
  | j + 1, h => by rw [csS, csS, csS_congr (j := j) (fun i hi => h i (by omega)), h j (by omega)]
theorem csW_congr {kd : Nat → Nat} {lf rt : Nat → Int} {em : Nat → Bool} {nv : Nat → Nat} {b r : Nat} {rd rd2 : Nat → Nat} : ∀ {j : Nat}, (∀ i, i < j → rd i = rd2 i) → csW kd lf rt em nv b r rd j = csW kd lf rt em nv b r rd2 j
  | 0, _ => rfl
  | j + 1, h => by rw [csW, csW, csS_congr (j := j) (fun i hi => h i (by omega)), h j (by omega)]
/-- the k-th number of a set of 1 .. : the reference's count -/
def cntN (f : Nat → Bool) : Nat → Nat
  | 0 => 0
  | k + 1 => cntN f k + (if f k = true then 1 else 0)
theorem cntN_le (f : Nat → Bool) : ∀ n, cntN f n ≤ n
  | 0 => Nat.le_refl _
  | n + 1 => by rw [cntN]; have := cntN_le f n; split <;> omega
theorem cntN_T {f : Nat → Bool} {k : Nat} (h : f k = true) : cntN f (k + 1) = cntN f k + 1 := by rw [cntN, if_pos h]
theorem cntN_F {f : Nat → Bool} {k : Nat} (h : f k = false) : cntN f (k + 1) = cntN f k := by rw [cntN, if_neg (by rw [h]; decide)]; rfl
def nxR (f : Nat → Bool) (y : Int) : Nat → Int
  | 0 => -1
  | i + 1 => if nxR f y i = -1 then (if f i = true ∧ ((cntN f i : Nat) : Int) = y then ((i : Nat) : Int) else -1) else nxR f y i
theorem nxR_mono {f : Nat → Bool} {y v : Int} (hv : ¬ v = -1) : ∀ {i n : Nat}, i ≤ n → nxR f y i = v → nxR f y n = v := by
  intro i n h hi
  induction n with
  | zero => rw [show i = 0 by omega] at hi; exact hi
  | succ n ih =>
    by_cases hq : i = n + 1
    · rw [← hq]; exact hi
    · have h1 := ih (by omega)
      rw [nxR, h1, if_neg hv]
theorem nxR_neg {f : Nat → Bool} {y : Int} (hy : y < 0) : ∀ n, nxR f y n = -1
  | 0 => rfl
  | n + 1 => by rw [nxR, nxR_neg hy n, if_pos rfl, if_neg (by omega)]
/-- the names that could come, for the reference's look: 1 .. -/
def cnF (cv : Nat → Bool) (nv : Nat → Nat) (b n : Nat) (i : Nat) : Bool := decide (1 ≤ i) && anyR b n (fun p => cv p && decide (((nv p : Nat) : Int) = ((i : Nat) : Int)))
theorem nxR_null {y : Int} : ∀ n, nxR (fun _ => false) y n = -1
  | 0 => rfl
  | n + 1 => by rw [nxR, nxR_null n, if_pos rfl, if_neg (fun z => absurd z.1 (by decide))]
