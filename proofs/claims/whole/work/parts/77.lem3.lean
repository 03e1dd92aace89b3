section DT
variable {kd : Nat → Nat} {lf rt : Nat → Int} {em : Nat → Bool} {nv : Nat → Nat} {b r : Nat}
theorem dtR_0 : dtR kd lf rt em nv b r b = !(twR (fi kd lf rt em r) nv b (r + 1)) := by
  unfold dtR; rw [anyR_0]; simp
theorem dtR_s {n : Nat} (h : b ≤ n) : dtR kd lf rt em nv b r (n + 1) = (dtR kd lf rt em nv b r n && !(decide (kd n = 0) && twR (fo kd lf rt em b (r + 1) n) nv b (r + 1))) := by
  unfold dtR
  rw [anyR_s h]
  cases twR (fi kd lf rt em r) nv b (r + 1) <;> cases anyR b n (fun p => decide (kd p = 0) && twR (fo kd lf rt em b (r + 1) p) nv b (r + 1)) <;> cases (decide (kd n = 0) && twR (fo kd lf rt em b (r + 1) n) nv b (r + 1)) <;> rfl
theorem dtR_mono {n m : Nat} (hb : b ≤ n) (h : n ≤ m) (hf : dtR kd lf rt em nv b r n = false) : dtR kd lf rt em nv b r m = false := by
  induction m with
  | zero => rw [show n = 0 by omega] at hf; exact hf
  | succ m ih =>
    by_cases e : n = m + 1
    · rw [← e]; exact hf
    · rw [dtR_s (by omega), ih (by omega)]; rfl
end DT
