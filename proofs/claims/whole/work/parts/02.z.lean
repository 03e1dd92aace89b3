def zI (z : Int) : Int32 := Int32.ofInt z
def z0N : Nat → Nat := fun _ => 0
def z0B : Nat → Bool := fun _ => false
def z0J : Nat → Int64 := fun _ => 0
def z0Q : Nat → Option Nat := fun _ => none
def zB (b : Bool) : Int32 := if b then 1 else 0
theorem zI_toInt {z : Int} (h : -2147483648 ≤ z ∧ z < 2147483648) : (zI z).toInt = z := Int32.toInt_ofInt_of_le (by omega) (by omega)
theorem zI_eq {a b : Int} (h : (-2147483648 ≤ a ∧ a < 2147483648) ∧ (-2147483648 ≤ b ∧ b < 2147483648)) : zI a = zI b ↔ a = b := by
  constructor
  · intro q
    have q2 := congrArg Int32.toInt q
    rw [zI_toInt h.1, zI_toInt h.2] at q2
    exact q2
  · intro q; rw [q]
theorem zI_lt {a b : Int} (h : (-2147483648 ≤ a ∧ a < 2147483648) ∧ (-2147483648 ≤ b ∧ b < 2147483648)) : zI a < zI b ↔ a < b := by
  rw [Int32.lt_iff_toInt_lt, zI_toInt h.1, zI_toInt h.2]
theorem zI_le {a b : Int} (h : (-2147483648 ≤ a ∧ a < 2147483648) ∧ (-2147483648 ≤ b ∧ b < 2147483648)) : zI a ≤ zI b ↔ a ≤ b := by
  rw [Int32.le_iff_toInt_le, zI_toInt h.1, zI_toInt h.2]
theorem zI_add (a b : Int) : zI a + zI b = zI (a + b) := (Int32.ofInt_add a b).symm
theorem zI_sub (a b : Int) : zI a - zI b = zI (a - b) := (Int32.ofInt_sub a b).symm
theorem zI_mul (a b : Int) : zI a * zI b = zI (a * b) := (Int32.ofInt_mul a b).symm
theorem zI_nat (n : Nat) : zI (n : Int) = nI n := Int32.ofInt_eq_ofNat
theorem zI_ofNat (n : Nat) : Int32.ofNat n = zI (n : Int) := (zI_nat n).symm
theorem zI_cl {z : Int} {n : Nat} (hz : z = (n : Int)) (h : n < 2147483648) : (zI z).toNatClampNeg = n := by
  rw [hz, zI_nat]; exact nI_clamp (by omega)
theorem zI_in {z : Int} {i n : Nat} (hz : z = (i : Int)) (h : i < n) (hn : n < 2147483648) : vp_in (zI z) n := by
  rw [hz, zI_nat]; exact vp_in_nI h (by omega)
theorem z_incN (x k : Nat) : zI ((x : Nat) : Int) + Int32.ofInt ((k : Nat) : Int) = zI ((x + k : Nat) : Int) := by
  rw [Int.natCast_add]; exact zI_add _ _
theorem z_max0 (k : Nat) (h : k < 2147483648) : (if zI ((k : Nat) : Int) < zI 0 then zI 0 else zI ((k : Nat) : Int)) = zI ((k : Nat) : Int) := if_neg (by rw [zI_lt ⟨by omega, by omega⟩]; omega)
theorem z_max0l (k : Nat) (h : k < 2147483648) : (if zI 0 < zI ((k : Nat) : Int) then zI ((k : Nat) : Int) else zI 0) = zI ((k : Nat) : Int) := by
  by_cases hk : k = 0
  · subst hk; exact if_neg (by rw [zI_lt ⟨by omega, by omega⟩]; omega)
  · exact if_pos (by rw [zI_lt ⟨by omega, by omega⟩]; omega)
theorem z_min1001 (k : Nat) (h : k ≤ 1001) : (if zI 1001 < zI ((k : Nat) : Int) then zI 1001 else zI ((k : Nat) : Int)) = zI ((k : Nat) : Int) := if_neg (by rw [zI_lt ⟨by omega, by omega⟩]; omega)
theorem zI_self (x : Int32) : zI x.toInt = x := Int32.ofInt_toInt x
theorem zI_rng (x : Int32) : -2147483648 ≤ x.toInt ∧ x.toInt < 2147483648 := ⟨by have := x.le_toInt; omega, by have := x.toInt_lt; omega⟩
theorem zI_0 : (0 : Int32) = zI 0 := by decide
theorem zB_T : zB true = 1 := rfl
theorem zB_F : zB false = 0 := rfl
theorem zB_0 (b : Bool) : zB b = 0 ↔ b = false := by cases b <;> decide
theorem z_narB (b : Bool) : narrow .boolean (.int (zB b)) = .int (zB b) := by cases b <;> decide
theorem z_fitB (b : Bool) : fits .boolean (.int (zB b)) = true := by cases b <;> decide
theorem z_vnarB (b : Bool) : vp_nar .boolean (zB b) = zB b := by cases b <;> decide
theorem z_updI (g : Nat → Int) (i : Nat) (x : Int) : upd (fun j => zI (g j)) i (zI x) = fun j => zI (va_up g i x j) := by
  funext j; unfold upd va_up; by_cases h : j = i <;> simp [h]
theorem z_updB (g : Nat → Bool) (i : Nat) (x : Bool) : upd (fun j => zB (g j)) i (zB x) = fun j => zB (va_up g i x j) := by
  funext j; unfold upd va_up; by_cases h : j = i <;> simp [h]

section ZR
variable {p : Program} {l : Launch} {e : Env} {R : Room} {s : State} {m : MethodId} {args : Array Value} {below : List Frame} {meth : Method} {c : Code} {H : Heap} {locs : List Loc} {cells slots : Nat} {Q : State → Prop}
variable {cc : ByteArray} {pc : Nat} {ls : Array Slot} {rest : List Value}
theorem z_iadd (hx : p.tables.exec = Jvm.exec) (hb : c.code = cc) {a b : Int} (hdg : decode cc pc = .ok (.iadd, 1)) (k : W p l e R s m args below meth c H locs cells slots Q (F0 m (pc + 1) ls (.int (zI (a + b)) :: rest))) : W p l e R s m args below meth c H locs cells slots Q (F0 m pc ls (.int (zI b) :: .int (zI a) :: rest)) := lv_iadd hx hb hdg (by rw [zI_add]; exact k)
theorem z_isub (hx : p.tables.exec = Jvm.exec) (hb : c.code = cc) {a b : Int} (hdg : decode cc pc = .ok (.isub, 1)) (k : W p l e R s m args below meth c H locs cells slots Q (F0 m (pc + 1) ls (.int (zI (a - b)) :: rest))) : W p l e R s m args below meth c H locs cells slots Q (F0 m pc ls (.int (zI b) :: .int (zI a) :: rest)) := lv_isub hx hb hdg (by rw [zI_sub]; exact k)
theorem z_imul (hx : p.tables.exec = Jvm.exec) (hb : c.code = cc) {a b : Int} (hdg : decode cc pc = .ok (.imul, 1)) (k : W p l e R s m args below meth c H locs cells slots Q (F0 m (pc + 1) ls (.int (zI (a * b)) :: rest))) : W p l e R s m args below meth c H locs cells slots Q (F0 m pc ls (.int (zI b) :: .int (zI a) :: rest)) := lv_imul hx hb hdg (by rw [zI_mul]; exact k)
theorem z_icmp_eq (hx : p.tables.exec = Jvm.exec) (hb : c.code = cc) {a b : Int} {off : Int} {tgt : Nat} (hr : (-2147483648 ≤ a ∧ a < 2147483648) ∧ (-2147483648 ≤ b ∧ b < 2147483648)) (hdg : decode cc pc = .ok (.if_icmp .eq off, 3)) (ht : (pc : Int) + off = (tgt : Int)) (kt : a = b → W p l e R s m args below meth c H locs cells slots Q (F0 m tgt ls rest)) (kf : ¬ a = b → W p l e R s m args below meth c H locs cells slots Q (F0 m (pc + 3) ls rest)) : W p l e R s m args below meth c H locs cells slots Q (F0 m pc ls (.int (zI b) :: .int (zI a) :: rest)) := lv_icmp_eq hx hb hdg ht (fun h => kt ((zI_eq hr).mp h)) (fun h => kf (fun q => h ((zI_eq hr).mpr q)))
theorem z_icmp_ne (hx : p.tables.exec = Jvm.exec) (hb : c.code = cc) {a b : Int} {off : Int} {tgt : Nat} (hr : (-2147483648 ≤ a ∧ a < 2147483648) ∧ (-2147483648 ≤ b ∧ b < 2147483648)) (hdg : decode cc pc = .ok (.if_icmp .ne off, 3)) (ht : (pc : Int) + off = (tgt : Int)) (kt : ¬ a = b → W p l e R s m args below meth c H locs cells slots Q (F0 m tgt ls rest)) (kf : a = b → W p l e R s m args below meth c H locs cells slots Q (F0 m (pc + 3) ls rest)) : W p l e R s m args below meth c H locs cells slots Q (F0 m pc ls (.int (zI b) :: .int (zI a) :: rest)) := lv_icmp_ne hx hb hdg ht (fun h => kt (fun q => h ((zI_eq hr).mpr q))) (fun h => kf ((zI_eq hr).mp h))
theorem z_icmp_lt (hx : p.tables.exec = Jvm.exec) (hb : c.code = cc) {a b : Int} {off : Int} {tgt : Nat} (hr : (-2147483648 ≤ a ∧ a < 2147483648) ∧ (-2147483648 ≤ b ∧ b < 2147483648)) (hdg : decode cc pc = .ok (.if_icmp .lt off, 3)) (ht : (pc : Int) + off = (tgt : Int)) (kt : a < b → W p l e R s m args below meth c H locs cells slots Q (F0 m tgt ls rest)) (kf : ¬ a < b → W p l e R s m args below meth c H locs cells slots Q (F0 m (pc + 3) ls rest)) : W p l e R s m args below meth c H locs cells slots Q (F0 m pc ls (.int (zI b) :: .int (zI a) :: rest)) := lv_icmp_lt hx hb hdg ht (fun h => kt ((zI_lt hr).mp h)) (fun h => kf (fun q => h ((zI_lt hr).mpr q)))
theorem z_icmp_ge (hx : p.tables.exec = Jvm.exec) (hb : c.code = cc) {a b : Int} {off : Int} {tgt : Nat} (hr : (-2147483648 ≤ a ∧ a < 2147483648) ∧ (-2147483648 ≤ b ∧ b < 2147483648)) (hdg : decode cc pc = .ok (.if_icmp .ge off, 3)) (ht : (pc : Int) + off = (tgt : Int)) (kt : b ≤ a → W p l e R s m args below meth c H locs cells slots Q (F0 m tgt ls rest)) (kf : ¬ b ≤ a → W p l e R s m args below meth c H locs cells slots Q (F0 m (pc + 3) ls rest)) : W p l e R s m args below meth c H locs cells slots Q (F0 m pc ls (.int (zI b) :: .int (zI a) :: rest)) := lv_icmp_ge hx hb hdg ht (fun h => kt ((zI_le hr.symm).mp h)) (fun h => kf (fun q => h ((zI_le hr.symm).mpr q)))
theorem z_icmp_gt (hx : p.tables.exec = Jvm.exec) (hb : c.code = cc) {a b : Int} {off : Int} {tgt : Nat} (hr : (-2147483648 ≤ a ∧ a < 2147483648) ∧ (-2147483648 ≤ b ∧ b < 2147483648)) (hdg : decode cc pc = .ok (.if_icmp .gt off, 3)) (ht : (pc : Int) + off = (tgt : Int)) (kt : b < a → W p l e R s m args below meth c H locs cells slots Q (F0 m tgt ls rest)) (kf : ¬ b < a → W p l e R s m args below meth c H locs cells slots Q (F0 m (pc + 3) ls rest)) : W p l e R s m args below meth c H locs cells slots Q (F0 m pc ls (.int (zI b) :: .int (zI a) :: rest)) := lv_icmp_gt hx hb hdg ht (fun h => kt ((zI_lt hr.symm).mp h)) (fun h => kf (fun q => h ((zI_lt hr.symm).mpr q)))
theorem z_icmp_le (hx : p.tables.exec = Jvm.exec) (hb : c.code = cc) {a b : Int} {off : Int} {tgt : Nat} (hr : (-2147483648 ≤ a ∧ a < 2147483648) ∧ (-2147483648 ≤ b ∧ b < 2147483648)) (hdg : decode cc pc = .ok (.if_icmp .le off, 3)) (ht : (pc : Int) + off = (tgt : Int)) (kt : a ≤ b → W p l e R s m args below meth c H locs cells slots Q (F0 m tgt ls rest)) (kf : ¬ a ≤ b → W p l e R s m args below meth c H locs cells slots Q (F0 m (pc + 3) ls rest)) : W p l e R s m args below meth c H locs cells slots Q (F0 m pc ls (.int (zI b) :: .int (zI a) :: rest)) := lv_icmp_le hx hb hdg ht (fun h => kt ((zI_le hr).mp h)) (fun h => kf (fun q => h ((zI_le hr).mpr q)))
theorem z_if_eq (hx : p.tables.exec = Jvm.exec) (hb : c.code = cc) {a : Int} {off : Int} {tgt : Nat} (hr : -2147483648 ≤ a ∧ a < 2147483648) (hdg : decode cc pc = .ok (.ifCond .eq off, 3)) (ht : (pc : Int) + off = (tgt : Int)) (kt : a = 0 → W p l e R s m args below meth c H locs cells slots Q (F0 m tgt ls rest)) (kf : ¬ a = 0 → W p l e R s m args below meth c H locs cells slots Q (F0 m (pc + 3) ls rest)) : W p l e R s m args below meth c H locs cells slots Q (F0 m pc ls (.int (zI a) :: rest)) := lv_if_eq hx hb hdg ht (fun h => kt ((zI_eq (And.intro hr (by omega))).mp (by rw [zI_0] at h; exact h))) (fun h => kf (fun q => h (by rw [zI_0]; exact (zI_eq (And.intro hr (by omega))).mpr q)))
theorem z_if_ne (hx : p.tables.exec = Jvm.exec) (hb : c.code = cc) {a : Int} {off : Int} {tgt : Nat} (hr : -2147483648 ≤ a ∧ a < 2147483648) (hdg : decode cc pc = .ok (.ifCond .ne off, 3)) (ht : (pc : Int) + off = (tgt : Int)) (kt : ¬ a = 0 → W p l e R s m args below meth c H locs cells slots Q (F0 m tgt ls rest)) (kf : a = 0 → W p l e R s m args below meth c H locs cells slots Q (F0 m (pc + 3) ls rest)) : W p l e R s m args below meth c H locs cells slots Q (F0 m pc ls (.int (zI a) :: rest)) := lv_if_ne hx hb hdg ht (fun h => kt (fun q => h (by rw [zI_0]; exact (zI_eq (And.intro hr (by omega))).mpr q))) (fun h => kf ((zI_eq (And.intro hr (by omega))).mp (by rw [zI_0] at h; exact h)))
theorem z_if_lt (hx : p.tables.exec = Jvm.exec) (hb : c.code = cc) {a : Int} {off : Int} {tgt : Nat} (hr : -2147483648 ≤ a ∧ a < 2147483648) (hdg : decode cc pc = .ok (.ifCond .lt off, 3)) (ht : (pc : Int) + off = (tgt : Int)) (kt : a < 0 → W p l e R s m args below meth c H locs cells slots Q (F0 m tgt ls rest)) (kf : ¬ a < 0 → W p l e R s m args below meth c H locs cells slots Q (F0 m (pc + 3) ls rest)) : W p l e R s m args below meth c H locs cells slots Q (F0 m pc ls (.int (zI a) :: rest)) := lv_if_lt hx hb hdg ht (fun h => kt ((zI_lt (And.intro hr (by omega))).mp (by rw [zI_0] at h; exact h))) (fun h => kf (fun q => h (by rw [zI_0]; exact (zI_lt (And.intro hr (by omega))).mpr q)))
theorem z_if_ge (hx : p.tables.exec = Jvm.exec) (hb : c.code = cc) {a : Int} {off : Int} {tgt : Nat} (hr : -2147483648 ≤ a ∧ a < 2147483648) (hdg : decode cc pc = .ok (.ifCond .ge off, 3)) (ht : (pc : Int) + off = (tgt : Int)) (kt : 0 ≤ a → W p l e R s m args below meth c H locs cells slots Q (F0 m tgt ls rest)) (kf : ¬ 0 ≤ a → W p l e R s m args below meth c H locs cells slots Q (F0 m (pc + 3) ls rest)) : W p l e R s m args below meth c H locs cells slots Q (F0 m pc ls (.int (zI a) :: rest)) := lv_if_ge hx hb hdg ht (fun h => kt ((zI_le (And.intro (by omega) hr)).mp (by rw [zI_0] at h; exact h))) (fun h => kf (fun q => h (by rw [zI_0]; exact (zI_le (And.intro (by omega) hr)).mpr q)))
theorem z_if_gt (hx : p.tables.exec = Jvm.exec) (hb : c.code = cc) {a : Int} {off : Int} {tgt : Nat} (hr : -2147483648 ≤ a ∧ a < 2147483648) (hdg : decode cc pc = .ok (.ifCond .gt off, 3)) (ht : (pc : Int) + off = (tgt : Int)) (kt : 0 < a → W p l e R s m args below meth c H locs cells slots Q (F0 m tgt ls rest)) (kf : ¬ 0 < a → W p l e R s m args below meth c H locs cells slots Q (F0 m (pc + 3) ls rest)) : W p l e R s m args below meth c H locs cells slots Q (F0 m pc ls (.int (zI a) :: rest)) := lv_if_gt hx hb hdg ht (fun h => kt ((zI_lt (And.intro (by omega) hr)).mp (by rw [zI_0] at h; exact h))) (fun h => kf (fun q => h (by rw [zI_0]; exact (zI_lt (And.intro (by omega) hr)).mpr q)))
theorem z_if_le (hx : p.tables.exec = Jvm.exec) (hb : c.code = cc) {a : Int} {off : Int} {tgt : Nat} (hr : -2147483648 ≤ a ∧ a < 2147483648) (hdg : decode cc pc = .ok (.ifCond .le off, 3)) (ht : (pc : Int) + off = (tgt : Int)) (kt : a ≤ 0 → W p l e R s m args below meth c H locs cells slots Q (F0 m tgt ls rest)) (kf : ¬ a ≤ 0 → W p l e R s m args below meth c H locs cells slots Q (F0 m (pc + 3) ls rest)) : W p l e R s m args below meth c H locs cells slots Q (F0 m pc ls (.int (zI a) :: rest)) := lv_if_le hx hb hdg ht (fun h => kt ((zI_le (And.intro hr (by omega))).mp (by rw [zI_0] at h; exact h))) (fun h => kf (fun q => h (by rw [zI_0]; exact (zI_le (And.intro hr (by omega))).mpr q)))
theorem z_ifeq_B (hx : p.tables.exec = Jvm.exec) (hb : c.code = cc) {b : Bool} {off : Int} {tgt : Nat} (hdg : decode cc pc = .ok (.ifCond .eq off, 3)) (ht : (pc : Int) + off = (tgt : Int)) (kt : b = false → W p l e R s m args below meth c H locs cells slots Q (F0 m tgt ls rest)) (kf : b = true → W p l e R s m args below meth c H locs cells slots Q (F0 m (pc + 3) ls rest)) : W p l e R s m args below meth c H locs cells slots Q (F0 m pc ls (.int (zB b) :: rest)) := lv_if_eq hx hb hdg ht (fun h => kt ((zB_0 b).mp h)) (fun h => kf (by cases b with | true => rfl | false => exact absurd rfl h))
theorem z_ifne_B (hx : p.tables.exec = Jvm.exec) (hb : c.code = cc) {b : Bool} {off : Int} {tgt : Nat} (hdg : decode cc pc = .ok (.ifCond .ne off, 3)) (ht : (pc : Int) + off = (tgt : Int)) (kt : b = true → W p l e R s m args below meth c H locs cells slots Q (F0 m tgt ls rest)) (kf : b = false → W p l e R s m args below meth c H locs cells slots Q (F0 m (pc + 3) ls rest)) : W p l e R s m args below meth c H locs cells slots Q (F0 m pc ls (.int (zB b) :: rest)) := lv_if_ne hx hb hdg ht (fun h => kt (by cases b with | true => rfl | false => exact absurd rfl h)) (fun h => kf ((zB_0 b).mp h))
theorem z_topT {v : Int32} (h : v = zB true) (k : W p l e R s m args below meth c H locs cells slots Q (F0 m pc ls (.int (zB true) :: rest))) : W p l e R s m args below meth c H locs cells slots Q (F0 m pc ls (.int v :: rest)) := h ▸ k
theorem z_top {v v2 : Value} (h : v = v2) (k : W p l e R s m args below meth c H locs cells slots Q (F0 m pc ls (v2 :: rest))) : W p l e R s m args below meth c H locs cells slots Q (F0 m pc ls (v :: rest)) := h ▸ k
variable {D : va_G} {cl : List vw_C} {A : Nat → Prop} {a : Nat} {tys : List (ClassId × FieldType)} {ws : va_W} {H0 : Heap}
theorem z_iald (hx : p.tables.exec = Jvm.exec) (hb : c.code = cc) (hK : va_K D cl tys s) (hP : va_P D cl ws H) (q0 t0 : Nat) {cA : ClassId} {n : Nat} {g : Nat → Int} (ha : ws[q0]? = some (a, .inl (cA, n, .inl (fun j => zI (g j))))) (ht : tys[t0]? = some (cA, .int)) {z : Int} (i : Nat) (hz : z = (i : Int)) (hin : i < n) (hn : n < 2147483648) (hdg : decode cc pc = .ok (.iaload, 1)) (kk : W p l e R s m args below meth c H locs cells slots Q (F0 m (pc + 1) ls (.int (zI (g i)) :: rest))) : W p l e R s m args below meth c H locs cells slots Q (F0 m pc ls (.int (zI z) :: .ref a :: rest)) := va_iald hx hb hK hP q0 t0 ha ht (zI_in hz hin hn) hdg (by rw [zI_cl hz (by omega)]; exact kk)
theorem z_zald (hx : p.tables.exec = Jvm.exec) (hb : c.code = cc) (hK : va_K D cl tys s) (hP : va_P D cl ws H) (q0 t0 : Nat) {cA : ClassId} {n : Nat} {g : Nat → Bool} (ha : ws[q0]? = some (a, .inl (cA, n, .inl (fun j => zB (g j))))) (ht : tys[t0]? = some (cA, .boolean)) {z : Int} (i : Nat) (hz : z = (i : Int)) (hin : i < n) (hn : n < 2147483648) (hdg : decode cc pc = .ok (.baload, 1)) (kk : W p l e R s m args below meth c H locs cells slots Q (F0 m (pc + 1) ls (.int (zB (g i)) :: rest))) : W p l e R s m args below meth c H locs cells slots Q (F0 m pc ls (.int (zI z) :: .ref a :: rest)) := va_zald hx hb hK hP q0 t0 ha ht (zI_in hz hin hn) hdg (by rw [zI_cl hz (by omega)]; exact kk)
theorem z_lald (hx : p.tables.exec = Jvm.exec) (hb : c.code = cc) (hK : va_K D cl tys s) (hP : va_P D cl ws H) (q0 t0 : Nat) {cA : ClassId} {n : Nat} {g : Nat → Int64} (ha : ws[q0]? = some (a, .inl (cA, n, .inr (.inl g)))) (ht : tys[t0]? = some (cA, .long)) {z : Int} (i : Nat) (hz : z = (i : Int)) (hin : i < n) (hn : n < 2147483648) (hdg : decode cc pc = .ok (.laload, 1)) (kk : W p l e R s m args below meth c H locs cells slots Q (F0 m (pc + 1) ls (.long (g i) :: rest))) : W p l e R s m args below meth c H locs cells slots Q (F0 m pc ls (.int (zI z) :: .ref a :: rest)) := va_lald hx hb hK hP q0 t0 ha ht (zI_in hz hin hn) hdg (by rw [zI_cl hz (by omega)]; exact kk)
theorem z_aald (hx : p.tables.exec = Jvm.exec) (hb : c.code = cc) (hK : va_K D cl tys s) (hP : va_P D cl ws H) (q0 t0 : Nat) {cA : ClassId} {C : String} {n : Nat} {g : Nat → Option Nat} (ha : ws[q0]? = some (a, .inl (cA, n, .inr (.inr (.inr (.inr g)))))) (ht : tys[t0]? = some (cA, .object C)) {z : Int} (i : Nat) (hz : z = (i : Int)) (hin : i < n) (hn : n < 2147483648) (hdg : decode cc pc = .ok (.aaload, 1)) (kk : W p l e R s m args below meth c H locs cells slots Q (F0 m (pc + 1) ls (va_rf (g i) :: rest))) : W p l e R s m args below meth c H locs cells slots Q (F0 m pc ls (.int (zI z) :: .ref a :: rest)) := va_aldq hx hb hK hP q0 t0 ha ht (zI_in hz hin hn) hdg (by rw [zI_cl hz (by omega)]; exact kk)
theorem z_updU (g : Nat → Nat) (i x : Nat) : upd (fun j => zI ((g j : Nat) : Int)) i (zI ((x : Nat) : Int)) = fun j => zI ((va_up g i x j : Nat) : Int) := by
  funext j; unfold upd va_up; by_cases h : j = i <;> simp [h]
theorem z_uald (hx : p.tables.exec = Jvm.exec) (hb : c.code = cc) (hK : va_K D cl tys s) (hP : va_P D cl ws H) (q0 t0 : Nat) {cA : ClassId} {n : Nat} {g : Nat → Nat} (ha : ws[q0]? = some (a, .inl (cA, n, .inl (fun j => zI ((g j : Nat) : Int))))) (ht : tys[t0]? = some (cA, .int)) {z : Int} (i : Nat) (hz : z = (i : Int)) (hin : i < n) (hn : n < 2147483648) (hdg : decode cc pc = .ok (.iaload, 1)) (kk : W p l e R s m args below meth c H locs cells slots Q (F0 m (pc + 1) ls (.int (zI ((g i : Nat) : Int)) :: rest))) : W p l e R s m args below meth c H locs cells slots Q (F0 m pc ls (.int (zI z) :: .ref a :: rest)) := va_iald hx hb hK hP q0 t0 ha ht (zI_in hz hin hn) hdg (by rw [zI_cl hz (by omega)]; exact kk)
theorem z_uast (hx : p.tables.exec = Jvm.exec) (hb : c.code = cc) (hK : va_K D cl tys s) (hP : va_P D cl ws H) (hD : va_D A ws) (hS : va_S A H0 H locs) (q0 t0 : Nat) {cA : ClassId} {n : Nat} {g : Nat → Nat} (ha : ws[q0]? = some (a, .inl (cA, n, .inl (fun j => zI ((g j : Nat) : Int))))) (ht : tys[t0]? = some (cA, .int)) {z : Int} {x : Nat} (i : Nat) (hz : z = (i : Int)) (hin : i < n) (hn : n < 2147483648) (hdg : decode cc pc = .ok (.iastore, 1)) (kk : ∀ (H1 : Heap) (locs1 : List Loc), va_P D cl (ws.set q0 (a, .inl (cA, n, .inl (fun j => zI ((va_up g i x j : Nat) : Int))))) H1 → va_D A (ws.set q0 (a, .inl (cA, n, .inl (fun j => zI ((va_up g i x j : Nat) : Int))))) → va_S A H0 H1 locs1 → W p l e R s m args below meth c H1 locs1 cells slots Q (F0 m (pc + 1) ls rest)) : W p l e R s m args below meth c H locs cells slots Q (F0 m pc ls (.int (zI ((x : Nat) : Int)) :: .int (zI z) :: .ref a :: rest)) := by
  refine va_iast hx hb hK hP hD hS q0 t0 ha ht (zI_in hz hin hn) hdg (fun H1 locs1 h1 h2 h3 => kk H1 locs1 ?_ ?_ h3)
  · rw [zI_cl hz (by omega), z_updU] at h1; exact h1
  · rw [zI_cl hz (by omega), z_updU] at h2; exact h2
theorem z_iast (hx : p.tables.exec = Jvm.exec) (hb : c.code = cc) (hK : va_K D cl tys s) (hP : va_P D cl ws H) (hD : va_D A ws) (hS : va_S A H0 H locs) (q0 t0 : Nat) {cA : ClassId} {n : Nat} {g : Nat → Int} (ha : ws[q0]? = some (a, .inl (cA, n, .inl (fun j => zI (g j))))) (ht : tys[t0]? = some (cA, .int)) {z : Int} {x : Int} (i : Nat) (hz : z = (i : Int)) (hin : i < n) (hn : n < 2147483648) (hdg : decode cc pc = .ok (.iastore, 1)) (kk : ∀ (H1 : Heap) (locs1 : List Loc), va_P D cl (ws.set q0 (a, .inl (cA, n, .inl (fun j => zI (va_up g i x j))))) H1 → va_D A (ws.set q0 (a, .inl (cA, n, .inl (fun j => zI (va_up g i x j))))) → va_S A H0 H1 locs1 → W p l e R s m args below meth c H1 locs1 cells slots Q (F0 m (pc + 1) ls rest)) : W p l e R s m args below meth c H locs cells slots Q (F0 m pc ls (.int (zI x) :: .int (zI z) :: .ref a :: rest)) := by
  refine va_iast hx hb hK hP hD hS q0 t0 ha ht (zI_in hz hin hn) hdg (fun H1 locs1 h1 h2 h3 => kk H1 locs1 ?_ ?_ h3)
  · rw [zI_cl hz (by omega), z_updI] at h1; exact h1
  · rw [zI_cl hz (by omega), z_updI] at h2; exact h2
theorem z_zast (hx : p.tables.exec = Jvm.exec) (hb : c.code = cc) (hK : va_K D cl tys s) (hP : va_P D cl ws H) (hD : va_D A ws) (hS : va_S A H0 H locs) (q0 t0 : Nat) {cA : ClassId} {n : Nat} {g : Nat → Bool} (ha : ws[q0]? = some (a, .inl (cA, n, .inl (fun j => zB (g j))))) (ht : tys[t0]? = some (cA, .boolean)) {z : Int} {x : Bool} (i : Nat) (hz : z = (i : Int)) (hin : i < n) (hn : n < 2147483648) (hdg : decode cc pc = .ok (.bastore, 1)) (kk : ∀ (H1 : Heap) (locs1 : List Loc), va_P D cl (ws.set q0 (a, .inl (cA, n, .inl (fun j => zB (va_up g i x j))))) H1 → va_D A (ws.set q0 (a, .inl (cA, n, .inl (fun j => zB (va_up g i x j))))) → va_S A H0 H1 locs1 → W p l e R s m args below meth c H1 locs1 cells slots Q (F0 m (pc + 1) ls rest)) : W p l e R s m args below meth c H locs cells slots Q (F0 m pc ls (.int (zB x) :: .int (zI z) :: .ref a :: rest)) := by
  refine va_zast hx hb hK hP hD hS q0 t0 ha ht (zI_in hz hin hn) hdg (fun H1 locs1 h1 h2 h3 => kk H1 locs1 ?_ ?_ h3)
  · rw [zI_cl hz (by omega), z_vnarB, z_updB] at h1; exact h1
  · rw [zI_cl hz (by omega), z_vnarB, z_updB] at h2; exact h2
theorem z_last (hx : p.tables.exec = Jvm.exec) (hb : c.code = cc) (hK : va_K D cl tys s) (hP : va_P D cl ws H) (hD : va_D A ws) (hS : va_S A H0 H locs) (q0 t0 : Nat) {cA : ClassId} {n : Nat} {g : Nat → Int64} (ha : ws[q0]? = some (a, .inl (cA, n, .inr (.inl g)))) (ht : tys[t0]? = some (cA, .long)) {z : Int} {x : Int64} (i : Nat) (hz : z = (i : Int)) (hin : i < n) (hn : n < 2147483648) (hdg : decode cc pc = .ok (.lastore, 1)) (kk : ∀ (H1 : Heap) (locs1 : List Loc), va_P D cl (ws.set q0 (a, .inl (cA, n, .inr (.inl (vp_updL g i x))))) H1 → va_D A (ws.set q0 (a, .inl (cA, n, .inr (.inl (vp_updL g i x))))) → va_S A H0 H1 locs1 → W p l e R s m args below meth c H1 locs1 cells slots Q (F0 m (pc + 1) ls rest)) : W p l e R s m args below meth c H locs cells slots Q (F0 m pc ls (.long x :: .int (zI z) :: .ref a :: rest)) := by
  refine va_last hx hb hK hP hD hS q0 t0 ha ht (zI_in hz hin hn) hdg (fun H1 locs1 h1 h2 h3 => kk H1 locs1 ?_ ?_ h3)
  · rw [zI_cl hz (by omega)] at h1; exact h1
  · rw [zI_cl hz (by omega)] at h2; exact h2
theorem z_alen (hx : p.tables.exec = Jvm.exec) (hb : c.code = cc) (hK : va_K D cl tys s) (hP : va_P D cl ws H) (q0 t0 : Nat) {cA : ClassId} {x : vp_A} (ha : ws[q0]? = some (a, .inl (cA, x))) {ty : FieldType} (ht : tys[t0]? = some (cA, ty)) (hdg : decode cc pc = .ok (.arraylength, 1)) (kk : W p l e R s m args below meth c H locs cells slots Q (F0 m (pc + 1) ls (.int (zI ((x.1 : Nat) : Int)) :: rest))) : W p l e R s m args below meth c H locs cells slots Q (F0 m pc ls (.ref a :: rest)) := va_alen hx hb hK hP q0 t0 ha ht (zI_ofNat x.1) hdg kk
theorem z_aast (hx : p.tables.exec = Jvm.exec) (hb : c.code = cc) (hK : va_K D cl tys s) (hP : va_P D cl ws H) (hD : va_D A ws) (hS : va_S A H0 H locs) (q0 t0 qk ci : Nat) {cA : ClassId} {r : vw_C} {n v : Nat} {vs : List Value} {g : Nat → Option Nat} (ha : ws[q0]? = some (a, .inl (cA, n, .inr (.inr (.inr (.inr g)))))) (ht : tys[t0]? = some (cA, .object r.1)) (hv : ws[qk]? = some (v, .inr (ci, vs))) (hc : cl[ci]? = some r) {z : Int} (i : Nat) (hz : z = (i : Int)) (hin : i < n) (hn : n < 2147483648) (hdg : decode cc pc = .ok (.aastore, 1)) (kk : ∀ (H1 : Heap) (locs1 : List Loc), va_P D cl (ws.set q0 (a, .inl (cA, n, .inr (.inr (.inr (.inr (va_up g i (some v)))))))) H1 → va_D A (ws.set q0 (a, .inl (cA, n, .inr (.inr (.inr (.inr (va_up g i (some v)))))))) → va_S A H0 H1 locs1 → W p l e R s m args below meth c H1 locs1 cells slots Q (F0 m (pc + 1) ls rest)) : W p l e R s m args below meth c H locs cells slots Q (F0 m pc ls (.ref v :: .int (zI z) :: .ref a :: rest)) := by
  refine va_astq hx hb hK hP hD hS q0 t0 qk ci ha ht hv hc (zI_in hz hin hn) hdg (fun H1 locs1 h1 h2 h3 => kk H1 locs1 ?_ ?_ h3)
  · rw [zI_cl hz (by omega)] at h1; exact h1
  · rw [zI_cl hz (by omega)] at h2; exact h2
theorem z_newa (hx : p.tables.exec = Jvm.exec) (hb : c.code = cc) {atype : ArrayType} (harr : (Cond.arrayClass (newarray.typeOf atype)).before args s = true) {ty : FieldType} (hty : newarray.typeOf atype = ty) (hf : ∀ x, va_RA s x ty → s.vm.findClass ("[" ++ ty.toString) = some x) (hK : va_K D cl tys s) (hP : va_P D cl ws H) (hD : va_D A ws) (hS : va_S A H0 H locs) (hA : ∀ q, H0.size ≤ q → A q) (t0 : Nat) {cT : ClassId} (ht : tys[t0]? = some (cT, ty)) {z : Int} (N' : Nat) {a0 : vp_A} (ha : ∀ cA : ClassId, vp_cell cA a0 = arrV cA N' (fun _ => defaultValue ty)) (hz : z = (N' : Int)) (hN : N' < 2147483648) (hbytes : N' * componentBytes ty ≤ 536870912) (hcells : cells + 1 ≤ R.cells) (hslots : slots + N' ≤ R.slots) (hdg : decode cc pc = .ok (.newarray atype, 2)) (kk : ∀ (q : Nat) (H1 : Heap), va_P D cl (ws ++ [(q, .inl (cT, a0))]) H1 → va_D A (ws ++ [(q, .inl (cT, a0))]) → va_S A H0 H1 locs → W p l e R s m args below meth c H1 locs (cells + 1) (slots + N') Q (F0 m (pc + 2) ls (.ref q :: rest))) : W p l e R s m args below meth c H locs cells slots Q (F0 m pc ls (.int (zI z) :: rest)) := by
  refine va_newa hx hb harr hty hK hP hD hS hA ha ?_ (zI_cl hz hN) hbytes hcells hslots hdg (fun q cA H1 hK1 hP1 hD1 hS1 => ?_)
  · rw [hz, zI_nat]; exact nI_pos (by omega)
  · have h1 := hf cA (hK1.2 tys.length (cA, ty) (by simp)).2
    have h2 := hf cT (hK.2 t0 (cT, ty) ht).2
    have h3 : cA = cT := Option.some.inj (h1.symm.trans h2)
    subst h3
    exact kk q H1 hP1 hD1 hS1
theorem z_newq (hx : p.tables.exec = Jvm.exec) (hb : c.code = cc) {own C : String} {index : Nat} (hown : s.vm.findClass own = some m.cls) (hclink : (Cond.classLink own index C).before args s = true) (hover : va_AO C s) (hK : va_K D cl tys s) (hP : va_P D cl ws H) (hD : va_D A ws) (hS : va_S A H0 H locs) (hA : ∀ q, H0.size ≤ q → A q) (t0 : Nat) {cT : ClassId} (ht : tys[t0]? = some (cT, .object C)) {z : Int} (N' : Nat) (hz : z = (N' : Int)) (hN : N' < 2147483648) (hbytes : N' * 4 ≤ 536870912) (hcells : cells + 1 ≤ R.cells) (hslots : slots + N' ≤ R.slots) (hdg : decode cc pc = .ok (.anewarray index, 3)) (kk : ∀ (q : Nat) (H1 : Heap), va_P D cl (ws ++ [(q, .inl (cT, N', .inr (.inr (.inr (.inr z0Q)))))]) H1 → va_D A (ws ++ [(q, .inl (cT, N', .inr (.inr (.inr (.inr z0Q)))))]) → va_S A H0 H1 locs → W p l e R s m args below meth c H1 locs (cells + 1) (slots + N') Q (F0 m (pc + 3) ls (.ref q :: rest))) : W p l e R s m args below meth c H locs cells slots Q (F0 m pc ls (.int (zI z) :: rest)) := by
  refine va_newq hx hb hown hclink hover hK hP hD hS hA ?_ (zI_cl hz hN) hbytes hcells hslots hdg (fun q cA H1 hK1 hP1 hD1 hS1 => ?_)
  · rw [hz, zI_nat]; exact nI_pos (by omega)
  · obtain ⟨_, _, _, _, _, h1⟩ := (hK1.2 tys.length (cA, .object C) (by simp)).2
    obtain ⟨_, _, _, _, _, h2⟩ := (hK.2 t0 (cT, .object C) ht).2
    have h3 : cA = cT := Option.some.inj (h1.symm.trans h2)
    subst h3
    exact kk q H1 hP1 hD1 hS1
theorem z_defU (n : Nat) (cA : ClassId) : vp_cell cA (n, .inl (fun j => zI ((z0N j : Nat) : Int))) = arrV cA n (fun _ => defaultValue .int) := rfl
theorem z_defZ (n : Nat) (cA : ClassId) : vp_cell cA (n, .inl (fun j => zB (z0B j))) = arrV cA n (fun _ => defaultValue .boolean) := rfl
theorem z_defJ (n : Nat) (cA : ClassId) : vp_cell cA (n, .inr (.inl z0J)) = arrV cA n (fun _ => defaultValue .long) := rfl
end ZR
def zA (wc : va_W) : Nat → Prop := fun q => q ∈ wc.map Prod.fst
def zrepl : va_W → List Nat → va_W → va_W
  | ws, i :: is, q :: w => zrepl (ws.set i q) is w
  | ws, _, _ => ws
theorem z_fst_set {ws : va_W} {i : Nat} {q : Nat × va_E} (h : (ws[i]?).map Prod.fst = some q.1) : (ws.set i q).map Prod.fst = ws.map Prod.fst := by
  rw [List.map_set]
  apply List.ext_getElem?
  intro k
  by_cases hk : i = k
  · subst hk
    cases hi : ws[i]? with
    | none => rw [hi] at h; cases h
    | some x =>
      rw [hi] at h
      have hl := (List.getElem?_eq_some_iff.mp hi).1
      rw [List.getElem?_set_self (by rw [List.length_map]; exact hl), List.getElem?_map, hi]
      exact h.symm
  · rw [List.getElem?_set_ne hk]
theorem z_fst_repl : ∀ (is : List Nat) (ws w1 : va_W), is.map (fun i => (ws[i]?).map Prod.fst) = w1.map (fun q => some q.1) → (zrepl ws is w1).map Prod.fst = ws.map Prod.fst
  | [], ws, w1, _ => by cases w1 <;> rfl
  | i :: is, ws, [], h => by cases h
  | i :: is, ws, q :: w, h => by
    simp only [List.map_cons, List.cons.injEq] at h
    have h1 := z_fst_set h.1
    have hi : ∀ k : Nat, ((ws.set i q)[k]?).map Prod.fst = (ws[k]?).map Prod.fst := fun k => by
      have := congrArg (fun L : List Nat => L[k]?) h1
      simpa only [List.getElem?_map] using this
    rw [zrepl, z_fst_repl is (ws.set i q) w (by simp only [hi]; exact h.2), h1]
theorem z_at_repl : ∀ (is : List Nat) (ws w1 : va_W) (k : Nat) (q : Nat × va_E), (zrepl ws is w1)[k]? = some q → q ∈ w1 ∨ (ws[k]? = some q ∧ (is.length ≤ w1.length → k ∉ is))
  | [], ws, w1, k, q, h => by
    right
    refine ⟨?_, fun _ => List.not_mem_nil⟩
    cases w1 <;> exact h
  | i :: is, ws, [], k, q, h => by
    right
    exact ⟨h, fun hl => absurd hl (by simp)⟩
  | i :: is, ws, r :: w, k, q, h => by
    rcases z_at_repl is (ws.set i r) w k q h with h1 | ⟨h1, h2⟩
    · exact Or.inl (List.mem_cons_of_mem _ h1)
    · by_cases hk : i = k
      · subst hk
        have hl : i < ws.length := by
          have := (List.getElem?_eq_some_iff.mp h1).1
          rwa [List.length_set] at this
        rw [List.getElem?_set_self hl] at h1
        cases h1
        exact Or.inl List.mem_cons_self
      · rw [List.getElem?_set_ne hk] at h1
        refine Or.inr ⟨h1, fun hl hm => ?_⟩
        rcases List.mem_cons.mp hm with e | e
        · exact hk e.symm
        · exact h2 (by simpa using hl) e
theorem z_D_congr {A : Nat → Prop} {ws ws' : va_W} (h : ws'.map Prod.fst = ws.map Prod.fst) (hD : va_D A ws) : va_D A ws' := by
  have key : ∀ (k : Nat) (q : Nat × va_E), ws'[k]? = some q → ∃ q0, ws[k]? = some q0 ∧ q0.1 = q.1 := by
    intro k q hk
    have h1 : (ws.map Prod.fst)[k]? = some q.1 := by rw [← h, List.getElem?_map, hk]; rfl
    rw [List.getElem?_map] at h1
    cases h0 : ws[k]? with
    | none => rw [h0] at h1; cases h1
    | some x => rw [h0] at h1; exact ⟨x, rfl, Option.some.inj h1⟩
  refine ⟨fun i j x y hi hj hxy => ?_, fun k q hk => ?_⟩
  · obtain ⟨x0, h1, h2⟩ := key i x hi
    obtain ⟨y0, h3, h4⟩ := key j y hj
    exact hD.1 i j x0 y0 h1 h3 (h2.trans (hxy.trans h4.symm))
  · obtain ⟨q0, h1, h2⟩ := key k q hk
    rw [← h2]
    exact hD.2 k q0 h1
theorem z_P_repl {D : va_G} {cl : List vw_C} {A : Nat → Prop} {ws wc w1 : va_W} {H H1 : Heap} (is : List Nat) (hP : va_P D cl ws H) (hD : va_D A ws) (hC : is.map (fun i => ws[i]?) = wc.map some) (hw : w1.map Prod.fst = wc.map Prod.fst) (hk : ∀ q : Nat, q < H.size → ¬ zA wc q → H1[q]? = H[q]?) (hP1 : va_P D cl w1 H1) : va_P D cl (zrepl ws is w1) H1 := by
  intro k q hq
  have hlen : is.length = w1.length := by
    have h1 := congrArg List.length hC
    have h2 := congrArg List.length hw
    simp only [List.length_map] at h1 h2
    omega
  rcases z_at_repl is ws w1 k q hq with h | ⟨h, hn⟩
  · obtain ⟨j, hj⟩ := List.getElem?_of_mem h
    exact hP1 j q hj
  · refine (hP k q h).kept (hk q.1 (hP k q h).lt ?_)
    intro hm
    obtain ⟨x, hx, e⟩ := List.mem_map.mp hm
    obtain ⟨j, hj⟩ := List.getElem?_of_mem hx
    have h1 : (is.map (fun i => ws[i]?))[j]? = some (some x) := by rw [hC, List.getElem?_map, hj]; rfl
    rw [List.getElem?_map] at h1
    cases hi : is[j]? with
    | none => rw [hi] at h1; cases h1
    | some i =>
      rw [hi] at h1
      have hi2 : ws[i]? = some x := Option.some.inj h1
      have := hD.1 k i q x h hi2 e.symm
      subst this
      exact hn (by omega) (List.mem_of_getElem? hi)
theorem z_fst_of {ws wc w1 : va_W} {is : List Nat} (hC : is.map (fun i => ws[i]?) = wc.map some) (hw : w1.map Prod.fst = wc.map Prod.fst) : is.map (fun i => (ws[i]?).map Prod.fst) = w1.map (fun q => some q.1) := by
  have h1 : is.map (fun i => (ws[i]?).map Prod.fst) = (is.map (fun i => ws[i]?)).map (fun o => o.map Prod.fst) := by rw [List.map_map]; rfl
  have h2 : w1.map (fun q => some q.1) = (w1.map Prod.fst).map some := by rw [List.map_map]; rfl
  have h3 : (wc.map some).map (fun o : Option (Nat × va_E) => o.map Prod.fst) = (wc.map Prod.fst).map some := by rw [List.map_map, List.map_map]; rfl
  rw [h1, hC, h2, hw, h3]
theorem z_freeA {A : Nat → Prop} {ws wc : va_W} {is : List Nat} (hD : va_D A ws) (hC : is.map (fun i => ws[i]?) = wc.map some) : ∀ q, zA wc q → A q := by
  intro q hm
  obtain ⟨x, hx, e⟩ := List.mem_map.mp hm
  obtain ⟨j, hj⟩ := List.getElem?_of_mem hx
  have h1 : (is.map (fun i => ws[i]?))[j]? = some (some x) := by rw [hC, List.getElem?_map, hj]; rfl
  rw [List.getElem?_map] at h1
  cases hi : is[j]? with
  | none => rw [hi] at h1; cases h1
  | some i =>
    rw [hi] at h1
    rw [← e]
    exact hD.2 i x (Option.some.inj h1)

section ZC
variable {p : Program} {l : Launch} {e : Env} {R : Room} {s : State} {m : MethodId} {args : Array Value} {below : List Frame} {meth : Method} {c : Code} {H : Heap} {locs : List Loc} {cells slots : Nat} {Q : State → Prop}
variable {pc : Nat} {ls : Array Slot} {rest st0 : List Value} {a : Array Value} {A0 : Nat → Prop} {H0 : Heap} {mc ms : Nat} {D : va_G} {cl : List vw_C} {ws wc : va_W}
theorem z_callv {S : Type} {post : S → Prop} {w1 : S → va_W} (is : List Nat) (hC : is.map (fun i => ws[i]?) = wc.map some) (hw : ∀ u, (w1 u).map Prod.fst = wc.map Prod.fst) (hP : va_P D cl ws H) (hD : va_D A0 ws) (hS : va_S A0 H0 H locs) (hr : va_Run p l e R s m args below meth c H locs cells slots 0 0 (F0 m pc ls st0) rest (va_Qv post (fun u t => va_P D cl (w1 u) t.heap) (zA wc) a) (zA wc)) (kk : ∀ (u : S) (H1 : Heap) (locs1 : List Loc), post u → va_P D cl (zrepl ws is (w1 u)) H1 → va_D A0 (zrepl ws is (w1 u)) → va_S A0 H0 H1 locs1 → W p l e R s m args below meth c H1 locs1 cells slots Q (F0 m (pc + 3) ls (rest))) : W p l e R s m args below meth c H locs cells slots Q (F0 m pc ls st0) :=
  va_callv hr hS (fun q _ h => z_freeA hD hC q h) (z_freeA hD hC) (fun u t H1 locs1 ht hvm hp hB hz hk hS1 => kk u H1 locs1 hp (z_P_repl is hP hD hC (hw u) hk (ht ▸ hB)) (z_D_congr (z_fst_repl is ws (w1 u) (z_fst_of hC (hw u))) hD) hS1)
theorem z_calli {S : Type} {post : Int32 → S → Prop} {w1 : S → va_W} (is : List Nat) (hC : is.map (fun i => ws[i]?) = wc.map some) (hw : ∀ u, (w1 u).map Prod.fst = wc.map Prod.fst) (hP : va_P D cl ws H) (hD : va_D A0 ws) (hS : va_S A0 H0 H locs) (hr : va_Run p l e R s m args below meth c H locs cells slots 0 0 (F0 m pc ls st0) rest (va_Qi post (fun u t => va_P D cl (w1 u) t.heap) (zA wc) a) (zA wc)) (kk : ∀ (r : Int32) (u : S) (H1 : Heap) (locs1 : List Loc), post r u → va_P D cl (zrepl ws is (w1 u)) H1 → va_D A0 (zrepl ws is (w1 u)) → va_S A0 H0 H1 locs1 → W p l e R s m args below meth c H1 locs1 cells slots Q (F0 m (pc + 3) ls (.int r :: rest))) : W p l e R s m args below meth c H locs cells slots Q (F0 m pc ls st0) :=
  va_calli hr hS (fun q _ h => z_freeA hD hC q h) (z_freeA hD hC) (fun r u t H1 locs1 ht hvm hp hB hz hk hS1 => kk r u H1 locs1 hp (z_P_repl is hP hD hC (hw u) hk (ht ▸ hB)) (z_D_congr (z_fst_repl is ws (w1 u) (z_fst_of hC (hw u))) hD) hS1)
theorem z_callq {S : Type} {post : Option Nat → S → Prop} {w1 : S → va_W} (is : List Nat) (hC : is.map (fun i => ws[i]?) = wc.map some) (hw : ∀ u, (w1 u).map Prod.fst = wc.map Prod.fst) (hP : va_P D cl ws H) (hD : va_D A0 ws) (hS : va_S A0 H0 H locs) (hr : va_Run p l e R s m args below meth c H locs cells slots 0 0 (F0 m pc ls st0) rest (va_Qq post (fun u t => va_P D cl (w1 u) t.heap) (zA wc) a) (zA wc)) (kk : ∀ (r : Option Nat) (u : S) (H1 : Heap) (locs1 : List Loc), post r u → va_P D cl (zrepl ws is (w1 u)) H1 → va_D A0 (zrepl ws is (w1 u)) → va_S A0 H0 H1 locs1 → W p l e R s m args below meth c H1 locs1 cells slots Q (F0 m (pc + 3) ls (va_rf r :: rest))) : W p l e R s m args below meth c H locs cells slots Q (F0 m pc ls st0) :=
  va_callq hr hS (fun q _ h => z_freeA hD hC q h) (z_freeA hD hC) (fun r u t H1 locs1 ht hvm hp hB hz hk hS1 => kk r u H1 locs1 hp (z_P_repl is hP hD hC (hw u) hk (ht ▸ hB)) (z_D_congr (z_fst_repl is ws (w1 u) (z_fst_of hC (hw u))) hD) hS1)
end ZC
