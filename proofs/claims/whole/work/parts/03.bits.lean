theorem ts_bit {w : Int64} {s : UInt64} {j : Nat} (hj : j < 64) (hs : s.toNat = j) : ((w.toUInt64 >>> s).toInt64 &&& 1) = 0 ↔ w.toBitVec.getLsbD j = false := by
  have e : (w.toUInt64 >>> s).toInt64.toBitVec = w.toBitVec >>> j := by
    apply BitVec.eq_of_toNat_eq
    show (w.toUInt64 >>> s).toNat = _
    rw [UInt64.toNat_shiftRight, hs, Nat.mod_eq_of_lt hj, BitVec.toNat_ushiftRight]
    rfl
  rw [← Int64.toBitVec_inj, Int64.toBitVec_and, e]
  show w.toBitVec >>> j &&& 1#64 = 0#64 ↔ _
  constructor
  · intro h
    have t := congrArg (fun x => x.getLsbD 0) h
    simpa using t
  · intro h
    apply BitVec.eq_of_getLsbD_eq
    intro i hi
    cases i with
    | zero => simp [h]
    | succ i => simp
theorem z_and1 (x : Int64) : x &&& 1 = 0 ∨ x &&& 1 = 1 := by
  have h : (x &&& 1).toBitVec = BitVec.ofNat 64 (x.toBitVec.toNat % 2) := by
    rw [Int64.toBitVec_and]
    apply BitVec.eq_of_toNat_eq
    rw [BitVec.toNat_and]
    show x.toBitVec.toNat &&& 1 = _
    rw [Nat.and_one_is_mod, BitVec.toNat_ofNat]
    omega
  rcases Nat.mod_two_eq_zero_or_one x.toBitVec.toNat with q | q <;> rw [q] at h
  · exact Or.inl (Int64.toBitVec_inj.mp h)
  · exact Or.inr (Int64.toBitVec_inj.mp h)
/-- the bit of occurrence o in set i of the words f -/
def zbt (f : Nat → Int64) (i o : Nat) : Bool := (f (4 * i + o / 64)).toBitVec.getLsbD (o % 64)
def zclr (f : Nat → Int64) (i : Nat) : Nat → Int64 := fun j => if 4 * i ≤ j ∧ j < 4 * i + 4 then 0 else f j
def zadd (f : Nat → Int64) (i o : Nat) : Nat → Int64 := vp_updL f (4 * i + o / 64) (f (4 * i + o / 64) ||| ((1 : Int64) <<< ((zI (o : Int)).toInt64 &&& 63)))
def zor (f : Nat → Int64) (i : Nat) (g : Nat → Int64) (k : Nat) : Nat → Int64 := fun j => if 4 * i ≤ j ∧ j < 4 * i + 4 then f j ||| g (4 * k + (j - 4 * i)) else f j
theorem z_sh256 : ∀ o, o < 256 → ((1 : Int64) <<< ((nI o).toInt64 &&& 63)).toBitVec = BitVec.twoPow 64 (o % 64) := by decide +kernel
theorem z_cu256 : ∀ o, o < 256 → ((nI o).toInt64.toUInt64 &&& Int64.toUInt64 63).toNat = o % 64 := by decide +kernel
theorem z_bit (w : Int64) (o : Nat) (ho : o < 256) : lg_cmp ((w.toUInt64 >>> ((zI (o : Int)).toInt64.toUInt64 &&& Int64.toUInt64 63)).toInt64 &&& 1) 0 = zB (w.toBitVec.getLsbD (o % 64)) := by
  rw [zI_nat]
  have h := ts_bit (w := w) (j := o % 64) (Nat.mod_lt _ (by decide)) (z_cu256 o ho)
  rcases z_and1 ((w.toUInt64 >>> ((nI o).toInt64.toUInt64 &&& Int64.toUInt64 63)).toInt64) with q | q
  · rw [q, h.mp q]; decide
  · have h1 : w.toBitVec.getLsbD (o % 64) = true := by
      cases hb : w.toBitVec.getLsbD (o % 64) with
      | true => rfl
      | false => rw [h.mpr hb] at q; exact absurd q (by decide)
    rw [q, h1]; decide
theorem zbt_clr (f : Nat → Int64) (i i2 o : Nat) (ho : o < 256) : zbt (zclr f i) i2 o = (if i2 = i then false else zbt f i2 o) := by
  unfold zbt zclr
  by_cases h : i2 = i
  · subst h
    rw [if_pos (by omega), if_pos rfl]
    show (0#64).getLsbD _ = false
    simp
  · rw [if_neg (by omega), if_neg h]
theorem zbt_or (f g : Nat → Int64) (i k i2 o : Nat) (ho : o < 256) : zbt (zor f i g k) i2 o = (if i2 = i then (zbt f i o || zbt g k o) else zbt f i2 o) := by
  unfold zbt zor
  by_cases h : i2 = i
  · subst h
    rw [if_pos (by omega), if_pos rfl, Int64.toBitVec_or, BitVec.getLsbD_or, show 4 * k + (4 * i2 + o / 64 - 4 * i2) = 4 * k + o / 64 by omega]
  · rw [if_neg (by omega), if_neg h]
theorem zbt_add (f : Nat → Int64) (i o i2 o2 : Nat) (ho : o < 256) (ho2 : o2 < 256) : zbt (zadd f i o) i2 o2 = ((decide (i2 = i) && decide (o2 = o)) || zbt f i2 o2) := by
  unfold zbt zadd vp_updL
  by_cases h : 4 * i2 + o2 / 64 = 4 * i + o / 64
  · have hi : i2 = i := by omega
    rw [if_pos h, Int64.toBitVec_or, BitVec.getLsbD_or, zI_nat, z_sh256 o ho, BitVec.getLsbD_twoPow, ← h]
    have hq : (o % 64 = o2 % 64) ↔ o2 = o := by omega
    by_cases hoo : o2 = o
    · have := hq.mpr hoo
      simp [hi, hoo, Nat.mod_lt]
    · have : ¬ (o % 64 = o2 % 64) := fun q => hoo (hq.mp q)
      simp [hi, hoo, this]
  · rw [if_neg h]
    have : ¬ (i2 = i ∧ o2 = o) := fun q => h (by rw [q.1, q.2])
    by_cases h1 : i2 = i
    · have h2 : ¬ o2 = o := fun q => this ⟨h1, q⟩
      simp [h2]
    · simp [h1]
theorem zbt_zero (i o : Nat) : zbt (fun _ => 0) i o = false := by
  unfold zbt
  show (0#64).getLsbD _ = false
  simp
theorem z_div4 (n : Nat) (h : n < 100000) : zI ((4 * n : Nat) : Int) / zI 4 = zI (n : Int) := by
  rw [zI_nat, zI_nat, show zI 4 = nI 4 by decide, pk_div (by omega) (by omega) (by omega), Nat.mul_div_cancel_left n (by decide)]
theorem z_shr6 (o : Nat) (h : o < 100000) : zI (o : Int) >>> (zI 6 &&& 31) = zI ((o / 64 : Nat) : Int) := by
  rw [zI_nat, zI_nat, pk_shrN (by omega) _ 6 (by decide)]
theorem z_clr_step (f : Nat → Int64) (i w : Nat) : vp_updL (fun j => if 4 * i ≤ j ∧ j < 4 * i + w then 0 else f j) (4 * i + w) 0 = (fun j => if 4 * i ≤ j ∧ j < 4 * i + (w + 1) then 0 else f j) := by
  funext j
  unfold vp_updL
  by_cases h : j = 4 * i + w
  · rw [if_pos h, if_pos (by omega)]
  · rw [if_neg h]
    dsimp only
    by_cases h2 : 4 * i ≤ j ∧ j < 4 * i + w
    · rw [if_pos h2, if_pos (by omega)]
    · rw [if_neg h2, if_neg (by omega)]
theorem z_or_step (f g : Nat → Int64) (i k w : Nat) : vp_updL (fun j => if 4 * i ≤ j ∧ j < 4 * i + w then f j ||| g (4 * k + (j - 4 * i)) else f j) (4 * i + w) (f (4 * i + w) ||| g (4 * k + w)) = (fun j => if 4 * i ≤ j ∧ j < 4 * i + (w + 1) then f j ||| g (4 * k + (j - 4 * i)) else f j) := by
  funext j
  unfold vp_updL
  by_cases h : j = 4 * i + w
  · rw [if_pos h, if_pos (by omega), h, show 4 * i + w - 4 * i = w by omega]
  · rw [if_neg h]
    dsimp only
    by_cases h2 : 4 * i ≤ j ∧ j < 4 * i + w
    · rw [if_pos h2, if_pos (by omega)]
    · rw [if_neg h2, if_neg (by omega)]
