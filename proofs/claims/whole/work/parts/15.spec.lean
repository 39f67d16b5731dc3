/-! what is read and written, in Ints -/
def nonI : Int := 4000000000
abbrev oE (t : Nat) : va_E := ob 0 [.ref t]
abbrev oF (p : Nat) (fm of ln dg sc sg : Int) : va_E := ob 1 [.ref p, vI fm, vI of, vI ln, vI dg, vI sc, vI sg]
abbrev oP (sy : Nat) (ct dg sc sg ed bs be fi fl : Int) : va_E := ob 2 [.ref sy, vI ct, vI dg, vI sc, vI sg, vI ed, vI bs, vI be, vI fi, vI fl]
abbrev oS (b e : Nat) : va_E := ob 3 [.ref b, .ref e]
abbrev isDg (z : Int) : Prop := 0 ≤ z ∧ z ≤ 9
def rdD (B : Nat → Int) (o : Nat) : Nat → Option Int
  | 0 => some 0
  | k + 1 => match rdD B o k with
    | some m => if 0 ≤ B (o + k) - 48 ∧ B (o + k) - 48 ≤ 9 then some (10 * m + (B (o + k) - 48)) else none
    | none => none
theorem rdD_none {B : Nat → Int} {o k c : Nat} (h : rdD B o k = none) (hk : k ≤ c) : rdD B o c = none := by
  induction c with
  | zero => rw [show k = 0 by omega] at h; exact h
  | succ c ih =>
    by_cases hc : k = c + 1
    · rw [← hc]; exact h
    · show (match rdD B o c with | some m => _ | none => none) = none
      rw [ih (by omega)]
theorem rdD_lt {B : Nat → Int} {o : Nat} : ∀ {k : Nat} {m : Int}, rdD B o k = some m → 0 ≤ m ∧ m < 10 ^ k
  | 0, m, h => by
    have : (0 : Int) = m := Option.some.inj h
    subst this
    exact ⟨by decide, by decide⟩
  | k + 1, m, h => by
    unfold rdD at h
    split at h
    · rename_i q hq
      split at h
      · have := rdD_lt hq
        have h := Option.some.inj h
        rw [Int.pow_succ]
        omega
      · cases h
    · cases h
/-- digits, the last one first -/
def stD (B : Nat → Int) (o : Nat) : Nat → Int → (Nat → Int)
  | 0, _ => B
  | k + 1, m => stD (gU B (o + k) (48 + m.tmod 10)) o k (m.tdiv 10)
/-- packed halves, the last byte first -/
def stP (B : Nat → Int) (o : Nat) : Nat → Int → Int → (Nat → Int)
  | 0, _, _ => B
  | k + 1, m, w => stP (gU B (o + k) (16 * m.tmod 10 + w)) o k (m.tdiv 100) ((m.tdiv 10).tmod 10)
/-- bytes of a binary number, the last one first -/
def stB (B : Nat → Int) (o : Nat) : Nat → Int → (Nat → Int)
  | 0, _ => B
  | k + 1, v => stB (gU B (o + k) (v % 256)) o k (v / 256)
def rdB (B : Nat → Int) (o : Nat) : Nat → Int
  | 0 => 0
  | k + 1 => 256 * rdB B o k + B (o + k)
def hfB (B : Nat → Int) (o k : Nat) : Int := if k % 2 = 0 then B (o + k / 2) / 16 else B (o + k / 2) % 16
def rdP (B : Nat → Int) (o : Nat) : Nat → Option Int
  | 0 => some 0
  | k + 1 => match rdP B o k with
    | some m => if 0 ≤ hfB B o k ∧ hfB B o k ≤ 9 then some (10 * m + hfB B o k) else none
    | none => none
theorem rdP_none {B : Nat → Int} {o k c : Nat} (h : rdP B o k = none) (hk : k ≤ c) : rdP B o c = none := by
  induction c with
  | zero => rw [show k = 0 by omega] at h; exact h
  | succ c ih =>
    by_cases hc : k = c + 1
    · rw [← hc]; exact h
    · show (match rdP B o c with | some m => _ | none => none) = none
      rw [ih (by omega)]
theorem rdP_lt {B : Nat → Int} {o : Nat} : ∀ {k : Nat} {m : Int}, rdP B o k = some m → 0 ≤ m ∧ m < 10 ^ k
  | 0, m, h => by
    have : (0 : Int) = m := Option.some.inj h
    subst this
    exact ⟨by decide, by decide⟩
  | k + 1, m, h => by
    unfold rdP at h
    split at h
    · rename_i q hq
      split at h
      · have := rdP_lt hq
        have h := Option.some.inj h
        rw [Int.pow_succ]
        omega
      · cases h
    · cases h
def bOk (B : Nat → Int) : Prop := ∀ j, j < 64 → 0 ≤ B j ∧ B j ≤ 255
/-- the units of a field, none if it is not sound: zoned, separate, packed, binary -/
def uZ (B : Nat → Int) (o n : Nat) (sg : Int) : Option Int := match rdD B o (n - 1) with
  | some m => if sg = 1 ∧ isDg (B (o + n - 1) - 112) then some (-(10 * m + (B (o + n - 1) - 112))) else if isDg (B (o + n - 1) - 48) then some (10 * m + (B (o + n - 1) - 48)) else none
  | none => none
def uS (B : Nat → Int) (o n : Nat) : Option Int := match rdD B o n with
  | some m => if B (o + n) = 43 then some m else if B (o + n) = 45 then some (-m) else none
  | none => none
def uP (B : Nat → Int) (o n : Nat) (sg : Int) : Option Int := match rdP B o (2 * (n / 2 + 1) - 1) with
  | some m => if hfB B o (2 * (n / 2 + 1) - 1) < (if sg = 1 then 10 else 15) ∨ ¬ m < 10 ^ n then none else some (if hfB B o (2 * (n / 2 + 1) - 1) = 13 ∨ hfB B o (2 * (n / 2 + 1) - 1) = 11 then -m else m)
  | none => none
def wB (n : Nat) : Nat := if n ≤ 4 then 2 else 4
def vB (B : Nat → Int) (o n : Nat) (sg : Int) : Int := if sg = 1 ∧ 128 ≤ B o then rdB B o (wB n) - 256 ^ (wB n) else rdB B o (wB n)
def uB (B : Nat → Int) (o n : Nat) (sg : Int) : Option Int := if (vB B o n sg).natAbs < 10 ^ n then some (vB B o n sg) else none
theorem lI_and255 {z : Int} (hz : lR z) : lI z &&& lI 255 = lI (z % 256) := by
  have h1 : (lI z).toInt = z := lI_toInt hz.1 hz.2
  have h2 : (lI z).toInt = if 2 * (lI z).toBitVec.toNat < 18446744073709551616 then ((lI z).toBitVec.toNat : Int) else ((lI z).toBitVec.toNat : Int) - 18446744073709551616 := BitVec.toInt_eq_toNat_cond _
  have h3 : (lI z &&& lI 255).toBitVec.toNat = (lI z).toBitVec.toNat % 256 := by
    show ((lI z).toBitVec &&& (lI 255).toBitVec).toNat = _
    rw [BitVec.toNat_and]
    exact Nat.and_two_pow_sub_one_eq_mod _ 8
  have h4 : (lI z &&& lI 255).toInt = if 2 * (lI z &&& lI 255).toBitVec.toNat < 18446744073709551616 then ((lI z &&& lI 255).toBitVec.toNat : Int) else ((lI z &&& lI 255).toBitVec.toNat : Int) - 18446744073709551616 := BitVec.toInt_eq_toNat_cond _
  rw [h3] at h4
  have hlt := (lI z).toBitVec.isLt
  apply Int64.toInt_inj.mp
  rw [lI_toInt (by omega) (by omega), h4, if_pos (by omega)]
  rw [h1] at h2
  split at h2 <;> omega
theorem lI_shr8 {z : Int} (hz : lR z) : lI z >>> ((iI 8).toInt64 &&& 63) = lI (z / 256) := by
  have h1 : (lI z).toInt = z := lI_toInt hz.1 hz.2
  apply Int64.toInt_inj.mp
  have h2 : (lI z >>> ((iI 8).toInt64 &&& 63)).toInt = (lI z).toInt >>> 8 := by
    show ((lI z).toBitVec.sshiftRight (((iI 8).toInt64 &&& 63).toBitVec.smod 64).toNat).toInt = _
    rw [show (((iI 8).toInt64 &&& 63).toBitVec.smod 64).toNat = 8 by decide, BitVec.toInt_sshiftRight]
    rfl
  unfold lR at hz
  rw [h2, h1, Int.shiftRight_eq_div_pow, lI_toInt (by omega) (by omega)]
  rfl
