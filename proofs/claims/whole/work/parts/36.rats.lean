/-! the class's results are the model's -/
theorem seI_none {dg : Nat} (hdg : dg ≤ 9) : ¬ seI.natAbs < 10 ^ dg := by
  have := Nat.pow_le_pow_right (n := 10) (by decide) hdg
  have e : seI.natAbs = 9000000000000000000 := rfl
  omega
def cut' (o : Option Int) (dg : Nat) : Option Int := match o with
  | some y => if y.natAbs < 10 ^ dg then some y else none
  | none => none
theorem sRes_cut (p q : Int) (t dg : Nat) (mode : Int) : sRes p q t dg mode = cut' (rnd mode (p * 10 ^ t) q) dg := rfl
theorem getD_cut (o : Option Int) {dg : Nat} (hdg : dg ≤ 9) : (if (o.getD seI).natAbs < 10 ^ dg then some (o.getD seI) else none) = cut' o dg := by
  cases o with
  | none => show (if seI.natAbs < 10 ^ dg then some seI else none) = none; rw [if_neg (seI_none hdg)]
  | some y => rfl
theorem p10a (a b : Nat) : (10 : Int) ^ (a + b) = 10 ^ a * 10 ^ b := Int.pow_add 10 a b
theorem cRes1 {z : Int} {sc t dg : Nat} {mode : Int} (hdg : dg ≤ 9) : cRes z sc 1 t dg mode = sRes z (10 ^ sc) t dg mode := by
  have hp := pow10_pos sc
  unfold cRes dRes
  rw [if_neg (show ¬ (1 : Int) = 0 by decide), sRes_cut]
  by_cases h1 : (t : Int) - sc < 0
  · rw [if_pos h1, getD_cut _ hdg]
    obtain ⟨m, hm⟩ : ∃ m, (-((t : Int) - sc)).toNat = m := ⟨_, rfl⟩
    have hp2 := pow10_pos m
    rw [hm, Int.one_mul]
    unfold rndS
    rw [if_neg (by omega), rnd_rat hp2 hp (p2 := z * 10 ^ t)]
    rw [show sc = t + m by omega, p10a, Int.mul_assoc]
  · rw [if_neg h1]
    obtain ⟨m, hm⟩ : ∃ m, ((t : Int) - sc).toNat = m := ⟨_, rfl⟩
    have hp2 := pow10_pos m
    have hr : rnd mode (z * 10 ^ t) (10 ^ sc) = rnd mode (z * 10 ^ m) 1 := by
      refine rnd_rat hp (by decide) ?_
      rw [show t = m + sc by omega, p10a, Int.mul_one, Int.mul_assoc]
    by_cases h2 : z.natAbs < 1000000000
    · rw [if_pos h2, getD_cut _ hdg, hm]
      unfold rndS
      rw [if_neg (by decide), hr]
    · rw [if_neg h2, if_neg (seI_none hdg), hr]
      cases hy : rnd mode (z * 10 ^ m) 1 with
      | none => rfl
      | some y =>
        have hg := rnd_ge hy (by decide)
        rw [Int.tdiv_one] at hg
        have hpd := Nat.pow_le_pow_right (n := 10) (by decide) hdg
        have hml : z.natAbs * 1 ≤ (z * 10 ^ m).natAbs := by
          rw [Int.natAbs_mul]
          exact Nat.mul_le_mul_left _ (by omega)
        show none = if y.natAbs < 10 ^ dg then some y else none
        rw [if_neg (by omega)]
/-- a quotient of two fields' units -/
def qO (x y : Int) (sa sb t dg : Nat) (mode : Int) : Option Int := if y = 0 then none else if y < 0 then sRes (-(x * 10 ^ sb)) (-(y * 10 ^ sa)) t dg mode else sRes (x * 10 ^ sb) (y * 10 ^ sa) t dg mode
theorem rndS_rat {mode p1 q1 p2 q2 : Int} (h1 : ¬ q1 = 0) (h2 : 0 < q2) (h : p1 * q2 = p2 * q1) : rndS mode p1 q1 = rnd mode p2 q2 := by
  unfold rndS
  by_cases hq : q1 < 0
  · rw [if_pos hq]
    refine rnd_rat (by omega) h2 ?_
    rw [Int.neg_mul, h, Int.mul_neg]
  · rw [if_neg hq]
    exact rnd_rat (by omega) h2 h
theorem mul_sgn {a b : Int} (hb : 0 < b) : (a < 0 → a * b < 0) ∧ (0 < a → 0 < a * b) := ⟨fun h => Int.mul_neg_of_neg_of_pos h hb, fun h => Int.mul_pos h hb⟩
theorem cResQ {x y : Int} {sa sb t dg : Nat} {mode : Int} (hdg : dg ≤ 9) (hx : x.natAbs < 1000000000) : cRes x ((sa : Int) - sb) y t dg mode = qO x y sa sb t dg mode := by
  have hpa := pow10_pos sa
  unfold cRes dRes qO
  by_cases h0 : y = 0
  · rw [if_pos h0, if_pos h0, if_neg (seI_none hdg)]
  · rw [if_neg h0, if_neg h0]
    have key : ∀ p q : Int, ¬ q = 0 → p * (y * 10 ^ sa) = x * 10 ^ sb * 10 ^ t * q → cut' (rndS mode p q) dg = if y < 0 then sRes (-(x * 10 ^ sb)) (-(y * 10 ^ sa)) t dg mode else sRes (x * 10 ^ sb) (y * 10 ^ sa) t dg mode := by
      intro p q hq he
      have hs := mul_sgn (a := y) hpa
      by_cases hy : y < 0
      · rw [if_pos hy, sRes_cut, rndS_rat hq (q2 := -(y * 10 ^ sa)) (p2 := -(x * 10 ^ sb) * 10 ^ t)]
        · have := hs.1 hy; omega
        · rw [Int.mul_neg, he, Int.neg_mul, Int.neg_mul]
      · rw [if_neg hy, sRes_cut, rndS_rat hq (q2 := y * 10 ^ sa) (p2 := x * 10 ^ sb * 10 ^ t)]
        · exact hs.2 (by omega)
        · exact he
    by_cases h1 : (t : Int) - ((sa : Int) - sb) < 0
    · rw [if_pos h1, getD_cut _ hdg]
      obtain ⟨m, hm⟩ : ∃ m, (-((t : Int) - ((sa : Int) - sb))).toNat = m := ⟨_, rfl⟩
      have hp2 := pow10_pos m
      rw [hm]
      refine key _ _ (fun q => ?_) ?_
      · rcases Int.mul_eq_zero.mp q with q | q <;> omega
      · rw [show sa = sb + t + m by omega, p10a, p10a]
        simp only [Int.mul_assoc, Int.mul_comm, Int.mul_left_comm]
    · rw [if_neg h1, if_pos hx, getD_cut _ hdg]
      obtain ⟨m, hm⟩ : ∃ m, ((t : Int) - ((sa : Int) - sb)).toNat = m := ⟨_, rfl⟩
      rw [hm]
      refine key _ _ h0 ?_
      have e : (10 : Int) ^ m * 10 ^ sa = 10 ^ sb * 10 ^ t := by
        rw [← p10a, ← p10a, show m + sa = sb + t by omega]
      rw [show x * 10 ^ m * (y * 10 ^ sa) = x * (10 ^ m * 10 ^ sa) * y by simp only [Int.mul_assoc, Int.mul_comm, Int.mul_left_comm], e]
      simp only [Int.mul_assoc, Int.mul_comm, Int.mul_left_comm]
theorem sRes4 {x y : Int} {sa sb t dg : Nat} {mode : Int} (ha : sa ≤ 4) (hb : sb ≤ 4) : sRes (x * 10 ^ (4 - sa) + y * 10 ^ (4 - sb)) (10 ^ 4) t dg mode = sRes (x * 10 ^ sb + y * 10 ^ sa) (10 ^ sa * 10 ^ sb) t dg mode := by
  refine sRes_rat (pow10_pos 4) (Int.mul_pos (pow10_pos sa) (pow10_pos sb)) ?_
  have e1 : (10 : Int) ^ (4 - sa) * 10 ^ sa = 10 ^ 4 := by rw [← p10a, show 4 - sa + sa = 4 by omega]
  have e2 : (10 : Int) ^ (4 - sb) * 10 ^ sb = 10 ^ 4 := by rw [← p10a, show 4 - sb + sb = 4 by omega]
  rw [Int.add_mul, Int.add_mul]
  rw [show x * 10 ^ (4 - sa) * (10 ^ sa * 10 ^ sb) = x * (10 ^ (4 - sa) * 10 ^ sa) * 10 ^ sb by simp only [Int.mul_assoc], show y * 10 ^ (4 - sb) * (10 ^ sa * 10 ^ sb) = y * (10 ^ (4 - sb) * 10 ^ sb) * 10 ^ sa by simp only [Int.mul_assoc, Int.mul_comm, Int.mul_left_comm], e1, e2]
  generalize (10 : Int) ^ 4 = w
  simp only [Int.mul_assoc, Int.mul_comm, Int.mul_left_comm]
/-- the quotient cut towards zero -/
theorem rnd0 (p q : Int) : rnd 0 p q = some (p.tdiv q) := by
  unfold rnd
  by_cases h : p.tmod q = 0
  · rw [if_pos h]
  · rw [if_neg h, if_neg (by decide), if_neg (by unfold rGo; simp)]
theorem rndS0 (p q : Int) : rndS 0 p q = some (p.tdiv q) := by
  unfold rndS
  split
  · rw [rnd0, Int.neg_tdiv, Int.tdiv_neg, Int.neg_neg]
  · rw [rnd0]
theorem dRes0 {x y : Int} {sa dc : Nat} (hy : ¬ y = 0) (hx : x.natAbs < 1000000000) : dRes x ((dc : Int) - sa) y 0 = (x * 10 ^ dc).tdiv (y * 10 ^ sa) := by
  unfold dRes
  rw [if_neg hy]
  by_cases h1 : (dc : Int) - sa < 0
  · rw [if_pos h1, rndS0]
    obtain ⟨m, hm⟩ : ∃ m, (-((dc : Int) - sa)).toNat = m := ⟨_, rfl⟩
    show x.tdiv _ = _
    rw [hm, show sa = m + dc by omega, p10a, ← Int.mul_assoc, Int.mul_tdiv_mul_of_pos_left _ _ (pow10_pos dc)]
  · rw [if_neg h1, if_pos hx, rndS0]
    obtain ⟨m, hm⟩ : ∃ m, ((dc : Int) - sa).toNat = m := ⟨_, rfl⟩
    show (x * 10 ^ _).tdiv y = _
    rw [hm, show dc = m + sa by omega, p10a, ← Int.mul_assoc, Int.mul_tdiv_mul_of_pos_left _ _ (pow10_pos sa)]
