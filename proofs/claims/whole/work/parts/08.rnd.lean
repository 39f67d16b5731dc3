/-! rounding, as both sides do it -/
def rGo (mode : Int) (neg : Bool) (tw q : Int) (odd : Bool) : Bool :=
  if mode = 1 then decide (q ≤ tw) else if mode = 2 then decide (q < tw) || (decide (tw = q) && odd) else if mode = 3 then decide (q < tw) else if mode = 4 then true else if mode = 5 then !neg else if mode = 6 then neg else false
/-- p / q in whole numbers, q above 0; none where mode 7 is asked and p / q is not whole -/
def rnd (mode p q : Int) : Option Int :=
  if p.tmod q = 0 then some (p.tdiv q) else if mode = 7 then none else
  if rGo mode (decide (p < 0)) (2 * ((p.tmod q).natAbs : Int)) q (decide (¬ (p.tdiv q).tmod 2 = 0)) = true then some (if p < 0 then p.tdiv q - 1 else p.tdiv q + 1) else some (p.tdiv q)
theorem rnd_scale (mode p q c : Int) (hc : 0 < c) : rnd mode (p * c) (q * c) = rnd mode p q := by
  have e1 : (p * c).tdiv (q * c) = p.tdiv q := Int.mul_tdiv_mul_of_pos_left p q hc
  have e2 : (p * c).tmod (q * c) = c * p.tmod q := by
    rw [Int.mul_comm p, Int.mul_comm q]
    exact Int.mul_tmod_mul_of_pos p q hc
  have e3 : ((c * p.tmod q).natAbs : Int) = c * ((p.tmod q).natAbs : Int) := by
    rw [Int.natAbs_mul, Int.natCast_mul, Int.natAbs_of_nonneg (Int.le_of_lt hc)]
  have h0 : c * p.tmod q = 0 ↔ p.tmod q = 0 := by
    constructor
    · intro h
      rcases Int.mul_eq_zero.mp h with h | h
      · omega
      · exact h
    · intro h; rw [h, Int.mul_zero]
  have hneg : p * c < 0 ↔ p < 0 := by
    have := Int.mul_lt_mul_right (b := p) (c := 0) hc
    rwa [Int.zero_mul] at this
  have hle : q * c ≤ 2 * (c * ((p.tmod q).natAbs : Int)) ↔ q ≤ 2 * ((p.tmod q).natAbs : Int) := by
    rw [show 2 * (c * ((p.tmod q).natAbs : Int)) = (2 * ((p.tmod q).natAbs : Int)) * c by rw [Int.mul_comm c, Int.mul_assoc]]
    exact Int.mul_le_mul_right hc
  have hlt : q * c < 2 * (c * ((p.tmod q).natAbs : Int)) ↔ q < 2 * ((p.tmod q).natAbs : Int) := by
    rw [show 2 * (c * ((p.tmod q).natAbs : Int)) = (2 * ((p.tmod q).natAbs : Int)) * c by rw [Int.mul_comm c, Int.mul_assoc]]
    exact Int.mul_lt_mul_right hc
  have heq : 2 * (c * ((p.tmod q).natAbs : Int)) = q * c ↔ 2 * ((p.tmod q).natAbs : Int) = q := by
    rw [show 2 * (c * ((p.tmod q).natAbs : Int)) = (2 * ((p.tmod q).natAbs : Int)) * c by rw [Int.mul_comm c, Int.mul_assoc]]
    exact Int.mul_eq_mul_right_iff (by omega)
  unfold rnd rGo
  simp only [e1, e2, e3, h0, hneg, hle, hlt, heq]
theorem rnd_rat {mode p1 q1 p2 q2 : Int} (h1 : 0 < q1) (h2 : 0 < q2) (h : p1 * q2 = p2 * q1) : rnd mode p1 q1 = rnd mode p2 q2 := by
  rw [← rnd_scale mode p1 q1 q2 h2, h, Int.mul_comm q1 q2, rnd_scale mode p2 q2 q1 h1]
theorem tdm_nn {p q t : Int} (hp : 0 ≤ p) (hq : 0 < q) (ht : 0 ≤ t) : (p * t).tdiv q = p.tdiv q * t + (p.tmod q * t).tdiv q ∧ (p * t).tmod q = (p.tmod q * t).tmod q := by
  have hm : 0 ≤ p % q := Int.emod_nonneg p (by omega)
  have e : p * t = p % q * t + p / q * t * q := by
    conv => lhs; rw [← Int.emod_add_mul_ediv p q]
    rw [Int.add_mul, Int.mul_comm q, Int.mul_assoc, Int.mul_assoc, Int.mul_comm q t]
  rw [Int.tmod_eq_emod_of_nonneg hp, Int.tdiv_eq_ediv_of_nonneg hp, Int.tdiv_eq_ediv_of_nonneg (Int.mul_nonneg hp ht), Int.tdiv_eq_ediv_of_nonneg (Int.mul_nonneg hm ht), Int.tmod_eq_emod_of_nonneg (Int.mul_nonneg hp ht), Int.tmod_eq_emod_of_nonneg (Int.mul_nonneg hm ht), e, Int.add_mul_ediv_right _ _ (by omega), Int.add_mul_emod_self_right]
  exact ⟨Int.add_comm _ _, rfl⟩
theorem tdm {p q t : Int} (hq : 0 < q) (ht : 0 ≤ t) : (p * t).tdiv q = p.tdiv q * t + (p.tmod q * t).tdiv q ∧ (p * t).tmod q = (p.tmod q * t).tmod q := by
  by_cases hp : 0 ≤ p
  · exact tdm_nn hp hq ht
  · obtain ⟨h1, h2⟩ := tdm_nn (p := -p) (q := q) (t := t) (by omega) hq ht
    simp only [Int.neg_mul, Int.neg_tdiv, Int.neg_tmod] at h1 h2
    constructor <;> omega
theorem tmod_abs {p q : Int} (hq : 0 < q) : ((p.tmod q).natAbs : Int) < q := by
  rw [Int.natAbs_tmod]
  have := Nat.mod_lt p.natAbs (y := q.natAbs) (by omega)
  omega
theorem tmod_sgn {p q : Int} : (0 ≤ p → 0 ≤ p.tmod q) ∧ (p ≤ 0 → p.tmod q ≤ 0) := by
  constructor
  · intro h; exact Int.tmod_nonneg q h
  · intro h
    have := Int.tmod_nonneg (a := -p) q (by omega)
    rw [Int.neg_tmod] at this
    omega
/-- rounding never comes nearer to zero than cutting does -/
theorem rnd_ge {mode p q y : Int} (h : rnd mode p q = some y) (hq : 0 < q) : (p.tdiv q).natAbs ≤ y.natAbs := by
  unfold rnd at h
  split at h
  · cases h; exact Nat.le_refl _
  · split at h
    · cases h
    · split at h
      · have h := Option.some.inj h
        by_cases hp : p < 0
        · rw [if_pos hp] at h
          have : p.tdiv q ≤ 0 := by
            have := Int.tdiv_nonneg (a := -p) (b := q) (by omega) (by omega)
            rw [Int.neg_tdiv] at this
            omega
          omega
        · rw [if_neg hp] at h
          have := Int.tdiv_nonneg (a := p) (b := q) (by omega) (by omega)
          omega
      · cases h; exact Nat.le_refl _
/-- what is stored of p / q in a field with t decimals and dg digits; none at a size error -/
def sRes (p q : Int) (t dg : Nat) (mode : Int) : Option Int := match rnd mode (p * 10 ^ t) q with
  | some y => if y.natAbs < 10 ^ dg then some y else none
  | none => none
theorem sRes_rat {p1 q1 p2 q2 : Int} {t dg : Nat} {mode : Int} (h1 : 0 < q1) (h2 : 0 < q2) (h : p1 * q2 = p2 * q1) : sRes p1 q1 t dg mode = sRes p2 q2 t dg mode := by
  unfold sRes
  rw [rnd_rat (p1 := p1 * 10 ^ t) (p2 := p2 * 10 ^ t) h1 h2 (by rw [Int.mul_assoc, Int.mul_comm (10 ^ t) q2, ← Int.mul_assoc, h, Int.mul_assoc, Int.mul_comm q1, ← Int.mul_assoc])]
