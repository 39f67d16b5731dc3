def sC1 (y r q mode : Int) : Prop := (mode = 1 ∧ q ≤ 2 * (r.natAbs : Int)) ∨ (mode = 2 ∧ (q < 2 * (r.natAbs : Int) ∨ (2 * (r.natAbs : Int) = q ∧ ¬ y.tmod 2 = 0))) ∨ (mode = 3 ∧ q < 2 * (r.natAbs : Int))
def sC2 (r mode : Int) : Prop := mode = 4 ∨ (mode = 5 ∧ 0 < r) ∨ (mode = 6 ∧ r < 0)
noncomputable def stp (y r q mode : Int) : Int := by
  classical
  exact if sC1 y r q mode ∨ sC2 r mode then (if r < 0 then -1 else if 0 < r then 1 else 0) else 0
theorem stp_pos {y r q mode : Int} (h : sC1 y r q mode ∨ sC2 r mode) : stp y r q mode = (if r < 0 then -1 else if 0 < r then 1 else 0) := by
  unfold stp; exact if_pos h
theorem stp_neg {y r q mode : Int} (h : ¬ (sC1 y r q mode ∨ sC2 r mode)) : stp y r q mode = 0 := by
  unfold stp; exact if_neg h
theorem stp_0 {y q mode : Int} : stp y 0 q mode = 0 := by
  by_cases h : sC1 y 0 q mode ∨ sC2 0 mode
  · rw [stp_pos h]; decide
  · exact stp_neg h
theorem rGo_iff {mode tw q : Int} {neg od : Bool} : rGo mode neg tw q od = true ↔ ((mode = 1 ∧ q ≤ tw) ∨ (mode = 2 ∧ (q < tw ∨ (tw = q ∧ od = true))) ∨ (mode = 3 ∧ q < tw) ∨ mode = 4 ∨ (mode = 5 ∧ neg = false) ∨ (mode = 6 ∧ neg = true)) := by
  unfold rGo
  by_cases h1 : mode = 1
  · subst h1; simp
  rw [if_neg h1]
  by_cases h2 : mode = 2
  · subst h2; simp
  rw [if_neg h2]
  by_cases h3 : mode = 3
  · subst h3; simp
  rw [if_neg h3]
  by_cases h4 : mode = 4
  · subst h4; simp
  rw [if_neg h4]
  by_cases h5 : mode = 5
  · subst h5; simp
  rw [if_neg h5]
  by_cases h6 : mode = 6
  · subst h6; simp
  rw [if_neg h6]
  simp [h1, h2, h3, h4, h5, h6]
theorem rnd_stp {mode p q : Int} (hm : ¬ mode = 7) : rnd mode p q = some (p.tdiv q + stp (p.tdiv q) (p.tmod q) q mode) := by
  have hs := tmod_sgn (p := p) (q := q)
  generalize hr : p.tmod q = r at hs
  generalize hy : p.tdiv q = y
  unfold rnd
  rw [hr, hy]
  by_cases h0 : r = 0
  · subst h0
    rw [if_pos rfl, stp_0, Int.add_zero]
  · rw [if_neg h0, if_neg hm]
    have h1 : ¬ p < 0 ↔ 0 < r := by constructor <;> intro <;> omega
    have h2 : p < 0 ↔ r < 0 := by constructor <;> intro <;> omega
    have hpr : (if p < 0 then y - 1 else y + 1) = y + (if r < 0 then -1 else if 0 < r then 1 else 0) := by
      by_cases hp : p < 0
      · rw [if_pos hp, if_pos (h2.mp hp)]; omega
      · rw [if_neg hp, if_neg (fun z => hp (h2.mpr z)), if_pos (h1.mp hp)]
    have hg : rGo mode (decide (p < 0)) (2 * (r.natAbs : Int)) q (decide (¬ y.tmod 2 = 0)) = true ↔ (sC1 y r q mode ∨ sC2 r mode) := by
      rw [rGo_iff, decide_eq_true_iff, decide_eq_false_iff_not, decide_eq_true_iff, h1, h2]
      unfold sC1 sC2
      constructor
      · rintro (a | a | a | a)
        · exact Or.inl (Or.inl a)
        · exact Or.inl (Or.inr (Or.inl a))
        · exact Or.inl (Or.inr (Or.inr a))
        · exact Or.inr a
      · rintro ((a | a | a) | a)
        · exact Or.inl a
        · exact Or.inr (Or.inl a)
        · exact Or.inr (Or.inr (Or.inl a))
        · exact Or.inr (Or.inr (Or.inr a))
    by_cases hgo : rGo mode (decide (p < 0)) (2 * (r.natAbs : Int)) q (decide (¬ y.tmod 2 = 0)) = true
    · rw [if_pos hgo, stp_pos (hg.mp hgo), hpr]
    · rw [if_neg hgo, stp_neg (fun z => hgo (hg.mpr z)), Int.add_zero]
/-- the bytes behind a result, which is a size error where it is none -/
def nB (D : FD) (B : Nat → Int) (o : Option Int) : Nat → Int := match o with
  | some y => stA D B (if fG D = 1 then y else (y.natAbs : Int))
  | none => B
def e01 (o : Option Int) : Int := if o = none then 1 else 0
theorem sRes_big {p q : Int} {t dg : Nat} {mode : Int} (hq : 0 < q) (hdg : dg ≤ 9) (hw : 1000000000 ≤ (p.tdiv q).natAbs) : sRes p q t dg mode = none := by
  have hp10 := pow10_pos t
  obtain ⟨h1, -⟩ := tdm (p := p) (q := q) (t := 10 ^ t) hq (by omega)
  have hpd : (10 : Nat) ^ dg ≤ 10 ^ 9 := Nat.pow_le_pow_right (by decide) hdg
  have hy : 1000000000 ≤ ((p * 10 ^ t).tdiv q).natAbs := by
    rw [h1]
    by_cases hp : 0 ≤ p
    · have a1 := Int.tdiv_nonneg hp (Int.le_of_lt hq)
      have a2 := Int.tdiv_nonneg (Int.mul_nonneg ((tmod_sgn (p := p) (q := q)).1 hp) (Int.le_of_lt hp10)) (Int.le_of_lt hq)
      have a3 : p.tdiv q * 1 ≤ p.tdiv q * 10 ^ t := Int.mul_le_mul_of_nonneg_left (by omega) a1
      omega
    · have a1 : p.tdiv q ≤ 0 := by
        have := Int.tdiv_nonneg (a := -p) (b := q) (by omega) (by omega)
        rw [Int.neg_tdiv] at this; omega
      have b1 : p.tmod q ≤ 0 := (tmod_sgn (p := p) (q := q)).2 (by omega)
      have a2 : (p.tmod q * 10 ^ t).tdiv q ≤ 0 := by
        have := Int.tdiv_nonneg (a := -(p.tmod q) * 10 ^ t) (b := q) (Int.mul_nonneg (by omega) (by omega)) (by omega)
        rw [Int.neg_mul, Int.neg_tdiv] at this; omega
      have a3 : -(p.tdiv q) * 1 ≤ -(p.tdiv q) * 10 ^ t := Int.mul_le_mul_of_nonneg_left (by omega) (by omega)
      rw [Int.neg_mul, Int.neg_mul] at a3
      omega
  unfold sRes
  cases hr : rnd mode (p * 10 ^ t) q with
  | none => rfl
  | some y =>
    have := rnd_ge hr hq
    show (if _ then _ else _) = _
    rw [if_neg (by omega)]
