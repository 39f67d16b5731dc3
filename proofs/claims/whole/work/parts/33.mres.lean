/-- what the model's result leaves behind -/
def mV (h : xH) (mo : Nat) (v : Nat → Int) (so tg us : Int) (D : FD) (B : Nat → Int) (o : Option Int) (w : Value) (h' : xH) : Prop := w = vI (e01 o) ∧ ∃ T : Nat → Int, h' = ((h.set (mo + 14) (aI 18 T)).set (mo + 1) (aI 64 (nB D B o))).set mo (oM mo v so (tg + e01 o) us) ∧ ∀ i, i < 18 → iR (T i)
theorem e01_r (o : Option Int) : e01 o = 0 ∨ e01 o = 1 := by unfold e01; split <;> omega
theorem sRes_some {p q : Int} {t dg : Nat} {mode y : Int} (h : rnd mode (p * 10 ^ t) q = some y) : sRes p q t dg mode = if y.natAbs < 10 ^ dg then some y else none := by
  unfold sRes; rw [h]
theorem sRes_none {p q : Int} {t dg : Nat} {mode : Int} (h : rnd mode (p * 10 ^ t) q = none) : sRes p q t dg mode = none := by
  unfold sRes; rw [h]
theorem stp_r (y r q mode : Int) : -1 ≤ stp y r q mode ∧ stp y r q mode ≤ 1 := by
  by_cases h : sC1 y r q mode ∨ sC2 r mode
  · rw [stp_pos h]; (repeat' split) <;> omega
  · rw [stp_neg h]; decide
set_option maxHeartbeats 8000000 in
theorem c_mresult (E : xEnv) (h : xH) (mo j : Nat) (v : Nat → Int) (so tg us p q mode : Int) (A : MA) (D : FD) (B T : Nat → Int) (hm : h[mo]? = some (oM mo v so tg us)) (hR : mR h mo A) (hb : h[mo + 1]? = some (aI 64 B)) (ht : h[mo + 14]? = some (aI 18 T)) (hF : mF A j D) (hj : j < 12) (hD : fOk D) (hG : gOk D) (hp : p.natAbs < 4000000000000000000) (hq0 : 0 < q) (hq1 : q ≤ 100000000000000) (hmd : 0 ≤ mode ∧ mode ≤ 7) (hT : ∀ i, i < 18 → iR (T i)) : xCt E 6 0 0 M_MD_result [.ref mo, vL p, vL q, vI j, vI mode] h (rQ (mV h mo v so tg us D B (sRes p q (fS D) (fN D) mode))) := by
  refine x_met rfl rfl (Nat.le_of_ble_eq_true rfl) ?_
  obtain ⟨o, hoe⟩ : ∃ o, o = sRes p q (fS D) (fN D) mode := ⟨_, rfl⟩
  rw [← hoe]
  obtain ⟨Z, hZ⟩ : ∃ Z, Z = (xZ E 0 0 (rQ (mV h mo v so tg us D B o))) := ⟨_, rfl⟩
  have hR0 := hR
  have hF0 := hF
  have hD0 := hD
  obtain ⟨h1, h2, h3, h4', h5, h6, h7, h8, h9, h10⟩ := hR
  obtain ⟨f0, f1, fn, fs, fg, fe, hF4⟩ := hF
  obtain ⟨hm4, hn, hsc, hg, ho, hw4⟩ := hD
  have e0 := hset_id ht
  have eb := hset_id hb
  have hpt := pow10_le (n := fS D) (m := 4) (by omega)
  have hpt0 := pow10_pos (fS D)
  have hpl := pow10_le (n := fN D) (m := 9) (by omega)
  have hpl0 := pow10_pos (fN D)
  have hpc := p10c (fN D)
  have hwl := Int.natAbs_tdiv_le_natAbs p q
  have hml := tmod_abs (p := p) (q := q) hq0
  obtain ⟨tt, htt⟩ : ∃ tt : Int, tt = 10 ^ fS D := ⟨_, rfl⟩
  obtain ⟨ll, hll⟩ : ∃ ll : Int, ll = 10 ^ fN D := ⟨_, rfl⟩
  rw [← htt] at hpt hpt0
  rw [← hll] at hpl hpl0 hpc
  have fin1 : ∀ (L9 : List (Option Value)), o = none → X E M_MD_result 6 0 0 Z 181 ([some (.ref mo), some (vL p), none, some (vL q), none, some (vI j), some (vI mode), some (vL (p.tdiv q)), none, some (vL tt), none, some (vL ll), none, some (vI 1)] ++ L9) [.ref mo] h 0 0 := by
    intro L9 hon
    sorry
  sorry
