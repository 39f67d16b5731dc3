/-! every call keeps the state sound -/
section SOs
variable {S : ST}
theorem SO_B {B : Nat → Int} (hO : SO S) (hB : bOk B) : SO (sB S B) := ⟨hO.1, hO.2.1, hO.2.2.1, hB, hO.2.2.2.2⟩
theorem SO_un (hO : SO S) : SO (sUn S) := hO
theorem SO_scrap (hO : SO S) : SO (sScrap S) := ⟨hO.1, Nat.zero_le _, hO.2.2.1, hO.2.2.2.1, hO.2.2.2.2⟩
theorem SO_pic (c : Int) (hO : SO S) : SO (fPic S c).2 := by
  unfold fPic
  by_cases h : 32 ≤ c ∧ c ≤ 126 ∧ zL S < 24
  · rw [if_pos h]
    refine ⟨hO.1, ?_, fun i hi => ?_, hO.2.2.2.1, hO.2.2.2.2⟩
    · show zL S + 1 ≤ 24; omega
    · show 0 ≤ gU (zR S) (zL S) c i ∧ gU (zR S) (zL S) c i ≤ 126
      by_cases e : i = zL S
      · rw [e, gU_self]; omega
      · rw [gU_ne _ _ e]; exact hO.2.2.1 i hi
  · rw [if_neg h]; exact hO
theorem SO_poke (p b : Int) (hO : SO S) : SO (fPoke S p b).2 := by
  unfold fPoke
  by_cases h : 0 ≤ p ∧ p < 64 ∧ 0 ≤ b ∧ b ≤ 255
  · rw [if_pos h]; exact SO_B hO (bOk_gU hO.2.2.2.1 ⟨h.2.2.1, h.2.2.2⟩)
  · rw [if_neg h]; exact hO
theorem SO_st (j : Nat) (u : Int) (hO : SO S) (hj : j < zN S) : SO (sB S (stA (zD S j) (zB S) u)) :=
  SO_B hO (bOk_stA hO.2.2.2.1 (hO.2.2.2.2 j hj).1 (hO.2.2.2.2 j hj).2.2)
theorem SO_put (z v sc : Int) (hO : SO S) : SO (fPut S z v sc).2 := by
  unfold fPut
  by_cases h : th S z ∧ 0 ≤ sc ∧ sc ≤ 9
  · rw [if_pos h]; exact SO_st _ _ hO (by have := h.1; omega)
  · rw [if_neg h]; exact hO
theorem SO_move (a b : Int) (hO : SO S) : SO (fMove S a b).2 := by
  unfold fMove
  by_cases h : th S a ∧ th S b
  · rw [if_pos h]
    split
    · exact SO_un hO
    · exact SO_st _ _ hO (by have := h.2; omega)
  · rw [if_neg h]; exact hO
theorem SO_compute (op a b t md : Int) (hO : SO S) : SO (fCompute S op a b t md).2 := by
  unfold fCompute
  by_cases h : okC S op a b t md
  · rw [if_pos h]
    split
    · exact SO_un hO
    · split
      · exact SO_un hO
      · exact SO_sRs _ hO (by have := h.2.2.2.2; omega)
  · rw [if_neg h]; exact hO
theorem SO_divide (a b q r md : Int) (hO : SO S) : SO (fDivide S a b q r md).2 := by
  unfold fDivide
  by_cases h : okD S a b q r md
  · rw [if_pos h]
    split
    · exact SO_un hO
    · split
      · exact SO_un hO
      · have hq := h.2.2.2.1
        have hr := h.2.2.2.2
        unfold fDiv2
        split
        · exact SO_sRs _ hO (by omega)
        · refine SO_sRs _ (SO_sRs _ hO (by omega)) ?_
          show r.toNat < zN S
          omega
  · rw [if_neg h]; exact hO
theorem SO_aLp {x : Int} {sa : Nat} {md : Int} {H : Nat → Int} : ∀ (r k : Nat) (S : ST) (e : Int), SO S → k + r ≤ zN S → SO (aLp x sa md H r k S e).2
  | 0, _, _, _, hO, _ => hO
  | r + 1, k, S, e, hO, hk => by
    by_cases h : fM (zD S k) = 4
    · rw [aLp_1 h]; exact SO_aLp r (k + 1) S e hO (by omega)
    · rw [aLp_2 h]
      refine SO_aLp r (k + 1) _ _ (SO_sRs _ hO (by omega)) ?_
      show k + 1 + r ≤ zN S
      omega
theorem SO_addTo (a f l md : Int) (hO : SO S) : SO (fAddTo S a f l md).2 := by
  unfold fAddTo
  by_cases h : okA S a f l md
  · rw [if_pos h]
    have hr := h.2.2
    split
    · exact SO_un hO
    · split
      · exact SO_aLp _ _ _ _ hO (by omega)
      · exact SO_un hO
  · rw [if_neg h]; exact hO
theorem SO_total (f l t md : Int) (hO : SO S) : SO (fTotal S f l t md).2 := by
  unfold fTotal
  by_cases h : okT S f l t md
  · rw [if_pos h]
    have hr := h.2.1
    split
    · exact SO_sRs _ hO (by omega)
    · exact SO_un hO
  · rw [if_neg h]; exact hO
end SOs
