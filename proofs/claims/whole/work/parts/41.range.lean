def hB (S : ST) : Nat → Nat → Bool
  | 0, _ => true
  | r + 1, k => (decide (fM (zD S k) = 4) || (uA (zD S k) (zB S)).isSome) && hB S r (k + 1)
def hU (S : ST) (k : Nat) : Int := (uA (zD S k) (zB S)).getD 0
theorem hB_1 {S : ST} {r k : Nat} (h : fM (zD S k) = 4) : hB S (r + 1) k = hB S r (k + 1) := by
  conv => lhs; unfold hB
  rw [decide_eq_true h]; rfl
theorem hB_2 {S : ST} {r k : Nat} {x : Int} (h : uA (zD S k) (zB S) = some x) : hB S (r + 1) k = hB S r (k + 1) := by
  conv => lhs; unfold hB
  rw [h]; simp
theorem hB_3 {S : ST} {r k : Nat} (h : ¬ fM (zD S k) = 4) (h2 : uA (zD S k) (zB S) = none) : hB S (r + 1) k = false := by
  conv => lhs; unfold hB
  rw [h2, decide_eq_false h]; rfl
theorem w_fieldAt' {E : xEnv} {h : xH} {po : Nat} {Y : LY} {S : ST} (i : Nat) (hO : SO S) (hW : CW h po Y S) (hi : i < zN S) : xCt E 0 0 0 M_PR_fieldAt [.ref po, vI i] h (rV (.ref (lF' Y i)) h) := by
  have h12 := hO.1
  refine xCt_rV (w_fieldAt (i : Int) hO hW (by unfold iR; omega)) ?_ rfl
  rw [gF_pos ⟨by omega, by omega⟩, Int.toNat_natCast]
theorem w_isOperand' {E : xEnv} {h : xH} {po : Nat} {Y : LY} {S : ST} (i : Nat) (hO : SO S) (hW : CW h po Y S) (hi : i < zN S) : xCt E 1 0 0 M_PR_isOperand [.ref (lF' Y i)] h (rV (vI (if fM (zD S i) = 4 then 0 else 1)) h) := c_isOperand E h _ _ _ _ (hW.2.2.2.2.2.2 _ hi).1 (hO.2.2.2.2 _ hi).1
theorem ite01 {P : Prop} [Decidable P] : (if P then (0 : Int) else 1) = 0 ↔ P := by split <;> simp_all
set_option maxHeartbeats 2000000 in
theorem w_readRange {E : xEnv} {h : xH} {po : Nat} {Y : LY} {S : ST} (i j : Nat) (hO : SO S) (hW : CW h po Y S) (hi : i ≤ j) (hj : j < zN S) : xCt E 5 0 0 M_PR_readRange [.ref po, vI i, vI j] h (rQ (fun w h' => CW h' po Y S ∧ frC po h h' ∧ ∃ U : Nat → Int, h'[po + 9]? = some (aL 12 U) ∧ w = vI (if hB S (j + 1 - i) i = true then 1 else 0) ∧ (hB S (j + 1 - i) i = true → ∀ k, i ≤ k → k ≤ j → ¬ fM (zD S k) = 4 → uA (zD S k) (zB S) = some (U k)))) := by
  refine x_met rfl rfl (Nat.le_of_ble_eq_true rfl) ?_
  have h12 := hO.1
  obtain ⟨Z, hZ⟩ : ∃ Z, Z = (xZ E 0 0 (rQ (fun w h' => CW h' po Y S ∧ frC po h h' ∧ ∃ U : Nat → Int, h'[po + 9]? = some (aL 12 U) ∧ w = vI (if hB S (j + 1 - i) i = true then 1 else 0) ∧ (hB S (j + 1 - i) i = true → ∀ k, i ≤ k → k ≤ j → ¬ fM (zD S k) = 4 → uA (zD S k) (zB S) = some (U k))))) := ⟨_, rfl⟩
  rw [← hZ]
  have loop : ∀ (r c : Nat) (h1 : xH) (U : Nat → Int) (x4 : Option Value) (z : Int), c + r = j + 1 → i ≤ c → z = (c : Int) → CW h1 po Y S → frC po h h1 → h1[po + 9]? = some (aL 12 U) → hB S (j + 1 - i) i = hB S r c → (∀ k, i ≤ k → k < c → ¬ fM (zD S k) = 4 → uA (zD S k) (zB S) = some (U k)) → X E M_PR_readRange 5 0 0 Z 2 [some (.ref po), some (vI i), some (vI j), some (vI z), x4] [] h1 0 0 := by
    intro r
    induction r with
    | zero =>
      intro c h1 U x4 z hc hic hz hW1 hf1 hU1 hb hk
      subst hz
      refine x_iload_n d_PR_readRange_2 rfl rfl ?_
      refine x_iload_n d_PR_readRange_3 rfl rfl ?_
      refine j_icmp_gt 58 d_PR_readRange_4 (by decide) (by unfold iR; omega) (by unfold iR; omega) (fun c4 => ?_) (fun c4 => ?_)
      · rw [hZ]
        refine j_iconst d_PR_readRange_58 ?_
        refine j_zreturn d_PR_readRange_59 rfl (by omega) ?_
        have hbt : hB S (j + 1 - i) i = true := by rw [hb]; rfl
        refine ⟨_, rfl, hW1, hf1, U, hU1, by rw [if_pos hbt], fun _ k k1 k2 k3 => hk k k1 (by omega) k3⟩
      · exfalso; omega
    | succ r ih =>
      intro c h1 U x4 z hc hic hz hW1 hf1 hU1 hb hk
      subst hz
      have hcn : c < zN S := by omega
      have w0 := hW1.1
      obtain ⟨T, s1, s2, s3, s4, s5, s6⟩ := hW1.2.2.2.1
      have hD := (hO.2.2.2.2 _ hcn).1
      have hl := uA_l hD s6
      refine x_iload_n d_PR_readRange_2 rfl rfl ?_
      refine x_iload_n d_PR_readRange_3 rfl rfl ?_
      refine j_icmp_gt 58 d_PR_readRange_4 (by decide) (by unfold iR; omega) (by unfold iR; omega) (fun c4 => ?_) (fun c4 => ?_)
      · exfalso; omega
      · refine x_aload_n d_PR_readRange_7 rfl rfl (by first | rfl | assumption) ?_
        refine x_iload_n d_PR_readRange_8 rfl rfl ?_
        refine x_callV1 (M' := M_PR_fieldAt) d_PR_readRange_9 lk_PR_59 (w_fieldAt' c hO hW1 hcn) mt_PR_fieldAt im_PR_fieldAt se_PR_fieldAt (by repeat (first | assumption | exact hs_self (by assumption) | exact hs_self (hs_ne (by omega) (by assumption)) | exact hs_self (hs_ne (by omega) (hs_ne (by omega) (by assumption))) | refine hs_ne (by omega) ?_)) rfl (by decide) rfl (Nat.le_of_ble_eq_true rfl) (by decide) (by decide) ?_
        refine x_astore d_PR_readRange_12 (Nat.le_of_ble_eq_true rfl) (by first | rfl | assumption) ?_
        refine x_aload d_PR_readRange_14 rfl (by first | rfl | assumption) ?_
        refine x_callS1 (M' := M_PR_isOperand) d_PR_readRange_16 lk_PR_107 (w_isOperand' c hO hW1 hcn) mt_PR_isOperand st_PR_isOperand (by decide) rfl (Nat.le_of_ble_eq_true rfl) (by decide) (by decide) ?_
        refine j_if_eq 52 d_PR_readRange_19 (by decide) (by unfold iR; split <;> omega) (fun c19 => ?_) (fun c19 => ?_)
        · rw [ite01] at c19
          refine j_iinc d_PR_readRange_52 rfl ?_
          refine x_goto 2 d_PR_readRange_55 (by decide) ?_
          exact ih (c + 1) _ U _ _ (by omega) (by omega) (by omega) hW1 hf1 hU1 (by rw [hb, hB_1 c19]) (fun k k1 k2 k3 => by
            by_cases hkc : k = c
            · exact absurd (hkc ▸ c19) k3
            · exact hk k k1 (by omega) k3)
        · rw [ite01] at c19
          refine x_aload_n d_PR_readRange_22 rfl rfl (by first | rfl | assumption) ?_
          refine x_get 4 6 d_PR_readRange_23 gf_PR_33 (by repeat (first | assumption | exact hs_self (by assumption) | exact hs_self (hs_ne (by omega) (by assumption)) | exact hs_self (hs_ne (by omega) (hs_ne (by omega) (by assumption))) | refine hs_ne (by omega) ?_)) (by rfl) ?_
          refine x_iload_n d_PR_readRange_26 rfl rfl ?_
          refine x_aload_n d_PR_readRange_27 rfl rfl (by first | rfl | assumption) ?_
          refine x_get 4 5 d_PR_readRange_28 gf_PR_29 (by repeat (first | assumption | exact hs_self (by assumption) | exact hs_self (hs_ne (by omega) (by assumption)) | exact hs_self (hs_ne (by omega) (hs_ne (by omega) (by assumption))) | refine hs_ne (by omega) ?_)) (by rfl) ?_
          refine x_aload d_PR_readRange_31 rfl (by first | rfl | assumption) ?_
          refine x_callVq (M' := M_SG_unitsOf) d_PR_readRange_33 lk_PR_89 (w_unitsOf c hO hW1 hcn) mt_SG_unitsOf im_SG_unitsOf se_SG_unitsOf (by repeat (first | assumption | exact hs_self (by assumption) | exact hs_self (hs_ne (by omega) (by assumption)) | exact hs_self (hs_ne (by omega) (hs_ne (by omega) (by assumption))) | refine hs_ne (by omega) ?_)) rfl (by decide) rfl (Nat.le_of_ble_eq_true rfl) (by decide) (by decide) ?_
          rintro v h2 ⟨rfl, hW2, hf2, hu2⟩
          rw [hU1] at hu2
          have hW3 := CW_units (U := gU U c ((uA (zD S c) (zB S)).getD nonI)) hW2
          have hf3 := frC_set (e := aL 12 (gU U c ((uA (zD S c) (zB S)).getD nonI))) (o := po + 9) (frC_trans hf1 hf2) (by omega)
          have hu3 : (h2.set (po + 9) (aL 12 (gU U c ((uA (zD S c) (zB S)).getD nonI))))[po + 9]? = some (aL 12 (gU U c ((uA (zD S c) (zB S)).getD nonI))) := hs_self hu2
          refine j_last d_PR_readRange_36 (by repeat (first | assumption | exact hs_self (by assumption) | exact hs_self (hs_ne (by omega) (by assumption)) | exact hs_self (hs_ne (by omega) (hs_ne (by omega) (by assumption))) | refine hs_ne (by omega) ?_)) (by omega) (by omega) (by decide) ?_
          rw [Int.toNat_natCast]
          have w03 := hW3.1
          refine x_aload_n d_PR_readRange_37 rfl rfl (by first | rfl | assumption) ?_
          refine x_get 4 6 d_PR_readRange_38 gf_PR_33 (by repeat (first | assumption | exact hs_self (by assumption) | exact hs_self (hs_ne (by omega) (by assumption)) | exact hs_self (hs_ne (by omega) (hs_ne (by omega) (by assumption))) | refine hs_ne (by omega) ?_)) (by rfl) ?_
          refine x_iload_n d_PR_readRange_41 rfl rfl ?_
          refine j_lald d_PR_readRange_42 (by repeat (first | assumption | exact hs_self (by assumption) | exact hs_self (hs_ne (by omega) (by assumption)) | exact hs_self (hs_ne (by omega) (hs_ne (by omega) (by assumption))) | refine hs_ne (by omega) ?_)) (by omega) (by omega) (by decide) ?_
          rw [Int.toNat_natCast, gU_self]
          refine x_ldc2 d_PR_readRange_43 kl_PR_87 ?_
          refine j_lcmp_ne 52 d_PR_readRange_46 d_PR_readRange_47 (by decide) hl.1 nonI_lR (fun c46 => ?_) (fun c46 => ?_)
          · obtain ⟨x, hx⟩ : ∃ x, uA (zD S c) (zB S) = some x := Option.ne_none_iff_exists'.mp (fun q => c46 (hl.2.mpr q))
            refine j_iinc d_PR_readRange_52 rfl ?_
            refine x_goto 2 d_PR_readRange_55 (by decide) ?_
            refine ih (c + 1) _ _ _ _ (by omega) (by omega) (by omega) hW3 hf3 hu3 (by rw [hb, hB_2 hx]) (fun k k1 k2 k3 => ?_)
            by_cases hkc : k = c
            · subst hkc
              rw [gU_self, hx]; rfl
            · rw [gU_ne _ _ hkc]
              exact hk k k1 (by omega) k3
          · have hn := hl.2.mp c46
            have hbf : hB S (j + 1 - i) i = false := by rw [hb, hB_3 c19 hn]
            rw [hZ]
            refine j_iconst d_PR_readRange_50 ?_
            refine j_zreturn d_PR_readRange_51 rfl (by omega) ?_
            exact ⟨_, rfl, hW3, hf3, _, hu3, by rw [hbf]; rfl, fun q => by rw [hbf] at q; cases q⟩
  obtain ⟨U0, hU0⟩ := hW.2.2.2.2.1
  refine x_iload_n d_PR_readRange_0 rfl rfl ?_
  refine x_istore_n d_PR_readRange_1 rfl (Nat.le_of_ble_eq_true rfl) ?_
  exact loop (j + 1 - i) i h U0 _ _ (by omega) (by omega) rfl hW (frC_refl _ _) hU0 rfl (fun k k1 k2 => by omega)
