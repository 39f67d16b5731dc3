set_option maxHeartbeats 1000000 in
theorem c_isDigit (E : xEnv) (h : xH) (z : Int) (hz : iR z) : xCt E 0 0 0 M_SG_isDigit [vI z] h (rV (vI (if 0 ≤ z ∧ z ≤ 9 then 1 else 0)) h) := by
  refine x_met rfl rfl (Nat.le_of_ble_eq_true rfl) ?_
  unfold iR at hz
  refine x_iload_n d_SG_isDigit_0 rfl rfl ?_
  refine j_if_lt 14 d_SG_isDigit_1 (by decide) (by unfold iR; omega) (fun c1 => ?_) (fun c1 => ?_)
  · refine j_iconst d_SG_isDigit_14 ?_
    refine j_zreturn d_SG_isDigit_15 rfl (by omega) ?_
    exact rV_i (by split <;> omega) rfl
  · refine x_iload_n d_SG_isDigit_4 rfl rfl ?_
    refine j_bipush d_SG_isDigit_5 (by decide) ?_
    refine j_icmp_gt 14 d_SG_isDigit_7 (by decide) (by unfold iR; omega) (by unfold iR; omega) (fun c7 => ?_) (fun c7 => ?_)
    · refine j_iconst d_SG_isDigit_14 ?_
      refine j_zreturn d_SG_isDigit_15 rfl (by omega) ?_
      exact rV_i (by split <;> omega) rfl
    · refine j_iconst d_SG_isDigit_10 ?_
      refine x_goto 15 d_SG_isDigit_11 (by decide) ?_
      refine j_zreturn d_SG_isDigit_15 rfl (by omega) ?_
      exact rV_i (by split <;> omega) rfl
set_option maxHeartbeats 1000000 in
theorem c_withSign (E : xEnv) (h : xH) (z ng : Int) (hn : ng = 0 ∨ ng = 1) : xCt E 0 0 0 M_SG_withSign [vL z, vI ng] h (rV (vL (if ng = 1 then -z else z)) h) := by
  refine x_met rfl rfl (Nat.le_of_ble_eq_true rfl) ?_
  refine x_iload_n d_SG_withSign_0 rfl rfl ?_
  refine j_if_eq 9 d_SG_withSign_1 (by decide) (by unfold iR; omega) (fun c1 => ?_) (fun c1 => ?_)
  · refine x_lload_n d_SG_withSign_9 rfl rfl ?_
    refine x_lreturn d_SG_withSign_10 rfl ?_
    exact rV_l (by split <;> omega) rfl
  · refine x_lload_n d_SG_withSign_4 rfl rfl ?_
    refine j_lneg d_SG_withSign_5 ?_
    refine x_goto 10 d_SG_withSign_6 (by decide) ?_
    refine x_lreturn d_SG_withSign_10 rfl ?_
    exact rV_l (by split <;> omega) rfl
set_option maxHeartbeats 1000000 in
theorem c_halfAt (E : xEnv) (h : xH) (s b e o k : Nat) (B : Nat → Int) (hs : h[s]? = some (oS b e)) (hb : h[b]? = some (aI 64 B)) (hB : bOk B) (hk : o + k / 2 < 64) (hk2 : k < 1000) : xCt E 0 0 0 M_SG_halfAt [.ref s, vI o, vI k] h (rV (vI (hfB B o k)) h) := by
  refine x_met rfl rfl (Nat.le_of_ble_eq_true rfl) ?_
  have hb0 := hB (o + k / 2) hk
  have e1 : (k : Int).tdiv 2 = ((k / 2 : Nat) : Int) := rfl
  have e2 : (k : Int).tmod 2 = ((k % 2 : Nat) : Int) := rfl
  have e3 : (B (o + k / 2)).tdiv 16 = B (o + k / 2) / 16 := Int.tdiv_eq_ediv_of_nonneg (by omega)
  have e4 : (B (o + k / 2)).tmod 16 = B (o + k / 2) % 16 := Int.tmod_eq_emod_of_nonneg (by omega)
  refine x_aload_n d_SG_halfAt_0 rfl rfl rfl ?_
  refine x_get 3 0 d_SG_halfAt_1 gf_SG_9 (by first | assumption | exact hs_self (by assumption) | exact hs_ne (by first | assumption | omega) (by assumption) | exact hs_ne (by first | assumption | omega) (hs_self (by assumption)) | exact hs_ne (by first | assumption | omega) (hs_ne (by first | assumption | omega) (by assumption))) (by rfl) ?_
  refine x_iload_n d_SG_halfAt_4 rfl rfl ?_
  refine x_iload_n d_SG_halfAt_5 rfl rfl ?_
  refine j_iconst d_SG_halfAt_6 ?_
  refine j_idiv d_SG_halfAt_7 (by unfold iR; omega) (by unfold iR; omega) (by decide) ?_
  refine j_iadd d_SG_halfAt_8 ?_
  refine j_iald d_SG_halfAt_9 (by first | assumption | exact hs_self (by assumption) | exact hs_ne (by first | assumption | omega) (by assumption) | exact hs_ne (by first | assumption | omega) (hs_self (by assumption)) | exact hs_ne (by first | assumption | omega) (hs_ne (by first | assumption | omega) (by assumption))) (by omega) (by omega) (by decide) ?_
  refine x_top (w := vI (B (o + k / 2))) (by rw [e1, show ((o : Int) + ((k / 2 : Nat) : Int)).toNat = o + k / 2 by omega]) ?_
  refine x_istore_n d_SG_halfAt_10 rfl (Nat.le_of_ble_eq_true rfl) ?_
  refine x_iload_n d_SG_halfAt_11 rfl rfl ?_
  refine j_iconst d_SG_halfAt_12 ?_
  refine j_irem d_SG_halfAt_13 (by unfold iR; omega) (by unfold iR; omega) (by decide) ?_
  refine x_top (w := vI ((k % 2 : Nat) : Int)) (by rw [e2]) ?_
  refine j_if_ne 24 d_SG_halfAt_14 (by decide) (by unfold iR; omega) (fun c14 => ?_) (fun c14 => ?_)
  · refine x_iload_n d_SG_halfAt_24 rfl rfl ?_
    refine j_bipush d_SG_halfAt_25 (by decide) ?_
    refine j_irem d_SG_halfAt_27 (by unfold iR; omega) (by unfold iR; omega) (by decide) ?_
    refine x_ireturn d_SG_halfAt_28 rfl ?_
    exact rV_i (by unfold hfB; first | rw [if_pos (by omega), e3] | rw [if_neg (by omega), e4]) rfl
  · refine x_iload_n d_SG_halfAt_17 rfl rfl ?_
    refine j_bipush d_SG_halfAt_18 (by decide) ?_
    refine j_idiv d_SG_halfAt_20 (by unfold iR; omega) (by unfold iR; omega) (by decide) ?_
    refine x_goto 28 d_SG_halfAt_21 (by decide) ?_
    refine x_ireturn d_SG_halfAt_28 rfl ?_
    exact rV_i (by unfold hfB; first | rw [if_pos (by omega), e3] | rw [if_neg (by omega), e4]) rfl
set_option maxHeartbeats 1000000 in
theorem c_digitsAt (E : xEnv) (h : xH) (s b e o c : Nat) (B : Nat → Int) (hs : h[s]? = some (oS b e)) (hb : h[b]? = some (aI 64 B)) (hB : bOk B) (hc : o + c ≤ 64) (hc9 : c ≤ 9) : xCt E 1 0 0 M_SG_digitsAt [.ref s, vI o, vI c] h (rV (vL ((rdD B o c).getD nonI)) h) := by
  refine x_met rfl rfl (Nat.le_of_ble_eq_true rfl) ?_
  have loop : ∀ (r k : Nat) (m i : Int) (x : Option Value), k + r = c → i = (o : Int) + k → rdD B o k = some m → X E M_SG_digitsAt 1 0 0 (xZ E 0 0 (rV (vL ((rdD B o c).getD nonI)) h)) 5 [some (.ref s), some (vI o), some (vI c), some (vL m), none, some (vI i), x] [] h 0 0 := by
    intro r
    induction r with
    | zero =>
      intro k m i x hk hi hm
      refine x_iload d_SG_digitsAt_5 rfl ?_
      refine x_iload_n d_SG_digitsAt_7 rfl rfl ?_
      refine x_iload_n d_SG_digitsAt_8 rfl rfl ?_
      refine j_iadd d_SG_digitsAt_9 ?_
      refine j_icmp_ge 53 d_SG_digitsAt_10 (by decide) (by unfold iR; omega) (by unfold iR; omega) (fun c10 => ?_) (fun c10 => ?_)
      · refine x_lload_n d_SG_digitsAt_53 rfl rfl ?_
        refine x_lreturn d_SG_digitsAt_54 rfl ?_
        exact rV_l (by rw [show c = k by omega, hm]; rfl) rfl
      · exfalso; omega
    | succ r ih =>
      intro k m i x hk hi hm
      have hb0 := hB (o + k) (by omega)
      have hml := rdD_lt hm
      have hp := pow10_le (n := k) (m := 9) (by omega)
      refine x_iload d_SG_digitsAt_5 rfl ?_
      refine x_iload_n d_SG_digitsAt_7 rfl rfl ?_
      refine x_iload_n d_SG_digitsAt_8 rfl rfl ?_
      refine j_iadd d_SG_digitsAt_9 ?_
      refine j_icmp_ge 53 d_SG_digitsAt_10 (by decide) (by unfold iR; omega) (by unfold iR; omega) (fun c10 => ?_) (fun c10 => ?_)
      · exfalso; omega
      refine x_aload_n d_SG_digitsAt_13 rfl rfl rfl ?_
      refine x_get 3 0 d_SG_digitsAt_14 gf_SG_9 (by first | assumption | exact hs_self (by assumption) | exact hs_ne (by first | assumption | omega) (by assumption) | exact hs_ne (by first | assumption | omega) (hs_self (by assumption)) | exact hs_ne (by first | assumption | omega) (hs_ne (by first | assumption | omega) (by assumption))) (by rfl) ?_
      refine x_iload d_SG_digitsAt_17 rfl ?_
      refine j_iald d_SG_digitsAt_19 (by first | assumption | exact hs_self (by assumption) | exact hs_ne (by first | assumption | omega) (by assumption) | exact hs_ne (by first | assumption | omega) (hs_self (by assumption)) | exact hs_ne (by first | assumption | omega) (hs_ne (by first | assumption | omega) (by assumption))) (by omega) (by omega) (by decide) ?_
      refine x_top (w := vI (B (o + k))) (by rw [show i.toNat = o + k by omega]) ?_
      refine j_bipush d_SG_digitsAt_20 (by decide) ?_
      refine j_isub d_SG_digitsAt_22 ?_
      refine x_istore d_SG_digitsAt_23 (Nat.le_of_ble_eq_true rfl) ?_
      refine x_iload d_SG_digitsAt_25 rfl ?_
      refine x_callS1 (M' := M_SG_isDigit) d_SG_digitsAt_27 lk_SG_73 (c_isDigit E h (B (o + k) - 48) (by unfold iR; omega)) mt_SG_isDigit st_SG_isDigit (by decide) rfl (Nat.le_of_ble_eq_true rfl) (by decide) (by decide) ?_
      refine j_if_ne 37 d_SG_digitsAt_30 (by decide) (by unfold iR; split <;> omega) (fun c30 => ?_) (fun c30 => ?_)
      · have hd : 0 ≤ B (o + k) - 48 ∧ B (o + k) - 48 ≤ 9 := by
          by_cases hd : 0 ≤ B (o + k) - 48 ∧ B (o + k) - 48 ≤ 9
          · exact hd
          · rw [if_neg hd] at c30; exact absurd rfl c30
        refine x_ldc2 d_SG_digitsAt_37 kl_SG_83 ?_
        refine x_lload_n d_SG_digitsAt_40 rfl rfl ?_
        refine j_lmul d_SG_digitsAt_41 ?_
        refine x_iload d_SG_digitsAt_42 rfl ?_
        refine j_i2l d_SG_digitsAt_44 (by unfold iR; omega) ?_
        refine j_ladd d_SG_digitsAt_45 ?_
        refine x_lstore_n d_SG_digitsAt_46 rfl (Nat.le_of_ble_eq_true rfl) ?_
        refine j_iinc d_SG_digitsAt_47 rfl ?_
        refine x_goto 5 d_SG_digitsAt_50 (by decide) ?_
        refine ih (k + 1) _ _ _ (by omega) (by omega) ?_
        show (match rdD B o k with | some m => _ | none => none) = _
        rw [hm]
        exact if_pos hd
      · have hd : ¬ (0 ≤ B (o + k) - 48 ∧ B (o + k) - 48 ≤ 9) := by
          intro hd
          rw [if_pos hd] at c30
          omega
        have hnn : rdD B o (k + 1) = none := by
          show (match rdD B o k with | some m => _ | none => none) = _
          rw [hm]
          exact if_neg hd
        refine x_ldc2 d_SG_digitsAt_33 kl_SG_81 ?_
        refine x_lreturn d_SG_digitsAt_36 rfl ?_
        exact rV_l (by rw [rdD_none hnn (by omega)]; rfl) rfl
  refine j_lconst 0 d_SG_digitsAt_0 (by decide) ?_
  refine x_lstore_n d_SG_digitsAt_1 rfl (Nat.le_of_ble_eq_true rfl) ?_
  refine x_iload_n d_SG_digitsAt_2 rfl rfl ?_
  refine x_istore d_SG_digitsAt_3 (Nat.le_of_ble_eq_true rfl) ?_
  exact loop c 0 0 _ _ (by omega) (by omega) rfl
set_option maxHeartbeats 1000000 in
theorem c_zonedUnits (E : xEnv) (h : xH) (s b e f p o n : Nat) (fm ln sc sg : Int) (B : Nat → Int) (hs : h[s]? = some (oS b e)) (hb : h[b]? = some (aI 64 B)) (hf : h[f]? = some (oF p fm o ln n sc sg)) (hB : bOk B) (ho : o + n ≤ 64) (hn : 1 ≤ n ∧ n ≤ 9) (hsg : sg = 0 ∨ sg = 1) : xCt E 2 0 0 M_SG_zonedUnits [.ref s, .ref f] h (rV (vL ((uZ B o n sg).getD nonI)) h) := by
  refine x_met rfl rfl (Nat.le_of_ble_eq_true rfl) ?_
  have hb0 := hB (o + n - 1) (by omega)
  have hp := pow10_le (n := n - 1) (m := 8) (by omega)
  have fin : ∀ (l ng : Int) (x4 : Option Value), (ng = 0 ∨ ng = 1) → (ng = 1 ↔ sg = 1 ∧ isDg (B (o + n - 1) - 112)) → l = (if ng = 1 then B (o + n - 1) - 112 else B (o + n - 1) - 48) → X E M_SG_zonedUnits 2 0 0 (xZ E 0 0 (rV (vL ((uZ B o n sg).getD nonI)) h)) 50 [some (.ref s), some (.ref f), some (vI l), some (vI ng), x4, none] [] h 0 0 := by
    intro l ng x4 hng hni hl
    have hlr : -200 ≤ l ∧ l ≤ 300 := by subst hl; split <;> omega
    refine x_aload_n d_SG_zonedUnits_50 rfl rfl rfl ?_
    refine x_aload_n d_SG_zonedUnits_51 rfl rfl rfl ?_
    refine x_get 1 2 d_SG_zonedUnits_52 gf_SG_61 (by first | assumption | exact hs_self (by assumption) | exact hs_ne (by first | assumption | omega) (by assumption) | exact hs_ne (by first | assumption | omega) (hs_self (by assumption)) | exact hs_ne (by first | assumption | omega) (hs_ne (by first | assumption | omega) (by assumption))) (by rfl) ?_
    refine x_aload_n d_SG_zonedUnits_55 rfl rfl rfl ?_
    refine x_get 1 4 d_SG_zonedUnits_56 gf_SG_64 (by first | assumption | exact hs_self (by assumption) | exact hs_ne (by first | assumption | omega) (by assumption) | exact hs_ne (by first | assumption | omega) (hs_self (by assumption)) | exact hs_ne (by first | assumption | omega) (hs_ne (by first | assumption | omega) (by assumption))) (by rfl) ?_
    refine j_iconst d_SG_zonedUnits_59 ?_
    refine j_isub d_SG_zonedUnits_60 ?_
    refine x_top (w := vI ((n - 1 : Nat) : Int)) (by rw [show ((n - 1 : Nat) : Int) = (n : Int) - 1 by omega]) ?_
    refine x_callV1 (M' := M_SG_digitsAt) d_SG_zonedUnits_61 lk_SG_77 (c_digitsAt E h s b e o (n - 1) B hs hb hB (by omega) (by omega)) mt_SG_digitsAt im_SG_digitsAt se_SG_digitsAt (by first | assumption | exact hs_self (by assumption) | exact hs_ne (by first | assumption | omega) (by assumption) | exact hs_ne (by first | assumption | omega) (hs_self (by assumption)) | exact hs_ne (by first | assumption | omega) (hs_ne (by first | assumption | omega) (by assumption))) rfl (by decide) rfl (Nat.le_of_ble_eq_true rfl) (by decide) (by decide) ?_
    cases hd : rdD B o (n - 1) with
    | none =>
      have hu : uZ B o n sg = none := by unfold uZ; rw [hd]
      show X E M_SG_zonedUnits 2 0 0 _ 64 _ (vL nonI :: []) h 0 0
      refine x_lstore d_SG_zonedUnits_64 (Nat.le_of_ble_eq_true rfl) ?_
      refine x_lload d_SG_zonedUnits_66 rfl ?_
      refine x_ldc2 d_SG_zonedUnits_68 kl_SG_81 ?_
      refine j_lcmp_eq 82 d_SG_zonedUnits_71 d_SG_zonedUnits_72 (by decide) (by unfold lR nonI; omega) (by unfold lR; omega) (fun c71 => ?_) (fun c71 => ?_)
      · refine x_ldc2 d_SG_zonedUnits_82 kl_SG_81 ?_
        refine x_lreturn d_SG_zonedUnits_85 rfl ?_
        exact rV_l (by rw [hu]; rfl) rfl
      · exact absurd rfl c71
    | some m =>
      have hml := rdD_lt hd
      show X E M_SG_zonedUnits 2 0 0 _ 64 _ (vL m :: []) h 0 0
      refine x_lstore d_SG_zonedUnits_64 (Nat.le_of_ble_eq_true rfl) ?_
      refine x_lload d_SG_zonedUnits_66 rfl ?_
      refine x_ldc2 d_SG_zonedUnits_68 kl_SG_81 ?_
      refine j_lcmp_eq 82 d_SG_zonedUnits_71 d_SG_zonedUnits_72 (by decide) (by unfold lR; omega) (by unfold lR; omega) (fun c71 => ?_) (fun c71 => ?_)
      · exfalso; omega
      refine x_iload_n d_SG_zonedUnits_75 rfl rfl ?_
      refine x_callS1 (M' := M_SG_isDigit) d_SG_zonedUnits_76 lk_SG_73 (c_isDigit E h l (by unfold iR; omega)) mt_SG_isDigit st_SG_isDigit (by decide) rfl (Nat.le_of_ble_eq_true rfl) (by decide) (by decide) ?_
      refine j_if_ne 86 d_SG_zonedUnits_79 (by decide) (by unfold iR; split <;> omega) (fun c79 => ?_) (fun c79 => ?_)
      · have hdl : 0 ≤ l ∧ l ≤ 9 := by
          by_cases hd : 0 ≤ l ∧ l ≤ 9
          · exact hd
          · rw [if_neg hd] at c79; exact absurd rfl c79
        refine x_ldc2 d_SG_zonedUnits_86 kl_SG_83 ?_
        refine x_lload d_SG_zonedUnits_89 rfl ?_
        refine j_lmul d_SG_zonedUnits_91 ?_
        refine x_iload_n d_SG_zonedUnits_92 rfl rfl ?_
        refine j_i2l d_SG_zonedUnits_93 (by unfold iR; omega) ?_
        refine j_ladd d_SG_zonedUnits_94 ?_
        refine x_iload_n d_SG_zonedUnits_95 rfl rfl ?_
        refine x_callS1 (M' := M_SG_withSign) d_SG_zonedUnits_96 lk_SG_85 (c_withSign E h (10 * m + l) ng hng) mt_SG_withSign st_SG_withSign (by decide) rfl (Nat.le_of_ble_eq_true rfl) (by decide) (by decide) ?_
        refine x_lreturn d_SG_zonedUnits_99 rfl ?_
        refine rV_l ?_ rfl
        unfold uZ
        rw [hd]
        by_cases hg : ng = 1
        · rw [if_pos hg] at hl ⊢
          simp only [if_pos (hni.mp hg)]
          rw [← hl]; rfl
        · rw [if_neg hg] at hl ⊢
          simp only [if_neg (fun z => hg (hni.mpr z))]
          rw [if_pos (by unfold isDg; omega), ← hl]; rfl
      · have hdl : ¬ (0 ≤ l ∧ l ≤ 9) := by
          intro hd
          rw [if_pos hd] at c79
          omega
        refine x_ldc2 d_SG_zonedUnits_82 kl_SG_81 ?_
        refine x_lreturn d_SG_zonedUnits_85 rfl ?_
        refine rV_l ?_ rfl
        unfold uZ
        rw [hd]
        by_cases hg : ng = 1
        · rw [if_pos hg] at hl
          exact absurd (hni.mp hg).2 (by unfold isDg; rw [← hl]; exact hdl)
        · rw [if_neg hg] at hl
          simp only [if_neg (fun z => hg (hni.mpr z))]
          rw [if_neg (by unfold isDg; rw [← hl]; exact hdl)]; rfl
  refine x_aload_n d_SG_zonedUnits_0 rfl rfl rfl ?_
  refine x_get 3 0 d_SG_zonedUnits_1 gf_SG_9 (by first | assumption | exact hs_self (by assumption) | exact hs_ne (by first | assumption | omega) (by assumption) | exact hs_ne (by first | assumption | omega) (hs_self (by assumption)) | exact hs_ne (by first | assumption | omega) (hs_ne (by first | assumption | omega) (by assumption))) (by rfl) ?_
  refine x_aload_n d_SG_zonedUnits_4 rfl rfl rfl ?_
  refine x_get 1 2 d_SG_zonedUnits_5 gf_SG_61 (by first | assumption | exact hs_self (by assumption) | exact hs_ne (by first | assumption | omega) (by assumption) | exact hs_ne (by first | assumption | omega) (hs_self (by assumption)) | exact hs_ne (by first | assumption | omega) (hs_ne (by first | assumption | omega) (by assumption))) (by rfl) ?_
  refine x_aload_n d_SG_zonedUnits_8 rfl rfl rfl ?_
  refine x_get 1 4 d_SG_zonedUnits_9 gf_SG_64 (by first | assumption | exact hs_self (by assumption) | exact hs_ne (by first | assumption | omega) (by assumption) | exact hs_ne (by first | assumption | omega) (hs_self (by assumption)) | exact hs_ne (by first | assumption | omega) (hs_ne (by first | assumption | omega) (by assumption))) (by rfl) ?_
  refine j_iadd d_SG_zonedUnits_12 ?_
  refine j_iconst d_SG_zonedUnits_13 ?_
  refine j_isub d_SG_zonedUnits_14 ?_
  refine j_iald d_SG_zonedUnits_15 (by first | assumption | exact hs_self (by assumption) | exact hs_ne (by first | assumption | omega) (by assumption) | exact hs_ne (by first | assumption | omega) (hs_self (by assumption)) | exact hs_ne (by first | assumption | omega) (hs_ne (by first | assumption | omega) (by assumption))) (by omega) (by omega) (by decide) ?_
  refine x_top (w := vI (B (o + n - 1))) (by rw [show ((o : Int) + n - 1).toNat = o + n - 1 by omega]) ?_
  refine j_bipush d_SG_zonedUnits_16 (by decide) ?_
  refine j_isub d_SG_zonedUnits_18 ?_
  refine x_istore_n d_SG_zonedUnits_19 rfl (Nat.le_of_ble_eq_true rfl) ?_
  refine x_aload_n d_SG_zonedUnits_20 rfl rfl rfl ?_
  refine x_get 1 6 d_SG_zonedUnits_21 gf_SG_44 (by first | assumption | exact hs_self (by assumption) | exact hs_ne (by first | assumption | omega) (by assumption) | exact hs_ne (by first | assumption | omega) (hs_self (by assumption)) | exact hs_ne (by first | assumption | omega) (hs_ne (by first | assumption | omega) (by assumption))) (by rfl) ?_
  refine j_if_eq 41 d_SG_zonedUnits_24 (by decide) (by unfold iR; omega) (fun c24 => ?_) (fun c24 => ?_)
  · refine j_iconst d_SG_zonedUnits_41 ?_
    refine x_istore_n d_SG_zonedUnits_42 rfl (Nat.le_of_ble_eq_true rfl) ?_
    refine x_iload_n d_SG_zonedUnits_43 rfl rfl ?_
    refine j_if_eq 50 d_SG_zonedUnits_44 (by decide) (by unfold iR; omega) (fun c44 => ?_) (fun c44 => ?_)
    · exact fin _ 0 none (Or.inl rfl) (by omega) (by omega)
    · exfalso; omega
  · refine x_iload_n d_SG_zonedUnits_27 rfl rfl ?_
    refine j_bipush d_SG_zonedUnits_28 (by decide) ?_
    refine j_isub d_SG_zonedUnits_30 ?_
    refine x_callS1 (M' := M_SG_isDigit) d_SG_zonedUnits_31 lk_SG_73 (c_isDigit E h (B (o + n - 1) - 48 - 64) (by unfold iR; omega)) mt_SG_isDigit st_SG_isDigit (by decide) rfl (Nat.le_of_ble_eq_true rfl) (by decide) (by decide) ?_
    refine j_if_eq 41 d_SG_zonedUnits_34 (by decide) (by unfold iR; split <;> omega) (fun c34 => ?_) (fun c34 => ?_)
    · have hdl : ¬ (0 ≤ B (o + n - 1) - 48 - 64 ∧ B (o + n - 1) - 48 - 64 ≤ 9) := by
        intro hd
        rw [if_pos hd] at c34
        omega
      refine j_iconst d_SG_zonedUnits_41 ?_
      refine x_istore_n d_SG_zonedUnits_42 rfl (Nat.le_of_ble_eq_true rfl) ?_
      refine x_iload_n d_SG_zonedUnits_43 rfl rfl ?_
      refine j_if_eq 50 d_SG_zonedUnits_44 (by decide) (by unfold iR; omega) (fun c44 => ?_) (fun c44 => ?_)
      · exact fin _ 0 none (Or.inl rfl) (by unfold isDg; omega) (by omega)
      · exfalso; omega
    · have hdl : 0 ≤ B (o + n - 1) - 48 - 64 ∧ B (o + n - 1) - 48 - 64 ≤ 9 := by
        by_cases hd : 0 ≤ B (o + n - 1) - 48 - 64 ∧ B (o + n - 1) - 48 - 64 ≤ 9
        · exact hd
        · rw [if_neg hd] at c34; exact absurd rfl c34
      refine j_iconst d_SG_zonedUnits_37 ?_
      refine x_goto 42 d_SG_zonedUnits_38 (by decide) ?_
      refine x_istore_n d_SG_zonedUnits_42 rfl (Nat.le_of_ble_eq_true rfl) ?_
      refine x_iload_n d_SG_zonedUnits_43 rfl rfl ?_
      refine j_if_eq 50 d_SG_zonedUnits_44 (by decide) (by unfold iR; omega) (fun c44 => ?_) (fun c44 => ?_)
      · exfalso; omega
      · refine j_iinc d_SG_zonedUnits_47 rfl ?_
        exact fin _ 1 none (Or.inr rfl) (by unfold isDg; omega) (by rw [if_pos rfl]; omega)
