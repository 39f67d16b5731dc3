/-! the model's edited pictures -/
section MPE
variable {E : xEnv} {h : xH} {mo : Nat} {v : Nat → Int} {so tg us : Int}
set_option maxHeartbeats 1000000 in
theorem c_ends {ct : Nat} {G : Nat → Int} (hm : h[mo]? = some (oM mo v so tg us)) (hv4 : v 4 = ct) (hct : 1 ≤ ct ∧ ct ≤ 18) (hsy : h[mo + 3]? = some (aI 18 G)) (hG : ∀ j, j < ct → 0 ≤ G j ∧ G j ≤ 126) : xCt E 1 0 0 M_MD_ends [.ref mo] h (rP (fun h' => ∃ v' : Nat → Int, h' = h.set mo (oM mo v' so tg us) ∧ v' 5 = (hdS G ct : Int) ∧ v' 6 = (tlS G ct : Int) ∧ ∀ k, k ≠ 5 → k ≠ 6 → v' k = v k)) := by
  refine x_met rfl rfl (Nat.le_of_ble_eq_true rfl) ?_
  obtain ⟨Z, hZ⟩ : ∃ Z, Z = (xZ E 0 0 (rP (fun h' => ∃ v' : Nat → Int, h' = h.set mo (oM mo v' so tg us) ∧ v' 5 = (hdS G ct : Int) ∧ v' 6 = (tlS G ct : Int) ∧ ∀ k, k ≠ 5 → k ≠ 6 → v' k = v k))) := ⟨_, rfl⟩
  rw [← hZ]
  have hs18 : sgn G ct ≤ 18 := Nat.le_trans (nd_le_r _ _ _) hct.2
  have hdl : dol G ct ≤ 18 := Nat.le_trans (nd_le_r _ _ _) hct.2
  have hh0 := hd0_le G ct
  have k184 : ∀ (w : Nat → Int) (L : List (Option Value)), w 5 = (hdS G ct : Int) → w 6 = (tlS G ct : Int) → (∀ k, k ≠ 5 → k ≠ 6 → w k = v k) → X E M_MD_ends 1 0 0 Z 184 L [] (h.set mo (oM mo w so tg us)) 0 0 := by
    intro w L h5 h6 hk
    rw [hZ]
    refine x_return d_MD_ends_184 rfl ?_
    exact ⟨rfl, w, rfl, h5, h6, hk⟩
  have k82 : ∀ (w : Nat → Int), w 5 = (hdS G ct : Int) → (∀ k, k ≠ 5 → w k = v k) → X E M_MD_ends 1 0 0 Z 82 [some (.ref mo), some (vI (sgn G ct : Int)), none, none, none] [] (h.set mo (oM mo w so tg us)) 0 0 := by
    intro w h5 hk
    refine x_aload_n d_MD_ends_82 rfl rfl (by first | rfl | assumption) ?_
    refine j_iconst d_MD_ends_83 ?_
    refine xp_MD_6 d_MD_ends_84 pf_MD_ends_94 (by repeat (first | assumption | exact hs_self (by assumption) | exact hs_self (hs_ne (by omega) (by assumption)) | exact hs_self (hs_ne (by omega) (hs_ne (by omega) (by assumption))) | refine hs_ne (by omega) ?_)) ?_
    rw [List.set_set]
    obtain ⟨w1, hw1⟩ : ∃ w1, w1 = gU w 6 0 := ⟨_, rfl⟩
    have g4 : w1 4 = ct := by rw [hw1, gU_ne _ _ (by decide), hk 4 (by decide), hv4]
    have g5 : w1 5 = (hdS G ct : Int) := by rw [hw1, gU_ne _ _ (by decide), h5]
    have g6 : w1 6 = 0 := by rw [hw1, gU_self]
    have gk : ∀ k, k ≠ 5 → k ≠ 6 → w1 k = v k := fun k a b => by rw [hw1, gU_ne _ _ b, hk k a]
    rw [← hw1]
    clear hw1
    have hT := tl_m (G := G) hct.1
    refine x_aload_n d_MD_ends_87 rfl rfl (by first | rfl | assumption) ?_
    refine x_get 5 4 d_MD_ends_88 gf_MD_71 (by repeat (first | assumption | exact hs_self (by assumption) | exact hs_self (hs_ne (by omega) (by assumption)) | exact hs_self (hs_ne (by omega) (hs_ne (by omega) (by assumption))) | refine hs_ne (by omega) ?_)) (by rfl) ?_
    refine j_iconst d_MD_ends_91 ?_
    refine j_icmp_lt 184 d_MD_ends_92 (by decide) (by unfold iR; omega) (by unfold iR; omega) (fun c92 => ?_) (fun c92 => ?_)
    · rw [if_neg (by omega)] at hT
      exact k184 w1 _ g5 (by rw [g6, hT]; rfl) gk
    rw [if_pos (by omega)] at hT
    have hG1 := hG (ct - 1) (by omega)
    have hG2 := hG (ct - 2) (by omega)
    have k181 : ∀ (t : Int) (L : List (Option Value)), t = (tlS G ct : Int) → X E M_MD_ends 1 0 0 Z 181 L [vI t, .ref mo] (h.set mo (oM mo w1 so tg us)) 0 0 := by
      intro t L ht
      refine xp_MD_6 d_MD_ends_181 pf_MD_ends_94 (by repeat (first | assumption | exact hs_self (by assumption) | exact hs_self (hs_ne (by omega) (by assumption)) | exact hs_self (hs_ne (by omega) (hs_ne (by omega) (by assumption))) | refine hs_ne (by omega) ?_)) ?_
      rw [List.set_set]
      exact k184 _ _ g5 ht (fun k a b => by rw [gU_ne _ _ b]; exact gk k a b)
    refine x_aload_n d_MD_ends_95 rfl rfl (by first | rfl | assumption) ?_
    refine x_get 5 3 d_MD_ends_96 gf_MD_16 (by repeat (first | assumption | exact hs_self (by assumption) | exact hs_self (hs_ne (by omega) (by assumption)) | exact hs_self (hs_ne (by omega) (hs_ne (by omega) (by assumption))) | refine hs_ne (by omega) ?_)) (by rfl) ?_
    refine x_aload_n d_MD_ends_99 rfl rfl (by first | rfl | assumption) ?_
    refine x_get 5 4 d_MD_ends_100 gf_MD_71 (by repeat (first | assumption | exact hs_self (by assumption) | exact hs_self (hs_ne (by omega) (by assumption)) | exact hs_self (hs_ne (by omega) (hs_ne (by omega) (by assumption))) | refine hs_ne (by omega) ?_)) (by rfl) ?_
    refine j_iconst d_MD_ends_103 ?_
    refine j_isub d_MD_ends_104 ?_
    refine j_iald d_MD_ends_105 (by repeat (first | assumption | exact hs_self (by assumption) | exact hs_self (hs_ne (by omega) (by assumption)) | exact hs_self (hs_ne (by omega) (hs_ne (by omega) (by assumption))) | refine hs_ne (by omega) ?_)) (by omega) (by omega) (by decide) ?_
    refine x_top (w := vI (G (ct - 2))) (by rw [g4, show ((ct : Int) - 2).toNat = ct - 2 by omega]) ?_
    refine x_istore_n d_MD_ends_106 rfl (Nat.le_of_ble_eq_true rfl) ?_
    refine x_aload_n d_MD_ends_107 rfl rfl (by first | rfl | assumption) ?_
    refine x_get 5 3 d_MD_ends_108 gf_MD_16 (by repeat (first | assumption | exact hs_self (by assumption) | exact hs_self (hs_ne (by omega) (by assumption)) | exact hs_self (hs_ne (by omega) (hs_ne (by omega) (by assumption))) | refine hs_ne (by omega) ?_)) (by rfl) ?_
    refine x_aload_n d_MD_ends_111 rfl rfl (by first | rfl | assumption) ?_
    refine x_get 5 4 d_MD_ends_112 gf_MD_71 (by repeat (first | assumption | exact hs_self (by assumption) | exact hs_self (hs_ne (by omega) (by assumption)) | exact hs_self (hs_ne (by omega) (hs_ne (by omega) (by assumption))) | refine hs_ne (by omega) ?_)) (by rfl) ?_
    refine j_iconst d_MD_ends_115 ?_
    refine j_isub d_MD_ends_116 ?_
    refine j_iald d_MD_ends_117 (by repeat (first | assumption | exact hs_self (by assumption) | exact hs_self (hs_ne (by omega) (by assumption)) | exact hs_self (hs_ne (by omega) (hs_ne (by omega) (by assumption))) | refine hs_ne (by omega) ?_)) (by omega) (by omega) (by decide) ?_
    refine x_top (w := vI (G (ct - 1))) (by rw [g4, show ((ct : Int) - 1).toNat = ct - 1 by omega]) ?_
    have k148 : ∀ x : Int, x = (if (G (ct - 2) = 67 ∧ G (ct - 1) = 82) ∨ (G (ct - 2) = 68 ∧ G (ct - 1) = 66) then 1 else 0) → X E M_MD_ends 1 0 0 Z 148 [some (.ref mo), some (vI (sgn G ct : Int)), some (vI (G (ct - 2))), some (vI (G (ct - 1))), none] [vI x] (h.set mo (oM mo w1 so tg us)) 0 0 := by
      intro x hx
      have k167 : ¬ (sgn G ct = 1 ∧ pmn (G (ct - 1))) → X E M_MD_ends 1 0 0 Z 167 [some (.ref mo), some (vI (sgn G ct : Int)), some (vI (G (ct - 2))), some (vI (G (ct - 1))), some (vI x)] [.ref mo] (h.set mo (oM mo w1 so tg us)) 0 0 := by
        intro hno
        rw [if_neg hno] at hT
        have xR : iR x := by rw [hx]; exact iteR
        refine x_iload_n d_MD_ends_167 rfl rfl ?_
        refine j_if_ne 180 d_MD_ends_168 (by decide) (by unfold iR; omega) (fun c168 => ?_) (fun c168 => ?_)
        · rw [if_neg (fun y => by have := y.1; omega)] at hT
          refine j_iconst d_MD_ends_180 ?_
          exact k181 _ _ (by rw [hT]; rfl)
        refine x_iload d_MD_ends_171 rfl ?_
        refine j_if_eq 180 d_MD_ends_173 (by decide) xR (fun c173 => ?_) (fun c173 => ?_)
        · rw [hx, ite10] at c173
          rw [if_neg (fun y => c173 y.2)] at hT
          refine j_iconst d_MD_ends_180 ?_
          exact k181 _ _ (by rw [hT]; rfl)
        · rw [hx, ite11] at c173
          rw [if_pos ⟨by omega, c173⟩] at hT
          refine j_iconst d_MD_ends_176 ?_
          refine x_goto 181 d_MD_ends_177 (by decide) ?_
          exact k181 _ _ (by rw [hT]; rfl)
      refine x_istore d_MD_ends_148 (Nat.le_of_ble_eq_true rfl) ?_
      refine x_aload_n d_MD_ends_150 rfl rfl (by first | rfl | assumption) ?_
      refine x_iload_n d_MD_ends_151 rfl rfl ?_
      refine j_iconst d_MD_ends_152 ?_
      refine j_icmp_ne 167 d_MD_ends_153 (by decide) (by unfold iR; omega) (by unfold iR; omega) (fun c153 => ?_) (fun c153 => ?_)
      · exact k167 (fun y => by have := y.1; omega)
      refine x_iload_n d_MD_ends_156 rfl rfl ?_
      refine x_callS1 (M' := M_MD_plusMinus) d_MD_ends_157 lk_MD_61 (c_plusMinus E _ (G (ct - 1)) (by unfold iR; omega)) mt_MD_plusMinus st_MD_plusMinus (by decide) rfl (Nat.le_of_ble_eq_true rfl) (by decide) (by decide) ?_
      refine j_if_eq 167 d_MD_ends_160 (by decide) iteR (fun c160 => ?_) (fun c160 => ?_)
      · rw [ite10] at c160
        exact k167 (fun y => c160 y.2)
      · rw [ite11] at c160
        rw [if_pos ⟨by omega, c160⟩] at hT
        refine j_iconst d_MD_ends_163 ?_
        refine x_goto 181 d_MD_ends_164 (by decide) ?_
        exact k181 _ _ (by rw [hT]; rfl)
    clear hT hsy k181
    refine x_istore_n d_MD_ends_118 rfl (Nat.le_of_ble_eq_true rfl) ?_
    refine x_iload_n d_MD_ends_119 rfl rfl ?_
    refine j_bipush d_MD_ends_120 (by decide) ?_
    refine j_icmp_ne 131 d_MD_ends_122 (by decide) (by unfold iR; omega) (by unfold iR; omega) (fun c122 => ?_) (fun c122 => ?_)
    · refine x_iload_n d_MD_ends_131 rfl rfl ?_
      refine j_bipush d_MD_ends_132 (by decide) ?_
      refine j_icmp_ne 147 d_MD_ends_134 (by decide) (by unfold iR; omega) (by unfold iR; omega) (fun c134 => ?_) (fun c134 => ?_)
      · refine j_iconst d_MD_ends_147 ?_
        exact k148 _ (by split <;> omega)
      · refine x_iload_n d_MD_ends_137 rfl rfl ?_
        refine j_bipush d_MD_ends_138 (by decide) ?_
        refine j_icmp_ne 147 d_MD_ends_140 (by decide) (by unfold iR; omega) (by unfold iR; omega) (fun c140 => ?_) (fun c140 => ?_)
        · refine j_iconst d_MD_ends_147 ?_
          exact k148 _ (by split <;> omega)
        · refine j_iconst d_MD_ends_143 ?_
          refine x_goto 148 d_MD_ends_144 (by decide) ?_
          exact k148 _ (by split <;> omega)
    · refine x_iload_n d_MD_ends_125 rfl rfl ?_
      refine j_bipush d_MD_ends_126 (by decide) ?_
      refine j_icmp_eq 143 d_MD_ends_128 (by decide) (by unfold iR; omega) (by unfold iR; omega) (fun c128 => ?_) (fun c128 => ?_)
      · refine j_iconst d_MD_ends_143 ?_
        refine x_goto 148 d_MD_ends_144 (by decide) ?_
        exact k148 _ (by split <;> omega)
      · refine x_iload_n d_MD_ends_131 rfl rfl ?_
        refine j_bipush d_MD_ends_132 (by decide) ?_
        refine j_icmp_ne 147 d_MD_ends_134 (by decide) (by unfold iR; omega) (by unfold iR; omega) (fun c134 => ?_) (fun c134 => ?_)
        · refine j_iconst d_MD_ends_147 ?_
          exact k148 _ (by split <;> omega)
        · refine x_iload_n d_MD_ends_137 rfl rfl ?_
          refine j_bipush d_MD_ends_138 (by decide) ?_
          refine j_icmp_ne 147 d_MD_ends_140 (by decide) (by unfold iR; omega) (by unfold iR; omega) (fun c140 => ?_) (fun c140 => ?_)
          · refine j_iconst d_MD_ends_147 ?_
            exact k148 _ (by split <;> omega)
          · refine j_iconst d_MD_ends_143 ?_
            refine x_goto 148 d_MD_ends_144 (by decide) ?_
            exact k148 _ (by split <;> omega)
  have k32 : ∀ x : Int, x = (hd0 G ct : Int) → X E M_MD_ends 1 0 0 Z 32 [some (.ref mo), some (vI (sgn G ct : Int)), none, none, none] [vI x, .ref mo] h 0 0 := by
    intro x hx
    subst hx
    refine xp_MD_5 d_MD_ends_32 pf_MD_ends_91 (by repeat (first | assumption | exact hs_self (by assumption) | exact hs_self (hs_ne (by omega) (by assumption)) | exact hs_self (hs_ne (by omega) (hs_ne (by omega) (by assumption))) | refine hs_ne (by omega) ?_)) ?_
    obtain ⟨w, hw⟩ : ∃ w, w = gU v 5 (hd0 G ct : Int) := ⟨_, rfl⟩
    have g4 : w 4 = ct := by rw [hw, gU_ne _ _ (by decide), hv4]
    have g5 : w 5 = (hd0 G ct : Int) := by rw [hw, gU_self]
    have gk : ∀ k, k ≠ 5 → w k = v k := fun k a => by rw [hw, gU_ne _ _ a]
    rw [← hw]
    clear hw
    refine x_aload_n d_MD_ends_35 rfl rfl (by first | rfl | assumption) ?_
    refine j_bipush d_MD_ends_36 (by decide) ?_
    refine j_bipush d_MD_ends_38 (by decide) ?_
    refine x_callV1 (M' := M_MD_howMany) d_MD_ends_40 lk_MD_103 (c_howMany 36 36 (hs_self hm) g4 hct.2 (hs_ne (by omega) hsy) hG (by decide) (by decide)) mt_MD_howMany im_MD_howMany se_MD_howMany (by repeat (first | assumption | exact hs_self (by assumption) | exact hs_self (hs_ne (by omega) (by assumption)) | exact hs_self (hs_ne (by omega) (hs_ne (by omega) (by assumption))) | refine hs_ne (by omega) ?_)) rfl (by decide) rfl (Nat.le_of_ble_eq_true rfl) (by decide) (by decide) ?_
    refine x_top (w := vI (dol G ct : Int)) (by rw [dol_2]) ?_
    refine j_iconst d_MD_ends_43 ?_
    refine j_icmp_ne 82 d_MD_ends_44 (by decide) (by unfold iR; omega) (by unfold iR; omega) (fun c44 => ?_) (fun c44 => ?_)
    · exact k82 w (by rw [g5]; unfold hdS; rw [if_neg (fun y => by have := y.2.2; omega)]) gk
    refine x_aload_n d_MD_ends_47 rfl rfl (by first | rfl | assumption) ?_
    refine x_get 5 5 d_MD_ends_48 gf_MD_91 (by repeat (first | assumption | exact hs_self (by assumption) | exact hs_self (hs_ne (by omega) (by assumption)) | exact hs_self (hs_ne (by omega) (hs_ne (by omega) (by assumption))) | refine hs_ne (by omega) ?_)) (by rfl) ?_
    refine x_aload_n d_MD_ends_51 rfl rfl (by first | rfl | assumption) ?_
    refine x_get 5 4 d_MD_ends_52 gf_MD_71 (by repeat (first | assumption | exact hs_self (by assumption) | exact hs_self (hs_ne (by omega) (by assumption)) | exact hs_self (hs_ne (by omega) (hs_ne (by omega) (by assumption))) | refine hs_ne (by omega) ?_)) (by rfl) ?_
    refine j_icmp_ge 82 d_MD_ends_55 (by decide) (by unfold iR; omega) (by unfold iR; omega) (fun c55 => ?_) (fun c55 => ?_)
    · exact k82 w (by rw [g5]; unfold hdS; rw [if_neg (fun y => by have := y.1; omega)]) gk
    have hGh := hG (hd0 G ct) (by omega)
    refine x_aload_n d_MD_ends_58 rfl rfl (by first | rfl | assumption) ?_
    refine x_get 5 3 d_MD_ends_59 gf_MD_16 (by repeat (first | assumption | exact hs_self (by assumption) | exact hs_self (hs_ne (by omega) (by assumption)) | exact hs_self (hs_ne (by omega) (hs_ne (by omega) (by assumption))) | refine hs_ne (by omega) ?_)) (by rfl) ?_
    refine x_aload_n d_MD_ends_62 rfl rfl (by first | rfl | assumption) ?_
    refine x_get 5 5 d_MD_ends_63 gf_MD_91 (by repeat (first | assumption | exact hs_self (by assumption) | exact hs_self (hs_ne (by omega) (by assumption)) | exact hs_self (hs_ne (by omega) (hs_ne (by omega) (by assumption))) | refine hs_ne (by omega) ?_)) (by rfl) ?_
    refine j_iald d_MD_ends_66 (by repeat (first | assumption | exact hs_self (by assumption) | exact hs_self (hs_ne (by omega) (by assumption)) | exact hs_self (hs_ne (by omega) (hs_ne (by omega) (by assumption))) | refine hs_ne (by omega) ?_)) (by omega) (by omega) (by decide) ?_
    refine x_top (w := vI (G (hd0 G ct))) (by rw [g5]; rfl) ?_
    refine j_bipush d_MD_ends_67 (by decide) ?_
    refine j_icmp_ne 82 d_MD_ends_69 (by decide) (by unfold iR; omega) (by unfold iR; omega) (fun c69 => ?_) (fun c69 => ?_)
    · exact k82 w (by rw [g5]; unfold hdS; rw [if_neg (fun y => c69 y.2.1)]) gk
    · refine x_aload_n d_MD_ends_72 rfl rfl (by first | rfl | assumption) ?_
      refine x_dup d_MD_ends_73 rfl ?_
      refine x_get 5 5 d_MD_ends_74 gf_MD_91 (by repeat (first | assumption | exact hs_self (by assumption) | exact hs_self (hs_ne (by omega) (by assumption)) | exact hs_self (hs_ne (by omega) (hs_ne (by omega) (by assumption))) | refine hs_ne (by omega) ?_)) (by rfl) ?_
      refine j_iconst d_MD_ends_77 ?_
      refine j_iadd d_MD_ends_78 ?_
      refine xp_MD_5 d_MD_ends_79 pf_MD_ends_91 (by repeat (first | assumption | exact hs_self (by assumption) | exact hs_self (hs_ne (by omega) (by assumption)) | exact hs_self (hs_ne (by omega) (hs_ne (by omega) (by assumption))) | refine hs_ne (by omega) ?_)) ?_
      rw [List.set_set]
      exact k82 _ (by show w 5 + 1 = _; unfold hdS; rw [if_pos ⟨by omega, c69, by omega⟩]; omega) (fun k a => by rw [gU_ne _ _ a]; exact gk k a)
  have hG0 := hG 0 (by omega)
  refine x_aload_n d_MD_ends_0 rfl rfl (by first | rfl | assumption) ?_
  refine j_bipush d_MD_ends_1 (by decide) ?_
  refine j_bipush d_MD_ends_3 (by decide) ?_
  refine x_callV1 (M' := M_MD_howMany) d_MD_ends_5 lk_MD_103 (c_howMany 43 45 hm hv4 hct.2 hsy hG (by decide) (by decide)) mt_MD_howMany im_MD_howMany se_MD_howMany (by repeat (first | assumption | exact hs_self (by assumption) | exact hs_self (hs_ne (by omega) (by assumption)) | exact hs_self (hs_ne (by omega) (hs_ne (by omega) (by assumption))) | refine hs_ne (by omega) ?_)) rfl (by decide) rfl (Nat.le_of_ble_eq_true rfl) (by decide) (by decide) ?_
  refine x_top (w := vI (sgn G ct : Int)) rfl ?_
  refine x_istore_n d_MD_ends_8 rfl (Nat.le_of_ble_eq_true rfl) ?_
  refine x_aload_n d_MD_ends_9 rfl rfl (by first | rfl | assumption) ?_
  refine x_iload_n d_MD_ends_10 rfl rfl ?_
  refine j_iconst d_MD_ends_11 ?_
  refine j_icmp_ne 31 d_MD_ends_12 (by decide) (by unfold iR; omega) (by unfold iR; omega) (fun c12 => ?_) (fun c12 => ?_)
  · refine j_iconst d_MD_ends_31 ?_
    exact k32 _ (by unfold hd0; rw [if_neg (fun x => by have := x.1; omega)]; rfl)
  refine x_aload_n d_MD_ends_15 rfl rfl (by first | rfl | assumption) ?_
  refine x_get 5 3 d_MD_ends_16 gf_MD_16 (by repeat (first | assumption | exact hs_self (by assumption) | exact hs_self (hs_ne (by omega) (by assumption)) | exact hs_self (hs_ne (by omega) (hs_ne (by omega) (by assumption))) | refine hs_ne (by omega) ?_)) (by rfl) ?_
  refine j_iconst d_MD_ends_19 ?_
  refine j_iald d_MD_ends_20 (by repeat (first | assumption | exact hs_self (by assumption) | exact hs_self (hs_ne (by omega) (by assumption)) | exact hs_self (hs_ne (by omega) (hs_ne (by omega) (by assumption))) | refine hs_ne (by omega) ?_)) (by omega) (by omega) (by decide) ?_
  refine x_top (w := vI (G 0)) rfl ?_
  refine x_callS1 (M' := M_MD_plusMinus) d_MD_ends_21 lk_MD_61 (c_plusMinus E _ (G 0) (by unfold iR; omega)) mt_MD_plusMinus st_MD_plusMinus (by decide) rfl (Nat.le_of_ble_eq_true rfl) (by decide) (by decide) ?_
  refine j_if_eq 31 d_MD_ends_24 (by decide) iteR (fun c24 => ?_) (fun c24 => ?_)
  · rw [ite10] at c24
    refine j_iconst d_MD_ends_31 ?_
    exact k32 _ (by unfold hd0; rw [if_neg (fun x => c24 x.2)]; rfl)
  · rw [ite11] at c24
    refine j_iconst d_MD_ends_27 ?_
    refine x_goto 32 d_MD_ends_28 (by decide) ?_
    exact k32 _ (by unfold hd0; rw [if_pos ⟨by omega, c24⟩]; rfl)
end MPE
