/-! numeric pictures, and the pieces of edited ones -/
theorem nRes_2 {G : Nat → Int} {ct r i dg sc pt : Nat} (h : nL G r i dg sc pt = nL G (ct - if G 0 = 83 then 1 else 0) (if G 0 = 83 then 1 else 0) 0 0 0) (hp : 2 ≤ pt) : nRes G ct = none := by
  cases hR : nL G r i dg sc pt with
  | none => exact nRes_n (by rw [← h, hR])
  | some t =>
    obtain ⟨a, b, c⟩ := t
    have := nL_pt hR
    rw [nRes_s (by rw [← h, hR]), if_neg (by omega)]
section PCN
variable {E : xEnv} {h : xH} {p q : Nat} {bs be fi fl : Int} {G : Nat → Int}
set_option maxHeartbeats 1000000 in
theorem c_within {ct sg ed : Int} {dg sc : Nat} (hp : h[p]? = some (oP q ct dg sc sg ed bs be fi fl)) (h1 : dg ≤ 40) (h2 : sc ≤ 40) : xCt E 0 0 0 M_PC_isWithinLimits [.ref p] h (rV (vI (if lim dg sc then 1 else 0)) h) := by
  refine x_met rfl rfl (Nat.le_of_ble_eq_true rfl) ?_
  refine x_aload_n d_PC_isWithinLimits_0 rfl rfl (by first | rfl | assumption) ?_
  refine x_get 2 2 d_PC_isWithinLimits_1 gf_PC_41 (by repeat (first | assumption | exact hs_self (by assumption) | exact hs_self (hs_ne (by omega) (by assumption)) | exact hs_self (hs_ne (by omega) (hs_ne (by omega) (by assumption))) | refine hs_ne (by omega) ?_)) (by rfl) ?_
  refine j_iconst d_PC_isWithinLimits_4 ?_
  refine j_icmp_lt 29 d_PC_isWithinLimits_5 (by decide) (by unfold iR; omega) (by unfold iR; omega) (fun c5 => ?_) (fun c5 => ?_)
  · refine j_iconst d_PC_isWithinLimits_29 ?_
    refine j_zreturn d_PC_isWithinLimits_30 rfl (by omega) ?_
    exact rV_i (by split <;> omega) rfl
  · refine x_aload_n d_PC_isWithinLimits_8 rfl rfl (by first | rfl | assumption) ?_
    refine x_get 2 2 d_PC_isWithinLimits_9 gf_PC_41 (by repeat (first | assumption | exact hs_self (by assumption) | exact hs_self (hs_ne (by omega) (by assumption)) | exact hs_self (hs_ne (by omega) (hs_ne (by omega) (by assumption))) | refine hs_ne (by omega) ?_)) (by rfl) ?_
    refine j_bipush d_PC_isWithinLimits_12 (by decide) ?_
    refine j_icmp_gt 29 d_PC_isWithinLimits_14 (by decide) (by unfold iR; omega) (by unfold iR; omega) (fun c14 => ?_) (fun c14 => ?_)
    · refine j_iconst d_PC_isWithinLimits_29 ?_
      refine j_zreturn d_PC_isWithinLimits_30 rfl (by omega) ?_
      exact rV_i (by split <;> omega) rfl
    · refine x_aload_n d_PC_isWithinLimits_17 rfl rfl (by first | rfl | assumption) ?_
      refine x_get 2 3 d_PC_isWithinLimits_18 gf_PC_71 (by repeat (first | assumption | exact hs_self (by assumption) | exact hs_self (hs_ne (by omega) (by assumption)) | exact hs_self (hs_ne (by omega) (hs_ne (by omega) (by assumption))) | refine hs_ne (by omega) ?_)) (by rfl) ?_
      refine j_iconst d_PC_isWithinLimits_21 ?_
      refine j_icmp_gt 29 d_PC_isWithinLimits_22 (by decide) (by unfold iR; omega) (by unfold iR; omega) (fun c22 => ?_) (fun c22 => ?_)
      · refine j_iconst d_PC_isWithinLimits_29 ?_
        refine j_zreturn d_PC_isWithinLimits_30 rfl (by omega) ?_
        exact rV_i (by split <;> omega) rfl
      · refine j_iconst d_PC_isWithinLimits_25 ?_
        refine x_goto 30 d_PC_isWithinLimits_26 (by decide) ?_
        refine j_zreturn d_PC_isWithinLimits_30 rfl (by omega) ?_
        exact rV_i (by split <;> omega) rfl
set_option maxHeartbeats 1000000 in
theorem c_readNumeric {ct : Nat} {dg0 sc0 sg0 ed0 : Int} (hp : h[p]? = some (oP q ct dg0 sc0 sg0 ed0 bs be fi fl)) (hq : h[q]? = some (aC 18 G)) (hpq : p ≠ q) (hct : 1 ≤ ct ∧ ct ≤ 18) (hG : ∀ j, j < 18 → 0 ≤ G j ∧ G j ≤ 126) : xCt E 1 0 0 M_PC_readNumeric [.ref p] h (rQ (fun w h' => ∃ (dg sc : Nat) (sg : Int), h' = h.set p (oP q ct dg sc sg 0 bs be fi fl) ∧ ((w = vI 0 ∧ nRes G ct = none) ∨ (w = vI 1 ∧ nRes G ct = some (dg, sc) ∧ sg = if G 0 = 83 then 1 else 0)))) := by
  refine x_met rfl rfl (Nat.le_of_ble_eq_true rfl) ?_
  obtain ⟨Z, hZ⟩ : ∃ Z, Z = (xZ E 0 0 (rQ (fun w h' => ∃ (dg sc : Nat) (sg : Int), h' = h.set p (oP q ct dg sc sg 0 bs be fi fl) ∧ ((w = vI 0 ∧ nRes G ct = none) ∨ (w = vI 1 ∧ nRes G ct = some (dg, sc) ∧ sg = if G 0 = 83 then 1 else 0))))) := ⟨_, rfl⟩
  rw [← hZ]
  obtain ⟨R, hR⟩ : ∃ R, R = nL G (ct - if G 0 = 83 then 1 else 0) (if G 0 = 83 then 1 else 0) 0 0 0 := ⟨_, rfl⟩
  have fin : ∀ sg : Int, sg = (if G 0 = 83 then 1 else 0) → (sg = 0 ∨ sg = 1) → X E M_PC_readNumeric 1 0 0 Z 22 [some (.ref p), none, none] [vI sg, .ref p] (h.set p (oP q ct dg0 sc0 sg0 0 bs be fi fl)) 0 0 := by
    intro sg hsg hs01
    have loop : ∀ (r i dg sc pt : Nat) (b z y1 y2 : Int), i + r = ct → z = i → y1 = dg → y2 = sc → b = pt → pt ≤ 1 → dg ≤ i → sc ≤ i → nL G r i dg sc pt = R → X E M_PC_readNumeric 1 0 0 Z 50 [some (.ref p), some (vI b), some (vI z)] [] (h.set p (oP q ct y1 y2 sg 0 bs be fi fl)) 0 0 := by
      intro r
      induction r with
      | zero =>
        intro i dg sc pt b z y1 y2 hi hz hy1 hy2 hb hpt h1 h2 hn
        subst hy1; subst hy2
        refine x_iload_n d_PC_readNumeric_50 rfl rfl ?_
        refine x_aload_n d_PC_readNumeric_51 rfl rfl (by first | rfl | assumption) ?_
        refine x_get 2 1 d_PC_readNumeric_52 gf_PC_37 (by repeat (first | assumption | exact hs_self (by assumption) | exact hs_self (hs_ne (by omega) (by assumption)) | exact hs_self (hs_ne (by omega) (hs_ne (by omega) (by assumption))) | refine hs_ne (by omega) ?_)) (by rfl) ?_
        refine j_icmp_ge 128 d_PC_readNumeric_55 (by decide) (by unfold iR; omega) (by unfold iR; omega) (fun c55 => ?_) (fun c55 => ?_)
        · have hn : some (dg, sc, pt) = R := hn
          rw [hR] at hn
          have e := nRes_s hn.symm
          refine x_aload_n d_PC_readNumeric_128 rfl rfl (by first | rfl | assumption) ?_
          refine x_callV1 (M' := M_PC_isWithinLimits) d_PC_readNumeric_129 lk_PC_74 (c_within (hs_self hp) (by omega) (by omega)) mt_PC_isWithinLimits im_PC_isWithinLimits se_PC_isWithinLimits (by repeat (first | assumption | exact hs_self (by assumption) | exact hs_self (hs_ne (by omega) (by assumption)) | exact hs_self (hs_ne (by omega) (hs_ne (by omega) (by assumption))) | refine hs_ne (by omega) ?_)) rfl (by decide) rfl (Nat.le_of_ble_eq_true rfl) (by decide) (by decide) ?_
          rw [hZ]
          refine j_zreturn d_PC_readNumeric_132 rfl ite01' ?_
          by_cases hl : lim dg sc
          · rw [if_pos ⟨hpt, hl⟩] at e
            rw [if_pos hl]
            exact ⟨_, rfl, dg, sc, sg, rfl, Or.inr ⟨rfl, e, hsg⟩⟩
          · rw [if_neg (fun x => hl x.2)] at e
            rw [if_neg hl]
            exact ⟨_, rfl, dg, sc, sg, rfl, Or.inl ⟨rfl, e⟩⟩
        · exfalso; omega
      | succ r ih =>
        intro i dg sc pt b z y1 y2 hi hz hy1 hy2 hb hpt h1 h2 hn
        subst hz
        have hGi := hG i (by omega)
        refine x_iload_n d_PC_readNumeric_50 rfl rfl ?_
        refine x_aload_n d_PC_readNumeric_51 rfl rfl (by first | rfl | assumption) ?_
        refine x_get 2 1 d_PC_readNumeric_52 gf_PC_37 (by repeat (first | assumption | exact hs_self (by assumption) | exact hs_self (hs_ne (by omega) (by assumption)) | exact hs_self (hs_ne (by omega) (hs_ne (by omega) (by assumption))) | refine hs_ne (by omega) ?_)) (by rfl) ?_
        refine j_icmp_ge 128 d_PC_readNumeric_55 (by decide) (by unfold iR; omega) (by unfold iR; omega) (fun c55 => ?_) (fun c55 => ?_)
        · exfalso; omega
        refine x_aload_n d_PC_readNumeric_58 rfl rfl (by first | rfl | assumption) ?_
        refine x_get 2 0 d_PC_readNumeric_59 gf_PC_9 (by repeat (first | assumption | exact hs_self (by assumption) | exact hs_self (hs_ne (by omega) (by assumption)) | exact hs_self (hs_ne (by omega) (hs_ne (by omega) (by assumption))) | refine hs_ne (by omega) ?_)) (by rfl) ?_
        refine x_iload_n d_PC_readNumeric_62 rfl rfl ?_
        refine j_cald d_PC_readNumeric_63 (by repeat (first | assumption | exact hs_self (by assumption) | exact hs_self (hs_ne (by omega) (by assumption)) | exact hs_self (hs_ne (by omega) (hs_ne (by omega) (by assumption))) | refine hs_ne (by omega) ?_)) (by omega) (by omega) (by decide) ?_
        refine x_top (w := vI (G i)) rfl ?_
        refine j_bipush d_PC_readNumeric_64 (by decide) ?_
        refine j_icmp_ne 100 d_PC_readNumeric_66 (by decide) (by unfold iR; omega) (by unfold iR; omega) (fun c66 => ?_) (fun c66 => ?_)
        · refine x_aload_n d_PC_readNumeric_100 rfl rfl (by first | rfl | assumption) ?_
          refine x_get 2 0 d_PC_readNumeric_101 gf_PC_9 (by repeat (first | assumption | exact hs_self (by assumption) | exact hs_self (hs_ne (by omega) (by assumption)) | exact hs_self (hs_ne (by omega) (hs_ne (by omega) (by assumption))) | refine hs_ne (by omega) ?_)) (by rfl) ?_
          refine x_iload_n d_PC_readNumeric_104 rfl rfl ?_
          refine j_cald d_PC_readNumeric_105 (by repeat (first | assumption | exact hs_self (by assumption) | exact hs_self (hs_ne (by omega) (by assumption)) | exact hs_self (hs_ne (by omega) (hs_ne (by omega) (by assumption))) | refine hs_ne (by omega) ?_)) (by omega) (by omega) (by decide) ?_
          refine x_top (w := vI (G i)) rfl ?_
          have bad : nRes G ct = none → X E M_PC_readNumeric 1 0 0 Z 120 [some (.ref p), some (vI b), some (vI (i : Int))] [] (h.set p (oP q ct y1 y2 sg 0 bs be fi fl)) 0 0 := by
            intro hno
            rw [hZ]
            subst hy1; subst hy2
            refine j_iconst d_PC_readNumeric_120 ?_
            refine j_zreturn d_PC_readNumeric_121 rfl (by omega) ?_
            exact ⟨_, rfl, dg, sc, sg, rfl, Or.inl ⟨rfl, hno⟩⟩
          refine j_bipush d_PC_readNumeric_106 (by decide) ?_
          refine j_icmp_ne 120 d_PC_readNumeric_108 (by decide) (by unfold iR; omega) (by unfold iR; omega) (fun c108 => ?_) (fun c108 => ?_)
          · rw [nL_n c66 c108, hR] at hn
            exact bad (nRes_n hn.symm)
          · rw [nL_V c108] at hn
            refine x_iload_n d_PC_readNumeric_111 rfl rfl ?_
            refine j_if_ne 120 d_PC_readNumeric_112 (by decide) (by unfold iR; omega) (fun c112 => ?_) (fun c112 => ?_)
            · exact bad (nRes_2 (by rw [hn, hR]) (by omega))
            · refine j_iconst d_PC_readNumeric_115 ?_
              refine x_istore_n d_PC_readNumeric_116 rfl (Nat.le_of_ble_eq_true rfl) ?_
              refine x_goto 122 d_PC_readNumeric_117 (by decide) ?_
              refine j_iinc d_PC_readNumeric_122 rfl ?_
              refine x_goto 50 d_PC_readNumeric_125 (by decide) ?_
              exact ih (i + 1) dg sc 1 _ _ _ _ (by omega) (by omega) hy1 hy2 (by omega) (by omega) (by omega) (by omega) (by rw [show pt + 1 = 1 by omega] at hn; exact hn)
        · rw [nL_9 c66] at hn
          refine x_aload_n d_PC_readNumeric_69 rfl rfl (by first | rfl | assumption) ?_
          refine x_dup d_PC_readNumeric_70 rfl ?_
          refine x_get 2 2 d_PC_readNumeric_71 gf_PC_41 (by repeat (first | assumption | exact hs_self (by assumption) | exact hs_self (hs_ne (by omega) (by assumption)) | exact hs_self (hs_ne (by omega) (hs_ne (by omega) (by assumption))) | refine hs_ne (by omega) ?_)) (by rfl) ?_
          refine j_iconst d_PC_readNumeric_74 ?_
          refine j_iadd d_PC_readNumeric_75 ?_
          refine xp_PC_2 d_PC_readNumeric_76 pf_PC_readNumeric_41 (by repeat (first | assumption | exact hs_self (by assumption) | exact hs_self (hs_ne (by omega) (by assumption)) | exact hs_self (hs_ne (by omega) (hs_ne (by omega) (by assumption))) | refine hs_ne (by omega) ?_)) ?_
          rw [List.set_set]
          refine x_aload_n d_PC_readNumeric_79 rfl rfl (by first | rfl | assumption) ?_
          refine x_dup d_PC_readNumeric_80 rfl ?_
          refine x_get 2 3 d_PC_readNumeric_81 gf_PC_71 (by repeat (first | assumption | exact hs_self (by assumption) | exact hs_self (hs_ne (by omega) (by assumption)) | exact hs_self (hs_ne (by omega) (hs_ne (by omega) (by assumption))) | refine hs_ne (by omega) ?_)) (by rfl) ?_
          refine x_iload_n d_PC_readNumeric_84 rfl rfl ?_
          refine j_if_eq 92 d_PC_readNumeric_85 (by decide) (by unfold iR; omega) (fun c85 => ?_) (fun c85 => ?_)
          · rw [if_pos (show pt = 0 by omega)] at hn
            refine j_iconst d_PC_readNumeric_92 ?_
            refine j_iadd d_PC_readNumeric_93 ?_
            refine xp_PC_3 d_PC_readNumeric_94 pf_PC_readNumeric_71 (by repeat (first | assumption | exact hs_self (by assumption) | exact hs_self (hs_ne (by omega) (by assumption)) | exact hs_self (hs_ne (by omega) (hs_ne (by omega) (by assumption))) | refine hs_ne (by omega) ?_)) ?_
            refine x_goto 122 d_PC_readNumeric_97 (by decide) ?_
            refine j_iinc d_PC_readNumeric_122 rfl ?_
            refine x_goto 50 d_PC_readNumeric_125 (by decide) ?_
            rw [List.set_set]
            exact ih (i + 1) (dg + 1) sc pt _ _ _ _ (by omega) (by omega) (by omega) (by omega) hb hpt (by omega) (by omega) hn
          · rw [if_neg (show ¬ pt = 0 by omega)] at hn
            refine j_iconst d_PC_readNumeric_88 ?_
            refine x_goto 93 d_PC_readNumeric_89 (by decide) ?_
            refine j_iadd d_PC_readNumeric_93 ?_
            refine xp_PC_3 d_PC_readNumeric_94 pf_PC_readNumeric_71 (by repeat (first | assumption | exact hs_self (by assumption) | exact hs_self (hs_ne (by omega) (by assumption)) | exact hs_self (hs_ne (by omega) (hs_ne (by omega) (by assumption))) | refine hs_ne (by omega) ?_)) ?_
            refine x_goto 122 d_PC_readNumeric_97 (by decide) ?_
            refine j_iinc d_PC_readNumeric_122 rfl ?_
            refine x_goto 50 d_PC_readNumeric_125 (by decide) ?_
            rw [List.set_set]
            exact ih (i + 1) (dg + 1) (sc + 1) pt _ _ _ _ (by omega) (by omega) (by omega) (by omega) hb hpt (by omega) (by omega) hn
    refine xp_PC_4 d_PC_readNumeric_22 pf_PC_readNumeric_34 (by repeat (first | assumption | exact hs_self (by assumption) | exact hs_self (hs_ne (by omega) (by assumption)) | exact hs_self (hs_ne (by omega) (hs_ne (by omega) (by assumption))) | refine hs_ne (by omega) ?_)) (by omega) ?_
    rw [List.set_set]
    refine x_aload_n d_PC_readNumeric_25 rfl rfl (by first | rfl | assumption) ?_
    refine j_iconst d_PC_readNumeric_26 ?_
    refine xp_PC_2 d_PC_readNumeric_27 pf_PC_readNumeric_41 (by repeat (first | assumption | exact hs_self (by assumption) | exact hs_self (hs_ne (by omega) (by assumption)) | exact hs_self (hs_ne (by omega) (hs_ne (by omega) (by assumption))) | refine hs_ne (by omega) ?_)) ?_
    rw [List.set_set]
    refine x_aload_n d_PC_readNumeric_30 rfl rfl (by first | rfl | assumption) ?_
    refine j_iconst d_PC_readNumeric_31 ?_
    refine xp_PC_3 d_PC_readNumeric_32 pf_PC_readNumeric_71 (by repeat (first | assumption | exact hs_self (by assumption) | exact hs_self (hs_ne (by omega) (by assumption)) | exact hs_self (hs_ne (by omega) (hs_ne (by omega) (by assumption))) | refine hs_ne (by omega) ?_)) ?_
    rw [List.set_set]
    refine j_iconst d_PC_readNumeric_35 ?_
    refine x_istore_n d_PC_readNumeric_36 rfl (Nat.le_of_ble_eq_true rfl) ?_
    refine x_aload_n d_PC_readNumeric_37 rfl rfl (by first | rfl | assumption) ?_
    refine x_get 2 4 d_PC_readNumeric_38 gf_PC_34 (by repeat (first | assumption | exact hs_self (by assumption) | exact hs_self (hs_ne (by omega) (by assumption)) | exact hs_self (hs_ne (by omega) (hs_ne (by omega) (by assumption))) | refine hs_ne (by omega) ?_)) (by rfl) ?_
    refine j_if_eq 48 d_PC_readNumeric_41 (by decide) (by unfold iR; omega) (fun c41 => ?_) (fun c41 => ?_)
    · refine j_iconst d_PC_readNumeric_48 ?_
      refine x_istore_n d_PC_readNumeric_49 rfl (Nat.le_of_ble_eq_true rfl) ?_
      refine loop ct 0 0 0 0 _ _ _ _ (by omega) rfl rfl rfl rfl (by omega) (by omega) (by omega) ?_
      have h0 : ¬ G 0 = 83 := by intro x; rw [if_pos x] at hsg; omega
      rw [hR, if_neg h0]; rfl
    · refine j_iconst d_PC_readNumeric_44 ?_
      refine x_goto 49 d_PC_readNumeric_45 (by decide) ?_
      refine x_istore_n d_PC_readNumeric_49 rfl (Nat.le_of_ble_eq_true rfl) ?_
      refine loop (ct - 1) 1 0 0 0 _ _ _ _ (by omega) rfl rfl rfl rfl (by omega) (by omega) (by omega) ?_
      have h0 : G 0 = 83 := by
        by_cases x : G 0 = 83
        · exact x
        · rw [if_neg x] at hsg; omega
      rw [hR, if_pos h0]
  have hG0 := hG 0 (by omega)
  refine x_aload_n d_PC_readNumeric_0 rfl rfl (by first | rfl | assumption) ?_
  refine j_iconst d_PC_readNumeric_1 ?_
  refine xp_PC_5 d_PC_readNumeric_2 pf_PC_readNumeric_30 (by repeat (first | assumption | exact hs_self (by assumption) | exact hs_self (hs_ne (by omega) (by assumption)) | exact hs_self (hs_ne (by omega) (hs_ne (by omega) (by assumption))) | refine hs_ne (by omega) ?_)) (by omega) ?_
  refine x_aload_n d_PC_readNumeric_5 rfl rfl (by first | rfl | assumption) ?_
  refine x_aload_n d_PC_readNumeric_6 rfl rfl (by first | rfl | assumption) ?_
  refine x_get 2 0 d_PC_readNumeric_7 gf_PC_9 (by repeat (first | assumption | exact hs_self (by assumption) | exact hs_self (hs_ne (by omega) (by assumption)) | exact hs_self (hs_ne (by omega) (hs_ne (by omega) (by assumption))) | refine hs_ne (by omega) ?_)) (by rfl) ?_
  refine j_iconst d_PC_readNumeric_10 ?_
  refine j_cald d_PC_readNumeric_11 (by repeat (first | assumption | exact hs_self (by assumption) | exact hs_self (hs_ne (by omega) (by assumption)) | exact hs_self (hs_ne (by omega) (hs_ne (by omega) (by assumption))) | refine hs_ne (by omega) ?_)) (by omega) (by omega) (by decide) ?_
  refine x_top (w := vI (G 0)) rfl ?_
  refine j_bipush d_PC_readNumeric_12 (by decide) ?_
  refine j_icmp_ne 21 d_PC_readNumeric_14 (by decide) (by unfold iR; omega) (by unfold iR; omega) (fun c14 => ?_) (fun c14 => ?_)
  · refine j_iconst d_PC_readNumeric_21 ?_
    exact fin _ (by rw [if_neg c14]) (Or.inl rfl)
  · refine j_iconst d_PC_readNumeric_17 ?_
    refine x_goto 22 d_PC_readNumeric_18 (by decide) ?_
    exact fin _ (by rw [if_pos c14]) (Or.inr rfl)
set_option maxHeartbeats 1000000 in
theorem c_countOf {ct : Nat} {dg sc sg ed : Int} (c : Int) (hp : h[p]? = some (oP q ct dg sc sg ed bs be fi fl)) (hq : h[q]? = some (aC 18 G)) (hct : ct ≤ 18) (hG : ∀ j, j < 18 → 0 ≤ G j ∧ G j ≤ 126) (hc : 0 ≤ c ∧ c ≤ 126) : xCt E 0 0 0 M_PC_countOf [.ref p, vI c] h (rV (vI (nd (fun j => decide (G j = c)) ct 0)) h) := by
  refine x_met rfl rfl (Nat.le_of_ble_eq_true rfl) ?_
  have loop : ∀ (r i s : Nat) (z y : Int), i + r = ct → z = i → y = s → s ≤ i → s + nd (fun j => decide (G j = c)) r i = nd (fun j => decide (G j = c)) ct 0 → X E M_PC_countOf 0 0 0 (xZ E 0 0 (rV (vI (nd (fun j => decide (G j = c)) ct 0)) h)) 4 [some (.ref p), some (vI c), some (vI y), some (vI z)] [] h 0 0 := by
    intro r
    induction r with
    | zero =>
      intro i s z y hi hz hy hs hn
      have hn : s + 0 = nd (fun j => decide (G j = c)) ct 0 := hn
      refine x_iload_n d_PC_countOf_4 rfl rfl ?_
      refine x_aload_n d_PC_countOf_5 rfl rfl (by first | rfl | assumption) ?_
      refine x_get 2 1 d_PC_countOf_6 gf_PC_37 (by repeat (first | assumption | exact hs_self (by assumption) | exact hs_self (hs_ne (by omega) (by assumption)) | exact hs_self (hs_ne (by omega) (hs_ne (by omega) (by assumption))) | refine hs_ne (by omega) ?_)) (by rfl) ?_
      refine j_icmp_ge 36 d_PC_countOf_9 (by decide) (by unfold iR; omega) (by unfold iR; omega) (fun c9 => ?_) (fun c9 => ?_)
      · refine x_iload_n d_PC_countOf_36 rfl rfl ?_
        refine x_ireturn d_PC_countOf_37 rfl ?_
        exact rV_i (by omega) rfl
      · exfalso; omega
    | succ r ih =>
      intro i s z y hi hz hy hs hn
      subst hz
      have hGi := hG i (by omega)
      rw [nd_s] at hn
      refine x_iload_n d_PC_countOf_4 rfl rfl ?_
      refine x_aload_n d_PC_countOf_5 rfl rfl (by first | rfl | assumption) ?_
      refine x_get 2 1 d_PC_countOf_6 gf_PC_37 (by repeat (first | assumption | exact hs_self (by assumption) | exact hs_self (hs_ne (by omega) (by assumption)) | exact hs_self (hs_ne (by omega) (hs_ne (by omega) (by assumption))) | refine hs_ne (by omega) ?_)) (by rfl) ?_
      refine j_icmp_ge 36 d_PC_countOf_9 (by decide) (by unfold iR; omega) (by unfold iR; omega) (fun c9 => ?_) (fun c9 => ?_)
      · exfalso; omega
      refine x_iload_n d_PC_countOf_12 rfl rfl ?_
      refine x_aload_n d_PC_countOf_13 rfl rfl (by first | rfl | assumption) ?_
      refine x_get 2 0 d_PC_countOf_14 gf_PC_9 (by repeat (first | assumption | exact hs_self (by assumption) | exact hs_self (hs_ne (by omega) (by assumption)) | exact hs_self (hs_ne (by omega) (hs_ne (by omega) (by assumption))) | refine hs_ne (by omega) ?_)) (by rfl) ?_
      refine x_iload_n d_PC_countOf_17 rfl rfl ?_
      refine j_cald d_PC_countOf_18 (by repeat (first | assumption | exact hs_self (by assumption) | exact hs_self (hs_ne (by omega) (by assumption)) | exact hs_self (hs_ne (by omega) (hs_ne (by omega) (by assumption))) | refine hs_ne (by omega) ?_)) (by omega) (by omega) (by decide) ?_
      refine x_top (w := vI (G i)) rfl ?_
      refine x_iload_n d_PC_countOf_19 rfl rfl ?_
      refine j_icmp_ne 27 d_PC_countOf_20 (by decide) (by unfold iR; omega) (by unfold iR; omega) (fun c20 => ?_) (fun c20 => ?_)
      · rw [if_neg (by simpa using c20)] at hn
        refine j_iconst d_PC_countOf_27 ?_
        refine j_iadd d_PC_countOf_28 ?_
        refine x_istore_n d_PC_countOf_29 rfl (Nat.le_of_ble_eq_true rfl) ?_
        refine j_iinc d_PC_countOf_30 rfl ?_
        refine x_goto 4 d_PC_countOf_33 (by decide) ?_
        exact ih (i + 1) s _ _ (by omega) (by omega) (by omega) (by omega) (by omega)
      · rw [if_pos (by simpa using c20)] at hn
        refine j_iconst d_PC_countOf_23 ?_
        refine x_goto 28 d_PC_countOf_24 (by decide) ?_
        refine j_iadd d_PC_countOf_28 ?_
        refine x_istore_n d_PC_countOf_29 rfl (Nat.le_of_ble_eq_true rfl) ?_
        refine j_iinc d_PC_countOf_30 rfl ?_
        refine x_goto 4 d_PC_countOf_33 (by decide) ?_
        exact ih (i + 1) (s + 1) _ _ (by omega) (by omega) (by omega) (by omega) (by omega)
  refine j_iconst d_PC_countOf_0 ?_
  refine x_istore_n d_PC_countOf_1 rfl (Nat.le_of_ble_eq_true rfl) ?_
  refine j_iconst d_PC_countOf_2 ?_
  refine x_istore_n d_PC_countOf_3 rfl (Nat.le_of_ble_eq_true rfl) ?_
  exact loop ct 0 0 0 0 (by omega) rfl rfl (by omega) (by omega)
set_option maxHeartbeats 1000000 in
theorem c_endsWith {ct : Nat} {dg sc sg ed : Int} (a b : Int) (hp : h[p]? = some (oP q ct dg sc sg ed bs be fi fl)) (hq : h[q]? = some (aC 18 G)) (hct : ct ≤ 18) (hG : ∀ j, j < 18 → 0 ≤ G j ∧ G j ≤ 126) (ha : 0 ≤ a ∧ a ≤ 126) (hb : 0 ≤ b ∧ b ≤ 126) : xCt E 0 0 0 M_PC_endsWith [.ref p, vI a, vI b] h (rV (vI (if 2 ≤ ct ∧ G (ct - 2) = a ∧ G (ct - 1) = b then 1 else 0)) h) := by
  refine x_met rfl rfl (Nat.le_of_ble_eq_true rfl) ?_
  refine x_aload_n d_PC_endsWith_0 rfl rfl (by first | rfl | assumption) ?_
  refine x_get 2 1 d_PC_endsWith_1 gf_PC_37 (by repeat (first | assumption | exact hs_self (by assumption) | exact hs_self (hs_ne (by omega) (by assumption)) | exact hs_self (hs_ne (by omega) (hs_ne (by omega) (by assumption))) | refine hs_ne (by omega) ?_)) (by rfl) ?_
  refine j_iconst d_PC_endsWith_4 ?_
  refine j_icmp_lt 42 d_PC_endsWith_5 (by decide) (by unfold iR; omega) (by unfold iR; omega) (fun c5 => ?_) (fun c5 => ?_)
  · refine j_iconst d_PC_endsWith_42 ?_
    refine j_zreturn d_PC_endsWith_43 rfl (by omega) ?_
    exact rV_i (by rw [if_neg (by omega)]) rfl
  have h1 := hG (ct - 1) (by omega)
  have h2 := hG (ct - 2) (by omega)
  refine x_aload_n d_PC_endsWith_8 rfl rfl (by first | rfl | assumption) ?_
  refine x_get 2 0 d_PC_endsWith_9 gf_PC_9 (by repeat (first | assumption | exact hs_self (by assumption) | exact hs_self (hs_ne (by omega) (by assumption)) | exact hs_self (hs_ne (by omega) (hs_ne (by omega) (by assumption))) | refine hs_ne (by omega) ?_)) (by rfl) ?_
  refine x_aload_n d_PC_endsWith_12 rfl rfl (by first | rfl | assumption) ?_
  refine x_get 2 1 d_PC_endsWith_13 gf_PC_37 (by repeat (first | assumption | exact hs_self (by assumption) | exact hs_self (hs_ne (by omega) (by assumption)) | exact hs_self (hs_ne (by omega) (hs_ne (by omega) (by assumption))) | refine hs_ne (by omega) ?_)) (by rfl) ?_
  refine j_iconst d_PC_endsWith_16 ?_
  refine j_isub d_PC_endsWith_17 ?_
  refine j_cald d_PC_endsWith_18 (by repeat (first | assumption | exact hs_self (by assumption) | exact hs_self (hs_ne (by omega) (by assumption)) | exact hs_self (hs_ne (by omega) (hs_ne (by omega) (by assumption))) | refine hs_ne (by omega) ?_)) (by omega) (by omega) (by decide) ?_
  refine x_top (w := vI (G (ct - 2))) (by rw [show ((ct : Int) - 2).toNat = ct - 2 by omega]) ?_
  refine x_iload_n d_PC_endsWith_19 rfl rfl ?_
  refine j_icmp_ne 42 d_PC_endsWith_20 (by decide) (by unfold iR; omega) (by unfold iR; omega) (fun c20 => ?_) (fun c20 => ?_)
  · refine j_iconst d_PC_endsWith_42 ?_
    refine j_zreturn d_PC_endsWith_43 rfl (by omega) ?_
    exact rV_i (by rw [if_neg (fun x => c20 x.2.1)]) rfl
  refine x_aload_n d_PC_endsWith_23 rfl rfl (by first | rfl | assumption) ?_
  refine x_get 2 0 d_PC_endsWith_24 gf_PC_9 (by repeat (first | assumption | exact hs_self (by assumption) | exact hs_self (hs_ne (by omega) (by assumption)) | exact hs_self (hs_ne (by omega) (hs_ne (by omega) (by assumption))) | refine hs_ne (by omega) ?_)) (by rfl) ?_
  refine x_aload_n d_PC_endsWith_27 rfl rfl (by first | rfl | assumption) ?_
  refine x_get 2 1 d_PC_endsWith_28 gf_PC_37 (by repeat (first | assumption | exact hs_self (by assumption) | exact hs_self (hs_ne (by omega) (by assumption)) | exact hs_self (hs_ne (by omega) (hs_ne (by omega) (by assumption))) | refine hs_ne (by omega) ?_)) (by rfl) ?_
  refine j_iconst d_PC_endsWith_31 ?_
  refine j_isub d_PC_endsWith_32 ?_
  refine j_cald d_PC_endsWith_33 (by repeat (first | assumption | exact hs_self (by assumption) | exact hs_self (hs_ne (by omega) (by assumption)) | exact hs_self (hs_ne (by omega) (hs_ne (by omega) (by assumption))) | refine hs_ne (by omega) ?_)) (by omega) (by omega) (by decide) ?_
  refine x_top (w := vI (G (ct - 1))) (by rw [show ((ct : Int) - 1).toNat = ct - 1 by omega]) ?_
  refine x_iload_n d_PC_endsWith_34 rfl rfl ?_
  refine j_icmp_ne 42 d_PC_endsWith_35 (by decide) (by unfold iR; omega) (by unfold iR; omega) (fun c35 => ?_) (fun c35 => ?_)
  · refine j_iconst d_PC_endsWith_42 ?_
    refine j_zreturn d_PC_endsWith_43 rfl (by omega) ?_
    exact rV_i (by rw [if_neg (fun x => c35 x.2.2)]) rfl
  · refine j_iconst d_PC_endsWith_38 ?_
    refine x_goto 43 d_PC_endsWith_39 (by decide) ?_
    refine j_zreturn d_PC_endsWith_43 rfl (by omega) ?_
    exact rV_i (by rw [if_pos ⟨by omega, c20, c35⟩]) rfl
set_option maxHeartbeats 1000000 in
theorem c_isNextFiller {ct dg sc sg ed : Int} (c : Int) (fc : Nat) (hp : h[p]? = some (oP q ct dg sc sg ed bs be fi fl)) (hc : 0 ≤ c ∧ c ≤ 126) (hfi : 0 ≤ fi ∧ fi ≤ 126) (hfc : fc ≤ 18) : xCt E 5 0 0 M_PC_isNextFiller [.ref p, vI c, vI fc] h (rV (vI (if fil c ∧ (fc = 0 ∨ c = fi) then 1 else 0)) h) := by
  refine x_met rfl rfl (Nat.le_of_ble_eq_true rfl) ?_
  refine x_ldcS d_PC_isNextFiller_0 (List.mem_of_getElem? (i := 3) rfl) ?_
  refine x_iload_n d_PC_isNextFiller_2 rfl rfl ?_
  refine x_callS1 (M' := M_PC_isOneOf) d_PC_isNextFiller_3 lk_PC_63 (c_fil E h c hc) mt_PC_isOneOf st_PC_isOneOf (by decide) rfl (Nat.le_of_ble_eq_true rfl) (by decide) (by decide) ?_
  refine j_if_eq 25 d_PC_isNextFiller_6 (by decide) iteR (fun c6 => ?_) (fun c6 => ?_)
  · rw [ite10] at c6
    refine j_iconst d_PC_isNextFiller_25 ?_
    refine j_zreturn d_PC_isNextFiller_26 rfl (by omega) ?_
    exact rV_i (by rw [if_neg (fun x => c6 x.1)]) rfl
  rw [ite11] at c6
  refine x_iload_n d_PC_isNextFiller_9 rfl rfl ?_
  refine j_if_eq 21 d_PC_isNextFiller_10 (by decide) (by unfold iR; omega) (fun c10 => ?_) (fun c10 => ?_)
  · refine j_iconst d_PC_isNextFiller_21 ?_
    refine x_goto 26 d_PC_isNextFiller_22 (by decide) ?_
    refine j_zreturn d_PC_isNextFiller_26 rfl (by omega) ?_
    exact rV_i (by rw [if_pos ⟨c6, Or.inl (by omega)⟩]) rfl
  refine x_iload_n d_PC_isNextFiller_13 rfl rfl ?_
  refine x_aload_n d_PC_isNextFiller_14 rfl rfl (by first | rfl | assumption) ?_
  refine x_get 2 8 d_PC_isNextFiller_15 gf_PC_15 (by repeat (first | assumption | exact hs_self (by assumption) | exact hs_self (hs_ne (by omega) (by assumption)) | exact hs_self (hs_ne (by omega) (hs_ne (by omega) (by assumption))) | refine hs_ne (by omega) ?_)) (by rfl) ?_
  refine j_icmp_ne 25 d_PC_isNextFiller_18 (by decide) (by unfold iR; omega) (by unfold iR; omega) (fun c18 => ?_) (fun c18 => ?_)
  · refine j_iconst d_PC_isNextFiller_25 ?_
    refine j_zreturn d_PC_isNextFiller_26 rfl (by omega) ?_
    exact rV_i (by rw [if_neg (fun x => by rcases x.2 with y | y <;> omega)]) rfl
  · refine j_iconst d_PC_isNextFiller_21 ?_
    refine x_goto 26 d_PC_isNextFiller_22 (by decide) ?_
    refine j_zreturn d_PC_isNextFiller_26 rfl (by omega) ?_
    exact rV_i (by rw [if_pos ⟨c6, Or.inr c18⟩]) rfl
end PCN
