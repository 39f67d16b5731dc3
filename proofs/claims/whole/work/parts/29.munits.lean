theorem mU_of {h : xH} {mo : Nat} {v : Nat → Int} {tg us : Int} {o : Option Int} {w : Value} {h' : xH} {e : va_E} (hu : mU (h.set mo e) mo v tg us o w h') : mU h mo v tg us o w h' := by
  obtain ⟨z, so, T, h1, h2, h3, h4⟩ := hu
  refine ⟨z, so, T, h1, h2, ?_, h4⟩
  rw [h3, List.set_comm _ _ (show mo + 14 ≠ mo by omega), List.set_set, List.set_comm _ _ (show mo ≠ mo + 14 by omega)]
set_option maxHeartbeats 2000000 in
theorem c_units (E : xEnv) (h : xH) (mo j : Nat) (v : Nat → Int) (so tg us : Int) (A : MA) (D : FD) (B T : Nat → Int) (hm : h[mo]? = some (oM mo v so tg us)) (hR : mR h mo A) (hb : h[mo + 1]? = some (aI 64 B)) (ht : h[mo + 14]? = some (aI 18 T)) (hF : mF A j D) (hj : j < 12) (hD : fOk D) (hG : gOk D) (hB : bOk B) (hT : ∀ i, i < 18 → iR (T i)) : xCt E 7 0 0 M_MD_units [.ref mo, vI j] h (rQ (mU h mo v tg us (uA D B))) := by
  refine x_met rfl rfl (Nat.le_of_ble_eq_true rfl) ?_
  have hR0 := hR
  have hF0 := hF
  have hD0 := hD
  obtain ⟨h1, h2, h3, h4', h5, h6, h7, h8, h9, h10⟩ := hR
  obtain ⟨f0, f1, fn, -, fg, fe, -⟩ := hF
  obtain ⟨hm4, hn, -, hg, ho, -⟩ := hD
  have hm1 : (h.set mo (oM mo v 1 tg us))[mo]? = some (oM mo v 1 tg us) := hs_self hm
  have hR1 : mR (h.set mo (oM mo v 1 tg us)) mo A := mR_set hR0 (by omega)
  have hb1 : (h.set mo (oM mo v 1 tg us))[mo + 1]? = some (aI 64 B) := hs_ne (by omega) hb
  have ht1 : (h.set mo (oM mo v 1 tg us))[mo + 14]? = some (aI 18 T) := hs_ne (by omega) ht
  have he01 : aEd A j = 0 ∨ aEd A j = 1 := by rw [fe]; split <;> omega
  refine x_aload_n d_MD_units_0 rfl rfl rfl ?_
  refine j_iconst d_MD_units_1 ?_
  refine xp_MD_24 d_MD_units_2 pf_MD_units_158 (by repeat (first | assumption | exact hs_self (by assumption) | exact hs_self (hs_ne (by omega) (by assumption)) | exact hs_self (hs_ne (by omega) (hs_ne (by omega) (by assumption))) | refine hs_ne (by omega) ?_)) (by omega) ?_
  refine x_aload_n d_MD_units_5 rfl rfl rfl ?_
  refine x_get 5 17 d_MD_units_6 gf_MD_35 (by repeat (first | assumption | exact hs_self (by assumption) | exact hs_self (hs_ne (by omega) (by assumption)) | exact hs_self (hs_ne (by omega) (hs_ne (by omega) (by assumption))) | refine hs_ne (by omega) ?_)) (by rfl) ?_
  refine x_iload_n d_MD_units_9 rfl rfl ?_
  refine j_zald d_MD_units_10 (by repeat (first | assumption | exact hs_self (by assumption) | exact hs_self (hs_ne (by omega) (by assumption)) | exact hs_self (hs_ne (by omega) (hs_ne (by omega) (by assumption))) | refine hs_ne (by omega) ?_)) (by omega) (by omega) (by decide) ?_
  refine x_top (w := vI (aEd A j)) (by rw [Int.toNat_natCast]) ?_
  refine j_if_eq 20 d_MD_units_11 (by decide) (by unfold iR; omega) (fun c11 => ?_) (fun c11 => ?_)
  · have h4 : ¬ fM D = 4 := by intro q; rw [fe, if_pos q] at c11; omega
    rw [if_neg h4] at f1
    refine x_aload_n d_MD_units_20 rfl rfl rfl ?_
    refine x_get 5 14 d_MD_units_21 gf_MD_25 (by repeat (first | assumption | exact hs_self (by assumption) | exact hs_self (hs_ne (by omega) (by assumption)) | exact hs_self (hs_ne (by omega) (hs_ne (by omega) (by assumption))) | refine hs_ne (by omega) ?_)) (by rfl) ?_
    refine x_iload_n d_MD_units_24 rfl rfl ?_
    refine j_iald d_MD_units_25 (by repeat (first | assumption | exact hs_self (by assumption) | exact hs_self (hs_ne (by omega) (by assumption)) | exact hs_self (hs_ne (by omega) (hs_ne (by omega) (by assumption))) | refine hs_ne (by omega) ?_)) (by omega) (by omega) (by decide) ?_
    refine x_top (w := vI (fN D)) (by rw [Int.toNat_natCast, fn]) ?_
    refine x_istore_n d_MD_units_26 rfl (Nat.le_of_ble_eq_true rfl) ?_
    refine x_aload_n d_MD_units_27 rfl rfl rfl ?_
    refine x_get 5 13 d_MD_units_28 gf_MD_22 (by repeat (first | assumption | exact hs_self (by assumption) | exact hs_self (hs_ne (by omega) (by assumption)) | exact hs_self (hs_ne (by omega) (hs_ne (by omega) (by assumption))) | refine hs_ne (by omega) ?_)) (by rfl) ?_
    refine x_iload_n d_MD_units_31 rfl rfl ?_
    refine j_iald d_MD_units_32 (by repeat (first | assumption | exact hs_self (by assumption) | exact hs_self (hs_ne (by omega) (by assumption)) | exact hs_self (hs_ne (by omega) (hs_ne (by omega) (by assumption))) | refine hs_ne (by omega) ?_)) (by omega) (by omega) (by decide) ?_
    refine x_top (w := vI (fM D)) (by rw [Int.toNat_natCast, f1]) ?_
    refine j_iconst d_MD_units_33 ?_
    refine j_icmp_ne 46 d_MD_units_34 (by decide) (by unfold iR; omega) (by unfold iR; omega) (fun c34 => ?_) (fun c34 => ?_)
    · refine x_aload_n d_MD_units_46 rfl rfl rfl ?_
      refine x_get 5 13 d_MD_units_47 gf_MD_22 (by repeat (first | assumption | exact hs_self (by assumption) | exact hs_self (hs_ne (by omega) (by assumption)) | exact hs_self (hs_ne (by omega) (hs_ne (by omega) (by assumption))) | refine hs_ne (by omega) ?_)) (by rfl) ?_
      refine x_iload_n d_MD_units_50 rfl rfl ?_
      refine j_iald d_MD_units_51 (by repeat (first | assumption | exact hs_self (by assumption) | exact hs_self (hs_ne (by omega) (by assumption)) | exact hs_self (hs_ne (by omega) (hs_ne (by omega) (by assumption))) | refine hs_ne (by omega) ?_)) (by omega) (by omega) (by decide) ?_
      refine x_top (w := vI (fM D)) (by rw [Int.toNat_natCast, f1]) ?_
      refine j_iconst d_MD_units_52 ?_
      refine j_icmp_ne 65 d_MD_units_53 (by decide) (by unfold iR; omega) (by unfold iR; omega) (fun c53 => ?_) (fun c53 => ?_)
      · refine x_aload_n d_MD_units_65 rfl rfl rfl ?_
        refine x_iload_n d_MD_units_66 rfl rfl ?_
        refine x_iload_n d_MD_units_67 rfl rfl ?_
        refine x_callVq (M' := M_MD_readZoned) d_MD_units_68 lk_MD_178 (c_readZoned E _ mo j v tg us A D B T hm1 hR1 hb1 ht1 hF0 hj hD0 (by omega) hB hT) mt_MD_readZoned im_MD_readZoned se_MD_readZoned (by repeat (first | assumption | exact hs_self (by assumption) | exact hs_self (hs_ne (by omega) (by assumption)) | exact hs_self (hs_ne (by omega) (hs_ne (by omega) (by assumption))) | refine hs_ne (by omega) ?_)) rfl (by decide) rfl (Nat.le_of_ble_eq_true rfl) (by decide) (by decide) ?_
        intro w h' hu
        obtain ⟨z, hz⟩ : ∃ z, w = vL z := ⟨hu.choose, hu.choose_spec.choose_spec.choose_spec.1⟩
        subst hz
        refine x_lreturn d_MD_units_71 rfl ?_
        exact ⟨_, rfl, mU_of hu⟩
      · refine x_aload_n d_MD_units_56 rfl rfl rfl ?_
        refine x_iload_n d_MD_units_57 rfl rfl ?_
        refine x_iload_n d_MD_units_58 rfl rfl ?_
        refine x_callVq (M' := M_MD_readBinary) d_MD_units_59 lk_MD_175 (c_readBinary E _ mo j v tg us A D B T hm1 hR1 hb1 ht1 hF0 hj hD0 (by omega) hB hT) mt_MD_readBinary im_MD_readBinary se_MD_readBinary (by repeat (first | assumption | exact hs_self (by assumption) | exact hs_self (hs_ne (by omega) (by assumption)) | exact hs_self (hs_ne (by omega) (hs_ne (by omega) (by assumption))) | refine hs_ne (by omega) ?_)) rfl (by decide) rfl (Nat.le_of_ble_eq_true rfl) (by decide) (by decide) ?_
        intro w h' hu
        obtain ⟨z, hz⟩ : ∃ z, w = vL z := ⟨hu.choose, hu.choose_spec.choose_spec.choose_spec.1⟩
        subst hz
        refine x_goto 71 d_MD_units_62 (by decide) ?_
        refine x_lreturn d_MD_units_71 rfl ?_
        exact ⟨_, rfl, mU_of hu⟩
    · refine x_aload_n d_MD_units_37 rfl rfl rfl ?_
      refine x_iload_n d_MD_units_38 rfl rfl ?_
      refine x_iload_n d_MD_units_39 rfl rfl ?_
      refine x_callVq (M' := M_MD_readPacked) d_MD_units_40 lk_MD_171 (c_readPacked E _ mo j v tg us A D B T hm1 hR1 hb1 ht1 hF0 hj hD0 (by omega) hB hT) mt_MD_readPacked im_MD_readPacked se_MD_readPacked (by repeat (first | assumption | exact hs_self (by assumption) | exact hs_self (hs_ne (by omega) (by assumption)) | exact hs_self (hs_ne (by omega) (hs_ne (by omega) (by assumption))) | refine hs_ne (by omega) ?_)) rfl (by decide) rfl (Nat.le_of_ble_eq_true rfl) (by decide) (by decide) ?_
      intro w h' hu
      obtain ⟨z, hz⟩ : ∃ z, w = vL z := ⟨hu.choose, hu.choose_spec.choose_spec.choose_spec.1⟩
      subst hz
      refine x_goto 71 d_MD_units_43 (by decide) ?_
      refine x_lreturn d_MD_units_71 rfl ?_
      exact ⟨_, rfl, mU_of hu⟩
  · have h4 : fM D = 4 := by
      by_cases q : fM D = 4
      · exact q
      · rw [fe, if_neg q] at c11; omega
    have hu4 : uA D B = uE D B := by unfold uA; rw [if_pos h4]
    rw [hu4]
    refine x_aload_n d_MD_units_14 rfl rfl rfl ?_
    refine x_iload_n d_MD_units_15 rfl rfl ?_
    refine x_callVq (M' := M_MD_readEdited) d_MD_units_16 lk_MD_168 (c_readEdited E _ mo j v 1 tg us A D B T hm1 hR1 hb1 ht1 hF0 hj hD0 hG h4 hB hT) mt_MD_readEdited im_MD_readEdited se_MD_readEdited (by repeat (first | assumption | exact hs_self (by assumption) | exact hs_self (hs_ne (by omega) (by assumption)) | exact hs_self (hs_ne (by omega) (hs_ne (by omega) (by assumption))) | refine hs_ne (by omega) ?_)) rfl (by decide) rfl (Nat.le_of_ble_eq_true rfl) (by decide) (by decide) ?_
    intro w h' hu
    obtain ⟨z, hz⟩ : ∃ z, w = vL z := ⟨hu.choose, hu.choose_spec.choose_spec.choose_spec.1⟩
    subst hz
    refine x_lreturn d_MD_units_19 rfl ?_
    exact ⟨_, rfl, mU_of hu⟩
theorem uA_r {D : FD} {B : Nat → Int} (hD : fOk D) (hB : bOk B) {x : Int} (h : uA D B = some x) : x.natAbs < 10 ^ fN D := by
  obtain ⟨hm4, hn, -, hg, ho, hw⟩ := id hD
  have hpc := p10c (fN D)
  unfold uA at h
  split at h
  · rename_i h4
    obtain ⟨-, -, -, -, -, -, hnd⟩ := hw h4
    have hr := mgE_r (B := B) (o := fO D) (d := fDp D) (fB D - fH D) (fH D) 0 0 (by decide) (by decide)
    rw [hnd, Nat.zero_add] at hr
    have hr : 0 ≤ mgD D B ∧ mgD D B < 10 ^ fN D := hr
    unfold uE at h
    split at h
    · have := Option.some.inj h; omega
    · split at h
      · have := Option.some.inj h; omega
      · cases h
  · split at h
    · unfold uP at h
      split at h
      · rename_i m hm
        have hml := rdP_lt hm
        by_cases hbad : hfB B (fO D) (2 * (fN D / 2 + 1) - 1) < (if fG D = 1 then 10 else 15) ∨ ¬ m < 10 ^ fN D
        · simp only [if_pos hbad] at h; cases h
        · simp only [if_neg hbad] at h
          have h := Option.some.inj h
          have h3 : m < 10 ^ fN D := by
            by_cases q : m < 10 ^ fN D
            · exact q
            · exact absurd (Or.inr q) hbad
          split at h <;> omega
      · cases h
    · split at h
      · unfold uS at h
        split at h
        · rename_i m hm
          have hml := rdD_lt hm
          split at h
          · have := Option.some.inj h; omega
          · split at h
            · have := Option.some.inj h; omega
            · cases h
        · cases h
      · split at h
        · unfold uB at h
          split at h
          · have := Option.some.inj h; subst this; assumption
          · cases h
        · unfold uZ at h
          split at h
          · rename_i m hm
            have hml := rdD_lt hm
            have hps : (10 : Int) ^ fN D = 10 ^ (fN D - 1) * 10 := by conv => lhs; rw [show fN D = fN D - 1 + 1 by omega, Int.pow_succ]
            unfold isDg at h
            split at h
            · rename_i hd
              have := Option.some.inj h; omega
            · split at h
              · rename_i hd
                have := Option.some.inj h; omega
              · cases h
          · cases h
set_option maxHeartbeats 2000000 in
theorem c_isSound (E : xEnv) (h : xH) (mo j : Nat) (v : Nat → Int) (so tg us : Int) (A : MA) (D : FD) (B T : Nat → Int) (hm : h[mo]? = some (oM mo v so tg us)) (hR : mR h mo A) (hb : h[mo + 1]? = some (aI 64 B)) (ht : h[mo + 14]? = some (aI 18 T)) (hF : mF A j D) (hj : j < 12) (hD : fOk D) (hG : gOk D) (hB : bOk B) (hT : ∀ i, i < 18 → iR (T i)) : xCt E 8 0 0 M_MD_isSound [.ref mo, vI j] h (rQ (fun w h' => w = vI (if uA D B = none then 0 else 1) ∧ ∃ (so' : Int) (T' : Nat → Int), h' = (h.set (mo + 14) (aI 18 T')).set mo (oM mo v so' tg us) ∧ (so' = 0 ∨ so' = 1) ∧ ∀ i, i < 18 → iR (T' i))) := by
  refine x_met rfl rfl (Nat.le_of_ble_eq_true rfl) ?_
  refine x_aload_n d_MD_isSound_0 rfl rfl rfl ?_
  refine x_iload_n d_MD_isSound_1 rfl rfl ?_
  refine x_callVq (M' := M_MD_units) d_MD_isSound_2 lk_MD_181 (c_units E h mo j v so tg us A D B T hm hR hb ht hF hj hD hG hB hT) mt_MD_units im_MD_units se_MD_units (by repeat (first | assumption | exact hs_self (by assumption) | exact hs_self (hs_ne (by omega) (by assumption)) | exact hs_self (hs_ne (by omega) (hs_ne (by omega) (by assumption))) | refine hs_ne (by omega) ?_)) rfl (by decide) rfl (Nat.le_of_ble_eq_true rfl) (by decide) (by decide) ?_
  rintro w h' ⟨z, so', T', rfl, hz, rfl, hso, hq, hx, hT'⟩
  have hm1 : ((h.set (mo + 14) (aI 18 T')).set mo (oM mo v so' tg us))[mo]? = some (oM mo v so' tg us) := hs_self (hs_ne (by omega) hm)
  have hn := hD.2.1
  have hpc := p10c (fN D)
  have hp := pow10_le (n := fN D) (m := 9) (by omega)
  have fin1 : so' = 0 → uA D B = none := by
    intro q
    by_cases hn : uA D B = none
    · exact hn
    · have := hq.mpr hn; omega
  have fin2 : so' = 1 → ¬ uA D B = none := fun q => hq.mp q
  refine x_lstore_n d_MD_isSound_5 rfl (Nat.le_of_ble_eq_true rfl) ?_
  refine x_aload_n d_MD_isSound_6 rfl rfl rfl ?_
  refine x_get 5 24 d_MD_isSound_7 gf_MD_158 (by repeat (first | assumption | exact hs_self (by assumption) | exact hs_self (hs_ne (by omega) (by assumption)) | exact hs_self (hs_ne (by omega) (hs_ne (by omega) (by assumption))) | refine hs_ne (by omega) ?_)) (by rfl) ?_
  refine j_if_eq 25 d_MD_isSound_10 (by decide) (by unfold iR; omega) (fun c10 => ?_) (fun c10 => ?_)
  · refine j_iconst d_MD_isSound_25 ?_
    refine j_zreturn d_MD_isSound_26 rfl (by omega) ?_
    exact ⟨_, rfl, by rw [if_pos (fin1 (by omega))], so', T', rfl, hso, hT'⟩
  · refine x_lload_n d_MD_isSound_13 rfl rfl ?_
    refine x_ldc2 d_MD_isSound_14 kl_MD_184 ?_
    refine j_lcmp_ge 25 d_MD_isSound_17 d_MD_isSound_18 (by decide) (by unfold lR; omega) (by unfold lR; omega) (fun c17 => ?_) (fun c17 => ?_)
    · exfalso
      cases hu : uA D B with
      | none => exact fin2 (by omega) hu
      | some x =>
        have := uA_r hD hB hu
        have := hx x hu
        omega
    · refine j_iconst d_MD_isSound_21 ?_
      refine x_goto 26 d_MD_isSound_22 (by decide) ?_
      refine j_zreturn d_MD_isSound_26 rfl (by omega) ?_
      exact ⟨_, rfl, by rw [if_neg (fin2 (by omega))], so', T', rfl, hso, hT'⟩
