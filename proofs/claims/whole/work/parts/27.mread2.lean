set_option maxHeartbeats 4000000 in
theorem c_readZoned (E : xEnv) (h : xH) (mo j : Nat) (v : Nat → Int) (tg us : Int) (A : MA) (D : FD) (B T : Nat → Int) (hm : h[mo]? = some (oM mo v 1 tg us)) (hR : mR h mo A) (hb : h[mo + 1]? = some (aI 64 B)) (ht : h[mo + 14]? = some (aI 18 T)) (hF : mF A j D) (hj : j < 12) (hD : fOk D) (h02 : fM D = 0 ∨ fM D = 2) (hB : bOk B) (hT : ∀ i, i < 18 → iR (T i)) : xCt E 1 0 0 M_MD_readZoned [.ref mo, vI j, vI (fN D)] h (rQ (mU h mo v tg us (uA D B))) := by
  refine x_met rfl rfl (Nat.le_of_ble_eq_true rfl) ?_
  obtain ⟨h1, h2, h3, h4', h5, h6, h7, h8, h9, h10⟩ := hR
  obtain ⟨f0, f1, -, -, fg, -, -⟩ := hF
  obtain ⟨-, hn, -, hg, ho, -⟩ := hD
  have f1 : aUs A j = fM D := by rw [f1, if_neg (by omega)]
  have hw : fO D + fN D + (if fM D = 2 then 1 else 0) ≤ 64 := by
    unfold fW at ho
    rw [if_neg (show ¬ fM D = 4 by omega), if_neg (show ¬ fM D = 1 by omega)] at ho
    by_cases h2 : fM D = 2
    · rw [if_pos h2] at ho ⊢; omega
    · rw [if_neg h2, if_neg (show ¬ fM D = 3 by omega)] at ho
      rw [if_neg h2]; omega
  have hw1 : fO D + fN D ≤ 64 := by omega
  have e0 := hset_id ht
  have hmh : ∀ so : Int, (h.set mo (oM mo v so tg us))[mo]? = some (oM mo v so tg us) := fun so => hs_self hm
  have step : ∀ (k : Nat) (so m z : Int) (x7 : Option Value), k < fN D → z = (k : Int) → (so = 0 ∨ so = 1) → (so = 1 ↔ ¬ rdD B (fO D) k = none) → (∀ x, rdD B (fO D) k = some x → m = x) → (m.natAbs : Int) ≤ 23 * 10 ^ k - 23 → ¬ (k + 1 = fN D ∧ fM D = 0 ∧ fG D = 1 ∧ 112 ≤ B (fO D + k) ∧ B (fO D + k) ≤ 121) → (∀ (so2 m2 z2 : Int) (y7 : Option Value), z2 = ((k + 1 : Nat) : Int) → (so2 = 0 ∨ so2 = 1) → (so2 = 1 ↔ ¬ rdD B (fO D) (k + 1) = none) → (∀ x, rdD B (fO D) (k + 1) = some x → m2 = x) → (m2.natAbs : Int) ≤ 23 * 10 ^ (k + 1) - 23 → X E M_MD_readZoned 1 0 0 (xZ E 0 0 (rQ (mU h mo v tg us (uA D B)))) 8 [some (.ref mo), some (vI j), some (vI (fN D)), some (vL m2), none, some (vI 0), some (vI z2), y7] [] (h.set mo (oM mo v so2 tg us)) 0 0) → X E M_MD_readZoned 1 0 0 (xZ E 0 0 (rQ (mU h mo v tg us (uA D B)))) 8 [some (.ref mo), some (vI j), some (vI (fN D)), some (vL m), none, some (vI 0), some (vI z), x7] [] (h.set mo (oM mo v so tg us)) 0 0 := by
    intro k so m z x7 hk hz hso hq hx hmb hns next
    have hb1 := hB (fO D + k) (by omega)
    have hp9 := pow10_le (n := k) (m := 8) (by omega)
    have hm0 := hmh so
    have hrd : rdD B (fO D) (k + 1) = match rdD B (fO D) k with | some m => if 0 ≤ B (fO D + k) - 48 ∧ B (fO D + k) - 48 ≤ 9 then some (10 * m + (B (fO D + k) - 48)) else none | none => none := rfl
    have go : ∀ s2 : Int, (s2 = 0 ∨ s2 = 1) → (s2 = 1 ↔ so = 1 ∧ (0 ≤ B (fO D + k) - 48 ∧ B (fO D + k) - 48 ≤ 9)) → X E M_MD_readZoned 1 0 0 (xZ E 0 0 (rQ (mU h mo v tg us (uA D B)))) 101 [some (.ref mo), some (vI j), some (vI (fN D)), some (vL m), none, some (vI 0), some (vI z), some (vI (B (fO D + k)))] [vI s2, .ref mo] (h.set mo (oM mo v so tg us)) 0 0 := by
      intro s2 hs2 hq2
      refine xp_MD_24 d_MD_readZoned_101 pf_MD_readZoned_158 (by repeat (first | assumption | exact hs_self (by assumption) | exact hs_self (hs_ne (by omega) (by assumption)) | exact hs_self (hs_ne (by omega) (hs_ne (by omega) (by assumption))) | refine hs_ne (by omega) ?_)) (by omega) ?_
      rw [List.set_set]
      refine x_ldc2 d_MD_readZoned_104 kl_MD_129 ?_
      refine x_lload_n d_MD_readZoned_107 rfl rfl ?_
      refine j_lmul d_MD_readZoned_108 ?_
      refine x_iload d_MD_readZoned_109 rfl ?_
      refine j_bipush d_MD_readZoned_111 (by decide) ?_
      refine j_isub d_MD_readZoned_113 ?_
      refine j_i2l d_MD_readZoned_114 (by unfold iR; omega) ?_
      refine j_ladd d_MD_readZoned_115 ?_
      refine x_lstore_n d_MD_readZoned_116 rfl (Nat.le_of_ble_eq_true rfl) ?_
      refine j_iinc d_MD_readZoned_117 rfl ?_
      refine x_goto 8 d_MD_readZoned_120 (by decide) ?_
      refine next _ _ _ _ (by omega) hs2 ?_ ?_ (by rw [Int.pow_succ]; omega)
      · rw [hq2, hq, hrd]
        cases hr : rdD B (fO D) k with
        | none => simp
        | some y =>
          by_cases hd : 0 ≤ B (fO D + k) - 48 ∧ B (fO D + k) - 48 ≤ 9
          · simp [hd]
          · simp only [if_neg hd]
            exact ⟨fun q => absurd q.2 hd, fun q => by first | exact absurd trivial q | exact absurd rfl q⟩
      · intro x hxx
        rw [hrd] at hxx
        cases hr : rdD B (fO D) k with
        | none => rw [hr] at hxx; cases hxx
        | some y =>
          rw [hr] at hxx
          have := hx y hr
          by_cases hd : 0 ≤ B (fO D + k) - 48 ∧ B (fO D + k) - 48 ≤ 9
          · simp only [if_pos hd] at hxx
            have := Option.some.inj hxx
            omega
          · simp only [if_neg hd] at hxx
            cases hxx
    have at80 : X E M_MD_readZoned 1 0 0 (xZ E 0 0 (rQ (mU h mo v tg us (uA D B)))) 80 [some (.ref mo), some (vI j), some (vI (fN D)), some (vL m), none, some (vI 0), some (vI z), some (vI (B (fO D + k)))] [] (h.set mo (oM mo v so tg us)) 0 0 := by
      refine x_aload_n d_MD_readZoned_80 rfl rfl rfl ?_
      refine x_aload_n d_MD_readZoned_81 rfl rfl rfl ?_
      refine x_get 5 24 d_MD_readZoned_82 gf_MD_158 (by repeat (first | assumption | exact hs_self (by assumption) | exact hs_self (hs_ne (by omega) (by assumption)) | exact hs_self (hs_ne (by omega) (hs_ne (by omega) (by assumption))) | refine hs_ne (by omega) ?_)) (by rfl) ?_
      refine j_if_eq 100 d_MD_readZoned_85 (by decide) (by unfold iR; omega) (fun c85 => ?_) (fun c85 => ?_)
      · refine j_iconst d_MD_readZoned_100 ?_
        exact go 0 (Or.inl rfl) ⟨fun q => by omega, fun q => by omega⟩
      · refine x_iload d_MD_readZoned_88 rfl ?_
        refine x_callS1 (M' := M_MD_figure) d_MD_readZoned_90 lk_MD_81 (c_figure E _ (B (fO D + k)) (by unfold iR; omega)) mt_MD_figure st_MD_figure (by decide) rfl (Nat.le_of_ble_eq_true rfl) (by decide) (by decide) ?_
        refine j_if_eq 100 d_MD_readZoned_93 (by decide) (by unfold iR; split <;> omega) (fun c93 => ?_) (fun c93 => ?_)
        · rw [ite10] at c93
          refine j_iconst d_MD_readZoned_100 ?_
          exact go 0 (Or.inl rfl) ⟨fun q => by omega, fun q => absurd q.2 c93⟩
        · rw [ite10] at c93
          refine j_iconst d_MD_readZoned_96 ?_
          refine x_goto 101 d_MD_readZoned_97 (by decide) ?_
          exact go 1 (Or.inr rfl) ⟨fun _ => ⟨by omega, by omega⟩, fun _ => rfl⟩
    refine x_iload d_MD_readZoned_8 rfl ?_
    refine x_iload_n d_MD_readZoned_10 rfl rfl ?_
    refine j_icmp_ge 123 d_MD_readZoned_11 (by decide) (by unfold iR; omega) (by unfold iR; omega) (fun c11 => ?_) (fun c11 => ?_)
    · exfalso; omega
    refine x_aload_n d_MD_readZoned_14 rfl rfl rfl ?_
    refine x_get 5 0 d_MD_readZoned_15 gf_MD_7 (by repeat (first | assumption | exact hs_self (by assumption) | exact hs_self (hs_ne (by omega) (by assumption)) | exact hs_self (hs_ne (by omega) (hs_ne (by omega) (by assumption))) | refine hs_ne (by omega) ?_)) (by rfl) ?_
    refine x_aload_n d_MD_readZoned_18 rfl rfl rfl ?_
    refine x_get 5 12 d_MD_readZoned_19 gf_MD_19 (by repeat (first | assumption | exact hs_self (by assumption) | exact hs_self (hs_ne (by omega) (by assumption)) | exact hs_self (hs_ne (by omega) (hs_ne (by omega) (by assumption))) | refine hs_ne (by omega) ?_)) (by rfl) ?_
    refine x_iload_n d_MD_readZoned_22 rfl rfl ?_
    refine j_iald d_MD_readZoned_23 (by repeat (first | assumption | exact hs_self (by assumption) | exact hs_self (hs_ne (by omega) (by assumption)) | exact hs_self (hs_ne (by omega) (hs_ne (by omega) (by assumption))) | refine hs_ne (by omega) ?_)) (by omega) (by omega) (by decide) ?_
    refine x_top (w := vI (fO D)) (by rw [Int.toNat_natCast, f0]) ?_
    refine x_iload d_MD_readZoned_24 rfl ?_
    refine j_iadd d_MD_readZoned_26 ?_
    refine j_iald d_MD_readZoned_27 (by repeat (first | assumption | exact hs_self (by assumption) | exact hs_self (hs_ne (by omega) (by assumption)) | exact hs_self (hs_ne (by omega) (hs_ne (by omega) (by assumption))) | refine hs_ne (by omega) ?_)) (by omega) (by omega) (by decide) ?_
    refine x_top (w := vI (B (fO D + k))) (by rw [show ((fO D : Int) + z).toNat = fO D + k by omega]) ?_
    refine x_istore d_MD_readZoned_28 (Nat.le_of_ble_eq_true rfl) ?_
    refine x_iload d_MD_readZoned_30 rfl ?_
    refine x_iload_n d_MD_readZoned_32 rfl rfl ?_
    refine j_iconst d_MD_readZoned_33 ?_
    refine j_isub d_MD_readZoned_34 ?_
    refine j_icmp_ne 80 d_MD_readZoned_35 (by decide) (by unfold iR; omega) (by unfold iR; omega) (fun c35 => ?_) (fun c35 => ?_)
    · exact at80
    · refine x_aload_n d_MD_readZoned_38 rfl rfl rfl ?_
      refine x_get 5 13 d_MD_readZoned_39 gf_MD_22 (by repeat (first | assumption | exact hs_self (by assumption) | exact hs_self (hs_ne (by omega) (by assumption)) | exact hs_self (hs_ne (by omega) (hs_ne (by omega) (by assumption))) | refine hs_ne (by omega) ?_)) (by rfl) ?_
      refine x_iload_n d_MD_readZoned_42 rfl rfl ?_
      refine j_iald d_MD_readZoned_43 (by repeat (first | assumption | exact hs_self (by assumption) | exact hs_self (hs_ne (by omega) (by assumption)) | exact hs_self (hs_ne (by omega) (hs_ne (by omega) (by assumption))) | refine hs_ne (by omega) ?_)) (by omega) (by omega) (by decide) ?_
      refine x_top (w := vI (fM D : Int)) (by rw [Int.toNat_natCast, f1]) ?_
      refine j_if_ne 80 d_MD_readZoned_44 (by decide) (by unfold iR; omega) (fun c44 => ?_) (fun c44 => ?_)
      · exact at80
      · refine x_aload_n d_MD_readZoned_47 rfl rfl rfl ?_
        refine x_get 5 16 d_MD_readZoned_48 gf_MD_31 (by repeat (first | assumption | exact hs_self (by assumption) | exact hs_self (hs_ne (by omega) (by assumption)) | exact hs_self (hs_ne (by omega) (hs_ne (by omega) (by assumption))) | refine hs_ne (by omega) ?_)) (by rfl) ?_
        refine x_iload_n d_MD_readZoned_51 rfl rfl ?_
        refine j_zald d_MD_readZoned_52 (by repeat (first | assumption | exact hs_self (by assumption) | exact hs_self (hs_ne (by omega) (by assumption)) | exact hs_self (hs_ne (by omega) (hs_ne (by omega) (by assumption))) | refine hs_ne (by omega) ?_)) (by omega) (by omega) (by decide) ?_
        refine x_top (w := vI (fG D)) (by rw [Int.toNat_natCast, fg]) ?_
        refine j_if_eq 80 d_MD_readZoned_53 (by decide) (by unfold iR; omega) (fun c53 => ?_) (fun c53 => ?_)
        · exact at80
        · refine x_iload d_MD_readZoned_56 rfl ?_
          refine j_bipush d_MD_readZoned_58 (by decide) ?_
          refine j_icmp_lt 80 d_MD_readZoned_60 (by decide) (by unfold iR; omega) (by unfold iR; omega) (fun c60 => ?_) (fun c60 => ?_)
          · exact at80
          · refine x_iload d_MD_readZoned_63 rfl ?_
            refine j_bipush d_MD_readZoned_65 (by decide) ?_
            refine j_icmp_gt 80 d_MD_readZoned_67 (by decide) (by unfold iR; omega) (by unfold iR; omega) (fun c67 => ?_) (fun c67 => ?_)
            · exact at80
            · exfalso; omega
  have loop : ∀ (r k : Nat) (so m z : Int) (x7 : Option Value), k + r = fN D - 1 → z = (k : Int) → (so = 0 ∨ so = 1) → (so = 1 ↔ ¬ rdD B (fO D) k = none) → (∀ x, rdD B (fO D) k = some x → m = x) → (m.natAbs : Int) ≤ 23 * 10 ^ k - 23 → (∀ (so2 m2 z2 : Int) (y7 : Option Value), z2 = ((fN D - 1 : Nat) : Int) → (so2 = 0 ∨ so2 = 1) → (so2 = 1 ↔ ¬ rdD B (fO D) (fN D - 1) = none) → (∀ x, rdD B (fO D) (fN D - 1) = some x → m2 = x) → (m2.natAbs : Int) ≤ 23 * 10 ^ (fN D - 1) - 23 → X E M_MD_readZoned 1 0 0 (xZ E 0 0 (rQ (mU h mo v tg us (uA D B)))) 8 [some (.ref mo), some (vI j), some (vI (fN D)), some (vL m2), none, some (vI 0), some (vI z2), y7] [] (h.set mo (oM mo v so2 tg us)) 0 0) → X E M_MD_readZoned 1 0 0 (xZ E 0 0 (rQ (mU h mo v tg us (uA D B)))) 8 [some (.ref mo), some (vI j), some (vI (fN D)), some (vL m), none, some (vI 0), some (vI z), x7] [] (h.set mo (oM mo v so tg us)) 0 0 := by
    intro r
    induction r with
    | zero =>
      intro k so m z x7 hk hz hso hq hx hmb next
      have hk : k = fN D - 1 := by omega
      subst hk
      exact next so m z x7 hz hso hq hx hmb
    | succ r ih =>
      intro k so m z x7 hk hz hso hq hx hmb next
      refine step k so m z x7 (by omega) hz hso hq hx hmb (by omega) (fun so2 m2 z2 y7 hz2 hso2 hq2 hx2 hmb2 => ?_)
      exact ih (k + 1) so2 m2 z2 y7 (by omega) hz2 hso2 hq2 hx2 hmb2 next
  have fin : ∀ (so m mi : Int) (x6 x7 : Option Value), (so = 0 ∨ so = 1) → (mi = 0 ∨ mi = 1) → (so = 1 ↔ ¬ uA D B = none) → m.natAbs < 1000000000000 → (∀ x, uA D B = some x → (if mi = 1 then -m else m) = x) → X E M_MD_readZoned 1 0 0 (xZ E 0 0 (rQ (mU h mo v tg us (uA D B)))) 192 [some (.ref mo), some (vI j), some (vI (fN D)), some (vL m), none, some (vI mi), x6, x7] [] (h.set mo (oM mo v so tg us)) 0 0 := by
    intro so m mi x6 x7 hso hmi hq hmb hx
    refine x_iload d_MD_readZoned_192 rfl ?_
    refine j_if_eq 202 d_MD_readZoned_194 (by decide) (by unfold iR; omega) (fun c194 => ?_) (fun c194 => ?_)
    · refine x_lload_n d_MD_readZoned_202 rfl rfl ?_
      refine x_lreturn d_MD_readZoned_203 rfl ?_
      exact ⟨_, rfl, m, so, T, rfl, hmb, by rw [e0], hso, hq, fun x hxx => by rw [← hx x hxx, if_neg (by omega)], hT⟩
    · refine x_lload_n d_MD_readZoned_197 rfl rfl ?_
      refine j_lneg d_MD_readZoned_198 ?_
      refine x_goto 203 d_MD_readZoned_199 (by decide) ?_
      refine x_lreturn d_MD_readZoned_203 rfl ?_
      exact ⟨_, rfl, -m, so, T, rfl, by omega, by rw [e0], hso, hq, fun x hxx => by rw [← hx x hxx, if_pos (by omega)], hT⟩
  have hp9 := pow10_le (n := fN D) (m := 9) (by omega)
  have hp8 := pow10_le (n := fN D - 1) (m := 8) (by omega)
  have hnn : fN D - 1 + 1 = fN D := by omega
  have hlast := hB (fO D + (fN D - 1)) (by omega)
  have hmain : X E M_MD_readZoned 1 0 0 (xZ E 0 0 (rQ (mU h mo v tg us (uA D B)))) 8 [some (.ref mo), some (vI j), some (vI (fN D)), some (vL 0), none, some (vI 0), some (vI 0), none] [] (h.set mo (oM mo v 1 tg us)) 0 0 := by
    refine loop (fN D - 1) 0 1 0 0 none (by omega) rfl (Or.inr rfl) ⟨fun _ => by simp [rdD], fun _ => rfl⟩ (fun x hx => Option.some.inj hx) (by decide) (fun so m z x7 hz hso hq hx hmb => ?_)
    by_cases hsp : fM D = 0 ∧ fG D = 1 ∧ 112 ≤ B (fO D + (fN D - 1)) ∧ B (fO D + (fN D - 1)) ≤ 121
    · -- the last byte carries the sign
      have hu : uA D B = match rdD B (fO D) (fN D - 1) with | some m => some (-(10 * m + (B (fO D + (fN D - 1)) - 112))) | none => none := by
        unfold uA
        rw [if_neg (show ¬ fM D = 4 by omega), if_neg (show ¬ fM D = 1 by omega), if_neg (show ¬ fM D = 2 by omega), if_neg (show ¬ fM D = 3 by omega)]
        unfold uZ
        rw [show fO D + fN D - 1 = fO D + (fN D - 1) by omega]
        cases rdD B (fO D) (fN D - 1) with
        | none => rfl
        | some y =>
          show (if _ then _ else _) = _
          rw [if_pos ⟨hsp.2.1, by unfold isDg; omega⟩]
      have hm0 := hmh so
      refine x_iload d_MD_readZoned_8 rfl ?_
      refine x_iload_n d_MD_readZoned_10 rfl rfl ?_
      refine j_icmp_ge 123 d_MD_readZoned_11 (by decide) (by unfold iR; omega) (by unfold iR; omega) (fun c11 => ?_) (fun c11 => ?_)
      · exfalso; omega
      refine x_aload_n d_MD_readZoned_14 rfl rfl rfl ?_
      refine x_get 5 0 d_MD_readZoned_15 gf_MD_7 (by repeat (first | assumption | exact hs_self (by assumption) | exact hs_self (hs_ne (by omega) (by assumption)) | exact hs_self (hs_ne (by omega) (hs_ne (by omega) (by assumption))) | refine hs_ne (by omega) ?_)) (by rfl) ?_
      refine x_aload_n d_MD_readZoned_18 rfl rfl rfl ?_
      refine x_get 5 12 d_MD_readZoned_19 gf_MD_19 (by repeat (first | assumption | exact hs_self (by assumption) | exact hs_self (hs_ne (by omega) (by assumption)) | exact hs_self (hs_ne (by omega) (hs_ne (by omega) (by assumption))) | refine hs_ne (by omega) ?_)) (by rfl) ?_
      refine x_iload_n d_MD_readZoned_22 rfl rfl ?_
      refine j_iald d_MD_readZoned_23 (by repeat (first | assumption | exact hs_self (by assumption) | exact hs_self (hs_ne (by omega) (by assumption)) | exact hs_self (hs_ne (by omega) (hs_ne (by omega) (by assumption))) | refine hs_ne (by omega) ?_)) (by omega) (by omega) (by decide) ?_
      refine x_top (w := vI (fO D)) (by rw [Int.toNat_natCast, f0]) ?_
      refine x_iload d_MD_readZoned_24 rfl ?_
      refine j_iadd d_MD_readZoned_26 ?_
      refine j_iald d_MD_readZoned_27 (by repeat (first | assumption | exact hs_self (by assumption) | exact hs_self (hs_ne (by omega) (by assumption)) | exact hs_self (hs_ne (by omega) (hs_ne (by omega) (by assumption))) | refine hs_ne (by omega) ?_)) (by omega) (by omega) (by decide) ?_
      refine x_top (w := vI (B (fO D + (fN D - 1)))) (by rw [show ((fO D : Int) + z).toNat = fO D + (fN D - 1) by omega]) ?_
      refine x_istore d_MD_readZoned_28 (Nat.le_of_ble_eq_true rfl) ?_
      refine x_iload d_MD_readZoned_30 rfl ?_
      refine x_iload_n d_MD_readZoned_32 rfl rfl ?_
      refine j_iconst d_MD_readZoned_33 ?_
      refine j_isub d_MD_readZoned_34 ?_
      refine j_icmp_ne 80 d_MD_readZoned_35 (by decide) (by unfold iR; omega) (by unfold iR; omega) (fun c35 => ?_) (fun c35 => ?_)
      · exfalso; omega
      refine x_aload_n d_MD_readZoned_38 rfl rfl rfl ?_
      refine x_get 5 13 d_MD_readZoned_39 gf_MD_22 (by repeat (first | assumption | exact hs_self (by assumption) | exact hs_self (hs_ne (by omega) (by assumption)) | exact hs_self (hs_ne (by omega) (hs_ne (by omega) (by assumption))) | refine hs_ne (by omega) ?_)) (by rfl) ?_
      refine x_iload_n d_MD_readZoned_42 rfl rfl ?_
      refine j_iald d_MD_readZoned_43 (by repeat (first | assumption | exact hs_self (by assumption) | exact hs_self (hs_ne (by omega) (by assumption)) | exact hs_self (hs_ne (by omega) (hs_ne (by omega) (by assumption))) | refine hs_ne (by omega) ?_)) (by omega) (by omega) (by decide) ?_
      refine x_top (w := vI (fM D : Int)) (by rw [Int.toNat_natCast, f1]) ?_
      refine j_if_ne 80 d_MD_readZoned_44 (by decide) (by unfold iR; omega) (fun c44 => ?_) (fun c44 => ?_)
      · exfalso; omega
      refine x_aload_n d_MD_readZoned_47 rfl rfl rfl ?_
      refine x_get 5 16 d_MD_readZoned_48 gf_MD_31 (by repeat (first | assumption | exact hs_self (by assumption) | exact hs_self (hs_ne (by omega) (by assumption)) | exact hs_self (hs_ne (by omega) (hs_ne (by omega) (by assumption))) | refine hs_ne (by omega) ?_)) (by rfl) ?_
      refine x_iload_n d_MD_readZoned_51 rfl rfl ?_
      refine j_zald d_MD_readZoned_52 (by repeat (first | assumption | exact hs_self (by assumption) | exact hs_self (hs_ne (by omega) (by assumption)) | exact hs_self (hs_ne (by omega) (hs_ne (by omega) (by assumption))) | refine hs_ne (by omega) ?_)) (by omega) (by omega) (by decide) ?_
      refine x_top (w := vI (fG D)) (by rw [Int.toNat_natCast, fg]) ?_
      refine j_if_eq 80 d_MD_readZoned_53 (by decide) (by unfold iR; omega) (fun c53 => ?_) (fun c53 => ?_)
      · exfalso; omega
      refine x_iload d_MD_readZoned_56 rfl ?_
      refine j_bipush d_MD_readZoned_58 (by decide) ?_
      refine j_icmp_lt 80 d_MD_readZoned_60 (by decide) (by unfold iR; omega) (by unfold iR; omega) (fun c60 => ?_) (fun c60 => ?_)
      · exfalso; omega
      refine x_iload d_MD_readZoned_63 rfl ?_
      refine j_bipush d_MD_readZoned_65 (by decide) ?_
      refine j_icmp_gt 80 d_MD_readZoned_67 (by decide) (by unfold iR; omega) (by unfold iR; omega) (fun c67 => ?_) (fun c67 => ?_)
      · exfalso; omega
      have go : ∀ s2 : Int, (s2 = 0 ∨ s2 = 1) → (s2 = 1 ↔ so = 1) → X E M_MD_readZoned 1 0 0 (xZ E 0 0 (rQ (mU h mo v tg us (uA D B)))) 101 [some (.ref mo), some (vI j), some (vI (fN D)), some (vL m), none, some (vI 1), some (vI z), some (vI (B (fO D + (fN D - 1)) - 64))] [vI s2, .ref mo] (h.set mo (oM mo v so tg us)) 0 0 := by
        intro s2 hs2 hq2
        refine xp_MD_24 d_MD_readZoned_101 pf_MD_readZoned_158 (by repeat (first | assumption | exact hs_self (by assumption) | exact hs_self (hs_ne (by omega) (by assumption)) | exact hs_self (hs_ne (by omega) (hs_ne (by omega) (by assumption))) | refine hs_ne (by omega) ?_)) (by omega) ?_
        rw [List.set_set]
        have hm2 := hmh s2
        refine x_ldc2 d_MD_readZoned_104 kl_MD_129 ?_
        refine x_lload_n d_MD_readZoned_107 rfl rfl ?_
        refine j_lmul d_MD_readZoned_108 ?_
        refine x_iload d_MD_readZoned_109 rfl ?_
        refine j_bipush d_MD_readZoned_111 (by decide) ?_
        refine j_isub d_MD_readZoned_113 ?_
        refine j_i2l d_MD_readZoned_114 (by unfold iR; omega) ?_
        refine j_ladd d_MD_readZoned_115 ?_
        refine x_lstore_n d_MD_readZoned_116 rfl (Nat.le_of_ble_eq_true rfl) ?_
        refine j_iinc d_MD_readZoned_117 rfl ?_
        refine x_goto 8 d_MD_readZoned_120 (by decide) ?_
        refine x_iload d_MD_readZoned_8 rfl ?_
        refine x_iload_n d_MD_readZoned_10 rfl rfl ?_
        refine j_icmp_ge 123 d_MD_readZoned_11 (by decide) (by unfold iR; omega) (by unfold iR; omega) (fun c11 => ?_) (fun c11 => ?_)
        · refine x_aload_n d_MD_readZoned_123 rfl rfl rfl ?_
          refine x_get 5 13 d_MD_readZoned_124 gf_MD_22 (by repeat (first | assumption | exact hs_self (by assumption) | exact hs_self (hs_ne (by omega) (by assumption)) | exact hs_self (hs_ne (by omega) (hs_ne (by omega) (by assumption))) | refine hs_ne (by omega) ?_)) (by rfl) ?_
          refine x_iload_n d_MD_readZoned_127 rfl rfl ?_
          refine j_iald d_MD_readZoned_128 (by repeat (first | assumption | exact hs_self (by assumption) | exact hs_self (hs_ne (by omega) (by assumption)) | exact hs_self (hs_ne (by omega) (hs_ne (by omega) (by assumption))) | refine hs_ne (by omega) ?_)) (by omega) (by omega) (by decide) ?_
          refine x_top (w := vI (fM D : Int)) (by rw [Int.toNat_natCast, f1]) ?_
          refine j_iconst d_MD_readZoned_129 ?_
          refine j_icmp_ne 192 d_MD_readZoned_130 (by decide) (by unfold iR; omega) (by unfold iR; omega) (fun c130 => ?_) (fun c130 => ?_)
          · refine fin s2 _ 1 _ _ hs2 (Or.inr rfl) ?_ (by omega) (fun x hxx => ?_)
            · rw [hq2, hq, hu]
              cases rdD B (fO D) (fN D - 1) <;> simp
            · rw [hu] at hxx
              cases hr : rdD B (fO D) (fN D - 1) with
              | none => rw [hr] at hxx; cases hxx
              | some y =>
                rw [hr] at hxx
                have h1 := hx y hr
                have h2 := Option.some.inj hxx
                rw [if_pos rfl]
                omega
          · exfalso; omega
        · exfalso; omega
      refine j_iconst d_MD_readZoned_70 ?_
      refine x_istore d_MD_readZoned_71 (Nat.le_of_ble_eq_true rfl) ?_
      refine x_iload d_MD_readZoned_73 rfl ?_
      refine j_bipush d_MD_readZoned_75 (by decide) ?_
      refine j_isub d_MD_readZoned_77 ?_
      refine x_istore d_MD_readZoned_78 (Nat.le_of_ble_eq_true rfl) ?_
      refine x_aload_n d_MD_readZoned_80 rfl rfl rfl ?_
      refine x_aload_n d_MD_readZoned_81 rfl rfl rfl ?_
      refine x_get 5 24 d_MD_readZoned_82 gf_MD_158 (by repeat (first | assumption | exact hs_self (by assumption) | exact hs_self (hs_ne (by omega) (by assumption)) | exact hs_self (hs_ne (by omega) (hs_ne (by omega) (by assumption))) | refine hs_ne (by omega) ?_)) (by rfl) ?_
      refine j_if_eq 100 d_MD_readZoned_85 (by decide) (by unfold iR; omega) (fun c85 => ?_) (fun c85 => ?_)
      · refine j_iconst d_MD_readZoned_100 ?_
        exact go 0 (Or.inl rfl) ⟨fun q => by omega, fun q => by omega⟩
      · refine x_iload d_MD_readZoned_88 rfl ?_
        refine x_callS1 (M' := M_MD_figure) d_MD_readZoned_90 lk_MD_81 (c_figure E _ (B (fO D + (fN D - 1)) - 64) (by unfold iR; omega)) mt_MD_figure st_MD_figure (by decide) rfl (Nat.le_of_ble_eq_true rfl) (by decide) (by decide) ?_
        refine j_if_eq 100 d_MD_readZoned_93 (by decide) (by unfold iR; split <;> omega) (fun c93 => ?_) (fun c93 => ?_)
        · rw [ite10] at c93
          exfalso; omega
        · refine j_iconst d_MD_readZoned_96 ?_
          refine x_goto 101 d_MD_readZoned_97 (by decide) ?_
          exact go 1 (Or.inr rfl) ⟨fun _ => by omega, fun _ => rfl⟩
    · refine step (fN D - 1) so m z x7 (by omega) hz hso hq hx hmb (fun q => hsp ⟨q.2.1, q.2.2.1, q.2.2.2.1, q.2.2.2.2⟩) (fun so2 m2 z2 y7 hz2 hso2 hq2 hx2 hmb2 => ?_)
      rw [hnn] at hq2 hx2 hmb2 hz2
      have hm2 := hmh so2
      refine x_iload d_MD_readZoned_8 rfl ?_
      refine x_iload_n d_MD_readZoned_10 rfl rfl ?_
      refine j_icmp_ge 123 d_MD_readZoned_11 (by decide) (by unfold iR; omega) (by unfold iR; omega) (fun c11 => ?_) (fun c11 => ?_)
      · refine x_aload_n d_MD_readZoned_123 rfl rfl rfl ?_
        refine x_get 5 13 d_MD_readZoned_124 gf_MD_22 (by repeat (first | assumption | exact hs_self (by assumption) | exact hs_self (hs_ne (by omega) (by assumption)) | exact hs_self (hs_ne (by omega) (hs_ne (by omega) (by assumption))) | refine hs_ne (by omega) ?_)) (by rfl) ?_
        refine x_iload_n d_MD_readZoned_127 rfl rfl ?_
        refine j_iald d_MD_readZoned_128 (by repeat (first | assumption | exact hs_self (by assumption) | exact hs_self (hs_ne (by omega) (by assumption)) | exact hs_self (hs_ne (by omega) (hs_ne (by omega) (by assumption))) | refine hs_ne (by omega) ?_)) (by omega) (by omega) (by decide) ?_
        refine x_top (w := vI (fM D : Int)) (by rw [Int.toNat_natCast, f1]) ?_
        refine j_iconst d_MD_readZoned_129 ?_
        refine j_icmp_ne 192 d_MD_readZoned_130 (by decide) (by unfold iR; omega) (by unfold iR; omega) (fun c130 => ?_) (fun c130 => ?_)
        · have h0 : fM D = 0 := by omega
          have hu : uA D B = rdD B (fO D) (fN D) := by
            unfold uA
            rw [if_neg (show ¬ fM D = 4 by omega), if_neg (show ¬ fM D = 1 by omega), if_neg (show ¬ fM D = 2 by omega), if_neg (show ¬ fM D = 3 by omega)]
            unfold uZ
            conv => rhs; rw [← hnn]
            rw [show fO D + fN D - 1 = fO D + (fN D - 1) by omega]
            show _ = (match rdD B (fO D) (fN D - 1) with | some m => _ | none => none)
            cases rdD B (fO D) (fN D - 1) with
            | none => rfl
            | some y =>
              show (if _ then _ else _) = _
              rw [if_neg (fun q => hsp ⟨h0, q.1, by have := q.2; unfold isDg at this; omega, by have := q.2; unfold isDg at this; omega⟩)]
          exact fin so2 m2 0 _ _ hso2 (Or.inl rfl) (by rw [hu]; exact hq2) (by omega) (fun x hxx => by rw [hu] at hxx; rw [if_neg (by decide)]; exact hx2 x hxx)
        · have h2 : fM D = 2 := by omega
          have hsb := hB (fO D + fN D) (by rw [if_pos h2] at hw; omega)
          have hw2 : fO D + fN D + 1 ≤ 64 := by rw [if_pos h2] at hw; exact hw
          have hu : uA D B = match rdD B (fO D) (fN D) with | some m => if B (fO D + fN D) = 43 then some m else if B (fO D + fN D) = 45 then some (-m) else none | none => none := by
            unfold uA
            rw [if_neg (show ¬ fM D = 4 by omega), if_neg (show ¬ fM D = 1 by omega), if_pos h2]
            rfl
          refine x_aload_n d_MD_readZoned_133 rfl rfl rfl ?_
          refine x_get 5 0 d_MD_readZoned_134 gf_MD_7 (by repeat (first | assumption | exact hs_self (by assumption) | exact hs_self (hs_ne (by omega) (by assumption)) | exact hs_self (hs_ne (by omega) (hs_ne (by omega) (by assumption))) | refine hs_ne (by omega) ?_)) (by rfl) ?_
          refine x_aload_n d_MD_readZoned_137 rfl rfl rfl ?_
          refine x_get 5 12 d_MD_readZoned_138 gf_MD_19 (by repeat (first | assumption | exact hs_self (by assumption) | exact hs_self (hs_ne (by omega) (by assumption)) | exact hs_self (hs_ne (by omega) (hs_ne (by omega) (by assumption))) | refine hs_ne (by omega) ?_)) (by rfl) ?_
          refine x_iload_n d_MD_readZoned_141 rfl rfl ?_
          refine j_iald d_MD_readZoned_142 (by repeat (first | assumption | exact hs_self (by assumption) | exact hs_self (hs_ne (by omega) (by assumption)) | exact hs_self (hs_ne (by omega) (hs_ne (by omega) (by assumption))) | refine hs_ne (by omega) ?_)) (by omega) (by omega) (by decide) ?_
          refine x_top (w := vI (fO D)) (by rw [Int.toNat_natCast, f0]) ?_
          refine x_iload_n d_MD_readZoned_143 rfl rfl ?_
          refine j_iadd d_MD_readZoned_144 ?_
          refine j_iald d_MD_readZoned_145 (by repeat (first | assumption | exact hs_self (by assumption) | exact hs_self (hs_ne (by omega) (by assumption)) | exact hs_self (hs_ne (by omega) (hs_ne (by omega) (by assumption))) | refine hs_ne (by omega) ?_)) (by omega) (by omega) (by decide) ?_
          refine x_top (w := vI (B (fO D + fN D))) (by rw [show ((fO D : Int) + fN D).toNat = fO D + fN D by omega]) ?_
          have go : ∀ s2 : Int, (s2 = 0 ∨ s2 = 1) → (s2 = 1 ↔ so2 = 1 ∧ (B (fO D + fN D) = 43 ∨ B (fO D + fN D) = 45)) → X E M_MD_readZoned 1 0 0 (xZ E 0 0 (rQ (mU h mo v tg us (uA D B)))) 175 [some (.ref mo), some (vI j), some (vI (fN D)), some (vL m2), none, some (vI 0), some (vI (B (fO D + fN D))), y7] [vI s2, .ref mo] (h.set mo (oM mo v so2 tg us)) 0 0 := by
            intro s2 hs2 hqq
            refine xp_MD_24 d_MD_readZoned_175 pf_MD_readZoned_158 (by repeat (first | assumption | exact hs_self (by assumption) | exact hs_self (hs_ne (by omega) (by assumption)) | exact hs_self (hs_ne (by omega) (hs_ne (by omega) (by assumption))) | refine hs_ne (by omega) ?_)) (by omega) ?_
            rw [List.set_set]
            have hu1 : s2 = 1 ↔ ¬ uA D B = none := by
              rw [hqq, hq2, hu]
              cases hr : rdD B (fO D) (fN D) with
              | none => simp
              | some y =>
                by_cases h43 : B (fO D + fN D) = 43
                · simp [h43]
                · by_cases h45 : B (fO D + fN D) = 45
                  · simp [h45]
                  · simp [h43, h45]
            have hu2 : ∀ x, uA D B = some x → (if B (fO D + fN D) = 45 then -m2 else m2) = x := by
              intro x hxx
              rw [hu] at hxx
              cases hr : rdD B (fO D) (fN D) with
              | none => rw [hr] at hxx; cases hxx
              | some y =>
                rw [hr] at hxx
                have h1 := hx2 y hr
                by_cases h43 : B (fO D + fN D) = 43
                · simp only [if_pos h43] at hxx
                  have := Option.some.inj hxx
                  rw [if_neg (by omega)]; omega
                · simp only [if_neg h43] at hxx
                  by_cases h45 : B (fO D + fN D) = 45
                  · simp only [if_pos h45] at hxx
                    have := Option.some.inj hxx
                    rw [if_pos h45]; omega
                  · simp only [if_neg h45] at hxx
                    cases hxx
            refine x_iload d_MD_readZoned_178 rfl ?_
            refine j_bipush d_MD_readZoned_180 (by decide) ?_
            refine j_icmp_ne 189 d_MD_readZoned_182 (by decide) (by unfold iR; omega) (by unfold iR; omega) (fun c182 => ?_) (fun c182 => ?_)
            · refine j_iconst d_MD_readZoned_189 ?_
              refine x_istore d_MD_readZoned_190 (Nat.le_of_ble_eq_true rfl) ?_
              exact fin s2 m2 0 _ _ hs2 (Or.inl rfl) hu1 (by omega) (fun x hxx => by rw [← hu2 x hxx, if_neg (by decide), if_neg c182])
            · refine j_iconst d_MD_readZoned_185 ?_
              refine x_goto 190 d_MD_readZoned_186 (by decide) ?_
              refine x_istore d_MD_readZoned_190 (Nat.le_of_ble_eq_true rfl) ?_
              exact fin s2 m2 1 _ _ hs2 (Or.inr rfl) hu1 (by omega) (fun x hxx => by rw [← hu2 x hxx, if_pos rfl, if_pos c182])
          refine x_istore d_MD_readZoned_146 (Nat.le_of_ble_eq_true rfl) ?_
          refine x_aload_n d_MD_readZoned_148 rfl rfl rfl ?_
          refine x_aload_n d_MD_readZoned_149 rfl rfl rfl ?_
          refine x_get 5 24 d_MD_readZoned_150 gf_MD_158 (by repeat (first | assumption | exact hs_self (by assumption) | exact hs_self (hs_ne (by omega) (by assumption)) | exact hs_self (hs_ne (by omega) (hs_ne (by omega) (by assumption))) | refine hs_ne (by omega) ?_)) (by rfl) ?_
          refine j_if_eq 174 d_MD_readZoned_153 (by decide) (by unfold iR; omega) (fun c153 => ?_) (fun c153 => ?_)
          · refine j_iconst d_MD_readZoned_174 ?_
            exact go 0 (Or.inl rfl) ⟨fun q => by omega, fun q => by omega⟩
          · refine x_iload d_MD_readZoned_156 rfl ?_
            refine j_bipush d_MD_readZoned_158 (by decide) ?_
            refine j_icmp_eq 170 d_MD_readZoned_160 (by decide) (by unfold iR; omega) (by unfold iR; omega) (fun c160 => ?_) (fun c160 => ?_)
            · refine j_iconst d_MD_readZoned_170 ?_
              refine x_goto 175 d_MD_readZoned_171 (by decide) ?_
              exact go 1 (Or.inr rfl) ⟨fun _ => ⟨by omega, Or.inl c160⟩, fun _ => rfl⟩
            · refine x_iload d_MD_readZoned_163 rfl ?_
              refine j_bipush d_MD_readZoned_165 (by decide) ?_
              refine j_icmp_ne 174 d_MD_readZoned_167 (by decide) (by unfold iR; omega) (by unfold iR; omega) (fun c167 => ?_) (fun c167 => ?_)
              · refine j_iconst d_MD_readZoned_174 ?_
                exact go 0 (Or.inl rfl) ⟨fun q => by omega, fun q => by omega⟩
              · refine j_iconst d_MD_readZoned_170 ?_
                refine x_goto 175 d_MD_readZoned_171 (by decide) ?_
                exact go 1 (Or.inr rfl) ⟨fun _ => ⟨by omega, Or.inr c167⟩, fun _ => rfl⟩
      · exfalso; omega
  have e1 := hset_id hm
  rw [e1] at hmain
  refine j_lconst 0 d_MD_readZoned_0 (by decide) ?_
  refine x_lstore_n d_MD_readZoned_1 rfl (Nat.le_of_ble_eq_true rfl) ?_
  refine j_iconst d_MD_readZoned_2 ?_
  refine x_istore d_MD_readZoned_3 (Nat.le_of_ble_eq_true rfl) ?_
  refine j_iconst d_MD_readZoned_5 ?_
  refine x_istore d_MD_readZoned_6 (Nat.le_of_ble_eq_true rfl) ?_
  exact hmain
