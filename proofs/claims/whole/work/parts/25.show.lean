theorem nd_split (d : Nat → Bool) : ∀ (a b i : Nat), nd d (a + b) i = nd d a i + nd d b (i + a)
  | 0, b, i => by simp [nd]
  | a + 1, b, i => by
    rw [show a + 1 + b = (a + b) + 1 by omega]
    show _ + nd d (a + b) (i + 1) = (_ + nd d a (i + 1)) + nd d b (i + (a + 1))
    rw [nd_split d a b (i + 1), show i + 1 + a = i + (a + 1) by omega]
    omega
theorem nd_le {d : Nat → Bool} {hd be i : Nat} (h1 : hd ≤ i) (h2 : i ≤ be) : nd d (be - i) i ≤ nd d (be - hd) hd := by
  have := nd_split d (i - hd) (be - i) hd
  rw [show i - hd + (be - i) = be - hd by omega, show hd + (i - hd) = i by omega] at this
  omega
set_option maxHeartbeats 2000000 in
theorem c_digitOf (E : xEnv) (h : xH) (mo j i m : Nat) (v : Nat → Int) (so tg us : Int) (A : MA) (D : FD) (hm : h[mo]? = some (oM mo v so tg us)) (hR : mR h mo A) (hF : mF A j D) (hj : j < 12) (hD : fOk D) (hG : gOk D) (h4 : fM D = 4) (hi1 : fH D ≤ i) (hi2 : i < fB D) (hmm : m < 1000000000000) : xCt E 3 0 0 M_MD_digitOf [.ref mo, vI j, vI i, vL m] h (rV (vI (dgt m (nd (fDp D) (fB D - i - 1) (i + 1)))) h) := by
  refine x_met rfl rfl (Nat.le_of_ble_eq_true rfl) ?_
  have hR0 := hR
  have hF0 := hF
  have hD0 := hD
  obtain ⟨h1, h2, h3, h4', h5, h6, h7, h8, h9, h10⟩ := hR
  obtain ⟨-, -, -, -, -, -, hF4⟩ := hF
  obtain ⟨f1, f2, f3, f4⟩ := hF4 h4
  obtain ⟨-, hn, -, -, -, hw⟩ := hD
  obtain ⟨hsy, hhb, hbc, hc18, hfi, hfl, hnd⟩ := hw h4
  obtain ⟨c, hc⟩ : ∃ c, c = nd (fDp D) (fB D - i - 1) (i + 1) := ⟨_, rfl⟩
  have hc9 : c ≤ 9 := by
    have := nd_le (d := fDp D) (hd := fH D) (be := fB D) (i := i + 1) (by omega) (by omega)
    rw [hnd, show fB D - (i + 1) = fB D - i - 1 by omega, ← hc] at this
    omega
  rw [← hc]
  have loop : ∀ (r k a : Nat) (z w : Int), k + r = fB D → z = (k : Int) → w = (a : Int) → fH D ≤ k → a + nd (fDp D) r k = c → X E M_MD_digitOf 3 0 0 (xZ E 0 0 (rV (vI (dgt m c)) h)) 8 [some (.ref mo), some (vI j), some (vI i), some (vL m), none, some (vI w), some (vI z)] [] h 0 0 := by
    intro r
    induction r with
    | zero =>
      intro k a z w hk hz hwa hhk ha
      have hac : a = c := ha
      have hle : m / 10 ^ c ≤ m := Nat.div_le_self _ _
      refine x_iload d_MD_digitOf_8 rfl ?_
      refine x_aload_n d_MD_digitOf_10 rfl rfl rfl ?_
      refine x_get 5 19 d_MD_digitOf_11 gf_MD_41 (by repeat (first | assumption | exact hs_self (by assumption) | exact hs_self (hs_ne (by omega) (by assumption)) | exact hs_self (hs_ne (by omega) (hs_ne (by omega) (by assumption))) | refine hs_ne (by omega) ?_)) (by rfl) ?_
      refine x_iload_n d_MD_digitOf_14 rfl rfl ?_
      refine j_iald d_MD_digitOf_15 (by repeat (first | assumption | exact hs_self (by assumption) | exact hs_self (hs_ne (by omega) (by assumption)) | exact hs_self (hs_ne (by omega) (hs_ne (by omega) (by assumption))) | refine hs_ne (by omega) ?_)) (by omega) (by omega) (by decide) ?_
      refine x_top (w := vI (fC D)) (by rw [Int.toNat_natCast, f1]) ?_
      refine x_aload_n d_MD_digitOf_16 rfl rfl rfl ?_
      refine x_get 5 21 d_MD_digitOf_17 gf_MD_47 (by repeat (first | assumption | exact hs_self (by assumption) | exact hs_self (hs_ne (by omega) (by assumption)) | exact hs_self (hs_ne (by omega) (hs_ne (by omega) (by assumption))) | refine hs_ne (by omega) ?_)) (by rfl) ?_
      refine x_iload_n d_MD_digitOf_20 rfl rfl ?_
      refine j_iald d_MD_digitOf_21 (by repeat (first | assumption | exact hs_self (by assumption) | exact hs_self (hs_ne (by omega) (by assumption)) | exact hs_self (hs_ne (by omega) (hs_ne (by omega) (by assumption))) | refine hs_ne (by omega) ?_)) (by omega) (by omega) (by decide) ?_
      refine x_top (w := vI ((fC D : Int) - fB D)) (by rw [Int.toNat_natCast, f3]) ?_
      refine j_isub d_MD_digitOf_22 ?_
      refine j_icmp_ge 53 d_MD_digitOf_23 (by decide) (by unfold iR; omega) (by unfold iR; omega) (fun c23 => ?_) (fun c23 => ?_)
      · refine x_lload_n d_MD_digitOf_53 rfl rfl ?_
        refine x_iload d_MD_digitOf_54 rfl ?_
        refine x_top (w := vI (c : Int)) (by rw [hwa, hac]) ?_
        have hp := pow10_le (n := c) (m := 9) hc9
        have hp0 := pow10_pos c
        refine x_callS1 (M' := M_MD_power) d_MD_digitOf_56 lk_MD_138 (c_power E h c (by omega)) mt_MD_power st_MD_power (by decide) rfl (Nat.le_of_ble_eq_true rfl) (by decide) (by decide) ?_
        refine j_ldiv d_MD_digitOf_59 (by unfold lR; omega) (by unfold lR; omega) (by omega) ?_
        obtain ⟨q, hq⟩ : ∃ q : Nat, q = m / 10 ^ c := ⟨_, rfl⟩
        refine x_top (w := vL (q : Int)) (by rw [hq, ← p10c]; rfl) ?_
        refine x_ldc2 d_MD_digitOf_60 kl_MD_129 ?_
        refine j_lrem d_MD_digitOf_63 (by unfold lR; omega) (by unfold lR; omega) (by decide) ?_
        refine j_l2i d_MD_digitOf_64 ?_
        refine x_ireturn d_MD_digitOf_65 rfl ?_
        exact rV_i (by unfold dgt; rw [← hq]; rfl) rfl
      · exfalso; omega
    | succ r ih =>
      intro k a z w hk hz hwa hhk ha
      rw [show nd (fDp D) (r + 1) k = (if fDp D k = true then 1 else 0) + nd (fDp D) r (k + 1) from rfl] at ha
      refine x_iload d_MD_digitOf_8 rfl ?_
      refine x_aload_n d_MD_digitOf_10 rfl rfl rfl ?_
      refine x_get 5 19 d_MD_digitOf_11 gf_MD_41 (by repeat (first | assumption | exact hs_self (by assumption) | exact hs_self (hs_ne (by omega) (by assumption)) | exact hs_self (hs_ne (by omega) (hs_ne (by omega) (by assumption))) | refine hs_ne (by omega) ?_)) (by rfl) ?_
      refine x_iload_n d_MD_digitOf_14 rfl rfl ?_
      refine j_iald d_MD_digitOf_15 (by repeat (first | assumption | exact hs_self (by assumption) | exact hs_self (hs_ne (by omega) (by assumption)) | exact hs_self (hs_ne (by omega) (hs_ne (by omega) (by assumption))) | refine hs_ne (by omega) ?_)) (by omega) (by omega) (by decide) ?_
      refine x_top (w := vI (fC D)) (by rw [Int.toNat_natCast, f1]) ?_
      refine x_aload_n d_MD_digitOf_16 rfl rfl rfl ?_
      refine x_get 5 21 d_MD_digitOf_17 gf_MD_47 (by repeat (first | assumption | exact hs_self (by assumption) | exact hs_self (hs_ne (by omega) (by assumption)) | exact hs_self (hs_ne (by omega) (hs_ne (by omega) (by assumption))) | refine hs_ne (by omega) ?_)) (by rfl) ?_
      refine x_iload_n d_MD_digitOf_20 rfl rfl ?_
      refine j_iald d_MD_digitOf_21 (by repeat (first | assumption | exact hs_self (by assumption) | exact hs_self (hs_ne (by omega) (by assumption)) | exact hs_self (hs_ne (by omega) (hs_ne (by omega) (by assumption))) | refine hs_ne (by omega) ?_)) (by omega) (by omega) (by decide) ?_
      refine x_top (w := vI ((fC D : Int) - fB D)) (by rw [Int.toNat_natCast, f3]) ?_
      refine j_isub d_MD_digitOf_22 ?_
      refine j_icmp_ge 53 d_MD_digitOf_23 (by decide) (by unfold iR; omega) (by unfold iR; omega) (fun c23 => ?_) (fun c23 => ?_)
      · exfalso; omega
      refine x_aload_n d_MD_digitOf_26 rfl rfl rfl ?_
      refine x_iload_n d_MD_digitOf_27 rfl rfl ?_
      refine x_iload d_MD_digitOf_28 rfl ?_
      refine x_top (w := vI (k : Int)) (by rw [hz]) ?_
      refine x_callV1 (M' := M_MD_digitPlace) d_MD_digitOf_30 lk_MD_134 (c_digitPlace E h mo j k v so tg us A D hm hR0 hF0 hj hD0 hG h4 hhk (by omega)) mt_MD_digitPlace im_MD_digitPlace se_MD_digitPlace (by repeat (first | assumption | exact hs_self (by assumption) | exact hs_self (hs_ne (by omega) (by assumption)) | exact hs_self (hs_ne (by omega) (hs_ne (by omega) (by assumption))) | refine hs_ne (by omega) ?_)) rfl (by decide) rfl (Nat.le_of_ble_eq_true rfl) (by decide) (by decide) ?_
      refine j_if_eq 43 d_MD_digitOf_33 (by decide) (by unfold iR; split <;> omega) (fun c33 => ?_) (fun c33 => ?_)
      · rw [ite10] at c33
        rw [if_neg c33] at ha
        refine x_iload d_MD_digitOf_43 rfl ?_
        refine x_istore d_MD_digitOf_45 (Nat.le_of_ble_eq_true rfl) ?_
        refine j_iinc d_MD_digitOf_47 rfl ?_
        refine x_goto 8 d_MD_digitOf_50 (by decide) ?_
        exact ih (k + 1) a _ _ (by omega) (by omega) hwa (by omega) (by omega)
      · rw [ite10] at c33
        have c33 : fDp D k = true := by simpa using c33
        rw [if_pos c33] at ha
        refine x_iload d_MD_digitOf_36 rfl ?_
        refine j_iconst d_MD_digitOf_38 ?_
        refine j_iadd d_MD_digitOf_39 ?_
        refine x_goto 45 d_MD_digitOf_40 (by decide) ?_
        refine x_istore d_MD_digitOf_45 (Nat.le_of_ble_eq_true rfl) ?_
        refine j_iinc d_MD_digitOf_47 rfl ?_
        refine x_goto 8 d_MD_digitOf_50 (by decide) ?_
        exact ih (k + 1) (a + 1) _ _ (by omega) (by omega) (by omega) (by omega) (by omega)
  refine j_iconst d_MD_digitOf_0 ?_
  refine x_istore d_MD_digitOf_1 (Nat.le_of_ble_eq_true rfl) ?_
  refine x_iload_n d_MD_digitOf_3 rfl rfl ?_
  refine j_iconst d_MD_digitOf_4 ?_
  refine j_iadd d_MD_digitOf_5 ?_
  refine x_istore d_MD_digitOf_6 (Nat.le_of_ble_eq_true rfl) ?_
  exact loop (fB D - i - 1) (i + 1) 0 _ _ (by omega) (by omega) rfl (by omega) (by omega)
/-- the first symbol of the body tells the filler -/
theorem g_first {D : FD} (hG : gOk D) (h4 : fM D = 4) : (fY D (fH D) = 42 ↔ fI D = 42) ∧ ((fY D (fH D) = 36 ∨ fY D (fH D) = 43 ∨ fY D (fH D) = 45) ↔ fL D = 1) ∧ (fL D = 1 → fY D (fH D) = fI D) := by
  obtain ⟨g0, g1, g2, g3, g4, -⟩ := hG h4
  have g1 := g1 (fH D) (Nat.le_refl _) g0
  refine ⟨⟨fun z => by omega, fun z => by rw [g3 (by omega)]; exact z⟩, ⟨fun z => g4.mpr (by omega), fun z => ?_⟩, fun z => ?_⟩
  · have z := g4.mp z
    rw [g3 (by omega)]; exact z
  · have z := g4.mp z
    exact g3 (by omega)
theorem sgM_eq {c ng : Int} (hc : c = 36 ∨ c = 43 ∨ c = 45) (hng : ng = 0 ∨ ng = 1) : sgM c ng = sgC c ng := by
  unfold sgM sgC
  (repeat' split) <;> omega
set_option maxHeartbeats 4000000 in
theorem c_show (E : xEnv) (h : xH) (mo j : Nat) (v : Nat → Int) (so tg us u : Int) (A : MA) (D : FD) (T : Nat → Int) (hm : h[mo]? = some (oM mo v so tg us)) (hR : mR h mo A) (ht : h[mo + 14]? = some (aI 18 T)) (hF : mF A j D) (hj : j < 12) (hD : fOk D) (hG : gOk D) (h4 : fM D = 4) (hu : u.natAbs < 1000000000000) (hT : ∀ i, i < 18 → iR (T i)) : xCt E 4 0 0 M_MD_show [.ref mo, vI j, vL u] h (rP (fun h' => ∃ T' : Nat → Int, h' = h.set (mo + 14) (aI 18 T') ∧ (∀ i, i < fC D → T' i = eV D u i) ∧ ∀ i, i < 18 → iR (T' i))) := by
  refine x_met rfl rfl (Nat.le_of_ble_eq_true rfl) ?_
  obtain ⟨Z, hZ⟩ : ∃ Z, Z = (xZ E 0 0 (rP (fun h' => ∃ T' : Nat → Int, h' = h.set (mo + 14) (aI 18 T') ∧ (∀ i, i < fC D → T' i = eV D u i) ∧ ∀ i, i < 18 → iR (T' i)))) := ⟨_, rfl⟩
  have hR0 := hR
  have hF0 := hF
  have hD0 := hD
  have hgf := g_first hG h4
  obtain ⟨h1, h2, h3, h4', h5, h6, h7, h8, h9, h10⟩ := hR
  obtain ⟨-, -, -, -, -, -, hF4⟩ := hF
  obtain ⟨f1, f2, f3, f4⟩ := hF4 h4
  obtain ⟨-, hn, -, -, -, hw⟩ := hD
  obtain ⟨hsy, hhb, hbc, hc18, hfi, hfl, hnd⟩ := hw h4
  obtain ⟨g0, g1, g2, g3, g4, g5, g6, g7, g8⟩ := hG h4
  obtain ⟨m, hmm⟩ : ∃ m : Nat, m = u.natAbs := ⟨_, rfl⟩
  obtain ⟨ng, hng⟩ : ∃ ng : Int, ng = if u < 0 then 1 else 0 := ⟨_, rfl⟩
  have hng1 : ng = 0 ∨ ng = 1 := by subst hng; split <;> omega
  obtain ⟨st, hst⟩ : ∃ st, st = stn (fY D) (fDp D) (fB D) m := ⟨_, rfl⟩
  obtain ⟨sh, hsh⟩ : ∃ sh, sh = fs st (fB D - fH D) (fH D) := ⟨_, rfl⟩
  have hshl := fs_le st (fB D - fH D) (fH D)
  rw [← hsh] at hshl
  have hev : ∀ k, eV D u k = if k < fH D ∨ fB D ≤ k then sgC (fY D k) ng else if fL D = 1 ∧ fH D < sh ∧ sh < fB D ∧ k + 1 = sh then sgC (fI D) ng else if k < sh then (if fI D = 42 then 42 else 32) else wbt (fY D) (fDp D) (fB D) m k := by
    intro k
    subst hsh; subst hst; subst hng; subst hmm
    rfl
  have loop2 : ∀ (r k : Nat) (G : Nat → Int) (z : Int) (x12 x13 : Option Value), k + r = fC D → z = (k : Int) → (∀ i, i < k → G i = eV D u i) → (∀ i, i < 18 → iR (G i)) → X E M_MD_show 4 0 0 Z 150 [some (.ref mo), some (vI j), some (vL u), none, some (vI ng), some (vL m), none, some (vI (fH D)), some (vI ((fC D : Int) - ((fC D : Int) - fB D))), some (vI sh), some (vI (fY D (fH D))), some (vI z), x12, x13] [] (h.set (mo + 14) (aI 18 G)) 0 0 := by
    intro r
    induction r with
    | zero =>
      intro k G z x12 x13 hk hz hG1 hG2
      refine x_iload d_MD_show_150 rfl ?_
      refine x_aload_n d_MD_show_152 rfl rfl rfl ?_
      refine x_get 5 19 d_MD_show_153 gf_MD_41 (by repeat (first | assumption | exact hs_self (by assumption) | exact hs_self (hs_ne (by omega) (by assumption)) | exact hs_self (hs_ne (by omega) (hs_ne (by omega) (by assumption))) | refine hs_ne (by omega) ?_)) (by rfl) ?_
      refine x_iload_n d_MD_show_156 rfl rfl ?_
      refine j_iald d_MD_show_157 (by repeat (first | assumption | exact hs_self (by assumption) | exact hs_self (hs_ne (by omega) (by assumption)) | exact hs_self (hs_ne (by omega) (hs_ne (by omega) (by assumption))) | refine hs_ne (by omega) ?_)) (by omega) (by omega) (by decide) ?_
      refine x_top (w := vI (fC D)) (by rw [Int.toNat_natCast, f1]) ?_
      refine j_icmp_ge 345 d_MD_show_158 (by decide) (by unfold iR; omega) (by unfold iR; omega) (fun c158 => ?_) (fun c158 => ?_)
      · rw [hZ]
        refine x_return d_MD_show_345 rfl ?_
        exact ⟨rfl, G, rfl, fun i hi => hG1 i (by omega), hG2⟩
      · exfalso; omega
    | succ r ih =>
      intro k G z x12 x13 hk hz hG1 hG2
      have hsk := hsy k (by omega)
      have hev := hev k
      have hevr : 0 ≤ eV D u k ∧ eV D u k < 65536 := eTx_r (hsy k (by omega)) hfi
      have fin : ∀ t : Int, t = eV D u k → X E M_MD_show 4 0 0 Z 330 [some (.ref mo), some (vI j), some (vL u), none, some (vI ng), some (vL m), none, some (vI (fH D)), some (vI ((fC D : Int) - ((fC D : Int) - fB D))), some (vI sh), some (vI (fY D (fH D))), some (vI z), some (vI (fY D k)), some (vI t)] [] (h.set (mo + 14) (aI 18 G)) 0 0 := by
        intro t htt
        refine x_aload_n d_MD_show_330 rfl rfl rfl ?_
        refine x_get 5 22 d_MD_show_331 gf_MD_50 (by repeat (first | assumption | exact hs_self (by assumption) | exact hs_self (hs_ne (by omega) (by assumption)) | exact hs_self (hs_ne (by omega) (hs_ne (by omega) (by assumption))) | refine hs_ne (by omega) ?_)) (by rfl) ?_
        refine x_iload d_MD_show_334 rfl ?_
        refine x_iload d_MD_show_336 rfl ?_
        refine j_iast d_MD_show_338 (by repeat (first | assumption | exact hs_self (by assumption) | exact hs_self (hs_ne (by omega) (by assumption)) | exact hs_self (hs_ne (by omega) (hs_ne (by omega) (by assumption))) | refine hs_ne (by omega) ?_)) (by omega) (by omega) (by decide) ?_
        rw [List.set_set]
        refine j_iinc d_MD_show_339 rfl ?_
        refine x_goto 150 d_MD_show_342 (by decide) ?_
        refine ih (k + 1) _ _ _ _ (by omega) (by omega) (fun i hi => ?_) (fun i hi => ?_)
        · by_cases hik : i = k
          · subst hik
            rw [show z.toNat = i by omega, gU_self]
            exact htt
          · rw [gU_ne _ _ (by omega)]
            exact hG1 i (by omega)
        · by_cases hik : i = k
          · subst hik
            rw [show z.toNat = i by omega, gU_self]
            unfold iR; omega
          · rw [gU_ne _ _ (by omega)]
            exact hG2 i hi
      have body : ∀ t : Int, fH D ≤ k → k < fB D → iR t → t = (if k < sh then (if fI D = 42 then 42 else 32) else wbt (fY D) (fDp D) (fB D) m k) → ∀ x, X E M_MD_show 4 0 0 Z 290 [some (.ref mo), some (vI j), some (vL u), none, some (vI ng), some (vL m), none, some (vI (fH D)), some (vI ((fC D : Int) - ((fC D : Int) - fB D))), some (vI sh), some (vI (fY D (fH D))), some (vI z), some (vI (fY D k)), x] [vI t] (h.set (mo + 14) (aI 18 G)) 0 0 := by
        intro t hk1 hk2 htr htt x
        rw [if_neg (by omega), ← htt] at hev
        have hs0 := hsy (fH D) (by omega)
        unfold iR at htr
        refine x_istore d_MD_show_290 (Nat.le_of_ble_eq_true rfl) ?_
        refine x_iload d_MD_show_292 rfl ?_
        refine x_callS1 (M' := M_MD_floating) d_MD_show_294 lk_MD_65 (c_floating E _ (fY D (fH D)) (by unfold iR; omega)) mt_MD_floating st_MD_floating (by decide) rfl (Nat.le_of_ble_eq_true rfl) (by decide) (by decide) ?_
        rw [show (if fY D (fH D) = 36 ∨ fY D (fH D) = 43 ∨ fY D (fH D) = 45 then (1 : Int) else 0) = if fL D = 1 then 1 else 0 by simp only [hgf.2.1]]
        refine j_if_eq 326 d_MD_show_297 (by decide) (by unfold iR; split <;> omega) (fun c297 => ?_) (fun c297 => ?_)
        · rw [ite10] at c297
          refine x_iload d_MD_show_326 rfl ?_
          refine x_istore d_MD_show_328 (Nat.le_of_ble_eq_true rfl) ?_
          exact fin _ (by rw [hev, if_neg (by omega)])
        · rw [ite10] at c297
          have c297 : fL D = 1 := by omega
          refine x_iload d_MD_show_300 rfl ?_
          refine x_iload d_MD_show_302 rfl ?_
          refine j_icmp_ge 326 d_MD_show_304 (by decide) (by unfold iR; omega) (by unfold iR; omega) (fun c304 => ?_) (fun c304 => ?_)
          · refine x_iload d_MD_show_326 rfl ?_
            refine x_istore d_MD_show_328 (Nat.le_of_ble_eq_true rfl) ?_
            exact fin _ (by rw [hev, if_neg (by omega)])
          · refine x_iload d_MD_show_307 rfl ?_
            refine x_iload d_MD_show_309 rfl ?_
            refine j_iconst d_MD_show_311 ?_
            refine j_isub d_MD_show_312 ?_
            refine j_icmp_ne 326 d_MD_show_313 (by decide) (by unfold iR; omega) (by unfold iR; omega) (fun c313 => ?_) (fun c313 => ?_)
            · refine x_iload d_MD_show_326 rfl ?_
              refine x_istore d_MD_show_328 (Nat.le_of_ble_eq_true rfl) ?_
              exact fin _ (by rw [hev, if_neg (by omega)])
            · have hff := hgf.2.2 c297
              refine x_iload d_MD_show_316 rfl ?_
              refine x_iload d_MD_show_318 rfl ?_
              refine x_callS1 (M' := M_MD_signOf) d_MD_show_320 lk_MD_146 (c_signOf E _ (fY D (fH D)) ng (by unfold iR; omega) hng1) mt_MD_signOf st_MD_signOf (by decide) rfl (Nat.le_of_ble_eq_true rfl) (by decide) (by decide) ?_
              refine x_goto 328 d_MD_show_323 (by decide) ?_
              refine x_istore d_MD_show_328 (Nat.le_of_ble_eq_true rfl) ?_
              exact fin _ (by rw [hev, if_pos (by omega), hff, sgM_eq (g4.mp c297) hng1])
      have hR1 : mR (h.set (mo + 14) (aI 18 G)) mo A := mR_set hR0 (by omega)
      have hm1 : (h.set (mo + 14) (aI 18 G))[mo]? = some (oM mo v so tg us) := hs_ne (by omega) hm
      refine x_iload d_MD_show_150 rfl ?_
      refine x_aload_n d_MD_show_152 rfl rfl rfl ?_
      refine x_get 5 19 d_MD_show_153 gf_MD_41 (by repeat (first | assumption | exact hs_self (by assumption) | exact hs_self (hs_ne (by omega) (by assumption)) | exact hs_self (hs_ne (by omega) (hs_ne (by omega) (by assumption))) | refine hs_ne (by omega) ?_)) (by rfl) ?_
      refine x_iload_n d_MD_show_156 rfl rfl ?_
      refine j_iald d_MD_show_157 (by repeat (first | assumption | exact hs_self (by assumption) | exact hs_self (hs_ne (by omega) (by assumption)) | exact hs_self (hs_ne (by omega) (hs_ne (by omega) (by assumption))) | refine hs_ne (by omega) ?_)) (by omega) (by omega) (by decide) ?_
      refine x_top (w := vI (fC D)) (by rw [Int.toNat_natCast, f1]) ?_
      refine j_icmp_ge 345 d_MD_show_158 (by decide) (by unfold iR; omega) (by unfold iR; omega) (fun c158 => ?_) (fun c158 => ?_)
      · exfalso; omega
      refine x_aload_n d_MD_show_161 rfl rfl rfl ?_
      refine x_iload_n d_MD_show_162 rfl rfl ?_
      refine x_iload d_MD_show_163 rfl ?_
      refine x_top (w := vI (k : Int)) (by rw [hz]) ?_
      refine x_callV1 (M' := M_MD_symbolAt) d_MD_show_165 lk_MD_131 (c_symbolAt E _ mo j k v so tg us A hm1 hR1 hj (by omega)) mt_MD_symbolAt im_MD_symbolAt se_MD_symbolAt (by repeat (first | assumption | exact hs_self (by assumption) | exact hs_self (hs_ne (by omega) (by assumption)) | exact hs_self (hs_ne (by omega) (hs_ne (by omega) (by assumption))) | refine hs_ne (by omega) ?_)) rfl (by decide) rfl (Nat.le_of_ble_eq_true rfl) (by decide) (by decide) ?_
      rw [f4 k (by omega)]
      have inner : k < fH D ∨ fB D ≤ k → ¬ (fB D ≤ k ∧ fC D = fB D + 2) → sgM (fY D k) ng = eV D u k := by
        intro hk1 hk2
        rw [hev, if_pos hk1]
        refine sgM_eq ?_ hng1
        rcases hk1 with hk1 | hk1
        · exact g5 k hk1
        · have := g7 (by omega)
          rw [show k = fB D by omega]
          omega
      refine x_istore d_MD_show_168 (Nat.le_of_ble_eq_true rfl) ?_
      refine x_iload d_MD_show_170 rfl ?_
      refine x_iload d_MD_show_172 rfl ?_
      refine x_callS1 (M' := M_MD_signOf) d_MD_show_174 lk_MD_146 (c_signOf E _ (fY D k) ng (by unfold iR; omega) hng1) mt_MD_signOf st_MD_signOf (by decide) rfl (Nat.le_of_ble_eq_true rfl) (by decide) (by decide) ?_
      refine x_istore d_MD_show_177 (Nat.le_of_ble_eq_true rfl) ?_
      refine x_iload d_MD_show_179 rfl ?_
      refine x_iload d_MD_show_181 rfl ?_
      have bodyStart : fH D ≤ k → k < fB D → X E M_MD_show 4 0 0 Z 227 [some (.ref mo), some (vI j), some (vL u), none, some (vI ng), some (vL m), none, some (vI (fH D)), some (vI ((fC D : Int) - ((fC D : Int) - fB D))), some (vI sh), some (vI (fY D (fH D))), some (vI z), some (vI (fY D k)), some (vI (sgM (fY D k) ng))] [] (h.set (mo + 14) (aI 18 G)) 0 0 := by
        intro hk1 hk2
        have hs0 := hsy (fH D) (by omega)
        have hdg := dgt_lt m (nd (fDp D) (fB D - k - 1) (k + 1))
        refine x_iload d_MD_show_227 rfl ?_
        refine x_iload d_MD_show_229 rfl ?_
        refine j_icmp_ge 251 d_MD_show_231 (by decide) (by unfold iR; omega) (by unfold iR; omega) (fun c231 => ?_) (fun c231 => ?_)
        · refine x_aload_n d_MD_show_251 rfl rfl rfl ?_
          refine x_iload_n d_MD_show_252 rfl rfl ?_
          refine x_iload d_MD_show_253 rfl ?_
          refine x_top (w := vI (k : Int)) (by rw [hz]) ?_
          refine x_callV1 (M' := M_MD_digitPlace) d_MD_show_255 lk_MD_134 (c_digitPlace E _ mo j k v so tg us A D hm1 hR1 hF0 hj hD0 (fun _ => ⟨g0, g1, g2, g3, g4, g5, g6, g7, g8⟩) h4 hk1 hk2) mt_MD_digitPlace im_MD_digitPlace se_MD_digitPlace (by repeat (first | assumption | exact hs_self (by assumption) | exact hs_self (hs_ne (by omega) (by assumption)) | exact hs_self (hs_ne (by omega) (hs_ne (by omega) (by assumption))) | refine hs_ne (by omega) ?_)) rfl (by decide) rfl (Nat.le_of_ble_eq_true rfl) (by decide) (by decide) ?_
          refine j_if_eq 276 d_MD_show_258 (by decide) (by unfold iR; split <;> omega) (fun c258 => ?_) (fun c258 => ?_)
          · rw [ite10] at c258
            refine x_iload d_MD_show_276 rfl ?_
            refine j_bipush d_MD_show_278 (by decide) ?_
            refine j_icmp_ne 288 d_MD_show_280 (by decide) (by unfold iR; omega) (by unfold iR; omega) (fun c280 => ?_) (fun c280 => ?_)
            · refine x_iload d_MD_show_288 rfl ?_
              exact body _ hk1 hk2 (by unfold iR; omega) (by rw [if_neg (by omega)]; unfold wbt; rw [if_neg c258, if_neg c280]) _
            · refine j_bipush d_MD_show_283 (by decide) ?_
              refine x_goto 290 d_MD_show_285 (by decide) ?_
              exact body _ hk1 hk2 (by unfold iR; omega) (by rw [if_neg (by omega)]; unfold wbt; rw [if_neg c258, if_pos c280]) _
          · rw [ite10] at c258
            have c258 : fDp D k = true := by simpa using c258
            refine j_bipush d_MD_show_261 (by decide) ?_
            refine x_aload_n d_MD_show_263 rfl rfl rfl ?_
            refine x_iload_n d_MD_show_264 rfl rfl ?_
            refine x_iload d_MD_show_265 rfl ?_
            refine x_lload d_MD_show_267 rfl ?_
            refine x_top (w := vL (m : Int)) rfl ?_
            refine x_callV1 (M' := M_MD_digitOf) d_MD_show_269 lk_MD_142 (c_digitOf E _ mo j k m v so tg us A D hm1 hR1 hF0 hj hD0 (fun _ => ⟨g0, g1, g2, g3, g4, g5, g6, g7, g8⟩) h4 hk1 hk2 (by omega)) mt_MD_digitOf im_MD_digitOf se_MD_digitOf hm1 rfl (by decide) (by rw [hz]; rfl) (Nat.le_of_ble_eq_true rfl) (by decide) (by decide) ?_
            refine j_iadd d_MD_show_272 ?_
            refine x_goto 290 d_MD_show_273 (by decide) ?_
            exact body _ hk1 hk2 (by unfold iR; omega) (by rw [if_neg (by omega)]; unfold wbt; rw [if_pos c258]) _
        · refine x_iload d_MD_show_234 rfl ?_
          refine j_bipush d_MD_show_236 (by decide) ?_
          refine j_icmp_ne 246 d_MD_show_238 (by decide) (by unfold iR; omega) (by unfold iR; omega) (fun c238 => ?_) (fun c238 => ?_)
          · refine j_bipush d_MD_show_246 (by decide) ?_
            refine x_goto 290 d_MD_show_248 (by decide) ?_
            exact body _ hk1 hk2 (by unfold iR; omega) (by rw [if_pos (by omega), if_neg (fun q => c238 (hgf.1.mpr q))]) _
          · refine j_bipush d_MD_show_241 (by decide) ?_
            refine x_goto 290 d_MD_show_243 (by decide) ?_
            exact body _ hk1 hk2 (by unfold iR; omega) (by rw [if_pos (by omega), if_pos (hgf.1.mp c238)]) _
      have at213 : ¬ (fB D ≤ k ∧ fC D = fB D + 2) → X E M_MD_show 4 0 0 Z 213 [some (.ref mo), some (vI j), some (vL u), none, some (vI ng), some (vL m), none, some (vI (fH D)), some (vI ((fC D : Int) - ((fC D : Int) - fB D))), some (vI sh), some (vI (fY D (fH D))), some (vI z), some (vI (fY D k)), some (vI (sgM (fY D k) ng))] [] (h.set (mo + 14) (aI 18 G)) 0 0 := by
        intro hno
        refine x_iload d_MD_show_213 rfl ?_
        refine x_iload d_MD_show_215 rfl ?_
        refine j_icmp_lt 330 d_MD_show_217 (by decide) (by unfold iR; omega) (by unfold iR; omega) (fun c217 => ?_) (fun c217 => ?_)
        · exact fin _ (inner (by omega) hno)
        · refine x_iload d_MD_show_220 rfl ?_
          refine x_iload d_MD_show_222 rfl ?_
          refine j_icmp_ge 330 d_MD_show_224 (by decide) (by unfold iR; omega) (by unfold iR; omega) (fun c224 => ?_) (fun c224 => ?_)
          · exact fin _ (inner (by omega) hno)
          · exact bodyStart (by omega) (by omega)
      refine j_icmp_lt 213 d_MD_show_183 (by decide) (by unfold iR; omega) (by unfold iR; omega) (fun c183 => ?_) (fun c183 => ?_)
      · exact at213 (by omega)
      · refine x_aload_n d_MD_show_186 rfl rfl rfl ?_
        refine x_get 5 21 d_MD_show_187 gf_MD_47 (by repeat (first | assumption | exact hs_self (by assumption) | exact hs_self (hs_ne (by omega) (by assumption)) | exact hs_self (hs_ne (by omega) (hs_ne (by omega) (by assumption))) | refine hs_ne (by omega) ?_)) (by rfl) ?_
        refine x_iload_n d_MD_show_190 rfl rfl ?_
        refine j_iald d_MD_show_191 (by repeat (first | assumption | exact hs_self (by assumption) | exact hs_self (hs_ne (by omega) (by assumption)) | exact hs_self (hs_ne (by omega) (hs_ne (by omega) (by assumption))) | refine hs_ne (by omega) ?_)) (by omega) (by omega) (by decide) ?_
        refine x_top (w := vI ((fC D : Int) - fB D)) (by rw [Int.toNat_natCast, f3]) ?_
        refine j_iconst d_MD_show_192 ?_
        refine j_icmp_ne 213 d_MD_show_193 (by decide) (by unfold iR; omega) (by unfold iR; omega) (fun c193 => ?_) (fun c193 => ?_)
        · exact at213 (by omega)
        · have hc := g8 (by omega) k (by omega) (by omega)
          rw [if_pos (by omega)] at hev
          refine x_iload d_MD_show_196 rfl ?_
          refine j_if_eq 206 d_MD_show_198 (by decide) (by unfold iR; omega) (fun c198 => ?_) (fun c198 => ?_)
          · refine j_bipush d_MD_show_206 (by decide) ?_
            refine x_istore d_MD_show_208 (Nat.le_of_ble_eq_true rfl) ?_
            refine x_goto 330 d_MD_show_210 (by decide) ?_
            exact fin _ (by rw [hev]; unfold sgC; rw [if_neg hc.1, if_neg hc.2, if_neg (by omega)])
          · refine x_iload d_MD_show_201 rfl ?_
            refine x_goto 208 d_MD_show_203 (by decide) ?_
            refine x_istore d_MD_show_208 (Nat.le_of_ble_eq_true rfl) ?_
            refine x_goto 330 d_MD_show_210 (by decide) ?_
            exact fin _ (by rw [hev]; unfold sgC; rw [if_neg hc.1, if_neg hc.2, if_pos (by omega)])
  have e0 := hset_id ht
  have loop1 : ∀ (r : Nat) (s z : Int) (x11 x12 : Option Value), fH D + r ≤ fB D → z = (fH D : Int) + r - 1 → s = (fs st (fB D - (fH D + r)) (fH D + r) : Nat) → X E M_MD_show 4 0 0 Z 59 [some (.ref mo), some (vI j), some (vL u), none, some (vI ng), some (vL m), none, some (vI (fH D)), some (vI ((fC D : Int) - ((fC D : Int) - fB D))), some (vI s), some (vI z), x11, x12, none] [] h 0 0 := by
    intro r
    induction r with
    | zero =>
      intro s z x11 x12 hr hz hs
      have hs2 : s = (sh : Int) := by rw [hs, hsh]; rfl
      subst hs2
      refine x_iload d_MD_show_59 rfl ?_
      refine x_iload d_MD_show_61 rfl ?_
      refine j_icmp_lt 138 d_MD_show_63 (by decide) (by unfold iR; omega) (by unfold iR; omega) (fun c63 => ?_) (fun c63 => ?_)
      · refine x_aload_n d_MD_show_138 rfl rfl rfl ?_
        refine x_iload_n d_MD_show_139 rfl rfl ?_
        refine x_iload d_MD_show_140 rfl ?_
        refine x_callV1 (M' := M_MD_symbolAt) d_MD_show_142 lk_MD_131 (c_symbolAt E h mo j (fH D) v so tg us A hm hR0 hj (by omega)) mt_MD_symbolAt im_MD_symbolAt se_MD_symbolAt (by repeat (first | assumption | exact hs_self (by assumption) | exact hs_self (hs_ne (by omega) (by assumption)) | exact hs_self (hs_ne (by omega) (hs_ne (by omega) (by assumption))) | refine hs_ne (by omega) ?_)) rfl (by decide) rfl (Nat.le_of_ble_eq_true rfl) (by decide) (by decide) ?_
        rw [f4 (fH D) (by omega)]
        refine x_istore d_MD_show_145 (Nat.le_of_ble_eq_true rfl) ?_
        refine j_iconst d_MD_show_147 ?_
        refine x_istore d_MD_show_148 (Nat.le_of_ble_eq_true rfl) ?_
        have := loop2 (fC D) 0 T 0 x12 none (by omega) rfl (fun i hi => by omega) hT
        rw [e0] at this
        exact this
      · exfalso; omega
    | succ r ih =>
      intro s z x11 x12 hr hz hs
      obtain ⟨k, hk⟩ : ∃ k, k = fH D + r := ⟨_, rfl⟩
      have hsk := hsy k (by omega)
      have hdg := dgt_lt m (nd (fDp D) (fB D - k - 1) (k + 1))
      have hfs : fs st (fB D - k) k = if st k = true then k else fs st (fB D - (fH D + (r + 1))) (fH D + (r + 1)) := by
        rw [show fB D - k = (fB D - (fH D + (r + 1))) + 1 by omega, show fH D + (r + 1) = k + 1 by omega]
        rfl
      have go : ∀ b : Int, (b = 0 ∨ b = 1) → (b = 1 ↔ st k = true) → ∀ y11 y12, X E M_MD_show 4 0 0 Z 116 [some (.ref mo), some (vI j), some (vL u), none, some (vI ng), some (vL m), none, some (vI (fH D)), some (vI ((fC D : Int) - ((fC D : Int) - fB D))), some (vI s), some (vI z), y11, y12, none] [vI b] h 0 0 := by
        intro b hb hbs y11 y12
        refine x_istore d_MD_show_116 (Nat.le_of_ble_eq_true rfl) ?_
        refine x_iload d_MD_show_118 rfl ?_
        refine j_if_eq 128 d_MD_show_120 (by decide) (by unfold iR; omega) (fun c120 => ?_) (fun c120 => ?_)
        · refine x_iload d_MD_show_128 rfl ?_
          refine x_istore d_MD_show_130 (Nat.le_of_ble_eq_true rfl) ?_
          refine j_iinc d_MD_show_132 rfl ?_
          refine x_goto 59 d_MD_show_135 (by decide) ?_
          refine ih _ _ _ _ (by omega) (by omega) ?_
          rw [← hk, hfs, if_neg (fun q => by have := hbs.mpr q; omega)]
          exact hs
        · refine x_iload d_MD_show_123 rfl ?_
          refine x_goto 130 d_MD_show_125 (by decide) ?_
          refine x_istore d_MD_show_130 (Nat.le_of_ble_eq_true rfl) ?_
          refine j_iinc d_MD_show_132 rfl ?_
          refine x_goto 59 d_MD_show_135 (by decide) ?_
          refine ih _ _ _ _ (by omega) (by omega) ?_
          rw [← hk, hfs, if_pos (hbs.mp (by omega))]
          omega
      have hstk : st k = true ↔ fY D k = 57 ∨ fY D k = 46 ∨ (fDp D k = true ∧ ¬ dgt m (nd (fDp D) (fB D - k - 1) (k + 1)) = 0) := by
        rw [hst]; unfold stn
        simp only [Bool.or_eq_true, Bool.and_eq_true, decide_eq_true_iff]
      refine x_iload d_MD_show_59 rfl ?_
      refine x_iload d_MD_show_61 rfl ?_
      refine j_icmp_lt 138 d_MD_show_63 (by decide) (by unfold iR; omega) (by unfold iR; omega) (fun c63 => ?_) (fun c63 => ?_)
      · exfalso; omega
      refine x_aload_n d_MD_show_66 rfl rfl rfl ?_
      refine x_iload_n d_MD_show_67 rfl rfl ?_
      refine x_iload d_MD_show_68 rfl ?_
      refine x_top (w := vI (k : Int)) (by rw [show z = (k : Int) by omega]) ?_
      refine x_callV1 (M' := M_MD_symbolAt) d_MD_show_70 lk_MD_131 (c_symbolAt E h mo j k v so tg us A hm hR0 hj (by omega)) mt_MD_symbolAt im_MD_symbolAt se_MD_symbolAt (by repeat (first | assumption | exact hs_self (by assumption) | exact hs_self (hs_ne (by omega) (by assumption)) | exact hs_self (hs_ne (by omega) (hs_ne (by omega) (by assumption))) | refine hs_ne (by omega) ?_)) rfl (by decide) rfl (Nat.le_of_ble_eq_true rfl) (by decide) (by decide) ?_
      rw [f4 k (by omega)]
      refine x_istore d_MD_show_73 (Nat.le_of_ble_eq_true rfl) ?_
      refine x_iload d_MD_show_75 rfl ?_
      refine j_bipush d_MD_show_77 (by decide) ?_
      refine j_icmp_eq 111 d_MD_show_79 (by decide) (by unfold iR; omega) (by unfold iR; omega) (fun c79 => ?_) (fun c79 => ?_)
      · refine j_iconst d_MD_show_111 ?_
        refine x_goto 116 d_MD_show_112 (by decide) ?_
        exact go 1 (Or.inr rfl) ⟨fun _ => hstk.mpr (Or.inl c79), fun _ => rfl⟩ _ _
      · refine x_iload d_MD_show_82 rfl ?_
        refine j_bipush d_MD_show_84 (by decide) ?_
        refine j_icmp_eq 111 d_MD_show_86 (by decide) (by unfold iR; omega) (by unfold iR; omega) (fun c86 => ?_) (fun c86 => ?_)
        · refine j_iconst d_MD_show_111 ?_
          refine x_goto 116 d_MD_show_112 (by decide) ?_
          exact go 1 (Or.inr rfl) ⟨fun _ => hstk.mpr (Or.inr (Or.inl c86)), fun _ => rfl⟩ _ _
        · refine x_aload_n d_MD_show_89 rfl rfl rfl ?_
          refine x_iload_n d_MD_show_90 rfl rfl ?_
          refine x_iload d_MD_show_91 rfl ?_
          refine x_top (w := vI (k : Int)) (by rw [show z = (k : Int) by omega]) ?_
          refine x_callV1 (M' := M_MD_digitPlace) d_MD_show_93 lk_MD_134 (c_digitPlace E h mo j k v so tg us A D hm hR0 hF0 hj hD0 (fun _ => ⟨g0, g1, g2, g3, g4, g5, g6, g7, g8⟩) h4 (by omega) (by omega)) mt_MD_digitPlace im_MD_digitPlace se_MD_digitPlace (by repeat (first | assumption | exact hs_self (by assumption) | exact hs_self (hs_ne (by omega) (by assumption)) | exact hs_self (hs_ne (by omega) (hs_ne (by omega) (by assumption))) | refine hs_ne (by omega) ?_)) rfl (by decide) rfl (Nat.le_of_ble_eq_true rfl) (by decide) (by decide) ?_
          refine j_if_eq 115 d_MD_show_96 (by decide) (by unfold iR; split <;> omega) (fun c96 => ?_) (fun c96 => ?_)
          · rw [ite10] at c96
            refine j_iconst d_MD_show_115 ?_
            exact go 0 (Or.inl rfl) ⟨fun q => by omega, fun q => by rcases hstk.mp q with q | q | q; exact absurd q c79; exact absurd q c86; exact absurd q.1 c96⟩ _ _
          · rw [ite10] at c96
            have c96 : fDp D k = true := by simpa using c96
            refine x_aload_n d_MD_show_99 rfl rfl rfl ?_
            refine x_iload_n d_MD_show_100 rfl rfl ?_
            refine x_iload d_MD_show_101 rfl ?_
            refine x_lload d_MD_show_103 rfl ?_
            refine x_callV1 (M' := M_MD_digitOf) d_MD_show_105 lk_MD_142 (c_digitOf E _ mo j k m v so tg us A D hm hR0 hF0 hj hD0 (fun _ => ⟨g0, g1, g2, g3, g4, g5, g6, g7, g8⟩) h4 (by omega) (by omega) (by omega)) mt_MD_digitOf im_MD_digitOf se_MD_digitOf hm rfl (by decide) (by rw [show z = (k : Int) by omega]; rfl) (Nat.le_of_ble_eq_true rfl) (by decide) (by decide) ?_
            refine j_if_eq 115 d_MD_show_108 (by decide) (by unfold iR; omega) (fun c108 => ?_) (fun c108 => ?_)
            · refine j_iconst d_MD_show_115 ?_
              exact go 0 (Or.inl rfl) ⟨fun q => by omega, fun q => by rcases hstk.mp q with q | q | q; exact absurd q c79; exact absurd q c86; exact absurd (by omega) q.2⟩ _ _
            · refine j_iconst d_MD_show_111 ?_
              refine x_goto 116 d_MD_show_112 (by decide) ?_
              exact go 1 (Or.inr rfl) ⟨fun _ => hstk.mpr (Or.inr (Or.inr ⟨c96, by omega⟩)), fun _ => rfl⟩ _ _
  have start : X E M_MD_show 4 0 0 Z 24 [some (.ref mo), some (vI j), some (vL u), none, some (vI ng), none, none, none, none, none, none, none, none, none] [vL m] h 0 0 := by
    refine x_lstore d_MD_show_24 (Nat.le_of_ble_eq_true rfl) ?_
    refine x_aload_n d_MD_show_26 rfl rfl rfl ?_
    refine x_get 5 20 d_MD_show_27 gf_MD_44 (by repeat (first | assumption | exact hs_self (by assumption) | exact hs_self (hs_ne (by omega) (by assumption)) | exact hs_self (hs_ne (by omega) (hs_ne (by omega) (by assumption))) | refine hs_ne (by omega) ?_)) (by rfl) ?_
    refine x_iload_n d_MD_show_30 rfl rfl ?_
    refine j_iald d_MD_show_31 (by repeat (first | assumption | exact hs_self (by assumption) | exact hs_self (hs_ne (by omega) (by assumption)) | exact hs_self (hs_ne (by omega) (hs_ne (by omega) (by assumption))) | refine hs_ne (by omega) ?_)) (by omega) (by omega) (by decide) ?_
    refine x_top (w := vI (fH D)) (by rw [Int.toNat_natCast, f2]) ?_
    refine x_istore d_MD_show_32 (Nat.le_of_ble_eq_true rfl) ?_
    refine x_aload_n d_MD_show_34 rfl rfl rfl ?_
    refine x_get 5 19 d_MD_show_35 gf_MD_41 (by repeat (first | assumption | exact hs_self (by assumption) | exact hs_self (hs_ne (by omega) (by assumption)) | exact hs_self (hs_ne (by omega) (hs_ne (by omega) (by assumption))) | refine hs_ne (by omega) ?_)) (by rfl) ?_
    refine x_iload_n d_MD_show_38 rfl rfl ?_
    refine j_iald d_MD_show_39 (by repeat (first | assumption | exact hs_self (by assumption) | exact hs_self (hs_ne (by omega) (by assumption)) | exact hs_self (hs_ne (by omega) (hs_ne (by omega) (by assumption))) | refine hs_ne (by omega) ?_)) (by omega) (by omega) (by decide) ?_
    refine x_top (w := vI (fC D)) (by rw [Int.toNat_natCast, f1]) ?_
    refine x_aload_n d_MD_show_40 rfl rfl rfl ?_
    refine x_get 5 21 d_MD_show_41 gf_MD_47 (by repeat (first | assumption | exact hs_self (by assumption) | exact hs_self (hs_ne (by omega) (by assumption)) | exact hs_self (hs_ne (by omega) (hs_ne (by omega) (by assumption))) | refine hs_ne (by omega) ?_)) (by rfl) ?_
    refine x_iload_n d_MD_show_44 rfl rfl ?_
    refine j_iald d_MD_show_45 (by repeat (first | assumption | exact hs_self (by assumption) | exact hs_self (hs_ne (by omega) (by assumption)) | exact hs_self (hs_ne (by omega) (hs_ne (by omega) (by assumption))) | refine hs_ne (by omega) ?_)) (by omega) (by omega) (by decide) ?_
    refine x_top (w := vI ((fC D : Int) - fB D)) (by rw [Int.toNat_natCast, f3]) ?_
    refine j_isub d_MD_show_46 ?_
    refine x_istore d_MD_show_47 (Nat.le_of_ble_eq_true rfl) ?_
    refine x_iload d_MD_show_49 rfl ?_
    refine x_istore d_MD_show_51 (Nat.le_of_ble_eq_true rfl) ?_
    refine x_iload d_MD_show_53 rfl ?_
    refine j_iconst d_MD_show_55 ?_
    refine j_isub d_MD_show_56 ?_
    refine x_istore d_MD_show_57 (Nat.le_of_ble_eq_true rfl) ?_
    exact loop1 (fB D - fH D) _ _ none none (by omega) (by omega) (by rw [show fB D - (fH D + (fB D - fH D)) = 0 by omega]; show _ = ((fH D + (fB D - fH D) : Nat) : Int); omega)
  rw [← hZ]
  refine x_lload_n d_MD_show_0 rfl rfl ?_
  refine j_lconst 0 d_MD_show_1 (by decide) ?_
  refine j_lcmp_ge 10 d_MD_show_2 d_MD_show_3 (by decide) (by unfold lR; omega) (by unfold lR; omega) (fun c2 => ?_) (fun c2 => ?_)
  · refine j_iconst d_MD_show_10 ?_
    refine x_istore d_MD_show_11 (Nat.le_of_ble_eq_true rfl) ?_
    have hn0 : ng = 0 := by rw [hng, if_neg (by omega)]
    refine x_iload d_MD_show_13 rfl ?_
    refine j_if_eq 23 d_MD_show_15 (by decide) (by unfold iR; omega) (fun c15 => ?_) (fun c15 => ?_)
    · refine x_lload_n d_MD_show_23 rfl rfl ?_
      rw [show u = ((m : Nat) : Int) by omega]
      rw [hn0, show u = ((m : Nat) : Int) by omega] at start
      exact start
    · exfalso; omega
  · refine j_iconst d_MD_show_6 ?_
    refine x_goto 11 d_MD_show_7 (by decide) ?_
    refine x_istore d_MD_show_11 (Nat.le_of_ble_eq_true rfl) ?_
    have hn0 : ng = 1 := by rw [hng, if_pos (by omega)]
    refine x_iload d_MD_show_13 rfl ?_
    refine j_if_eq 23 d_MD_show_15 (by decide) (by unfold iR; omega) (fun c15 => ?_) (fun c15 => ?_)
    · exfalso; omega
    · refine x_lload_n d_MD_show_18 rfl rfl ?_
      refine j_lneg d_MD_show_19 ?_
      refine x_goto 24 d_MD_show_20 (by decide) ?_
      rw [show -u = ((m : Nat) : Int) by omega]
      rw [hn0] at start
      exact start
