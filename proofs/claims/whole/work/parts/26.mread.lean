set_option maxHeartbeats 2000000 in
theorem c_shows (E : xEnv) (h : xH) (mo j : Nat) (v : Nat → Int) (so tg us u : Int) (A : MA) (D : FD) (B T : Nat → Int) (hm : h[mo]? = some (oM mo v so tg us)) (hR : mR h mo A) (hb : h[mo + 1]? = some (aI 64 B)) (ht : h[mo + 14]? = some (aI 18 T)) (hF : mF A j D) (hj : j < 12) (hD : fOk D) (hG : gOk D) (h4 : fM D = 4) (hu : u.natAbs < 1000000000000) (hB : bOk B) (hT : ∀ i, i < 18 → iR (T i)) : xCt E 5 0 0 M_MD_shows [.ref mo, vI j, vL u] h (rQ (fun w h' => w = vI (if tEq B (eV D u) (fO D) (fC D) = true then 1 else 0) ∧ ∃ T' : Nat → Int, h' = h.set (mo + 14) (aI 18 T') ∧ ∀ i, i < 18 → iR (T' i))) := by
  refine x_met rfl rfl (Nat.le_of_ble_eq_true rfl) ?_
  have hR0 := hR
  have hF0 := hF
  have hD0 := hD
  obtain ⟨h1, h2, h3, h4', h5, h6, h7, h8, h9, h10⟩ := hR
  obtain ⟨f0, -, -, -, -, -, hF4⟩ := hF
  obtain ⟨f1, f2, f3, f4⟩ := hF4 h4
  obtain ⟨-, hn, -, -, ho, hw⟩ := hD
  obtain ⟨hsy, hhb, hbc, hc18, hfi, hfl, hnd⟩ := hw h4
  have hfw : fW D = fC D := by unfold fW; rw [if_pos h4]
  rw [hfw] at ho
  refine x_aload_n d_MD_shows_0 rfl rfl rfl ?_
  refine x_iload_n d_MD_shows_1 rfl rfl ?_
  refine x_lload_n d_MD_shows_2 rfl rfl ?_
  refine x_callVp (M' := M_MD_show) d_MD_shows_3 lk_MD_150 (c_show E h mo j v so tg us u A D T hm hR0 ht hF0 hj hD0 hG h4 hu hT) mt_MD_show im_MD_show se_MD_show (by repeat (first | assumption | exact hs_self (by assumption) | exact hs_self (hs_ne (by omega) (by assumption)) | exact hs_self (hs_ne (by omega) (hs_ne (by omega) (by assumption))) | refine hs_ne (by omega) ?_)) rfl (by decide) rfl (Nat.le_of_ble_eq_true rfl) (by decide) (by decide) ?_
  rintro h' ⟨T1, rfl, hA, hRg⟩
  have he1 : tEq B T1 (fO D) (fC D) = tEq B (eV D u) (fO D) (fC D) := tEq_congr hA
  rw [← he1]
  have ht1 := hs_self (e := aI 18 T1) ht
  have loop : ∀ (r k : Nat) (s z : Int), k + r = fC D → z = (k : Int) → (s = 0 ∨ s = 1) → (s = 1 ↔ ∀ i, i < k → B (fO D + i) = T1 i) → X E M_MD_shows 5 0 0 (xZ E 0 0 (rQ (fun w h' => w = vI (if tEq B T1 (fO D) (fC D) = true then 1 else 0) ∧ ∃ T' : Nat → Int, h' = h.set (mo + 14) (aI 18 T') ∧ ∀ i, i < 18 → iR (T' i)))) 12 [some (.ref mo), some (vI j), some (vL u), none, some (vI s), some (vI z)] [] (h.set (mo + 14) (aI 18 T1)) 0 0 := by
    intro r
    induction r with
    | zero =>
      intro k s z hk hz hs hq
      refine x_iload d_MD_shows_12 rfl ?_
      refine x_aload_n d_MD_shows_14 rfl rfl rfl ?_
      refine x_get 5 19 d_MD_shows_15 gf_MD_41 (by repeat (first | assumption | exact hs_self (by assumption) | exact hs_self (hs_ne (by omega) (by assumption)) | exact hs_self (hs_ne (by omega) (hs_ne (by omega) (by assumption))) | refine hs_ne (by omega) ?_)) (by rfl) ?_
      refine x_iload_n d_MD_shows_18 rfl rfl ?_
      refine j_iald d_MD_shows_19 (by repeat (first | assumption | exact hs_self (by assumption) | exact hs_self (hs_ne (by omega) (by assumption)) | exact hs_self (hs_ne (by omega) (hs_ne (by omega) (by assumption))) | refine hs_ne (by omega) ?_)) (by omega) (by omega) (by decide) ?_
      refine x_top (w := vI (fC D)) (by rw [Int.toNat_natCast, f1]) ?_
      refine j_icmp_ge 65 d_MD_shows_20 (by decide) (by unfold iR; omega) (by unfold iR; omega) (fun c20 => ?_) (fun c20 => ?_)
      · refine x_iload d_MD_shows_65 rfl ?_
        refine j_zreturn d_MD_shows_67 rfl (by omega) ?_
        refine ⟨_, rfl, ?_, T1, rfl, hRg⟩
        rw [show k = fC D by omega, ← tEq_iff] at hq
        congr 2
        split
        · exact hq.mpr (by assumption)
        · rcases hs with hs | hs
          · exact hs
          · exact absurd (hq.mp hs) (by assumption)
      · exfalso; omega
    | succ r ih =>
      intro k s z hk hz hs hq
      have hb1 := hB (fO D + k) (by omega)
      have ht2 := hRg k (by omega)
      have go : ∀ s2 : Int, (s2 = 0 ∨ s2 = 1) → (s2 = 1 ↔ s = 1 ∧ B (fO D + k) = T1 k) → X E M_MD_shows 5 0 0 (xZ E 0 0 (rQ (fun w h' => w = vI (if tEq B T1 (fO D) (fC D) = true then 1 else 0) ∧ ∃ T' : Nat → Int, h' = h.set (mo + 14) (aI 18 T') ∧ ∀ i, i < 18 → iR (T' i)))) 57 [some (.ref mo), some (vI j), some (vL u), none, some (vI s), some (vI z)] [vI s2] (h.set (mo + 14) (aI 18 T1)) 0 0 := by
        intro s2 hs2 hq2
        refine x_istore d_MD_shows_57 (Nat.le_of_ble_eq_true rfl) ?_
        refine j_iinc d_MD_shows_59 rfl ?_
        refine x_goto 12 d_MD_shows_62 (by decide) ?_
        refine ih (k + 1) _ _ (by omega) (by omega) hs2 ?_
        rw [hq2, hq]
        constructor
        · intro ⟨a, b⟩ i hi
          by_cases hik : i = k
          · subst hik; exact b
          · exact a i (by omega)
        · intro a
          exact ⟨fun i hi => a i (by omega), a k (by omega)⟩
      refine x_iload d_MD_shows_12 rfl ?_
      refine x_aload_n d_MD_shows_14 rfl rfl rfl ?_
      refine x_get 5 19 d_MD_shows_15 gf_MD_41 (by repeat (first | assumption | exact hs_self (by assumption) | exact hs_self (hs_ne (by omega) (by assumption)) | exact hs_self (hs_ne (by omega) (hs_ne (by omega) (by assumption))) | refine hs_ne (by omega) ?_)) (by rfl) ?_
      refine x_iload_n d_MD_shows_18 rfl rfl ?_
      refine j_iald d_MD_shows_19 (by repeat (first | assumption | exact hs_self (by assumption) | exact hs_self (hs_ne (by omega) (by assumption)) | exact hs_self (hs_ne (by omega) (hs_ne (by omega) (by assumption))) | refine hs_ne (by omega) ?_)) (by omega) (by omega) (by decide) ?_
      refine x_top (w := vI (fC D)) (by rw [Int.toNat_natCast, f1]) ?_
      refine j_icmp_ge 65 d_MD_shows_20 (by decide) (by unfold iR; omega) (by unfold iR; omega) (fun c20 => ?_) (fun c20 => ?_)
      · exfalso; omega
      refine x_iload d_MD_shows_23 rfl ?_
      refine j_if_eq 56 d_MD_shows_25 (by decide) (by unfold iR; omega) (fun c25 => ?_) (fun c25 => ?_)
      · refine j_iconst d_MD_shows_56 ?_
        exact go 0 (Or.inl rfl) ⟨fun q => by omega, fun q => by omega⟩
      · refine x_aload_n d_MD_shows_28 rfl rfl rfl ?_
        refine x_get 5 0 d_MD_shows_29 gf_MD_7 (by repeat (first | assumption | exact hs_self (by assumption) | exact hs_self (hs_ne (by omega) (by assumption)) | exact hs_self (hs_ne (by omega) (hs_ne (by omega) (by assumption))) | refine hs_ne (by omega) ?_)) (by rfl) ?_
        refine x_aload_n d_MD_shows_32 rfl rfl rfl ?_
        refine x_get 5 12 d_MD_shows_33 gf_MD_19 (by repeat (first | assumption | exact hs_self (by assumption) | exact hs_self (hs_ne (by omega) (by assumption)) | exact hs_self (hs_ne (by omega) (hs_ne (by omega) (by assumption))) | refine hs_ne (by omega) ?_)) (by rfl) ?_
        refine x_iload_n d_MD_shows_36 rfl rfl ?_
        refine j_iald d_MD_shows_37 (by repeat (first | assumption | exact hs_self (by assumption) | exact hs_self (hs_ne (by omega) (by assumption)) | exact hs_self (hs_ne (by omega) (hs_ne (by omega) (by assumption))) | refine hs_ne (by omega) ?_)) (by omega) (by omega) (by decide) ?_
        refine x_top (w := vI (fO D)) (by rw [Int.toNat_natCast, f0]) ?_
        refine x_iload d_MD_shows_38 rfl ?_
        refine j_iadd d_MD_shows_40 ?_
        refine j_iald d_MD_shows_41 (by repeat (first | assumption | exact hs_self (by assumption) | exact hs_self (hs_ne (by omega) (by assumption)) | exact hs_self (hs_ne (by omega) (hs_ne (by omega) (by assumption))) | refine hs_ne (by omega) ?_)) (by omega) (by omega) (by decide) ?_
        refine x_top (w := vI (B (fO D + k))) (by rw [show ((fO D : Int) + z).toNat = fO D + k by omega]) ?_
        refine x_aload_n d_MD_shows_42 rfl rfl rfl ?_
        refine x_get 5 22 d_MD_shows_43 gf_MD_50 (by repeat (first | assumption | exact hs_self (by assumption) | exact hs_self (hs_ne (by omega) (by assumption)) | exact hs_self (hs_ne (by omega) (hs_ne (by omega) (by assumption))) | refine hs_ne (by omega) ?_)) (by rfl) ?_
        refine x_iload d_MD_shows_46 rfl ?_
        refine j_iald d_MD_shows_48 (by repeat (first | assumption | exact hs_self (by assumption) | exact hs_self (hs_ne (by omega) (by assumption)) | exact hs_self (hs_ne (by omega) (hs_ne (by omega) (by assumption))) | refine hs_ne (by omega) ?_)) (by omega) (by omega) (by decide) ?_
        refine x_top (w := vI (T1 k)) (by rw [show z.toNat = k by omega]) ?_
        refine j_icmp_ne 56 d_MD_shows_49 (by decide) (by unfold iR; omega) ht2 (fun c49 => ?_) (fun c49 => ?_)
        · refine j_iconst d_MD_shows_56 ?_
          exact go 0 (Or.inl rfl) ⟨fun q => by omega, fun q => absurd q.2 c49⟩
        · refine j_iconst d_MD_shows_52 ?_
          refine x_goto 57 d_MD_shows_53 (by decide) ?_
          exact go 1 (Or.inr rfl) ⟨fun _ => ⟨by omega, c49⟩, fun _ => rfl⟩
  refine j_iconst d_MD_shows_6 ?_
  refine x_istore d_MD_shows_7 (Nat.le_of_ble_eq_true rfl) ?_
  refine j_iconst d_MD_shows_9 ?_
  refine x_istore d_MD_shows_10 (Nat.le_of_ble_eq_true rfl) ?_
  exact loop (fC D) 0 1 _ (by omega) rfl (Or.inr rfl) ⟨fun _ i hi => by omega, fun _ => rfl⟩
/-- what the model's reading leaves behind -/
def mU (h : xH) (mo : Nat) (v : Nat → Int) (tg us : Int) (o : Option Int) (w : Value) (h' : xH) : Prop := ∃ (z so : Int) (T : Nat → Int), w = vL z ∧ z.natAbs < 1000000000000 ∧ h' = (h.set (mo + 14) (aI 18 T)).set mo (oM mo v so tg us) ∧ (so = 0 ∨ so = 1) ∧ (so = 1 ↔ ¬ o = none) ∧ (∀ x, o = some x → z = x) ∧ ∀ i, i < 18 → iR (T i)
set_option maxHeartbeats 2000000 in
theorem c_readEdited (E : xEnv) (h : xH) (mo j : Nat) (v : Nat → Int) (so tg us : Int) (A : MA) (D : FD) (B T : Nat → Int) (hm : h[mo]? = some (oM mo v so tg us)) (hR : mR h mo A) (hb : h[mo + 1]? = some (aI 64 B)) (ht : h[mo + 14]? = some (aI 18 T)) (hF : mF A j D) (hj : j < 12) (hD : fOk D) (hG : gOk D) (h4 : fM D = 4) (hB : bOk B) (hT : ∀ i, i < 18 → iR (T i)) : xCt E 6 0 0 M_MD_readEdited [.ref mo, vI j] h (rQ (mU h mo v tg us (uE D B))) := by
  refine x_met rfl rfl (Nat.le_of_ble_eq_true rfl) ?_
  have hR0 := hR
  have hF0 := hF
  have hD0 := hD
  have hmr := mgD_r hD h4 B
  obtain ⟨h1, h2, h3, h4', h5, h6, h7, h8, h9, h10⟩ := hR
  obtain ⟨f0, -, -, -, fg, -, hF4⟩ := hF
  obtain ⟨f1, f2, f3, f4⟩ := hF4 h4
  obtain ⟨-, hn, -, hg, ho, hw⟩ := hD
  obtain ⟨hsy, hhb, hbc, hc18, hfi, hfl, hnd⟩ := hw h4
  have hfw : fW D = fC D := by unfold fW; rw [if_pos h4]
  rw [hfw] at ho
  have back : ∀ x4 x5, X E M_MD_readEdited 6 0 0 (xZ E 0 0 (rQ (mU h mo v tg us (uE D B)))) 85 [some (.ref mo), some (vI j), some (vL (mgD D B)), none, x4, x5] [] h 0 0 := by
    intro x4 x5
    refine x_aload_n d_MD_readEdited_85 rfl rfl rfl ?_
    refine x_iload_n d_MD_readEdited_86 rfl rfl ?_
    refine x_lload_n d_MD_readEdited_87 rfl rfl ?_
    refine x_callVq (M' := M_MD_shows) d_MD_readEdited_88 lk_MD_154 (c_shows E h mo j v so tg us (mgD D B) A D B T hm hR0 hb ht hF0 hj hD0 hG h4 (by omega) hB hT) mt_MD_shows im_MD_shows se_MD_shows (by repeat (first | assumption | exact hs_self (by assumption) | exact hs_self (hs_ne (by omega) (by assumption)) | exact hs_self (hs_ne (by omega) (hs_ne (by omega) (by assumption))) | refine hs_ne (by omega) ?_)) rfl (by decide) rfl (Nat.le_of_ble_eq_true rfl) (by decide) (by decide) ?_
    rintro w h' ⟨rfl, T1, rfl, hT1⟩
    have ht1 := hs_self (e := aI 18 T1) ht
    have hR1 : mR (h.set (mo + 14) (aI 18 T1)) mo A := mR_set hR0 (by omega)
    obtain ⟨p1, hp1⟩ : ∃ p1 : Int, p1 = if tEq B (eV D (mgD D B)) (fO D) (fC D) = true then 1 else 0 := ⟨_, rfl⟩
    have hp01 : p1 = 0 ∨ p1 = 1 := by subst hp1; split <;> omega
    rw [← hp1]
    have fin : ∀ (T2 : Nat → Int) (m1 : Int), (m1 = 0 ∨ m1 = 1) → (∀ i, i < 18 → iR (T2 i)) → (m1 = 1 ↔ fG D = 1 ∧ tEq B (eV D (-mgD D B)) (fO D) (fC D) = true) → X E M_MD_readEdited 6 0 0 (xZ E 0 0 (rQ (mU h mo v tg us (uE D B)))) 117 [some (.ref mo), some (vI j), some (vL (mgD D B)), none, some (vI p1), x5] [vI m1] (h.set (mo + 14) (aI 18 T2)) 0 0 := by
      intro T2 m1 hm1 hT2 hq
      have fin2 : ∀ s : Int, (s = 0 ∨ s = 1) → (s = 1 ↔ p1 = 1 ∨ m1 = 1) → X E M_MD_readEdited 6 0 0 (xZ E 0 0 (rQ (mU h mo v tg us (uE D B)))) 135 [some (.ref mo), some (vI j), some (vL (mgD D B)), none, some (vI p1), some (vI m1)] [vI s, .ref mo] (h.set (mo + 14) (aI 18 T2)) 0 0 := by
        intro s hs hsq
        have hnn : s = 1 ↔ ¬ uE D B = none := by
          rw [hsq, hp1]
          unfold uE
          by_cases ha : tEq B (eV D (mgD D B)) (fO D) (fC D) = true
          · simp [ha]
          · rw [if_neg ha, if_neg ha]
            by_cases hb : fG D = 1 ∧ tEq B (eV D (-mgD D B)) (fO D) (fC D) = true
            · rw [if_pos hb]
              simp [hq.mpr hb]
            · rw [if_neg hb]
              have : ¬ m1 = 1 := fun z => hb (hq.mp z)
              simp [this]
        refine xp_MD_24 d_MD_readEdited_135 pf_MD_readEdited_158 (by repeat (first | assumption | exact hs_self (by assumption) | exact hs_self (hs_ne (by omega) (by assumption)) | exact hs_self (hs_ne (by omega) (hs_ne (by omega) (by assumption))) | refine hs_ne (by omega) ?_)) (by omega) ?_
        refine x_iload d_MD_readEdited_138 rfl ?_
        refine j_if_eq 147 d_MD_readEdited_140 (by decide) (by unfold iR; omega) (fun c140 => ?_) (fun c140 => ?_)
        · refine x_lload_n d_MD_readEdited_147 rfl rfl ?_
          refine j_lneg d_MD_readEdited_148 ?_
          refine x_lreturn d_MD_readEdited_149 rfl ?_
          refine ⟨_, rfl, _, s, T2, rfl, by omega, rfl, hs, hnn, fun x hx => ?_, hT2⟩
          unfold uE at hx
          rw [if_neg (fun z => by rw [hp1, if_pos z] at c140; omega)] at hx
          split at hx
          · exact Option.some.inj hx
          · cases hx
        · refine x_lload_n d_MD_readEdited_143 rfl rfl ?_
          refine x_goto 149 d_MD_readEdited_144 (by decide) ?_
          refine x_lreturn d_MD_readEdited_149 rfl ?_
          refine ⟨_, rfl, _, s, T2, rfl, by omega, rfl, hs, hnn, fun x hx => ?_, hT2⟩
          unfold uE at hx
          split at hx
          · exact Option.some.inj hx
          · rename_i hno
            rw [hp1, if_neg hno] at c140
            exact absurd rfl c140
      refine x_istore d_MD_readEdited_117 (Nat.le_of_ble_eq_true rfl) ?_
      refine x_aload_n d_MD_readEdited_119 rfl rfl rfl ?_
      refine x_iload d_MD_readEdited_120 rfl ?_
      refine j_if_ne 130 d_MD_readEdited_122 (by decide) (by unfold iR; omega) (fun c122 => ?_) (fun c122 => ?_)
      · refine j_iconst d_MD_readEdited_130 ?_
        refine x_goto 135 d_MD_readEdited_131 (by decide) ?_
        exact fin2 1 (Or.inr rfl) ⟨fun _ => Or.inl (by omega), fun _ => rfl⟩
      · refine x_iload d_MD_readEdited_125 rfl ?_
        refine j_if_eq 134 d_MD_readEdited_127 (by decide) (by unfold iR; omega) (fun c127 => ?_) (fun c127 => ?_)
        · refine j_iconst d_MD_readEdited_134 ?_
          exact fin2 0 (Or.inl rfl) ⟨fun z => by omega, fun z => by omega⟩
        · refine j_iconst d_MD_readEdited_130 ?_
          refine x_goto 135 d_MD_readEdited_131 (by decide) ?_
          exact fin2 1 (Or.inr rfl) ⟨fun _ => Or.inr (by omega), fun _ => rfl⟩
    refine x_istore d_MD_readEdited_91 (Nat.le_of_ble_eq_true rfl) ?_
    refine x_aload_n d_MD_readEdited_93 rfl rfl rfl ?_
    refine x_get 5 16 d_MD_readEdited_94 gf_MD_31 (by repeat (first | assumption | exact hs_self (by assumption) | exact hs_self (hs_ne (by omega) (by assumption)) | exact hs_self (hs_ne (by omega) (hs_ne (by omega) (by assumption))) | refine hs_ne (by omega) ?_)) (by rfl) ?_
    refine x_iload_n d_MD_readEdited_97 rfl rfl ?_
    refine j_zald d_MD_readEdited_98 (by repeat (first | assumption | exact hs_self (by assumption) | exact hs_self (hs_ne (by omega) (by assumption)) | exact hs_self (hs_ne (by omega) (hs_ne (by omega) (by assumption))) | refine hs_ne (by omega) ?_)) (by omega) (by omega) (by decide) ?_
    refine x_top (w := vI (fG D)) (by rw [Int.toNat_natCast, fg]) ?_
    refine j_if_eq 116 d_MD_readEdited_99 (by decide) (by unfold iR; omega) (fun c99 => ?_) (fun c99 => ?_)
    · refine j_iconst d_MD_readEdited_116 ?_
      exact fin T1 0 (Or.inl rfl) hT1 ⟨fun z => by omega, fun z => by omega⟩
    · refine x_aload_n d_MD_readEdited_102 rfl rfl rfl ?_
      refine x_iload_n d_MD_readEdited_103 rfl rfl ?_
      refine x_lload_n d_MD_readEdited_104 rfl rfl ?_
      refine j_lneg d_MD_readEdited_105 ?_
      refine x_callVq (M' := M_MD_shows) d_MD_readEdited_106 lk_MD_154 (c_shows E _ mo j v so tg us (-mgD D B) A D B T1 (hs_ne (by omega) hm) hR1 (hs_ne (by omega) hb) ht1 hF0 hj hD0 hG h4 (by omega) hB hT1) mt_MD_shows im_MD_shows se_MD_shows (by repeat (first | assumption | exact hs_self (by assumption) | exact hs_self (hs_ne (by omega) (by assumption)) | exact hs_self (hs_ne (by omega) (hs_ne (by omega) (by assumption))) | refine hs_ne (by omega) ?_)) rfl (by decide) rfl (Nat.le_of_ble_eq_true rfl) (by decide) (by decide) ?_
      rintro w h' ⟨rfl, T2, rfl, hT2⟩
      rw [List.set_set]
      refine j_if_eq 116 d_MD_readEdited_109 (by decide) (by unfold iR; split <;> omega) (fun c109 => ?_) (fun c109 => ?_)
      · rw [ite10] at c109
        refine j_iconst d_MD_readEdited_116 ?_
        exact fin T2 0 (Or.inl rfl) hT2 ⟨fun z => by omega, fun z => absurd z.2 c109⟩
      · rw [ite10] at c109
        have c109 : tEq B (eV D (-mgD D B)) (fO D) (fC D) = true := by simpa using c109
        refine j_iconst d_MD_readEdited_112 ?_
        refine x_goto 117 d_MD_readEdited_113 (by decide) ?_
        exact fin T2 1 (Or.inr rfl) hT2 ⟨fun _ => ⟨by omega, c109⟩, fun _ => rfl⟩
  have loop : ∀ (r k : Nat) (m z : Int) (c : Nat) (x5 : Option Value), k + r = fB D → fH D ≤ k → z = (k : Int) → 0 ≤ m → m < 10 ^ c → c + nd (fDp D) r k = fN D → mgE B (fO D) (fDp D) r k m = mgD D B → X E M_MD_readEdited 6 0 0 (xZ E 0 0 (rQ (mU h mo v tg us (uE D B)))) 10 [some (.ref mo), some (vI j), some (vL m), none, some (vI z), x5] [] h 0 0 := by
    intro r
    induction r with
    | zero =>
      intro k m z c x5 hk hhk hz hm0 hm1 hc hmg
      have hmg : m = mgD D B := hmg
      subst hmg
      refine x_iload d_MD_readEdited_10 rfl ?_
      refine x_aload_n d_MD_readEdited_12 rfl rfl rfl ?_
      refine x_get 5 19 d_MD_readEdited_13 gf_MD_41 (by repeat (first | assumption | exact hs_self (by assumption) | exact hs_self (hs_ne (by omega) (by assumption)) | exact hs_self (hs_ne (by omega) (hs_ne (by omega) (by assumption))) | refine hs_ne (by omega) ?_)) (by rfl) ?_
      refine x_iload_n d_MD_readEdited_16 rfl rfl ?_
      refine j_iald d_MD_readEdited_17 (by repeat (first | assumption | exact hs_self (by assumption) | exact hs_self (hs_ne (by omega) (by assumption)) | exact hs_self (hs_ne (by omega) (hs_ne (by omega) (by assumption))) | refine hs_ne (by omega) ?_)) (by omega) (by omega) (by decide) ?_
      refine x_top (w := vI (fC D)) (by rw [Int.toNat_natCast, f1]) ?_
      refine x_aload_n d_MD_readEdited_18 rfl rfl rfl ?_
      refine x_get 5 21 d_MD_readEdited_19 gf_MD_47 (by repeat (first | assumption | exact hs_self (by assumption) | exact hs_self (hs_ne (by omega) (by assumption)) | exact hs_self (hs_ne (by omega) (hs_ne (by omega) (by assumption))) | refine hs_ne (by omega) ?_)) (by rfl) ?_
      refine x_iload_n d_MD_readEdited_22 rfl rfl ?_
      refine j_iald d_MD_readEdited_23 (by repeat (first | assumption | exact hs_self (by assumption) | exact hs_self (hs_ne (by omega) (by assumption)) | exact hs_self (hs_ne (by omega) (hs_ne (by omega) (by assumption))) | refine hs_ne (by omega) ?_)) (by omega) (by omega) (by decide) ?_
      refine x_top (w := vI ((fC D : Int) - fB D)) (by rw [Int.toNat_natCast, f3]) ?_
      refine j_isub d_MD_readEdited_24 ?_
      refine j_icmp_ge 85 d_MD_readEdited_25 (by decide) (by unfold iR; omega) (by unfold iR; omega) (fun c25 => ?_) (fun c25 => ?_)
      · exact back _ _
      · exfalso; omega
    | succ r ih =>
      intro k m z c x5 hk hhk hz hm0 hm1 hc hmg
      have hb1 := hB (fO D + k) (by omega)
      have hp9 := pow10_le (n := c) (m := 9) (by omega)
      rw [show nd (fDp D) (r + 1) k = (if fDp D k = true then 1 else 0) + nd (fDp D) r (k + 1) from rfl] at hc
      rw [show mgE B (fO D) (fDp D) (r + 1) k m = mgE B (fO D) (fDp D) r (k + 1) (if fDp D k = true then 10 * m + (if 0 ≤ B (fO D + k) - 48 ∧ B (fO D + k) - 48 ≤ 9 then B (fO D + k) - 48 else 0) else m) from rfl] at hmg
      refine x_iload d_MD_readEdited_10 rfl ?_
      refine x_aload_n d_MD_readEdited_12 rfl rfl rfl ?_
      refine x_get 5 19 d_MD_readEdited_13 gf_MD_41 (by repeat (first | assumption | exact hs_self (by assumption) | exact hs_self (hs_ne (by omega) (by assumption)) | exact hs_self (hs_ne (by omega) (hs_ne (by omega) (by assumption))) | refine hs_ne (by omega) ?_)) (by rfl) ?_
      refine x_iload_n d_MD_readEdited_16 rfl rfl ?_
      refine j_iald d_MD_readEdited_17 (by repeat (first | assumption | exact hs_self (by assumption) | exact hs_self (hs_ne (by omega) (by assumption)) | exact hs_self (hs_ne (by omega) (hs_ne (by omega) (by assumption))) | refine hs_ne (by omega) ?_)) (by omega) (by omega) (by decide) ?_
      refine x_top (w := vI (fC D)) (by rw [Int.toNat_natCast, f1]) ?_
      refine x_aload_n d_MD_readEdited_18 rfl rfl rfl ?_
      refine x_get 5 21 d_MD_readEdited_19 gf_MD_47 (by repeat (first | assumption | exact hs_self (by assumption) | exact hs_self (hs_ne (by omega) (by assumption)) | exact hs_self (hs_ne (by omega) (hs_ne (by omega) (by assumption))) | refine hs_ne (by omega) ?_)) (by rfl) ?_
      refine x_iload_n d_MD_readEdited_22 rfl rfl ?_
      refine j_iald d_MD_readEdited_23 (by repeat (first | assumption | exact hs_self (by assumption) | exact hs_self (hs_ne (by omega) (by assumption)) | exact hs_self (hs_ne (by omega) (hs_ne (by omega) (by assumption))) | refine hs_ne (by omega) ?_)) (by omega) (by omega) (by decide) ?_
      refine x_top (w := vI ((fC D : Int) - fB D)) (by rw [Int.toNat_natCast, f3]) ?_
      refine j_isub d_MD_readEdited_24 ?_
      refine j_icmp_ge 85 d_MD_readEdited_25 (by decide) (by unfold iR; omega) (by unfold iR; omega) (fun c25 => ?_) (fun c25 => ?_)
      · exfalso; omega
      refine x_aload_n d_MD_readEdited_28 rfl rfl rfl ?_
      refine x_iload_n d_MD_readEdited_29 rfl rfl ?_
      refine x_iload d_MD_readEdited_30 rfl ?_
      refine x_top (w := vI (k : Int)) (by rw [hz]) ?_
      refine x_callV1 (M' := M_MD_digitPlace) d_MD_readEdited_32 lk_MD_134 (c_digitPlace E h mo j k v so tg us A D hm hR0 hF0 hj hD0 hG h4 hhk (by omega)) mt_MD_digitPlace im_MD_digitPlace se_MD_digitPlace (by repeat (first | assumption | exact hs_self (by assumption) | exact hs_self (hs_ne (by omega) (by assumption)) | exact hs_self (hs_ne (by omega) (hs_ne (by omega) (by assumption))) | refine hs_ne (by omega) ?_)) rfl (by decide) rfl (Nat.le_of_ble_eq_true rfl) (by decide) (by decide) ?_
      refine j_if_eq 79 d_MD_readEdited_35 (by decide) (by unfold iR; split <;> omega) (fun c35 => ?_) (fun c35 => ?_)
      · rw [ite10] at c35
        rw [if_neg c35] at hmg hc
        refine j_iinc d_MD_readEdited_79 rfl ?_
        refine x_goto 10 d_MD_readEdited_82 (by decide) ?_
        exact ih (k + 1) _ _ c _ (by omega) (by omega) (by omega) hm0 hm1 (by omega) hmg
      · rw [ite10] at c35
        have c35 : fDp D k = true := by simpa using c35
        rw [if_pos c35] at hmg hc
        refine x_aload_n d_MD_readEdited_38 rfl rfl rfl ?_
        refine x_get 5 0 d_MD_readEdited_39 gf_MD_7 (by repeat (first | assumption | exact hs_self (by assumption) | exact hs_self (hs_ne (by omega) (by assumption)) | exact hs_self (hs_ne (by omega) (hs_ne (by omega) (by assumption))) | refine hs_ne (by omega) ?_)) (by rfl) ?_
        refine x_aload_n d_MD_readEdited_42 rfl rfl rfl ?_
        refine x_get 5 12 d_MD_readEdited_43 gf_MD_19 (by repeat (first | assumption | exact hs_self (by assumption) | exact hs_self (hs_ne (by omega) (by assumption)) | exact hs_self (hs_ne (by omega) (hs_ne (by omega) (by assumption))) | refine hs_ne (by omega) ?_)) (by rfl) ?_
        refine x_iload_n d_MD_readEdited_46 rfl rfl ?_
        refine j_iald d_MD_readEdited_47 (by repeat (first | assumption | exact hs_self (by assumption) | exact hs_self (hs_ne (by omega) (by assumption)) | exact hs_self (hs_ne (by omega) (hs_ne (by omega) (by assumption))) | refine hs_ne (by omega) ?_)) (by omega) (by omega) (by decide) ?_
        refine x_top (w := vI (fO D)) (by rw [Int.toNat_natCast, f0]) ?_
        refine x_iload d_MD_readEdited_48 rfl ?_
        refine j_iadd d_MD_readEdited_50 ?_
        refine j_iald d_MD_readEdited_51 (by repeat (first | assumption | exact hs_self (by assumption) | exact hs_self (hs_ne (by omega) (by assumption)) | exact hs_self (hs_ne (by omega) (hs_ne (by omega) (by assumption))) | refine hs_ne (by omega) ?_)) (by omega) (by omega) (by decide) ?_
        refine x_top (w := vI (B (fO D + k))) (by rw [show ((fO D : Int) + z).toNat = fO D + k by omega]) ?_
        refine x_istore d_MD_readEdited_52 (Nat.le_of_ble_eq_true rfl) ?_
        refine x_ldc2 d_MD_readEdited_54 kl_MD_129 ?_
        refine x_lload_n d_MD_readEdited_57 rfl rfl ?_
        refine j_lmul d_MD_readEdited_58 ?_
        refine x_iload d_MD_readEdited_59 rfl ?_
        refine x_callS1 (M' := M_MD_figure) d_MD_readEdited_61 lk_MD_81 (c_figure E h (B (fO D + k)) (by unfold iR; omega)) mt_MD_figure st_MD_figure (by decide) rfl (Nat.le_of_ble_eq_true rfl) (by decide) (by decide) ?_
        refine j_if_eq 75 d_MD_readEdited_64 (by decide) (by unfold iR; split <;> omega) (fun c64 => ?_) (fun c64 => ?_)
        · rw [ite10] at c64
          rw [if_neg c64] at hmg
          refine j_iconst d_MD_readEdited_75 ?_
          refine j_i2l d_MD_readEdited_76 (by unfold iR; omega) ?_
          refine j_ladd d_MD_readEdited_77 ?_
          refine x_lstore_n d_MD_readEdited_78 rfl (Nat.le_of_ble_eq_true rfl) ?_
          refine j_iinc d_MD_readEdited_79 rfl ?_
          refine x_goto 10 d_MD_readEdited_82 (by decide) ?_
          exact ih (k + 1) _ _ (c + 1) _ (by omega) (by omega) (by omega) (by omega) (by rw [Int.pow_succ]; omega) (by omega) hmg
        · rw [ite10] at c64
          have c64 : 0 ≤ B (fO D + k) - 48 ∧ B (fO D + k) - 48 ≤ 9 := by omega
          rw [if_pos c64] at hmg
          refine x_iload d_MD_readEdited_67 rfl ?_
          refine j_bipush d_MD_readEdited_69 (by decide) ?_
          refine j_isub d_MD_readEdited_71 ?_
          refine x_goto 76 d_MD_readEdited_72 (by decide) ?_
          refine j_i2l d_MD_readEdited_76 (by unfold iR; omega) ?_
          refine j_ladd d_MD_readEdited_77 ?_
          refine x_lstore_n d_MD_readEdited_78 rfl (Nat.le_of_ble_eq_true rfl) ?_
          refine j_iinc d_MD_readEdited_79 rfl ?_
          refine x_goto 10 d_MD_readEdited_82 (by decide) ?_
          exact ih (k + 1) _ _ (c + 1) _ (by omega) (by omega) (by omega) (by omega) (by rw [Int.pow_succ]; omega) (by omega) hmg
  refine j_lconst 0 d_MD_readEdited_0 (by decide) ?_
  refine x_lstore_n d_MD_readEdited_1 rfl (Nat.le_of_ble_eq_true rfl) ?_
  refine x_aload_n d_MD_readEdited_2 rfl rfl rfl ?_
  refine x_get 5 20 d_MD_readEdited_3 gf_MD_44 (by repeat (first | assumption | exact hs_self (by assumption) | exact hs_self (hs_ne (by omega) (by assumption)) | exact hs_self (hs_ne (by omega) (hs_ne (by omega) (by assumption))) | refine hs_ne (by omega) ?_)) (by rfl) ?_
  refine x_iload_n d_MD_readEdited_6 rfl rfl ?_
  refine j_iald d_MD_readEdited_7 (by repeat (first | assumption | exact hs_self (by assumption) | exact hs_self (hs_ne (by omega) (by assumption)) | exact hs_self (hs_ne (by omega) (hs_ne (by omega) (by assumption))) | refine hs_ne (by omega) ?_)) (by omega) (by omega) (by decide) ?_
  refine x_top (w := vI (fH D)) (by rw [Int.toNat_natCast, f2]) ?_
  refine x_istore d_MD_readEdited_8 (Nat.le_of_ble_eq_true rfl) ?_
  exact loop (fB D - fH D) (fH D) 0 _ 0 _ (by omega) (Nat.le_refl _) rfl (by decide) (by decide) (by rw [hnd]; omega) rfl
