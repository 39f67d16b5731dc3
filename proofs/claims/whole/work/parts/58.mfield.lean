/-! the model makes a field -/
theorem MW_draw {h : xH} {mo : Nat} {v v' : Nat → Int} {A : MA} {S : ST} {G : Nat → Int} {so : Int} (hW : MW h mo v A S) (h2 : v' 2 = zL S) (h11 : v' 11 = zN S) : MW ((h.set (mo + 3) (aI 18 G)).set mo (oM mo v' so (zE S) (zF S))) mo v' A S := by
  obtain ⟨⟨so0, m0⟩, v2, v11, m1, m2, ⟨G0, m3⟩, hR, ⟨T0, m14, hT0⟩, ⟨H, m15⟩, hF⟩ := hW
  exact ⟨⟨so, hs_self (hs_ne (by omega) m0)⟩, h2, h11, hs_ne (by omega) (hs_ne (by omega) m1), hs_ne (by omega) (hs_ne (by omega) m2), ⟨G, hs_ne (by omega) (hs_self m3)⟩, mR_set (mR_set hR (by omega)) (by omega), ⟨T0, hs_ne (by omega) (hs_ne (by omega) m14), hT0⟩, ⟨H, hs_ne (by omega) (hs_ne (by omega) m15)⟩, hF⟩
theorem fW_m {us : Int} {a : Nat} {G : Nat → Int} {x : PS} (hub : ¬ uBad us x) (hed : qE x = 0 ∨ qE x = 1) : (if qE x = 1 then (x.1 : Int) else if us = 0 then (x.2.1 : Int) else if us = 1 then ((x.2.1 / 2 + 1 : Nat) : Int) else if us = 2 then (x.2.1 : Int) + 1 else (wB x.2.1 : Int)) = (fW (mkD us.toNat a G x) : Int) := by
  have h03 : 0 ≤ us ∧ us ≤ 3 := by omega
  unfold fW
  show _ = ((if (if qE x = 1 then 4 else us.toNat) = 4 then x.1 else if (if qE x = 1 then 4 else us.toNat) = 1 then x.2.1 / 2 + 1 else if (if qE x = 1 then 4 else us.toNat) = 2 then x.2.1 + 1 else if (if qE x = 1 then 4 else us.toNat) = 3 then wB x.2.1 else x.2.1 : Nat) : Int)
  by_cases h1 : qE x = 1
  · simp [h1]
  · rw [if_neg h1, if_neg h1]
    (repeat' split) <;> omega
def cpS (f : Nat → Int) (b : Nat) (G : Nat → Int) (i : Nat) : Nat → Int := fun k => if b ≤ k ∧ k < b + i then G (k - b) else f k
theorem cpS_0 (f : Nat → Int) (b : Nat) (G : Nat → Int) : cpS f b G 0 = f := by
  funext j; unfold cpS; rw [if_neg (by omega)]
theorem cpS_s (f : Nat → Int) (b : Nat) (G : Nat → Int) (i : Nat) : gU (cpS f b G i) (b + i) (G i) = cpS f b G (i + 1) := by
  funext j
  show (if j = b + i then G i else (if b ≤ j ∧ j < b + i then G (j - b) else f j)) = (if b ≤ j ∧ j < b + (i + 1) then G (j - b) else f j)
  by_cases h : j = b + i
  · rw [if_pos h, if_pos (by omega), show j - b = i by omega]
  · rw [if_neg h]
    by_cases h2 : b ≤ j ∧ j < b + i
    · rw [if_pos h2, if_pos (by omega)]
    · rw [if_neg h2, if_neg (by omega)]
theorem cpS_at {f : Nat → Int} {b : Nat} {G : Nat → Int} {n i : Nat} (h : i < n) : cpS f b G n (b + i) = G i := by
  unfold cpS; rw [if_pos (by omega), show b + i - b = i by omega]
theorem cpS_lt {f : Nat → Int} {b : Nat} {G : Nat → Int} {n k : Nat} (h : k < b) : cpS f b G n k = f k := by
  unfold cpS; rw [if_neg (by omega)]
section MWF
variable {E : xEnv} {h : xH} {mo : Nat} {S : ST}
set_option maxHeartbeats 4000000 in
theorem m_field (us at' : Int) (G' : Nat → Int) (hg : agr S G') (hO : SO S) (hX : MX h mo S) (hus : iR us) (hat : iR at') : xCt E 4 0 0 M_MD_field [.ref mo, vI us, vI at'] h (rQ (pM mo h (fField S us at' G'))) := by
  obtain ⟨v, A, hW⟩ := hX
  have hW0 := hW
  obtain ⟨⟨so, m0⟩, v2, v11, m1, m2, ⟨Gm, m3⟩, hR, ⟨T, m14, hT⟩, ⟨H, m15⟩, hF⟩ := hW
  refine x_met rfl rfl (Nat.le_of_ble_eq_true rfl) ?_
  obtain ⟨Z, hZ⟩ : ∃ Z, Z = (xZ E 0 0 (rQ (pM mo h (fField S us at' G')))) := ⟨_, rfl⟩
  rw [← hZ]
  have hus' := hus
  unfold iR at hus hat
  have hN12 := hO.1
  have bad1 : ∀ (L : List (Option Value)) (hh : xH), MX hh mo S → frM mo h hh → rdS S = none → X E M_MD_field 4 0 0 Z 33 L [] hh 0 0 := by
    intro L hh q1 q2 q3
    have e : fField S us at' G' = (-1, S) := by unfold fField; rw [q3]
    rw [hZ]
    refine j_iconst d_MD_field_33 ?_
    refine x_ireturn d_MD_field_34 rfl ?_
    exact ⟨_, rfl, by rw [e], by rw [e]; exact q1, q2⟩
  have kOK : ∀ (G v' : Nat → Int) (x : PS) (G1 : Nat → Int) (ct : Nat) (x3 : Option Value), rdS S = some (G1, ct, x) → (∀ j, j < ct → G j = G1 j) → v' 2 = zL S → v' 11 = zN S → v' 4 = ct → v' 7 = (x.2.1 : Int) → v' 8 = (x.2.2.1 : Int) → v' 9 = qG x → v' 10 = qE x → (qE x = 1 → v' 5 = (x.2.2.2.2.2.1 : Int) ∧ v' 6 = (ct : Int) - (x.2.2.2.2.2.2.1 : Int)) → X E M_MD_field 4 0 0 Z 28 [some (.ref mo), some (vI us), some (vI at'), x3, none, none] [vI 1] ((h.set (mo + 3) (aI 18 G)).set mo (oM mo v' so (zE S) (zF S))) 0 0 := by
    intro G v' x G1 ct x3 hr hGG e2 e11 e4 e7 e8 e9 e10 e56
    have hf : fField S us at' G' = fFld2 S us at' G' x := by unfold fField; rw [hr]
    obtain ⟨hd1, hd2⟩ := rdS_ok hr
    obtain ⟨-, hc0, hc18⟩ := dRd_ok hd1
    obtain ⟨hsg, hed, hdg, hx1⟩ := pRes_r hd2
    have hGa := hg.2 G1 ct x hr
    have hW1 : MW ((h.set (mo + 3) (aI 18 G)).set mo (oM mo v' so (zE S) (zF S))) mo v' A S := MW_draw hW0 e2 e11
    have hfr : frM mo h ((h.set (mo + 3) (aI 18 G)).set mo (oM mo v' so (zE S) (zF S))) := frM_set (frM_set (frM_refl _ _) (by omega)) (by omega)
    have q0 : ((h.set (mo + 3) (aI 18 G)).set mo (oM mo v' so (zE S) (zF S)))[mo]? = some (oM mo v' so (zE S) (zF S)) := hs_self (hs_ne (by omega) m0)
    have q3 : ((h.set (mo + 3) (aI 18 G)).set mo (oM mo v' so (zE S) (zF S)))[mo + 3]? = some (aI 18 G) := hs_ne (by omega) (hs_self m3)
    revert hW1 hfr q0 q3
    generalize ((h.set (mo + 3) (aI 18 G)).set mo (oM mo v' so (zE S) (zF S))) = g
    intro hW1 hfr q0 q3
    obtain ⟨W, hWd⟩ : ∃ W, W = fW (mkD us.toNat 0 G' x) := ⟨_, rfl⟩
    have ret : ∀ (z : Int), fField S us at' G' = (z, S) → (rQ (pM mo h (fField S us at' G'))) (some (vI z)) g := fun z e => ⟨_, rfl, by rw [e], by rw [e]; exact ⟨v', A, hW1⟩, hfr⟩
    have k67 : ∀ L : List (Option Value), uBad us x → X E M_MD_field 4 0 0 Z 67 L [] g 0 0 := by
      intro L hb
      rw [hZ]
      refine j_bipush d_MD_field_67 (by decide) ?_
      refine x_ireturn d_MD_field_69 rfl ?_
      exact ret _ (by rw [hf]; unfold fFld2; rw [if_pos hb])
    have k70 : ¬ uBad us x → X E M_MD_field 4 0 0 Z 70 [some (.ref mo), some (vI us), some (vI at'), some (vI 1), none, none] [] g 0 0 := by
      intro hub
      have h03 : 0 ≤ us ∧ us ≤ 3 := by omega
      have hw := fW_m (a := 0) (G := G') hub hed
      rw [← hWd] at hw
      have hW18 : W ≤ 18 := by
        have hwB : wB x.2.1 ≤ 4 := by unfold wB; split <;> omega
        have : (W : Int) ≤ 18 := by rw [← hw]; (repeat' split) <;> omega
        omega
      have k107 : ∀ L : List (Option Value), (at' < 0 ∨ 64 - (W : Int) < at') → X E M_MD_field 4 0 0 Z 107 L [] g 0 0 := by
        intro L hb
        rw [hZ]
        refine j_bipush d_MD_field_107 (by decide) ?_
        refine x_ireturn d_MD_field_109 rfl ?_
        exact ret _ (by rw [hf]; unfold fFld2; rw [if_neg hub, ← hWd, if_pos hb])
      have k92 : ∀ t : Int, t = (W : Int) → X E M_MD_field 4 0 0 Z 92 [some (.ref mo), some (vI us), some (vI at'), some (vI 1), none, none] [vI t] g 0 0 := by
        intro t ht
        subst ht
        refine x_istore d_MD_field_92 (Nat.le_of_ble_eq_true rfl) ?_
        refine x_iload_n d_MD_field_94 rfl rfl ?_
        refine j_if_lt 107 d_MD_field_95 (by decide) (by unfold iR; omega) (fun c95 => ?_) (fun c95 => ?_)
        · exact k107 _ (Or.inl c95)
        refine x_iload_n d_MD_field_98 rfl rfl ?_
        refine j_bipush d_MD_field_99 (by decide) ?_
        refine x_iload d_MD_field_101 rfl ?_
        refine j_isub d_MD_field_103 ?_
        refine j_icmp_le 110 d_MD_field_104 (by decide) (by unfold iR; omega) (by unfold iR; omega) (fun c104 => ?_) (fun c104 => ?_)
        rotate_left
        · exact k107 _ (Or.inr (by omega))
        refine x_aload_n d_MD_field_110 rfl rfl (by first | rfl | assumption) ?_
        refine x_get 5 11 d_MD_field_111 gf_MD_123 (by repeat (first | assumption | exact hs_self (by assumption) | exact hs_self (hs_ne (by omega) (by assumption)) | exact hs_self (hs_ne (by omega) (hs_ne (by omega) (by assumption))) | refine hs_ne (by omega) ?_)) (by rfl) ?_
        refine j_bipush d_MD_field_114 (by decide) ?_
        refine j_icmp_ne 122 d_MD_field_116 (by decide) (by unfold iR; omega) (by unfold iR; omega) (fun c116 => ?_) (fun c116 => ?_)
        rotate_left
        · rw [hZ]
          refine j_bipush d_MD_field_119 (by decide) ?_
          refine x_ireturn d_MD_field_121 rfl ?_
          exact ret _ (by rw [hf]; unfold fFld2; rw [if_neg hub, ← hWd, if_neg (by omega), if_pos (by omega)])
        have hf2 : fField S us at' G' = ((zN S : Int), sAdd S (mkD us.toNat at'.toNat G' x)) := by rw [hf]; unfold fFld2; rw [if_neg hub, ← hWd, if_neg (by omega), if_neg (by omega)]
        have hN : zN S < 12 := by omega
        obtain ⟨-, -, -, n1, n2, -, ⟨h1, h2, h3, h4, h5, h6, h7, h8, h9, h10⟩, ⟨T', n14, hT'⟩, ⟨H', n15⟩, -⟩ := hW1
        have hi : (v' 11).toNat = zN S := by omega
        refine x_aload_n d_MD_field_122 rfl rfl (by first | rfl | assumption) ?_
        refine x_get 5 12 d_MD_field_123 gf_MD_19 (by repeat (first | assumption | exact hs_self (by assumption) | exact hs_self (hs_ne (by omega) (by assumption)) | exact hs_self (hs_ne (by omega) (hs_ne (by omega) (by assumption))) | refine hs_ne (by omega) ?_)) (by rfl) ?_
        refine x_aload_n d_MD_field_126 rfl rfl (by first | rfl | assumption) ?_
        refine x_get 5 11 d_MD_field_127 gf_MD_123 (by repeat (first | assumption | exact hs_self (by assumption) | exact hs_self (hs_ne (by omega) (by assumption)) | exact hs_self (hs_ne (by omega) (hs_ne (by omega) (by assumption))) | refine hs_ne (by omega) ?_)) (by rfl) ?_
        refine x_iload_n d_MD_field_130 rfl rfl ?_
        refine j_iast d_MD_field_131 (by repeat (first | assumption | exact hs_self (by assumption) | exact hs_self (hs_ne (by omega) (by assumption)) | exact hs_self (hs_ne (by omega) (hs_ne (by omega) (by assumption))) | refine hs_ne (by omega) ?_)) (by omega) (by omega) (by decide) ?_
        refine x_aload_n d_MD_field_132 rfl rfl (by first | rfl | assumption) ?_
        refine x_get 5 13 d_MD_field_133 gf_MD_22 (by repeat (first | assumption | exact hs_self (by assumption) | exact hs_self (hs_ne (by omega) (by assumption)) | exact hs_self (hs_ne (by omega) (hs_ne (by omega) (by assumption))) | refine hs_ne (by omega) ?_)) (by rfl) ?_
        refine x_aload_n d_MD_field_136 rfl rfl (by first | rfl | assumption) ?_
        refine x_get 5 11 d_MD_field_137 gf_MD_123 (by repeat (first | assumption | exact hs_self (by assumption) | exact hs_self (hs_ne (by omega) (by assumption)) | exact hs_self (hs_ne (by omega) (hs_ne (by omega) (by assumption))) | refine hs_ne (by omega) ?_)) (by rfl) ?_
        refine x_iload_n d_MD_field_140 rfl rfl ?_
        refine j_iast d_MD_field_141 (by repeat (first | assumption | exact hs_self (by assumption) | exact hs_self (hs_ne (by omega) (by assumption)) | exact hs_self (hs_ne (by omega) (hs_ne (by omega) (by assumption))) | refine hs_ne (by omega) ?_)) (by omega) (by omega) (by decide) ?_
        refine x_aload_n d_MD_field_142 rfl rfl (by first | rfl | assumption) ?_
        refine x_get 5 14 d_MD_field_143 gf_MD_25 (by repeat (first | assumption | exact hs_self (by assumption) | exact hs_self (hs_ne (by omega) (by assumption)) | exact hs_self (hs_ne (by omega) (hs_ne (by omega) (by assumption))) | refine hs_ne (by omega) ?_)) (by rfl) ?_
        refine x_aload_n d_MD_field_146 rfl rfl (by first | rfl | assumption) ?_
        refine x_get 5 11 d_MD_field_147 gf_MD_123 (by repeat (first | assumption | exact hs_self (by assumption) | exact hs_self (hs_ne (by omega) (by assumption)) | exact hs_self (hs_ne (by omega) (hs_ne (by omega) (by assumption))) | refine hs_ne (by omega) ?_)) (by rfl) ?_
        refine x_aload_n d_MD_field_150 rfl rfl (by first | rfl | assumption) ?_
        refine x_get 5 7 d_MD_field_151 gf_MD_97 (by repeat (first | assumption | exact hs_self (by assumption) | exact hs_self (hs_ne (by omega) (by assumption)) | exact hs_self (hs_ne (by omega) (hs_ne (by omega) (by assumption))) | refine hs_ne (by omega) ?_)) (by rfl) ?_
        refine j_iast d_MD_field_154 (by repeat (first | assumption | exact hs_self (by assumption) | exact hs_self (hs_ne (by omega) (by assumption)) | exact hs_self (hs_ne (by omega) (hs_ne (by omega) (by assumption))) | refine hs_ne (by omega) ?_)) (by omega) (by omega) (by decide) ?_
        refine x_aload_n d_MD_field_155 rfl rfl (by first | rfl | assumption) ?_
        refine x_get 5 15 d_MD_field_156 gf_MD_28 (by repeat (first | assumption | exact hs_self (by assumption) | exact hs_self (hs_ne (by omega) (by assumption)) | exact hs_self (hs_ne (by omega) (hs_ne (by omega) (by assumption))) | refine hs_ne (by omega) ?_)) (by rfl) ?_
        refine x_aload_n d_MD_field_159 rfl rfl (by first | rfl | assumption) ?_
        refine x_get 5 11 d_MD_field_160 gf_MD_123 (by repeat (first | assumption | exact hs_self (by assumption) | exact hs_self (hs_ne (by omega) (by assumption)) | exact hs_self (hs_ne (by omega) (hs_ne (by omega) (by assumption))) | refine hs_ne (by omega) ?_)) (by rfl) ?_
        refine x_aload_n d_MD_field_163 rfl rfl (by first | rfl | assumption) ?_
        refine x_get 5 8 d_MD_field_164 gf_MD_100 (by repeat (first | assumption | exact hs_self (by assumption) | exact hs_self (hs_ne (by omega) (by assumption)) | exact hs_self (hs_ne (by omega) (hs_ne (by omega) (by assumption))) | refine hs_ne (by omega) ?_)) (by rfl) ?_
        refine j_iast d_MD_field_167 (by repeat (first | assumption | exact hs_self (by assumption) | exact hs_self (hs_ne (by omega) (by assumption)) | exact hs_self (hs_ne (by omega) (hs_ne (by omega) (by assumption))) | refine hs_ne (by omega) ?_)) (by omega) (by omega) (by decide) ?_
        refine x_aload_n d_MD_field_168 rfl rfl (by first | rfl | assumption) ?_
        refine x_get 5 16 d_MD_field_169 gf_MD_31 (by repeat (first | assumption | exact hs_self (by assumption) | exact hs_self (hs_ne (by omega) (by assumption)) | exact hs_self (hs_ne (by omega) (hs_ne (by omega) (by assumption))) | refine hs_ne (by omega) ?_)) (by rfl) ?_
        refine x_aload_n d_MD_field_172 rfl rfl (by first | rfl | assumption) ?_
        refine x_get 5 11 d_MD_field_173 gf_MD_123 (by repeat (first | assumption | exact hs_self (by assumption) | exact hs_self (hs_ne (by omega) (by assumption)) | exact hs_self (hs_ne (by omega) (hs_ne (by omega) (by assumption))) | refine hs_ne (by omega) ?_)) (by rfl) ?_
        refine x_aload_n d_MD_field_176 rfl rfl (by first | rfl | assumption) ?_
        refine x_get 5 9 d_MD_field_177 gf_MD_84 (by repeat (first | assumption | exact hs_self (by assumption) | exact hs_self (hs_ne (by omega) (by assumption)) | exact hs_self (hs_ne (by omega) (hs_ne (by omega) (by assumption))) | refine hs_ne (by omega) ?_)) (by rfl) ?_
        refine j_zast d_MD_field_180 (by repeat (first | assumption | exact hs_self (by assumption) | exact hs_self (hs_ne (by omega) (by assumption)) | exact hs_self (hs_ne (by omega) (hs_ne (by omega) (by assumption))) | refine hs_ne (by omega) ?_)) (by omega) (by omega) (by decide) (by omega) ?_
        refine x_aload_n d_MD_field_181 rfl rfl (by first | rfl | assumption) ?_
        refine x_get 5 17 d_MD_field_182 gf_MD_35 (by repeat (first | assumption | exact hs_self (by assumption) | exact hs_self (hs_ne (by omega) (by assumption)) | exact hs_self (hs_ne (by omega) (hs_ne (by omega) (by assumption))) | refine hs_ne (by omega) ?_)) (by rfl) ?_
        refine x_aload_n d_MD_field_185 rfl rfl (by first | rfl | assumption) ?_
        refine x_get 5 11 d_MD_field_186 gf_MD_123 (by repeat (first | assumption | exact hs_self (by assumption) | exact hs_self (hs_ne (by omega) (by assumption)) | exact hs_self (hs_ne (by omega) (hs_ne (by omega) (by assumption))) | refine hs_ne (by omega) ?_)) (by rfl) ?_
        refine x_aload_n d_MD_field_189 rfl rfl (by first | rfl | assumption) ?_
        refine x_get 5 10 d_MD_field_190 gf_MD_88 (by repeat (first | assumption | exact hs_self (by assumption) | exact hs_self (hs_ne (by omega) (by assumption)) | exact hs_self (hs_ne (by omega) (hs_ne (by omega) (by assumption))) | refine hs_ne (by omega) ?_)) (by rfl) ?_
        refine j_zast d_MD_field_193 (by repeat (first | assumption | exact hs_self (by assumption) | exact hs_self (hs_ne (by omega) (by assumption)) | exact hs_self (hs_ne (by omega) (hs_ne (by omega) (by assumption))) | refine hs_ne (by omega) ?_)) (by omega) (by omega) (by decide) (by omega) ?_
        refine x_aload_n d_MD_field_194 rfl rfl (by first | rfl | assumption) ?_
        refine x_get 5 19 d_MD_field_195 gf_MD_41 (by repeat (first | assumption | exact hs_self (by assumption) | exact hs_self (hs_ne (by omega) (by assumption)) | exact hs_self (hs_ne (by omega) (hs_ne (by omega) (by assumption))) | refine hs_ne (by omega) ?_)) (by rfl) ?_
        refine x_aload_n d_MD_field_198 rfl rfl (by first | rfl | assumption) ?_
        refine x_get 5 11 d_MD_field_199 gf_MD_123 (by repeat (first | assumption | exact hs_self (by assumption) | exact hs_self (hs_ne (by omega) (by assumption)) | exact hs_self (hs_ne (by omega) (hs_ne (by omega) (by assumption))) | refine hs_ne (by omega) ?_)) (by rfl) ?_
        refine x_aload_n d_MD_field_202 rfl rfl (by first | rfl | assumption) ?_
        refine x_get 5 4 d_MD_field_203 gf_MD_71 (by repeat (first | assumption | exact hs_self (by assumption) | exact hs_self (hs_ne (by omega) (by assumption)) | exact hs_self (hs_ne (by omega) (hs_ne (by omega) (by assumption))) | refine hs_ne (by omega) ?_)) (by rfl) ?_
        refine j_iast d_MD_field_206 (by repeat (first | assumption | exact hs_self (by assumption) | exact hs_self (hs_ne (by omega) (by assumption)) | exact hs_self (hs_ne (by omega) (hs_ne (by omega) (by assumption))) | refine hs_ne (by omega) ?_)) (by omega) (by omega) (by decide) ?_
        refine x_aload_n d_MD_field_207 rfl rfl (by first | rfl | assumption) ?_
        refine x_get 5 20 d_MD_field_208 gf_MD_44 (by repeat (first | assumption | exact hs_self (by assumption) | exact hs_self (hs_ne (by omega) (by assumption)) | exact hs_self (hs_ne (by omega) (hs_ne (by omega) (by assumption))) | refine hs_ne (by omega) ?_)) (by rfl) ?_
        refine x_aload_n d_MD_field_211 rfl rfl (by first | rfl | assumption) ?_
        refine x_get 5 11 d_MD_field_212 gf_MD_123 (by repeat (first | assumption | exact hs_self (by assumption) | exact hs_self (hs_ne (by omega) (by assumption)) | exact hs_self (hs_ne (by omega) (hs_ne (by omega) (by assumption))) | refine hs_ne (by omega) ?_)) (by rfl) ?_
        refine x_aload_n d_MD_field_215 rfl rfl (by first | rfl | assumption) ?_
        refine x_get 5 5 d_MD_field_216 gf_MD_91 (by repeat (first | assumption | exact hs_self (by assumption) | exact hs_self (hs_ne (by omega) (by assumption)) | exact hs_self (hs_ne (by omega) (hs_ne (by omega) (by assumption))) | refine hs_ne (by omega) ?_)) (by rfl) ?_
        refine j_iast d_MD_field_219 (by repeat (first | assumption | exact hs_self (by assumption) | exact hs_self (hs_ne (by omega) (by assumption)) | exact hs_self (hs_ne (by omega) (hs_ne (by omega) (by assumption))) | refine hs_ne (by omega) ?_)) (by omega) (by omega) (by decide) ?_
        refine x_aload_n d_MD_field_220 rfl rfl (by first | rfl | assumption) ?_
        refine x_get 5 21 d_MD_field_221 gf_MD_47 (by repeat (first | assumption | exact hs_self (by assumption) | exact hs_self (hs_ne (by omega) (by assumption)) | exact hs_self (hs_ne (by omega) (hs_ne (by omega) (by assumption))) | refine hs_ne (by omega) ?_)) (by rfl) ?_
        refine x_aload_n d_MD_field_224 rfl rfl (by first | rfl | assumption) ?_
        refine x_get 5 11 d_MD_field_225 gf_MD_123 (by repeat (first | assumption | exact hs_self (by assumption) | exact hs_self (hs_ne (by omega) (by assumption)) | exact hs_self (hs_ne (by omega) (hs_ne (by omega) (by assumption))) | refine hs_ne (by omega) ?_)) (by rfl) ?_
        refine x_aload_n d_MD_field_228 rfl rfl (by first | rfl | assumption) ?_
        refine x_get 5 6 d_MD_field_229 gf_MD_94 (by repeat (first | assumption | exact hs_self (by assumption) | exact hs_self (hs_ne (by omega) (by assumption)) | exact hs_self (hs_ne (by omega) (hs_ne (by omega) (by assumption))) | refine hs_ne (by omega) ?_)) (by rfl) ?_
        refine j_iast d_MD_field_232 (by repeat (first | assumption | exact hs_self (by assumption) | exact hs_self (hs_ne (by omega) (by assumption)) | exact hs_self (hs_ne (by omega) (hs_ne (by omega) (by assumption))) | refine hs_ne (by omega) ?_)) (by omega) (by omega) (by decide) ?_
        refine j_iconst d_MD_field_233 ?_
        refine x_istore d_MD_field_234 (Nat.le_of_ble_eq_true rfl) ?_
        rw [hi]
        obtain ⟨g9, hg9⟩ : ∃ g9 : xH, g9 = ((((((((g.set (mo + 4) (aI 12 (gU (aOf A) (zN S) at'))).set (mo + 5) (aI 12 (gU (aUs A) (zN S) us))).set (mo + 6) (aI 12 (gU (aDg A) (zN S) (v' 7)))).set (mo + 7) (aI 12 (gU (aSc A) (zN S) (v' 8)))).set (mo + 8) (aZ 12 (gU (aSg A) (zN S) (v' 9)))).set (mo + 9) (aZ 12 (gU (aEd A) (zN S) (v' 10)))).set (mo + 11) (aI 12 (gU (aLn A) (zN S) (v' 4)))).set (mo + 12) (aI 12 (gU (aHd A) (zN S) (v' 5)))).set (mo + 13) (aI 12 (gU (aTl A) (zN S) (v' 6))) := ⟨_, rfl⟩
        have j0 : g9[mo]? = some (oM mo v' so (zE S) (zF S)) := by rw [hg9]; exact hs_ne (by omega) (hs_ne (by omega) (hs_ne (by omega) (hs_ne (by omega) (hs_ne (by omega) (hs_ne (by omega) (hs_ne (by omega) (hs_ne (by omega) (hs_ne (by omega) (q0)))))))))
        have j1 : g9[mo + 1]? = some (aI 64 (zB S)) := by rw [hg9]; exact hs_ne (by omega) (hs_ne (by omega) (hs_ne (by omega) (hs_ne (by omega) (hs_ne (by omega) (hs_ne (by omega) (hs_ne (by omega) (hs_ne (by omega) (hs_ne (by omega) (n1)))))))))
        have j2 : g9[mo + 2]? = some (aI 24 (zR S)) := by rw [hg9]; exact hs_ne (by omega) (hs_ne (by omega) (hs_ne (by omega) (hs_ne (by omega) (hs_ne (by omega) (hs_ne (by omega) (hs_ne (by omega) (hs_ne (by omega) (hs_ne (by omega) (n2)))))))))
        have j3 : g9[mo + 3]? = some (aI 18 G) := by rw [hg9]; exact hs_ne (by omega) (hs_ne (by omega) (hs_ne (by omega) (hs_ne (by omega) (hs_ne (by omega) (hs_ne (by omega) (hs_ne (by omega) (hs_ne (by omega) (hs_ne (by omega) (q3)))))))))
        have j4 : g9[mo + 4]? = some (aI 12 (gU (aOf A) (zN S) at')) := by rw [hg9]; exact hs_ne (by omega) (hs_ne (by omega) (hs_ne (by omega) (hs_ne (by omega) (hs_ne (by omega) (hs_ne (by omega) (hs_ne (by omega) (hs_ne (by omega) (hs_self (h1)))))))))
        have j5 : g9[mo + 5]? = some (aI 12 (gU (aUs A) (zN S) us)) := by rw [hg9]; exact hs_ne (by omega) (hs_ne (by omega) (hs_ne (by omega) (hs_ne (by omega) (hs_ne (by omega) (hs_ne (by omega) (hs_ne (by omega) (hs_self (hs_ne (by omega) (h2)))))))))
        have j6 : g9[mo + 6]? = some (aI 12 (gU (aDg A) (zN S) (v' 7))) := by rw [hg9]; exact hs_ne (by omega) (hs_ne (by omega) (hs_ne (by omega) (hs_ne (by omega) (hs_ne (by omega) (hs_ne (by omega) (hs_self (hs_ne (by omega) (hs_ne (by omega) (h3)))))))))
        have j7 : g9[mo + 7]? = some (aI 12 (gU (aSc A) (zN S) (v' 8))) := by rw [hg9]; exact hs_ne (by omega) (hs_ne (by omega) (hs_ne (by omega) (hs_ne (by omega) (hs_ne (by omega) (hs_self (hs_ne (by omega) (hs_ne (by omega) (hs_ne (by omega) (h4)))))))))
        have j8 : g9[mo + 8]? = some (aZ 12 (gU (aSg A) (zN S) (v' 9))) := by rw [hg9]; exact hs_ne (by omega) (hs_ne (by omega) (hs_ne (by omega) (hs_ne (by omega) (hs_self (hs_ne (by omega) (hs_ne (by omega) (hs_ne (by omega) (hs_ne (by omega) (h5)))))))))
        have j9 : g9[mo + 9]? = some (aZ 12 (gU (aEd A) (zN S) (v' 10))) := by rw [hg9]; exact hs_ne (by omega) (hs_ne (by omega) (hs_ne (by omega) (hs_self (hs_ne (by omega) (hs_ne (by omega) (hs_ne (by omega) (hs_ne (by omega) (hs_ne (by omega) (h6)))))))))
        have j10 : g9[mo + 10]? = some (aI 216 (aSy A)) := by rw [hg9]; exact hs_ne (by omega) (hs_ne (by omega) (hs_ne (by omega) (hs_ne (by omega) (hs_ne (by omega) (hs_ne (by omega) (hs_ne (by omega) (hs_ne (by omega) (hs_ne (by omega) (h7)))))))))
        have j11 : g9[mo + 11]? = some (aI 12 (gU (aLn A) (zN S) (v' 4))) := by rw [hg9]; exact hs_ne (by omega) (hs_ne (by omega) (hs_self (hs_ne (by omega) (hs_ne (by omega) (hs_ne (by omega) (hs_ne (by omega) (hs_ne (by omega) (hs_ne (by omega) (h8)))))))))
        have j12 : g9[mo + 12]? = some (aI 12 (gU (aHd A) (zN S) (v' 5))) := by rw [hg9]; exact hs_ne (by omega) (hs_self (hs_ne (by omega) (hs_ne (by omega) (hs_ne (by omega) (hs_ne (by omega) (hs_ne (by omega) (hs_ne (by omega) (hs_ne (by omega) (h9)))))))))
        have j13 : g9[mo + 13]? = some (aI 12 (gU (aTl A) (zN S) (v' 6))) := by rw [hg9]; exact hs_self (hs_ne (by omega) (hs_ne (by omega) (hs_ne (by omega) (hs_ne (by omega) (hs_ne (by omega) (hs_ne (by omega) (hs_ne (by omega) (hs_ne (by omega) (h10)))))))))
        have j14 : g9[mo + 14]? = some (aI 18 T') := by rw [hg9]; exact hs_ne (by omega) (hs_ne (by omega) (hs_ne (by omega) (hs_ne (by omega) (hs_ne (by omega) (hs_ne (by omega) (hs_ne (by omega) (hs_ne (by omega) (hs_ne (by omega) (n14)))))))))
        have j15 : g9[mo + 15]? = some (aL 12 H') := by rw [hg9]; exact hs_ne (by omega) (hs_ne (by omega) (hs_ne (by omega) (hs_ne (by omega) (hs_ne (by omega) (hs_ne (by omega) (hs_ne (by omega) (hs_ne (by omega) (hs_ne (by omega) (n15)))))))))
        have jfr : frM mo h g9 := by
          rw [hg9]
          exact frM_set (frM_set (frM_set (frM_set (frM_set (frM_set (frM_set (frM_set (frM_set hfr (by omega)) (by omega)) (by omega)) (by omega)) (by omega)) (by omega)) (by omega)) (by omega)) (by omega)
        rw [← hg9]
        clear hg9 h1 h2 h3 h4 h5 h6 h7 h8 h9 h10 n14 n15 n1 n2 q0 q3 hfr ret k67 k107
        have loop : ∀ (r i : Nat) (z : Int), i + r = ct → z = i → X E M_MD_field 4 0 0 Z 236 [some (.ref mo), some (vI us), some (vI at'), some (vI 1), some (vI (W : Int)), some (vI z)] [] (g9.set (mo + 10) (aI 216 (cpS (aSy A) (18 * zN S) G i))) 0 0 := by
          intro r
          induction r with
          | zero =>
            intro i z hi' hz
            refine x_iload d_MD_field_236 rfl ?_
            refine x_aload_n d_MD_field_238 rfl rfl (by first | rfl | assumption) ?_
            refine x_get 5 4 d_MD_field_239 gf_MD_71 (by repeat (first | assumption | exact hs_self (by assumption) | exact hs_self (hs_ne (by omega) (by assumption)) | exact hs_self (hs_ne (by omega) (hs_ne (by omega) (by assumption))) | refine hs_ne (by omega) ?_)) (by rfl) ?_
            refine j_icmp_ge 273 d_MD_field_242 (by decide) (by unfold iR; omega) (by unfold iR; omega) (fun c242 => ?_) (fun c242 => ?_)
            rotate_left
            · exfalso; omega
            refine x_aload_n d_MD_field_273 rfl rfl (by first | rfl | assumption) ?_
            refine j_iconst d_MD_field_274 ?_
            refine xp_MD_2 d_MD_field_275 pf_MD_field_57 (by repeat (first | assumption | exact hs_self (by assumption) | exact hs_self (hs_ne (by omega) (by assumption)) | exact hs_self (hs_ne (by omega) (hs_ne (by omega) (by assumption))) | refine hs_ne (by omega) ?_)) ?_
            refine x_aload_n d_MD_field_278 rfl rfl (by first | rfl | assumption) ?_
            refine x_dup d_MD_field_279 rfl ?_
            refine x_get 5 11 d_MD_field_280 gf_MD_123 (by repeat (first | assumption | exact hs_self (by assumption) | exact hs_self (hs_ne (by omega) (by assumption)) | exact hs_self (hs_ne (by omega) (hs_ne (by omega) (by assumption))) | refine hs_ne (by omega) ?_)) (by rfl) ?_
            refine j_iconst d_MD_field_283 ?_
            refine j_iadd d_MD_field_284 ?_
            refine xp_MD_11 d_MD_field_285 pf_MD_field_123 (by repeat (first | assumption | exact hs_self (by assumption) | exact hs_self (hs_ne (by omega) (by assumption)) | exact hs_self (hs_ne (by omega) (hs_ne (by omega) (by assumption))) | refine hs_ne (by omega) ?_)) ?_
            rw [List.set_set, hZ]
            refine x_aload_n d_MD_field_288 rfl rfl (by first | rfl | assumption) ?_
            refine x_get 5 11 d_MD_field_289 gf_MD_123 (by repeat (first | assumption | exact hs_self (by assumption) | exact hs_self (hs_ne (by omega) (by assumption)) | exact hs_self (hs_ne (by omega) (hs_ne (by omega) (by assumption))) | refine hs_ne (by omega) ?_)) (by rfl) ?_
            refine j_iconst d_MD_field_292 ?_
            refine j_isub d_MD_field_293 ?_
            refine x_ireturn d_MD_field_294 rfl ?_
            rw [show i = ct by omega]
            refine ⟨_, rfl, ?_, ?_, frM_set (frM_set jfr (by omega)) (by omega)⟩
            · rw [hf2]
              exact congrArg vI (by show v' 11 + 1 - 1 = (zN S : Int); omega)
            · rw [hf2]
              refine ⟨gU (gU v' 2 0) 11 (v' 11 + 1), (gU (aOf A) (zN S) at', gU (aUs A) (zN S) us, gU (aDg A) (zN S) (v' 7), gU (aSc A) (zN S) (v' 8), gU (aSg A) (zN S) (v' 9), gU (aEd A) (zN S) (v' 10), cpS (aSy A) (18 * zN S) G ct, gU (aLn A) (zN S) (v' 4), gU (aHd A) (zN S) (v' 5), gU (aTl A) (zN S) (v' 6)), ⟨so, hs_self (hs_ne (by omega) j0)⟩, rfl, ?_, hs_ne (by omega) (hs_ne (by omega) j1), hs_ne (by omega) (hs_ne (by omega) j2), ⟨G, hs_ne (by omega) (hs_ne (by omega) j3)⟩, ⟨hs_ne (by omega) (hs_ne (by omega) j4), hs_ne (by omega) (hs_ne (by omega) j5), hs_ne (by omega) (hs_ne (by omega) j6), hs_ne (by omega) (hs_ne (by omega) j7), hs_ne (by omega) (hs_ne (by omega) j8), hs_ne (by omega) (hs_ne (by omega) j9), hs_ne (by omega) (hs_self j10), hs_ne (by omega) (hs_ne (by omega) j11), hs_ne (by omega) (hs_ne (by omega) j12), hs_ne (by omega) (hs_ne (by omega) j13)⟩, ⟨T', hs_ne (by omega) (hs_ne (by omega) j14), hT'⟩, ⟨H', hs_ne (by omega) (hs_ne (by omega) j15)⟩, fun j hj => ?_⟩
              · show v' 11 + 1 = ((zN S + 1 : Nat) : Int); omega
              have hj : j < zN S + 1 := hj
              show mF _ j (if j = zN S then _ else zD S j)
              by_cases e : j = zN S
              · subst e
                rw [if_pos rfl]
                have fm : fM (mkD us.toNat at'.toNat G' x) = (if qE x = 1 then 4 else us.toNat) := rfl
                refine ⟨?_, ?_, ?_, ?_, ?_, ?_, fun h4 => ?_⟩
                · show gU (aOf A) (zN S) at' (zN S) = (at'.toNat : Int)
                  rw [gU_self]; omega
                · show gU (aUs A) (zN S) us (zN S) = _
                  rw [gU_self, fm]
                  by_cases y : qE x = 1
                  · rw [if_pos y, if_pos rfl]; omega
                  · rw [if_neg y, if_neg (by omega)]; omega
                · show gU (aDg A) (zN S) (v' 7) (zN S) = (x.2.1 : Int)
                  rw [gU_self, e7]
                · show gU (aSc A) (zN S) (v' 8) (zN S) = (x.2.2.1 : Int)
                  rw [gU_self, e8]
                · show gU (aSg A) (zN S) (v' 9) (zN S) = qG x
                  rw [gU_self, e9]
                · show gU (aEd A) (zN S) (v' 10) (zN S) = _
                  rw [gU_self, fm, e10]
                  by_cases y : qE x = 1
                  · rw [if_pos y, if_pos rfl, y]
                  · rw [if_neg y, if_neg (by omega)]; omega
                · rw [fm] at h4
                  have hE : qE x = 1 := by
                    by_cases y : qE x = 1
                    · exact y
                    · rw [if_neg y] at h4; omega
                  obtain ⟨y5, y6⟩ := e56 hE
                  refine ⟨?_, ?_, ?_, fun i hi2 => ?_⟩
                  · show gU (aLn A) (zN S) (v' 4) (zN S) = (x.1 : Int)
                    rw [gU_self, e4, hx1]
                  · show gU (aHd A) (zN S) (v' 5) (zN S) = (x.2.2.2.2.2.1 : Int)
                    rw [gU_self, y5]
                  · show gU (aTl A) (zN S) (v' 6) (zN S) = (x.1 : Int) - (x.2.2.2.2.2.2.1 : Int)
                    rw [gU_self, y6, hx1]
                  · have hi2 : i < x.1 := hi2
                    show cpS (aSy A) (18 * zN S) G ct (18 * zN S + i) = G' i
                    rw [cpS_at (by omega), hGG i (by omega), hGa i (by omega)]
              · rw [if_neg e]
                have hjN : j < zN S := by omega
                obtain ⟨y1, y2, y3, y4, y5, y6, y7⟩ := hF j hjN
                refine ⟨by show gU (aOf A) (zN S) at' j = _; rw [gU_ne _ _ e]; exact y1, by show gU (aUs A) (zN S) us j = _; rw [gU_ne _ _ e]; exact y2, by show gU (aDg A) (zN S) _ j = _; rw [gU_ne _ _ e]; exact y3, by show gU (aSc A) (zN S) _ j = _; rw [gU_ne _ _ e]; exact y4, by show gU (aSg A) (zN S) _ j = _; rw [gU_ne _ _ e]; exact y5, by show gU (aEd A) (zN S) _ j = _; rw [gU_ne _ _ e]; exact y6, fun h4 => ?_⟩
                obtain ⟨w1, w2, w3, w4⟩ := y7 h4
                have hc := ((hO.2.2.2.2 j hjN).1.2.2.2.2.2 h4).2.2.2.1.2
                refine ⟨by show gU (aLn A) (zN S) _ j = _; rw [gU_ne _ _ e]; exact w1, by show gU (aHd A) (zN S) _ j = _; rw [gU_ne _ _ e]; exact w2, by show gU (aTl A) (zN S) _ j = _; rw [gU_ne _ _ e]; exact w3, fun i hi2 => ?_⟩
                show cpS (aSy A) (18 * zN S) G ct (18 * j + i) = _
                rw [cpS_lt (by omega)]
                exact w4 i hi2
          | succ r ih =>
            intro i z hi' hz
            subst hz
            refine x_iload d_MD_field_236 rfl ?_
            refine x_aload_n d_MD_field_238 rfl rfl (by first | rfl | assumption) ?_
            refine x_get 5 4 d_MD_field_239 gf_MD_71 (by repeat (first | assumption | exact hs_self (by assumption) | exact hs_self (hs_ne (by omega) (by assumption)) | exact hs_self (hs_ne (by omega) (hs_ne (by omega) (by assumption))) | refine hs_ne (by omega) ?_)) (by rfl) ?_
            refine j_icmp_ge 273 d_MD_field_242 (by decide) (by unfold iR; omega) (by unfold iR; omega) (fun c242 => ?_) (fun c242 => ?_)
            · exfalso; omega
            refine x_aload_n d_MD_field_245 rfl rfl (by first | rfl | assumption) ?_
            refine x_get 5 18 d_MD_field_246 gf_MD_38 (by repeat (first | assumption | exact hs_self (by assumption) | exact hs_self (hs_ne (by omega) (by assumption)) | exact hs_self (hs_ne (by omega) (hs_ne (by omega) (by assumption))) | refine hs_ne (by omega) ?_)) (by rfl) ?_
            refine j_bipush d_MD_field_249 (by decide) ?_
            refine x_aload_n d_MD_field_251 rfl rfl (by first | rfl | assumption) ?_
            refine x_get 5 11 d_MD_field_252 gf_MD_123 (by repeat (first | assumption | exact hs_self (by assumption) | exact hs_self (hs_ne (by omega) (by assumption)) | exact hs_self (hs_ne (by omega) (hs_ne (by omega) (by assumption))) | refine hs_ne (by omega) ?_)) (by rfl) ?_
            refine j_imul d_MD_field_255 ?_
            refine x_iload d_MD_field_256 rfl ?_
            refine j_iadd d_MD_field_258 ?_
            refine x_aload_n d_MD_field_259 rfl rfl (by first | rfl | assumption) ?_
            refine x_get 5 3 d_MD_field_260 gf_MD_16 (by repeat (first | assumption | exact hs_self (by assumption) | exact hs_self (hs_ne (by omega) (by assumption)) | exact hs_self (hs_ne (by omega) (hs_ne (by omega) (by assumption))) | refine hs_ne (by omega) ?_)) (by rfl) ?_
            refine x_iload d_MD_field_263 rfl ?_
            refine j_iald d_MD_field_265 (by repeat (first | assumption | exact hs_self (by assumption) | exact hs_self (hs_ne (by omega) (by assumption)) | exact hs_self (hs_ne (by omega) (hs_ne (by omega) (by assumption))) | refine hs_ne (by omega) ?_)) (by omega) (by omega) (by decide) ?_
            refine x_top (w := vI (G i)) rfl ?_
            refine j_iast d_MD_field_266 (by repeat (first | assumption | exact hs_self (by assumption) | exact hs_self (hs_ne (by omega) (by assumption)) | exact hs_self (hs_ne (by omega) (hs_ne (by omega) (by assumption))) | refine hs_ne (by omega) ?_)) (by omega) (by omega) (by decide) ?_
            rw [List.set_set, show (18 * v' 11 + (i : Int)).toNat = 18 * zN S + i by omega, cpS_s]
            refine j_iinc d_MD_field_267 rfl ?_
            refine x_goto 236 d_MD_field_270 (by decide) ?_
            exact ih (i + 1) _ (by omega) (by omega)
        have := loop ct 0 0 (by omega) rfl
        rw [cpS_0, hset_id j10] at this
        exact this
      refine x_aload_n d_MD_field_70 rfl rfl (by first | rfl | assumption) ?_
      refine x_get 5 10 d_MD_field_71 gf_MD_88 (by repeat (first | assumption | exact hs_self (by assumption) | exact hs_self (hs_ne (by omega) (by assumption)) | exact hs_self (hs_ne (by omega) (hs_ne (by omega) (by assumption))) | refine hs_ne (by omega) ?_)) (by rfl) ?_
      refine j_if_eq 84 d_MD_field_74 (by decide) (by unfold iR; omega) (fun c74 => ?_) (fun c74 => ?_)
      · refine x_iload_n d_MD_field_84 rfl rfl ?_
        refine x_aload_n d_MD_field_85 rfl rfl (by first | rfl | assumption) ?_
        refine x_get 5 7 d_MD_field_86 gf_MD_97 (by repeat (first | assumption | exact hs_self (by assumption) | exact hs_self (hs_ne (by omega) (by assumption)) | exact hs_self (hs_ne (by omega) (hs_ne (by omega) (by assumption))) | refine hs_ne (by omega) ?_)) (by rfl) ?_
        refine x_top (w := vI (x.2.1 : Int)) (by rw [e7]) ?_
        refine x_callS1 (M' := M_MD_widthOf) d_MD_field_89 lk_MD_120 (c_widthOf E _ us x.2.1 h03 hdg.2) mt_MD_widthOf st_MD_widthOf (by decide) rfl (Nat.le_of_ble_eq_true rfl) (by decide) (by decide) ?_
        exact k92 _ (by rw [← hw, if_neg (show ¬ qE x = 1 by omega)])
      · refine x_aload_n d_MD_field_77 rfl rfl (by first | rfl | assumption) ?_
        refine x_get 5 4 d_MD_field_78 gf_MD_71 (by repeat (first | assumption | exact hs_self (by assumption) | exact hs_self (hs_ne (by omega) (by assumption)) | exact hs_self (hs_ne (by omega) (hs_ne (by omega) (by assumption))) | refine hs_ne (by omega) ?_)) (by rfl) ?_
        refine x_goto 92 d_MD_field_81 (by decide) ?_
        exact k92 _ (by rw [← hw, if_pos (by omega), e4, hx1])
    refine x_istore_n d_MD_field_28 rfl (Nat.le_of_ble_eq_true rfl) ?_
    refine x_iload_n d_MD_field_29 rfl rfl ?_
    refine j_if_ne 35 d_MD_field_30 (by decide) (by unfold iR; omega) (fun c30 => ?_) (fun c30 => ?_)
    rotate_left
    · exact absurd c30 (by decide)
    clear hW1 hfr ret hGG hGa hf hr hd1 hd2 hg hF hR hT
    refine x_iload_n d_MD_field_35 rfl rfl ?_
    refine j_if_lt 67 d_MD_field_36 (by decide) (by unfold iR; omega) (fun c36 => ?_) (fun c36 => ?_)
    · exact k67 _ (by omega)
    · refine x_iload_n d_MD_field_39 rfl rfl ?_
      refine j_iconst d_MD_field_40 ?_
      refine j_icmp_gt 67 d_MD_field_41 (by decide) (by unfold iR; omega) (by unfold iR; omega) (fun c41 => ?_) (fun c41 => ?_)
      · exact k67 _ (by omega)
      · refine x_aload_n d_MD_field_44 rfl rfl (by first | rfl | assumption) ?_
        refine x_get 5 10 d_MD_field_45 gf_MD_88 (by repeat (first | assumption | exact hs_self (by assumption) | exact hs_self (hs_ne (by omega) (by assumption)) | exact hs_self (hs_ne (by omega) (hs_ne (by omega) (by assumption))) | refine hs_ne (by omega) ?_)) (by rfl) ?_
        refine j_if_eq 55 d_MD_field_48 (by decide) (by unfold iR; omega) (fun c48 => ?_) (fun c48 => ?_)
        · refine x_iload_n d_MD_field_55 rfl rfl ?_
          refine j_iconst d_MD_field_56 ?_
          refine j_icmp_ne 70 d_MD_field_57 (by decide) (by unfold iR; omega) (by unfold iR; omega) (fun c57 => ?_) (fun c57 => ?_)
          · exact k70 (by omega)
          · refine x_aload_n d_MD_field_60 rfl rfl (by first | rfl | assumption) ?_
            refine x_get 5 9 d_MD_field_61 gf_MD_84 (by repeat (first | assumption | exact hs_self (by assumption) | exact hs_self (hs_ne (by omega) (by assumption)) | exact hs_self (hs_ne (by omega) (hs_ne (by omega) (by assumption))) | refine hs_ne (by omega) ?_)) (by rfl) ?_
            refine j_if_ne 70 d_MD_field_64 (by decide) (by unfold iR; omega) (fun c64 => ?_) (fun c64 => ?_)
            · exact k70 (by omega)
            · exact k67 _ (by omega)
        · refine x_iload_n d_MD_field_51 rfl rfl ?_
          refine j_if_ne 67 d_MD_field_52 (by decide) (by unfold iR; omega) (fun c52 => ?_) (fun c52 => ?_)
          · exact k67 _ (by omega)
          · refine x_iload_n d_MD_field_55 rfl rfl ?_
            refine j_iconst d_MD_field_56 ?_
            refine j_icmp_ne 70 d_MD_field_57 (by decide) (by unfold iR; omega) (by unfold iR; omega) (fun c57 => ?_) (fun c57 => ?_)
            · exact k70 (by omega)
            · refine x_aload_n d_MD_field_60 rfl rfl (by first | rfl | assumption) ?_
              refine x_get 5 9 d_MD_field_61 gf_MD_84 (by repeat (first | assumption | exact hs_self (by assumption) | exact hs_self (hs_ne (by omega) (by assumption)) | exact hs_self (hs_ne (by omega) (hs_ne (by omega) (by assumption))) | refine hs_ne (by omega) ?_)) (by rfl) ?_
              refine j_if_ne 70 d_MD_field_64 (by decide) (by unfold iR; omega) (fun c64 => ?_) (fun c64 => ?_)
              · exact k70 (by omega)
              · exact k67 _ (by omega)
  refine x_aload_n d_MD_field_0 rfl rfl (by first | rfl | assumption) ?_
  refine x_callVq (M' := M_MD_writeOut) d_MD_field_1 lk_MD_110 (c_mWriteOut m0 v2 hO.2.1 m2 hO.2.2.1 m3) mt_MD_writeOut im_MD_writeOut se_MD_writeOut (by repeat (first | assumption | exact hs_self (by assumption) | exact hs_self (hs_ne (by omega) (by assumption)) | exact hs_self (hs_ne (by omega) (hs_ne (by omega) (by assumption))) | refine hs_ne (by omega) ?_)) rfl (by decide) rfl (Nat.le_of_ble_eq_true rfl) (by decide) (by decide) ?_
  rintro w0 h' ⟨G, v1, rfl, ak, hc⟩
  have a2 : v1 2 = zL S := by rw [ak 2 (by decide), v2]
  have a11 : v1 11 = zN S := by rw [ak 11 (by decide), v11]
  have fr1 : ∀ v' : Nat → Int, frM mo h ((h.set (mo + 3) (aI 18 G)).set mo (oM mo v' so (zE S) (zF S))) := fun v' => frM_set (frM_set (frM_refl _ _) (by omega)) (by omega)
  rcases hc with ⟨rfl, hno⟩ | ⟨rfl, G1, ct, hr, h4, hag⟩
  · have hnn : rdS S = none := by unfold rdS rd2; rw [hno]
    refine x_istore_n d_MD_field_4 rfl (Nat.le_of_ble_eq_true rfl) ?_
    refine x_iload_n d_MD_field_5 rfl rfl ?_
    refine j_if_eq 27 d_MD_field_6 (by decide) (by unfold iR; omega) (fun c6 => ?_) (fun c6 => ?_)
    · refine j_iconst d_MD_field_27 ?_
      refine x_istore_n d_MD_field_28 rfl (Nat.le_of_ble_eq_true rfl) ?_
      refine x_iload_n d_MD_field_29 rfl rfl ?_
      refine j_if_ne 35 d_MD_field_30 (by decide) (by unfold iR; omega) (fun c30 => ?_) (fun c30 => ?_)
      · exact absurd rfl c30
      · exact bad1 _ _ ⟨v1, A, MW_draw hW0 a2 a11⟩ (fr1 _) hnn
    · exact absurd rfl c6
  obtain ⟨-, hc0, hc18⟩ := dRd_ok hr
  have hcg := pRes_cg hc0 hag
  have hrg := dRd_rg hO.2.2.1 hO.2.1 hr
  have hGr : ∀ j, j < ct → 0 ≤ G j ∧ G j ≤ 126 := fun j hj => by rw [hag j hj]; exact hrg j
  refine x_istore_n d_MD_field_4 rfl (Nat.le_of_ble_eq_true rfl) ?_
  refine x_iload_n d_MD_field_5 rfl rfl ?_
  refine j_if_eq 27 d_MD_field_6 (by decide) (by unfold iR; omega) (fun c6 => ?_) (fun c6 => ?_)
  · exact absurd c6 (by decide)
  refine x_aload_n d_MD_field_9 rfl rfl (by first | rfl | assumption) ?_
  refine x_callVq (M' := M_MD_numeric) d_MD_field_10 lk_MD_114 (c_mNumeric (hs_self (hs_ne (by omega) m0)) h4 ⟨hc0, hc18⟩ (hs_ne (by omega) (hs_self m3)) hGr) mt_MD_numeric im_MD_numeric se_MD_numeric (by repeat (first | assumption | exact hs_self (by assumption) | exact hs_self (hs_ne (by omega) (by assumption)) | exact hs_self (hs_ne (by omega) (hs_ne (by omega) (by assumption))) | refine hs_ne (by omega) ?_)) rfl (by decide) rfl (Nat.le_of_ble_eq_true rfl) (by decide) (by decide) ?_
  rintro w1 h' ⟨v3, rfl, ⟨b2, b4, b11⟩, hc⟩
  rw [List.set_set]
  rcases hc with ⟨rfl, hno⟩ | ⟨rfl, dg, sc, hN, e7, e8, e9, e10⟩
  · have hpe : pRes G ct = eRes G ct := by unfold pRes; rw [hno]
    refine j_if_ne 23 d_MD_field_13 (by decide) (by unfold iR; omega) (fun c13 => ?_) (fun c13 => ?_)
    · exact absurd rfl c13
    refine x_aload_n d_MD_field_16 rfl rfl (by first | rfl | assumption) ?_
    refine x_callVq (M' := M_MD_editing) d_MD_field_17 lk_MD_117 (c_editing (hs_self (hs_ne (by omega) m0)) (by rw [b4, h4]) ⟨hc0, hc18⟩ (hs_ne (by omega) (hs_self m3)) hGr) mt_MD_editing im_MD_editing se_MD_editing (by repeat (first | assumption | exact hs_self (by assumption) | exact hs_self (hs_ne (by omega) (by assumption)) | exact hs_self (hs_ne (by omega) (hs_ne (by omega) (by assumption))) | refine hs_ne (by omega) ?_)) rfl (by decide) rfl (Nat.le_of_ble_eq_true rfl) (by decide) (by decide) ?_
    rintro w2 h' ⟨v4, rfl, ⟨f2, f4, f11⟩, hc⟩
    rw [List.set_set]
    rcases hc with ⟨rfl, hno2⟩ | ⟨rfl, x, he, e7, e8, e9, e10, e5, e6⟩
    · have hnn : rdS S = none := by
        unfold rdS rd2; rw [hr]
        show (match pRes G1 ct with | none => none | some p => some (G1, ct, p)) = none
        rw [← hcg, hpe, hno2]
      refine j_if_eq 27 d_MD_field_20 (by decide) (by unfold iR; omega) (fun c20 => ?_) (fun c20 => ?_)
      · refine j_iconst d_MD_field_27 ?_
        refine x_istore_n d_MD_field_28 rfl (Nat.le_of_ble_eq_true rfl) ?_
        refine x_iload_n d_MD_field_29 rfl rfl ?_
        refine j_if_ne 35 d_MD_field_30 (by decide) (by unfold iR; omega) (fun c30 => ?_) (fun c30 => ?_)
        · exact absurd rfl c30
        · exact bad1 _ _ ⟨v4, A, MW_draw hW0 (by rw [f2, b2, a2]) (by rw [f11, b11, a11])⟩ (fr1 _) hnn
      · exact absurd rfl c20
    · have hxx : qE x = 1 := by
        obtain ⟨nn, pt, sc, fc, fi, -, -, -, rfl⟩ := eRes_ok he
        rfl
      refine j_if_eq 27 d_MD_field_20 (by decide) (by unfold iR; omega) (fun c20 => ?_) (fun c20 => ?_)
      · exact absurd c20 (by decide)
      · refine j_iconst d_MD_field_23 ?_
        refine x_goto 28 d_MD_field_24 (by decide) ?_
        refine kOK G v4 x G1 ct _ ?_ hag (by rw [f2, b2, a2]) (by rw [f11, b11, a11]) (by rw [f4, b4, h4]) e7 e8 e9 (by rw [e10, hxx]) (fun _ => ⟨e5, e6⟩)
        unfold rdS rd2; rw [hr]
        show (match pRes G1 ct with | none => none | some p => some (G1, ct, p)) = _
        rw [← hcg, hpe, he]
  · have hpe : pRes G ct = some (ct, dg, sc, if G 0 = 83 then 1 else 0, 0, 0, 0, 32, 0) := by unfold pRes; rw [hN]
    refine j_if_ne 23 d_MD_field_13 (by decide) (by unfold iR; omega) (fun c13 => ?_) (fun c13 => ?_)
    · refine j_iconst d_MD_field_23 ?_
      refine x_goto 28 d_MD_field_24 (by decide) ?_
      refine kOK G v3 (ct, dg, sc, if G 0 = 83 then 1 else 0, 0, 0, 0, 32, 0) G1 ct _ ?_ hag (by rw [b2, a2]) (by rw [b11, a11]) (by rw [b4, h4]) e7 e8 e9 e10 (fun y => absurd (show (0 : Int) = 1 from y) (by decide))
      unfold rdS rd2; rw [hr]
      show (match pRes G1 ct with | none => none | some p => some (G1, ct, p)) = _
      rw [← hcg, hpe]
    · exact absurd c13 (by decide)
end MWF
