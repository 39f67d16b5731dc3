/-- what the model's result leaves behind -/
def mV (h : xH) (mo : Nat) (v : Nat → Int) (so tg us : Int) (D : FD) (B : Nat → Int) (o : Option Int) (w : Value) (h' : xH) : Prop := w = vI (e01 o) ∧ ∃ T : Nat → Int, h' = ((h.set (mo + 14) (aI 18 T)).set (mo + 1) (aI 64 (nB D B o))).set mo (oM mo v so (tg + e01 o) us) ∧ ∀ i, i < 18 → iR (T i)
theorem e01_r (o : Option Int) : e01 o = 0 ∨ e01 o = 1 := by unfold e01; split <;> omega
theorem sRes_some {p q : Int} {t dg : Nat} {mode y : Int} (h : rnd mode (p * 10 ^ t) q = some y) : sRes p q t dg mode = if y.natAbs < 10 ^ dg then some y else none := by
  unfold sRes; rw [h]
theorem sRes_none {p q : Int} {t dg : Nat} {mode : Int} (h : rnd mode (p * 10 ^ t) q = none) : sRes p q t dg mode = none := by
  unfold sRes; rw [h]
theorem stp_r (y r q mode : Int) : -1 ≤ stp y r q mode ∧ stp y r q mode ≤ 1 := by
  by_cases h : sC1 y r q mode ∨ sC2 r mode
  · rw [stp_pos h]; (repeat' split) <;> omega
  · rw [stp_neg h]; decide
set_option maxHeartbeats 8000000 in
theorem c_mresult (E : xEnv) (h : xH) (mo j : Nat) (v : Nat → Int) (so tg us p q mode : Int) (A : MA) (D : FD) (B T : Nat → Int) (hm : h[mo]? = some (oM mo v so tg us)) (hR : mR h mo A) (hb : h[mo + 1]? = some (aI 64 B)) (ht : h[mo + 14]? = some (aI 18 T)) (hF : mF A j D) (hj : j < 12) (hD : fOk D) (hG : gOk D) (hp : p.natAbs < 4000000000000000000) (hq0 : 0 < q) (hq1 : q ≤ 100000000000000) (hmd : 0 ≤ mode ∧ mode ≤ 7) (hT : ∀ i, i < 18 → iR (T i)) : xCt E 6 0 0 M_MD_result [.ref mo, vL p, vL q, vI j, vI mode] h (rQ (mV h mo v so tg us D B (sRes p q (fS D) (fN D) mode))) := by
  refine x_met rfl rfl (Nat.le_of_ble_eq_true rfl) ?_
  obtain ⟨o, hoe⟩ : ∃ o, o = sRes p q (fS D) (fN D) mode := ⟨_, rfl⟩
  rw [← hoe]
  obtain ⟨Z, hZ⟩ : ∃ Z, Z = (xZ E 0 0 (rQ (mV h mo v so tg us D B o))) := ⟨_, rfl⟩
  have hR0 := hR
  have hF0 := hF
  have hD0 := hD
  obtain ⟨h1, h2, h3, h4', h5, h6, h7, h8, h9, h10⟩ := hR
  obtain ⟨f0, f1, fn, fs, fg, fe, hF4⟩ := hF
  obtain ⟨hm4, hn, hsc, hg, ho, hw4⟩ := hD
  have e0 := hset_id ht
  have eb := hset_id hb
  have hpt := pow10_le (n := fS D) (m := 4) (by omega)
  have hpt0 := pow10_pos (fS D)
  have hpl := pow10_le (n := fN D) (m := 9) (by omega)
  have hpl0 := pow10_pos (fN D)
  have hpc := p10c (fN D)
  have hwl := Int.natAbs_tdiv_le_natAbs p q
  have hml := tmod_abs (p := p) (q := q) hq0
  have hpB : -4000000000000000000 < p ∧ p < 4000000000000000000 := by omega
  have hWB : -4000000000000000000 < p.tdiv q ∧ p.tdiv q < 4000000000000000000 := by omega
  have hMB : -q < p.tmod q ∧ p.tmod q < q := by omega
  clear hwl hp hw4 hm4 ho
  obtain ⟨tt, htt⟩ : ∃ tt : Int, tt = 10 ^ fS D := ⟨_, rfl⟩
  obtain ⟨ll, hll⟩ : ∃ ll : Int, ll = 10 ^ fN D := ⟨_, rfl⟩
  rw [← htt] at hpt hpt0
  rw [← hll] at hpl hpl0 hpc
  have fin1 : ∀ (x14 x16 x18 : Option Value), o = none → X E M_MD_result 6 0 0 Z 175 [some (.ref mo), some (vL p), none, some (vL q), none, some (vI j), some (vI mode), some (vL (p.tdiv q)), none, some (vL tt), none, some (vL ll), none, some (vI 1), x14, none, x16, none, x18, none] [] h 0 0 := by
    intro x14 x16 x18 hon
    refine x_aload_n d_MD_result_175 rfl rfl rfl ?_
    refine x_iload d_MD_result_176 rfl ?_
    refine j_if_eq 190 d_MD_result_178 (by decide) (by unfold iR; omega) (fun c178 => ?_) (fun c178 => ?_)
    · exfalso; omega
    · rw [hZ]
      refine x_aload_n d_MD_result_181 rfl rfl rfl ?_
      refine x_get 5 25 d_MD_result_182 gf_MD_201 (by repeat (first | assumption | exact hs_self (by assumption) | exact hs_self (hs_ne (by omega) (by assumption)) | exact hs_self (hs_ne (by omega) (hs_ne (by omega) (by assumption))) | refine hs_ne (by omega) ?_)) (by rfl) ?_
      refine j_iconst d_MD_result_185 ?_
      refine j_iadd d_MD_result_186 ?_
      refine x_goto 194 d_MD_result_187 (by decide) ?_
      refine xp_MD_25 d_MD_result_194 pf_MD_result_201 (by repeat (first | assumption | exact hs_self (by assumption) | exact hs_self (hs_ne (by omega) (by assumption)) | exact hs_self (hs_ne (by omega) (hs_ne (by omega) (by assumption))) | refine hs_ne (by omega) ?_)) ?_
      refine x_iload d_MD_result_197 rfl ?_
      refine j_zreturn d_MD_result_199 rfl (by omega) ?_
      refine ⟨_, rfl, ?_, T, ?_, hT⟩
      · rw [hon]; rfl
      · rw [hon]; show _ = ((h.set (mo + 14) (aI 18 T)).set (mo + 1) (aI 64 B)).set mo (oM mo v so (tg + 1) us); rw [e0, eb]
  have fin0 : ∀ (x14 x16 x18 : Option Value) (y : Int) (T1 : Nat → Int), o = some y → (∀ i, i < 18 → iR (T1 i)) → X E M_MD_result 6 0 0 Z 175 [some (.ref mo), some (vL p), none, some (vL q), none, some (vI j), some (vI mode), some (vL (p.tdiv q)), none, some (vL tt), none, some (vL ll), none, some (vI 0), x14, none, x16, none, x18, none] [] ((h.set (mo + 14) (aI 18 T1)).set (mo + 1) (aI 64 (nB D B o))) 0 0 := by
    intro x14 x16 x18 y T1 hoy hT1
    have he : e01 o = 0 := by rw [hoy]; rfl
    have hm1 : ((h.set (mo + 14) (aI 18 T1)).set (mo + 1) (aI 64 (nB D B o)))[mo]? = some (oM mo v so tg us) := hs_ne (by omega) (hs_ne (by omega) hm)
    refine x_aload_n d_MD_result_175 rfl rfl rfl ?_
    refine x_iload d_MD_result_176 rfl ?_
    refine j_if_eq 190 d_MD_result_178 (by decide) (by unfold iR; omega) (fun c178 => ?_) (fun c178 => ?_)
    · rw [hZ]
      refine x_aload_n d_MD_result_190 rfl rfl rfl ?_
      refine x_get 5 25 d_MD_result_191 gf_MD_201 (by repeat (first | assumption | exact hs_self (by assumption) | exact hs_self (hs_ne (by omega) (by assumption)) | exact hs_self (hs_ne (by omega) (hs_ne (by omega) (by assumption))) | refine hs_ne (by omega) ?_)) (by rfl) ?_
      refine xp_MD_25 d_MD_result_194 pf_MD_result_201 (by repeat (first | assumption | exact hs_self (by assumption) | exact hs_self (hs_ne (by omega) (by assumption)) | exact hs_self (hs_ne (by omega) (hs_ne (by omega) (by assumption))) | refine hs_ne (by omega) ?_)) ?_
      refine x_iload d_MD_result_197 rfl ?_
      refine j_zreturn d_MD_result_199 rfl (by omega) ?_
      exact ⟨_, rfl, by rw [he], T1, by rw [he, Int.add_zero], hT1⟩
    · exfalso; omega
  obtain ⟨W, hW⟩ : ∃ W, W = p.tdiv q := ⟨_, rfl⟩
  obtain ⟨R0, hR0e⟩ : ∃ R0, R0 = p.tmod q := ⟨_, rfl⟩
  have htd := tdm (p := p) (q := q) (t := tt) hq0 (by omega)
  rw [← hW] at hWB
  rw [← hR0e] at hMB hml
  rw [← hW, ← hR0e] at htd
  have hR1b : (R0 * tt).natAbs < 100000000000000 * 10000 := mul_abs_lt (by omega) (by omega) (by decide)
  clear hml
  obtain ⟨R1, hR1e⟩ : ∃ R1, R1 = R0 * tt := ⟨_, rfl⟩
  rw [← hR1e] at htd hR1b
  have hqd := Int.natAbs_tdiv_le_natAbs R1 q
  have hqm := tmod_abs (p := R1) (q := q) hq0
  have hR1B : -1000000000000000000 < R1 ∧ R1 < 1000000000000000000 := by omega
  have hqdB : -1000000000000000000 < R1.tdiv q ∧ R1.tdiv q < 1000000000000000000 := by omega
  have hqmB : -q < R1.tmod q ∧ R1.tmod q < q := by omega
  clear hqd hqm hR1b
  have part2 : W.natAbs < 1000000000 → X E M_MD_result 6 0 0 Z 59 [some (.ref mo), some (vL p), none, some (vL q), none, some (vI j), some (vI mode), some (vL W), none, some (vL tt), none, some (vL ll), none, some (vI 0), none, none, none, none, none, none] [] h 0 0 := by
    intro hWb
    have hWt : (W * tt).natAbs < 1000000000 * 10000 := mul_abs_lt hWb (by omega) (by decide)
    have hWtB : -10000000000000 < W * tt ∧ W * tt < 10000000000000 := by omega
    clear hWt hWb
    obtain ⟨Y, hY⟩ : ∃ Y, Y = W * tt + R1.tdiv q := ⟨_, rfl⟩
    obtain ⟨R2, hR2⟩ : ∃ R2, R2 = R1.tmod q := ⟨_, rfl⟩
    rw [← hY, ← hR2] at htd
    rw [← hR2] at hqmB
    have hYb : -1100000000000000000 < Y ∧ Y < 1100000000000000000 := by omega
    clear hWtB hqdB
    have hstr := stp_r Y R2 q mode
    obtain ⟨y, hy⟩ : ∃ y, y = Y + stp Y R2 q mode := ⟨_, rfl⟩
    have hr7 : ¬ mode = 7 → rnd mode (p * 10 ^ fS D) q = some y := by
      intro h7
      rw [← htt, rnd_stp h7, htd.1, htd.2, ← hy]
    have hr70 : mode = 7 → R2 = 0 → rnd mode (p * 10 ^ fS D) q = some y := by
      intro h7 h0
      have hs0 : stp Y R2 q mode = 0 := by rw [h0]; exact stp_0
      unfold rnd
      rw [← htt, htd.1, htd.2, if_pos h0, hy, hs0, Int.add_zero]
    have hr71 : mode = 7 → ¬ R2 = 0 → rnd mode (p * 10 ^ fS D) q = none := by
      intro h7 h0
      unfold rnd
      rw [← htt, htd.2, if_neg h0, if_pos h7]
    have goodEnd : rnd mode (p * 10 ^ fS D) q = some y → y < ll → -ll < y → ∀ x14 x18, X E M_MD_result 6 0 0 Z 136 [some (.ref mo), some (vL p), none, some (vL q), none, some (vI j), some (vI mode), some (vL W), none, some (vL tt), none, some (vL ll), none, some (vI 0), x14, none, some (vL y), none, x18, none] [] h 0 0 := by
      intro hr hl1 hl2 x14 x18
      have hos : o = some y := by rw [hoe, sRes_some hr, if_pos (by omega)]
      have st : ∀ u : Int, u = (if fG D = 1 then y else (y.natAbs : Int)) → X E M_MD_result 6 0 0 Z 172 [some (.ref mo), some (vL p), none, some (vL q), none, some (vI j), some (vI mode), some (vL W), none, some (vL tt), none, some (vL ll), none, some (vI 0), x14, none, some (vL y), none, x18, none] [vL u, vI j, .ref mo] h 0 0 := by
        intro u hue
        have hub : u.natAbs < 1000000000000 := by subst hue; split <;> omega
        refine x_callVp (M' := M_MD_store) d_MD_result_172 lk_MD_198 (c_mstore E h mo j v so tg us u A D B T hm hR0 hb ht hF0 hj hD0 hG hub hT) mt_MD_store im_MD_store se_MD_store (by repeat (first | assumption | exact hs_self (by assumption) | exact hs_self (hs_ne (by omega) (by assumption)) | exact hs_self (hs_ne (by omega) (hs_ne (by omega) (by assumption))) | refine hs_ne (by omega) ?_)) rfl (by decide) rfl (Nat.le_of_ble_eq_true rfl) (by decide) (by decide) ?_
        rintro h' ⟨T1, rfl, hT1⟩
        have := fin0 x14 (some (vL y)) x18 y T1 hos hT1
        rw [← hW] at this
        rw [show nB D B o = stA D B u by rw [hos, hue]; rfl] at this
        exact this
      refine j_iconst d_MD_result_136 ?_
      refine x_istore d_MD_result_137 (Nat.le_of_ble_eq_true rfl) ?_
      refine x_iload d_MD_result_139 rfl ?_
      refine j_if_ne 175 d_MD_result_141 (by decide) (by unfold iR; omega) (fun c141 => ?_) (fun c141 => ?_)
      · exfalso; omega
      · refine x_aload_n d_MD_result_144 rfl rfl rfl ?_
        refine x_iload d_MD_result_145 rfl ?_
        refine x_lload d_MD_result_147 rfl ?_
        refine j_lconst 0 d_MD_result_149 (by decide) ?_
        refine j_lcmp_ge 170 d_MD_result_150 d_MD_result_151 (by decide) (by unfold lR; omega) (by unfold lR; omega) (fun c150 => ?_) (fun c150 => ?_)
        · refine x_lload d_MD_result_170 rfl ?_
          exact st _ (by split <;> omega)
        · refine x_aload_n d_MD_result_154 rfl rfl rfl ?_
          refine x_get 5 16 d_MD_result_155 gf_MD_31 (by repeat (first | assumption | exact hs_self (by assumption) | exact hs_self (hs_ne (by omega) (by assumption)) | exact hs_self (hs_ne (by omega) (hs_ne (by omega) (by assumption))) | refine hs_ne (by omega) ?_)) (by rfl) ?_
          refine x_iload d_MD_result_158 rfl ?_
          refine j_zald d_MD_result_160 (by repeat (first | assumption | exact hs_self (by assumption) | exact hs_self (hs_ne (by omega) (by assumption)) | exact hs_self (hs_ne (by omega) (hs_ne (by omega) (by assumption))) | refine hs_ne (by omega) ?_)) (by omega) (by omega) (by decide) ?_
          refine x_top (w := vI (fG D)) (by rw [Int.toNat_natCast, fg]) ?_
          refine j_if_ne 170 d_MD_result_161 (by decide) (by unfold iR; omega) (fun c161 => ?_) (fun c161 => ?_)
          · refine x_lload d_MD_result_170 rfl ?_
            exact st _ (by rw [if_pos (by omega)])
          · refine x_lload d_MD_result_164 rfl ?_
            refine j_lneg d_MD_result_166 ?_
            refine x_goto 172 d_MD_result_167 (by decide) ?_
            exact st _ (by rw [if_neg (by omega)]; omega)
    have badEnd : (rnd mode (p * 10 ^ fS D) q = none ∨ (rnd mode (p * 10 ^ fS D) q = some y ∧ (ll ≤ y ∨ y ≤ -ll))) → ∀ x14 x18, X E M_MD_result 6 0 0 Z 132 [some (.ref mo), some (vL p), none, some (vL q), none, some (vI j), some (vI mode), some (vL W), none, some (vL tt), none, some (vL ll), none, some (vI 0), x14, none, some (vL y), none, x18, none] [] h 0 0 := by
      intro hr x14 x18
      have hon : o = none := by
        rcases hr with hr | ⟨hr, hb⟩
        · rw [hoe, sRes_none hr]
        · rw [hoe, sRes_some hr, if_neg (by omega)]
      have := fin1 x14 (some (vL y)) x18 hon
      rw [← hW] at this
      refine j_iconst d_MD_result_132 ?_
      refine x_goto 137 d_MD_result_133 (by decide) ?_
      refine x_istore d_MD_result_137 (Nat.le_of_ble_eq_true rfl) ?_
      refine x_iload d_MD_result_139 rfl ?_
      refine j_if_ne 175 d_MD_result_141 (by decide) (by unfold iR; omega) (fun c141 => ?_) (fun c141 => ?_)
      · exact this
      · exfalso; omega
    have cmp : rnd mode (p * 10 ^ fS D) q = some y → ∀ x14 x18, X E M_MD_result 6 0 0 Z 115 [some (.ref mo), some (vL p), none, some (vL q), none, some (vI j), some (vI mode), some (vL W), none, some (vL tt), none, some (vL ll), none, some (vI 0), x14, none, some (vL y), none, x18, none] [] h 0 0 := by
      intro hr x14 x18
      refine x_lload d_MD_result_115 rfl ?_
      refine x_lload d_MD_result_117 rfl ?_
      refine j_lcmp_ge 132 d_MD_result_119 d_MD_result_120 (by decide) (by unfold lR; omega) (by unfold lR; omega) (fun c119 => ?_) (fun c119 => ?_)
      · exact badEnd (Or.inr ⟨hr, Or.inl c119⟩) _ _
      · refine x_lload d_MD_result_123 rfl ?_
        refine x_lload d_MD_result_125 rfl ?_
        refine j_lneg d_MD_result_127 ?_
        refine j_lcmp_gt 136 d_MD_result_128 d_MD_result_129 (by decide) (by unfold lR; omega) (by unfold lR; omega) (fun c128 => ?_) (fun c128 => ?_)
        · exact goodEnd hr (by omega) (by omega) _ _
        · exact badEnd (Or.inr ⟨hr, Or.inr (by omega)⟩) _ _
    refine x_lload_n d_MD_result_59 rfl rfl ?_
    refine x_lload_n d_MD_result_60 rfl rfl ?_
    refine j_lrem d_MD_result_61 (by unfold lR; omega) (by unfold lR; omega) (by first | decide | omega) ?_
    rw [← hR0e]
    refine x_lload d_MD_result_62 rfl ?_
    refine j_lmul d_MD_result_64 ?_
    rw [← hR1e]
    refine x_lstore d_MD_result_65 (Nat.le_of_ble_eq_true rfl) ?_
    refine x_lload d_MD_result_67 rfl ?_
    refine x_lload d_MD_result_69 rfl ?_
    refine j_lmul d_MD_result_71 ?_
    refine x_lload d_MD_result_72 rfl ?_
    refine x_lload_n d_MD_result_74 rfl rfl ?_
    refine j_ldiv d_MD_result_75 (by unfold lR; omega) (by unfold lR; omega) (by first | decide | omega) ?_
    refine j_ladd d_MD_result_76 ?_
    rw [← hY]
    refine x_lstore d_MD_result_77 (Nat.le_of_ble_eq_true rfl) ?_
    refine x_lload d_MD_result_79 rfl ?_
    refine x_lload_n d_MD_result_81 rfl rfl ?_
    refine j_lrem d_MD_result_82 (by unfold lR; omega) (by unfold lR; omega) (by first | decide | omega) ?_
    rw [← hR2]
    refine x_lstore d_MD_result_83 (Nat.le_of_ble_eq_true rfl) ?_
    refine x_lload d_MD_result_85 rfl ?_
    refine x_lload d_MD_result_87 rfl ?_
    refine x_lload d_MD_result_89 rfl ?_
    refine x_lload_n d_MD_result_91 rfl rfl ?_
    refine x_iload d_MD_result_92 rfl ?_
    refine x_callS1 (M' := M_MD_step) d_MD_result_94 lk_MD_194 (c_step E h Y R2 q mode (by unfold lR; omega) (by omega) (by unfold lR; omega) hmd) mt_MD_step st_MD_step (by decide) rfl (Nat.le_of_ble_eq_true rfl) (by decide) (by decide) ?_
    refine j_i2l d_MD_result_97 (by unfold iR; omega) ?_
    refine j_ladd d_MD_result_98 ?_
    rw [← hy]
    refine x_lstore d_MD_result_99 (Nat.le_of_ble_eq_true rfl) ?_
    refine x_iload d_MD_result_101 rfl ?_
    refine j_bipush d_MD_result_103 (by decide) ?_
    refine j_icmp_ne 115 d_MD_result_105 (by decide) (by unfold iR; omega) (by unfold iR; omega) (fun c105 => ?_) (fun c105 => ?_)
    · exact cmp (hr7 c105) _ _
    · refine x_lload d_MD_result_108 rfl ?_
      refine j_lconst 0 d_MD_result_110 (by decide) ?_
      refine j_lcmp_ne 132 d_MD_result_111 d_MD_result_112 (by decide) (by unfold lR; omega) (by unfold lR; omega) (fun c111 => ?_) (fun c111 => ?_)
      · exact badEnd (Or.inl (hr71 c105 c111)) _ _
      · exact cmp (hr70 c105 c111) _ _
  rw [← hZ]
  refine x_lload_n d_MD_result_0 rfl rfl ?_
  refine x_lload_n d_MD_result_1 rfl rfl ?_
  refine j_ldiv d_MD_result_2 (by unfold lR; omega) (by unfold lR; omega) (by first | decide | omega) ?_
  rw [← hW]
  refine x_lstore d_MD_result_3 (Nat.le_of_ble_eq_true rfl) ?_
  refine x_aload_n d_MD_result_5 rfl rfl rfl ?_
  refine x_get 5 15 d_MD_result_6 gf_MD_28 (by repeat (first | assumption | exact hs_self (by assumption) | exact hs_self (hs_ne (by omega) (by assumption)) | exact hs_self (hs_ne (by omega) (hs_ne (by omega) (by assumption))) | refine hs_ne (by omega) ?_)) (by rfl) ?_
  refine x_iload d_MD_result_9 rfl ?_
  refine j_iald d_MD_result_11 (by repeat (first | assumption | exact hs_self (by assumption) | exact hs_self (hs_ne (by omega) (by assumption)) | exact hs_self (hs_ne (by omega) (hs_ne (by omega) (by assumption))) | refine hs_ne (by omega) ?_)) (by omega) (by omega) (by decide) ?_
  refine x_top (w := vI (fS D)) (by rw [Int.toNat_natCast, fs]) ?_
  refine x_callS1 (M' := M_MD_power) d_MD_result_12 lk_MD_138 (c_power E h (fS D) (by omega)) mt_MD_power st_MD_power (by decide) rfl (Nat.le_of_ble_eq_true rfl) (by decide) (by decide) ?_
  rw [← htt]
  refine x_lstore d_MD_result_15 (Nat.le_of_ble_eq_true rfl) ?_
  refine x_aload_n d_MD_result_17 rfl rfl rfl ?_
  refine x_get 5 14 d_MD_result_18 gf_MD_25 (by repeat (first | assumption | exact hs_self (by assumption) | exact hs_self (hs_ne (by omega) (by assumption)) | exact hs_self (hs_ne (by omega) (hs_ne (by omega) (by assumption))) | refine hs_ne (by omega) ?_)) (by rfl) ?_
  refine x_iload d_MD_result_21 rfl ?_
  refine j_iald d_MD_result_23 (by repeat (first | assumption | exact hs_self (by assumption) | exact hs_self (hs_ne (by omega) (by assumption)) | exact hs_self (hs_ne (by omega) (hs_ne (by omega) (by assumption))) | refine hs_ne (by omega) ?_)) (by omega) (by omega) (by decide) ?_
  refine x_top (w := vI (fN D)) (by rw [Int.toNat_natCast, fn]) ?_
  refine x_callS1 (M' := M_MD_power) d_MD_result_24 lk_MD_138 (c_power E h (fN D) (by omega)) mt_MD_power st_MD_power (by decide) rfl (Nat.le_of_ble_eq_true rfl) (by decide) (by decide) ?_
  rw [← hll]
  have bigEnd : 1000000000 ≤ W.natAbs → X E M_MD_result 6 0 0 Z 47 [some (.ref mo), some (vL p), none, some (vL q), none, some (vI j), some (vI mode), some (vL W), none, some (vL tt), none, some (vL ll), none, none, none, none, none, none, none, none] [] h 0 0 := by
    intro hbig
    have hon : o = none := by rw [hoe]; exact sRes_big hq0 (by omega) (by rw [← hW]; exact hbig)
    have := fin1 none none none hon
    rw [← hW] at this
    refine j_iconst d_MD_result_47 ?_
    refine x_goto 52 d_MD_result_48 (by decide) ?_
    refine x_istore d_MD_result_52 (Nat.le_of_ble_eq_true rfl) ?_
    refine x_iload d_MD_result_54 rfl ?_
    refine j_if_ne 175 d_MD_result_56 (by decide) (by unfold iR; omega) (fun c56 => ?_) (fun c56 => ?_)
    · exact this
    · exfalso; omega
  refine x_lstore d_MD_result_27 (Nat.le_of_ble_eq_true rfl) ?_
  refine x_lload d_MD_result_29 rfl ?_
  refine x_ldc2 d_MD_result_31 kl_MD_190 ?_
  refine j_lcmp_ge 47 d_MD_result_34 d_MD_result_35 (by decide) (by unfold lR; omega) (by unfold lR; omega) (fun c34 => ?_) (fun c34 => ?_)
  · exact bigEnd (by omega)
  · refine x_lload d_MD_result_38 rfl ?_
    refine x_ldc2 d_MD_result_40 kl_MD_192 ?_
    refine j_lcmp_gt 51 d_MD_result_43 d_MD_result_44 (by decide) (by unfold lR; omega) (by unfold lR; omega) (fun c43 => ?_) (fun c43 => ?_)
    · refine j_iconst d_MD_result_51 ?_
      refine x_istore d_MD_result_52 (Nat.le_of_ble_eq_true rfl) ?_
      refine x_iload d_MD_result_54 rfl ?_
      refine j_if_ne 175 d_MD_result_56 (by decide) (by unfold iR; omega) (fun c56 => ?_) (fun c56 => ?_)
      · exfalso; omega
      · exact part2 (by omega)
    · exact bigEnd (by omega)
