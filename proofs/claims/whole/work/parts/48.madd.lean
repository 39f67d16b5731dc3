section MA'
variable {E : xEnv} {h : xH} {mo : Nat} {S : ST}
set_option maxHeartbeats 4000000 in
theorem m_addTo (a f l md : Int) (hO : SO S) (hX : MX h mo S) (ha : iR a) (hf : iR f) (hl : iR l) (hmd : iR md) : xCt E 9 0 0 M_MD_addTo [.ref mo, vI a, vI f, vI l, vI md] h (rQ (pM mo h (fAddTo S a f l md))) := by
  obtain ⟨v, A, hW⟩ := hX
  refine x_met rfl rfl (Nat.le_of_ble_eq_true rfl) ?_
  obtain ⟨so, m0⟩ := hW.1
  have h12 := hO.1
  obtain ⟨Z, hZ⟩ : ∃ Z, Z = (xZ E 0 0 (rQ (pM mo h (fAddTo S a f l md)))) := ⟨_, rfl⟩
  rw [← hZ]
  have bad : ¬ okA S a f l md → ∀ L : List (Option Value), X E M_MD_addTo 9 0 0 Z 25 L [] h 0 0 := by
    intro hb L
    rw [hZ]
    refine j_iconst d_MD_addTo_25 ?_
    refine x_ireturn d_MD_addTo_26 rfl ?_
    unfold fAddTo
    rw [if_neg hb]
    exact ⟨_, rfl, rfl, ⟨v, A, hW⟩, frM_refl _ _⟩
  have main : okA S a f l md → X E M_MD_addTo 9 0 0 Z 27 [some (.ref mo), some (vI a), some (vI f), some (vI l), some (vI md), none, none, none, none, none, none, none, none, none] [] h 0 0 := by
    intro hk
    have hk0 := hk
    obtain ⟨hmd2, ⟨ha1, ha2⟩, hr1, hr2, hr3⟩ := hk
    obtain ⟨n, rfl⟩ : ∃ n : Nat, a = (n : Int) := ⟨a.toNat, by omega⟩
    obtain ⟨i, rfl⟩ : ∃ i : Nat, f = (i : Int) := ⟨f.toNat, by omega⟩
    obtain ⟨j, rfl⟩ : ∃ j : Nat, l = (j : Int) := ⟨l.toNat, by omega⟩
    have hn : n < zN S := by omega
    have hDn := (hO.2.2.2.2 n hn).1
    have hsn := hDn.2.2.1
    refine x_aload_n d_MD_addTo_27 rfl rfl (by first | rfl | assumption) ?_
    refine x_iload_n d_MD_addTo_28 rfl rfl ?_
    refine x_callVq (M' := M_MD_isSound) d_MD_addTo_29 lk_MD_211 (m_isSound n hO hW hn) mt_MD_isSound im_MD_isSound se_MD_isSound (by repeat (first | assumption | exact hs_self (by assumption) | exact hs_self (hs_ne (by omega) (by assumption)) | exact hs_self (hs_ne (by omega) (hs_ne (by omega) (by assumption))) | refine hs_ne (by omega) ?_)) rfl (by decide) rfl (Nat.le_of_ble_eq_true rfl) (by decide) (by decide) ?_
    rintro w h1 ⟨rfl, hW1, hf1⟩
    obtain ⟨so1, m01⟩ := hW1.1
    refine x_istore d_MD_addTo_32 (Nat.le_of_ble_eq_true rfl) ?_
    refine x_aload_n d_MD_addTo_34 rfl rfl (by first | rfl | assumption) ?_
    refine x_iload_n d_MD_addTo_35 rfl rfl ?_
    refine x_iload_n d_MD_addTo_36 rfl rfl ?_
    refine x_callVq (M' := M_MD_hold) d_MD_addTo_37 lk_MD_235 (m_hold i j hO hW1 (by omega) (by omega)) mt_MD_hold im_MD_hold se_MD_hold (by repeat (first | assumption | exact hs_self (by assumption) | exact hs_self (hs_ne (by omega) (by assumption)) | exact hs_self (hs_ne (by omega) (hs_ne (by omega) (by assumption))) | refine hs_ne (by omega) ?_)) rfl (by decide) rfl (Nat.le_of_ble_eq_true rfl) (by decide) (by decide) ?_
    rintro w h2 ⟨hW2, hf2, H, hH2, rfl, hHH⟩
    obtain ⟨so2, m02⟩ := hW2.1
    have hf' := frM_trans hf1 hf2
    have dEnd : (gU' S n = none ∨ hB S (j + 1 - i) i = false) → X E M_MD_addTo 9 0 0 Z 52 [some (.ref mo), some (vI n), some (vI i), some (vI j), some (vI md), some (vI (if uA (zD S n) (zB S) = none then 0 else 1)), none, none, none, none, none, none, none, none] [] h2 0 0 := by
      intro hn
      refine j_iconst d_MD_addTo_52 ?_
      refine x_istore d_MD_addTo_53 (Nat.le_of_ble_eq_true rfl) ?_
      refine x_iload d_MD_addTo_55 rfl ?_
      refine j_if_ne 65 d_MD_addTo_57 (by decide) (by unfold iR; omega) (fun c57 => ?_) (fun c57 => ?_)
      · exfalso; omega
      · refine x_aload_n d_MD_addTo_60 rfl rfl (by first | rfl | assumption) ?_
        refine x_callVq (M' := M_MD_badData) d_MD_addTo_61 lk_MD_214 (m_badData hW2) mt_MD_badData im_MD_badData se_MD_badData (by repeat (first | assumption | exact hs_self (by assumption) | exact hs_self (hs_ne (by omega) (by assumption)) | exact hs_self (hs_ne (by omega) (hs_ne (by omega) (by assumption))) | refine hs_ne (by omega) ?_)) rfl (by decide) rfl (Nat.le_of_ble_eq_true rfl) (by decide) (by decide) ?_
        rintro w h3 ⟨rfl, hW3, hf3⟩
        rw [hZ]
        refine x_ireturn d_MD_addTo_64 rfl ?_
        rw [fAddTo_d hk0 (by rw [Int.toNat_natCast, Int.toNat_natCast]; exact hn)]
        exact ⟨_, rfl, rfl, ⟨v, A, hW3⟩, frM_trans hf' hf3⟩
    refine j_if_eq 52 d_MD_addTo_40 (by decide) (by unfold iR; split <;> omega) (fun c40 => ?_) (fun c40 => ?_)
    · rw [ite10] at c40
      exact dEnd (Or.inr (Bool.eq_false_iff.mpr c40))
    · rw [ite10] at c40
      have hb := Classical.not_not.mp c40
      have hHk := hHH hb
      refine x_iload d_MD_addTo_43 rfl ?_
      refine j_if_eq 52 d_MD_addTo_45 (by decide) (by unfold iR; split <;> omega) (fun c45 => ?_) (fun c45 => ?_)
      · rw [ite01] at c45
        exact dEnd (Or.inl (by rw [gU', Int.toNat_natCast]; exact c45))
      · rw [ite01] at c45
        obtain ⟨x, hx⟩ : ∃ x, uA (zD S n) (zB S) = some x := Option.ne_none_iff_exists'.mp c45
        have hxb := uA_9 hDn hO.2.2.2.1 x hx
        rw [fAddTo_s hk0 (x := x) (by rw [gU', Int.toNat_natCast]; exact hx) (by rw [Int.toNat_natCast, Int.toNat_natCast]; exact hb)] at hZ
        simp only [gS, Int.toNat_natCast] at hZ
        refine j_iconst d_MD_addTo_48 ?_
        refine x_goto 53 d_MD_addTo_49 (by decide) ?_
        refine x_istore d_MD_addTo_53 (Nat.le_of_ble_eq_true rfl) ?_
        refine x_iload d_MD_addTo_55 rfl ?_
        refine j_if_ne 65 d_MD_addTo_57 (by decide) (by unfold iR; omega) (fun c57 => ?_) (fun c57 => ?_)
        rotate_left
        · exfalso; omega
        refine x_aload_n d_MD_addTo_65 rfl rfl (by first | rfl | assumption) ?_
        refine x_iload_n d_MD_addTo_66 rfl rfl ?_
        refine x_callVq (M' := M_MD_units) d_MD_addTo_67 lk_MD_181 (m_units n hO hW2 hn) mt_MD_units im_MD_units se_MD_units (by repeat (first | assumption | exact hs_self (by assumption) | exact hs_self (hs_ne (by omega) (by assumption)) | exact hs_self (hs_ne (by omega) (hs_ne (by omega) (by assumption))) | refine hs_ne (by omega) ?_)) rfl (by decide) rfl (Nat.le_of_ble_eq_true rfl) (by decide) (by decide) ?_
        rintro w h3 ⟨u, so3, rfl, -, hux, hW3, hf3, hk3, m03, -, -⟩
        obtain rfl := hux x hx
        rw [hH2] at hk3
        obtain ⟨-, -, -, h4', -⟩ := hW3.2.2.2.2.2.2.1
        obtain ⟨-, -, -, fsn, -⟩ := hW3.2.2.2.2.2.2.2.2.2 n hn
        refine x_lstore d_MD_addTo_70 (Nat.le_of_ble_eq_true rfl) ?_
        refine x_aload_n d_MD_addTo_72 rfl rfl (by first | rfl | assumption) ?_
        refine x_get 5 15 d_MD_addTo_73 gf_MD_28 (by repeat (first | assumption | exact hs_self (by assumption) | exact hs_self (hs_ne (by omega) (by assumption)) | exact hs_self (hs_ne (by omega) (hs_ne (by omega) (by assumption))) | refine hs_ne (by omega) ?_)) (by rfl) ?_
        refine x_iload_n d_MD_addTo_76 rfl rfl ?_
        refine j_iald d_MD_addTo_77 (by repeat (first | assumption | exact hs_self (by assumption) | exact hs_self (hs_ne (by omega) (by assumption)) | exact hs_self (hs_ne (by omega) (hs_ne (by omega) (by assumption))) | refine hs_ne (by omega) ?_)) (by omega) (by omega) (by decide) ?_
        refine x_top (w := vI (fS (zD S n))) (by rw [Int.toNat_natCast, fsn]) ?_
        refine x_callS1 (M' := M_MD_power) d_MD_addTo_78 lk_MD_138 (c_power E h3 (fS (zD S n)) (by omega)) mt_MD_power st_MD_power (by decide) rfl (Nat.le_of_ble_eq_true rfl) (by decide) (by decide) ?_
        refine x_lstore d_MD_addTo_81 (Nat.le_of_ble_eq_true rfl) ?_
        refine j_iconst d_MD_addTo_83 ?_
        refine x_istore d_MD_addTo_84 (Nat.le_of_ble_eq_true rfl) ?_
        refine x_iload_n d_MD_addTo_86 rfl rfl ?_
        refine x_istore d_MD_addTo_87 (Nat.le_of_ble_eq_true rfl) ?_
        have loop : ∀ (r c : Nat) (h4 : xH) (S4 : ST) (x12 : Option Value) (z e : Int), c + r = j + 1 → i ≤ c → z = (c : Int) → zN S4 = zN S → zD S4 = zD S → SO S4 → MW h4 mo v A S4 → frM mo h h4 → h4[mo + 15]? = some (aL 12 H) → aLp u (fS (zD S n)) md (hU S) (j + 1 - i) i S 0 = aLp u (fS (zD S n)) md (hU S) r c S4 e → X E M_MD_addTo 9 0 0 Z 89 [some (.ref mo), some (vI n), some (vI i), some (vI j), some (vI md), some (vI 1), some (vL u), none, some (vL (10 ^ fS (zD S n))), none, some (vI e), some (vI z), x12, none] [] h4 0 0 := by
          intro r
          induction r with
          | zero =>
            intro c h4 S4 x12 z e hc hic hz hN4 hD4 hO4 hW4 hf4 hH4 hal
            subst hz
            refine x_iload d_MD_addTo_89 rfl ?_
            refine x_iload_n d_MD_addTo_91 rfl rfl ?_
            refine j_icmp_gt 169 d_MD_addTo_92 (by decide) (by unfold iR; omega) (by unfold iR; omega) (fun c92 => ?_) (fun c92 => ?_)
            · rw [hZ, hal]
              refine x_iload d_MD_addTo_169 rfl ?_
              refine x_ireturn d_MD_addTo_171 rfl ?_
              exact ⟨_, rfl, rfl, ⟨v, A, hW4⟩, hf4⟩
            · exfalso; omega
          | succ r ih =>
            intro c h4 S4 x12 z e hc hic hz hN4 hD4 hO4 hW4 hf4 hH4 hal
            subst hz
            have hcn : c < zN S4 := by omega
            obtain ⟨so4, m04⟩ := hW4.1
            obtain ⟨-, -, -, h4'', -, h6, -⟩ := hW4.2.2.2.2.2.2.1
            obtain ⟨-, -, -, fsc, -, fe, -⟩ := hW4.2.2.2.2.2.2.2.2.2 c hcn
            refine x_iload d_MD_addTo_89 rfl ?_
            refine x_iload_n d_MD_addTo_91 rfl rfl ?_
            refine j_icmp_gt 169 d_MD_addTo_92 (by decide) (by unfold iR; omega) (by unfold iR; omega) (fun c92 => ?_) (fun c92 => ?_)
            · exfalso; omega
            · refine x_aload_n d_MD_addTo_95 rfl rfl (by first | rfl | assumption) ?_
              refine x_get 5 17 d_MD_addTo_96 gf_MD_35 (by repeat (first | assumption | exact hs_self (by assumption) | exact hs_self (hs_ne (by omega) (by assumption)) | exact hs_self (hs_ne (by omega) (hs_ne (by omega) (by assumption))) | refine hs_ne (by omega) ?_)) (by rfl) ?_
              refine x_iload d_MD_addTo_99 rfl ?_
              refine j_zald d_MD_addTo_101 (by repeat (first | assumption | exact hs_self (by assumption) | exact hs_self (hs_ne (by omega) (by assumption)) | exact hs_self (hs_ne (by omega) (hs_ne (by omega) (by assumption))) | refine hs_ne (by omega) ?_)) (by omega) (by omega) (by decide) ?_
              refine x_top (w := vI (if fM (zD S4 c) = 4 then 1 else 0)) (by rw [Int.toNat_natCast, fe]) ?_
              refine j_if_ne 163 d_MD_addTo_102 (by decide) (by unfold iR; split <;> omega) (fun c102 => ?_) (fun c102 => ?_)
              · rw [ite10] at c102
                have c102 := Classical.not_not.mp c102
                refine j_iinc d_MD_addTo_163 rfl ?_
                refine x_goto 89 d_MD_addTo_166 (by decide) ?_
                exact ih (c + 1) h4 S4 _ _ e (by omega) (by omega) (by omega) hN4 hD4 hO4 hW4 hf4 hH4 (by rw [hal, aLp_1 c102])
              · rw [ite10] at c102
                rw [aLp_2 c102] at hal
                have hcu := hHk c hic (by omega) (by rw [← hD4]; exact c102)
                have hhu : hU S c = H c := by unfold hU; rw [hcu]; rfl
                have hDc := (hO.2.2.2.2 c (by omega)).1
                have hub := uA_9 hDc hO.2.2.2.1 _ hcu
                have hDc4 := (hO4.2.2.2.2 c hcn).1
                have hsc := hDc4.2.2.1
                generalize hDg : zD S4 c = D at *
                have hm1 := p8_b hub hsn
                have hm2 := p8_b hxb hsc
                have hq := p8_q hsc (show fS (zD S n) ≤ 8 by omega)
                obtain ⟨o, ho⟩ : ∃ o, o = aO u (fS (zD S n)) md (hU S) c D := ⟨_, rfl⟩
                rw [← ho] at hal
                have hce : sRes (H c * 10 ^ fS (zD S n) + u * 10 ^ fS D) (10 ^ fS D * 10 ^ fS (zD S n)) (fS (zD S4 c)) (fN (zD S4 c)) md = o := by
                  rw [ho, hDg]
                  show _ = sRes (hU S c * _ + _) _ _ _ _
                  rw [hhu]
                refine x_aload_n d_MD_addTo_105 rfl rfl (by first | rfl | assumption) ?_
                refine x_get 5 15 d_MD_addTo_106 gf_MD_28 (by repeat (first | assumption | exact hs_self (by assumption) | exact hs_self (hs_ne (by omega) (by assumption)) | exact hs_self (hs_ne (by omega) (hs_ne (by omega) (by assumption))) | refine hs_ne (by omega) ?_)) (by rfl) ?_
                refine x_iload d_MD_addTo_109 rfl ?_
                refine j_iald d_MD_addTo_111 (by repeat (first | assumption | exact hs_self (by assumption) | exact hs_self (hs_ne (by omega) (by assumption)) | exact hs_self (hs_ne (by omega) (hs_ne (by omega) (by assumption))) | refine hs_ne (by omega) ?_)) (by omega) (by omega) (by decide) ?_
                refine x_top (w := vI (fS D)) (by rw [Int.toNat_natCast, fsc]) ?_
                refine x_callS1 (M' := M_MD_power) d_MD_addTo_112 lk_MD_138 (c_power E h4 (fS D) (by omega)) mt_MD_power st_MD_power (by decide) rfl (Nat.le_of_ble_eq_true rfl) (by decide) (by decide) ?_
                refine x_lstore d_MD_addTo_115 (Nat.le_of_ble_eq_true rfl) ?_
                refine x_aload_n d_MD_addTo_117 rfl rfl (by first | rfl | assumption) ?_
                refine x_aload_n d_MD_addTo_118 rfl rfl (by first | rfl | assumption) ?_
                refine x_get 5 23 d_MD_addTo_119 gf_MD_53 (by repeat (first | assumption | exact hs_self (by assumption) | exact hs_self (hs_ne (by omega) (by assumption)) | exact hs_self (hs_ne (by omega) (hs_ne (by omega) (by assumption))) | refine hs_ne (by omega) ?_)) (by rfl) ?_
                refine x_iload d_MD_addTo_122 rfl ?_
                refine j_lald d_MD_addTo_124 (by repeat (first | assumption | exact hs_self (by assumption) | exact hs_self (hs_ne (by omega) (by assumption)) | exact hs_self (hs_ne (by omega) (hs_ne (by omega) (by assumption))) | refine hs_ne (by omega) ?_)) (by omega) (by omega) (by decide) ?_
                rw [Int.toNat_natCast]
                refine x_lload d_MD_addTo_125 rfl ?_
                refine j_lmul d_MD_addTo_127 ?_
                refine x_lload d_MD_addTo_128 rfl ?_
                refine x_lload d_MD_addTo_130 rfl ?_
                refine j_lmul d_MD_addTo_132 ?_
                refine j_ladd d_MD_addTo_133 ?_
                refine x_lload d_MD_addTo_134 rfl ?_
                refine x_lload d_MD_addTo_136 rfl ?_
                refine j_lmul d_MD_addTo_138 ?_
                refine x_iload d_MD_addTo_139 rfl ?_
                refine x_iload d_MD_addTo_141 rfl ?_
                refine x_callVq (M' := M_MD_result) d_MD_addTo_143 lk_MD_228 (m_result c _ _ md o hO4 hW4 hcn (by omega) hq.1 (by omega) hmd2 hce) mt_MD_result im_MD_result se_MD_result (by repeat (first | assumption | exact hs_self (by assumption) | exact hs_self (hs_ne (by omega) (by assumption)) | exact hs_self (hs_ne (by omega) (hs_ne (by omega) (by assumption))) | refine hs_ne (by omega) ?_)) rfl (by decide) rfl (Nat.le_of_ble_eq_true rfl) (by decide) (by decide) ?_
                rintro w h5 ⟨rfl, hW5, hf5, hk5⟩
                have he := e01_r o
                have hO5 := SO_sRs (j := c) o hO4 hcn
                refine j_if_eq 159 d_MD_addTo_146 (by decide) (by unfold iR; omega) (fun c146 => ?_) (fun c146 => ?_)
                · refine x_iload d_MD_addTo_159 rfl ?_
                  refine x_istore d_MD_addTo_161 (Nat.le_of_ble_eq_true rfl) ?_
                  refine j_iinc d_MD_addTo_163 rfl ?_
                  refine x_goto 89 d_MD_addTo_166 (by decide) ?_
                  refine ih (c + 1) h5 (sRs S4 c o) _ _ e (by omega) (by omega) (by omega) hN4 hD4 hO5 hW5 (frM_trans hf4 hf5) (by rw [hk5]; exact hH4) ?_
                  rw [hal, show e01 o = 0 by omega, Int.zero_mul, Int.add_zero]
                · refine x_iload d_MD_addTo_149 rfl ?_
                  refine j_iconst d_MD_addTo_151 ?_
                  refine x_iload d_MD_addTo_152 rfl ?_
                  refine x_ishl d_MD_addTo_154 ?_
                  refine x_top (w := vI (2 ^ c)) (by rw [shl_k (by omega)]) ?_
                  refine j_iadd d_MD_addTo_155 ?_
                  refine x_goto 161 d_MD_addTo_156 (by decide) ?_
                  refine x_istore d_MD_addTo_161 (Nat.le_of_ble_eq_true rfl) ?_
                  refine j_iinc d_MD_addTo_163 rfl ?_
                  refine x_goto 89 d_MD_addTo_166 (by decide) ?_
                  refine ih (c + 1) h5 (sRs S4 c o) _ _ _ (by omega) (by omega) (by omega) hN4 hD4 hO5 hW5 (frM_trans hf4 hf5) (by rw [hk5]; exact hH4) ?_
                  rw [hal, show e01 o = 1 by omega, Int.one_mul]
        exact loop (j + 1 - i) i h3 S _ _ _ (by omega) (by omega) rfl rfl rfl hO hW3 (frM_trans hf' hf3) hk3 rfl
  refine x_iload d_MD_addTo_0 rfl ?_
  refine x_callS1 (M' := M_MD_isMode) d_MD_addTo_2 lk_MD_218 (m_isMode md hmd) mt_MD_isMode st_MD_isMode (by decide) rfl (Nat.le_of_ble_eq_true rfl) (by decide) (by decide) ?_
  refine j_if_eq 25 d_MD_addTo_5 (by decide) (by unfold iR; split <;> omega) (fun c5 => ?_) (fun c5 => ?_)
  · rw [ite10] at c5
    exact bad (fun x => c5 x.1) _
  · rw [ite10] at c5
    refine x_aload_n d_MD_addTo_8 rfl rfl (by first | rfl | assumption) ?_
    refine x_iload_n d_MD_addTo_9 rfl rfl ?_
    refine x_callV1 (M' := M_MD_number) d_MD_addTo_10 lk_MD_221 (m_number a hO hW ha) mt_MD_number im_MD_number se_MD_number (by repeat (first | assumption | exact hs_self (by assumption) | exact hs_self (hs_ne (by omega) (by assumption)) | exact hs_self (hs_ne (by omega) (hs_ne (by omega) (by assumption))) | refine hs_ne (by omega) ?_)) rfl (by decide) rfl (Nat.le_of_ble_eq_true rfl) (by decide) (by decide) ?_
    refine j_if_eq 25 d_MD_addTo_13 (by decide) (op01_i S a) (fun c13 => ?_) (fun c13 => ?_)
    · exact bad (fun x => op01_0.mp c13 x.2.1) _
    · refine x_aload_n d_MD_addTo_16 rfl rfl (by first | rfl | assumption) ?_
      refine x_iload_n d_MD_addTo_17 rfl rfl ?_
      refine x_iload_n d_MD_addTo_18 rfl rfl ?_
      refine x_callV1 (M' := M_MD_range) d_MD_addTo_19 lk_MD_232 (m_range f l hO hW hf hl) mt_MD_range im_MD_range se_MD_range (by repeat (first | assumption | exact hs_self (by assumption) | exact hs_self (hs_ne (by omega) (by assumption)) | exact hs_self (hs_ne (by omega) (hs_ne (by omega) (by assumption))) | refine hs_ne (by omega) ?_)) rfl (by decide) rfl (Nat.le_of_ble_eq_true rfl) (by decide) (by decide) ?_
      refine j_if_ne 27 d_MD_addTo_22 (by decide) (by unfold iR; split <;> omega) (fun c22 => ?_) (fun c22 => ?_)
      · rw [ite10] at c22
        exact main ⟨Classical.not_not.mp c5, opd_of c13, Classical.not_not.mp c22⟩
      · rw [ite10] at c22
        exact bad (fun x => c22 x.2.2) _
set_option maxHeartbeats 4000000 in
theorem m_total (f l t md : Int) (hO : SO S) (hX : MX h mo S) (hf : iR f) (hl : iR l) (ht : iR t) (hmd : iR md) : xCt E 9 0 0 M_MD_total [.ref mo, vI f, vI l, vI t, vI md] h (rQ (pM mo h (fTotal S f l t md))) := by
  obtain ⟨v, A, hW⟩ := hX
  refine x_met rfl rfl (Nat.le_of_ble_eq_true rfl) ?_
  obtain ⟨so, m0⟩ := hW.1
  have h12 := hO.1
  obtain ⟨Z, hZ⟩ : ∃ Z, Z = (xZ E 0 0 (rQ (pM mo h (fTotal S f l t md)))) := ⟨_, rfl⟩
  rw [← hZ]
  have bad : ¬ okT S f l t md → ∀ L : List (Option Value), X E M_MD_total 9 0 0 Z 25 L [] h 0 0 := by
    intro hb L
    rw [hZ]
    refine j_iconst d_MD_total_25 ?_
    refine x_ireturn d_MD_total_26 rfl ?_
    unfold fTotal
    rw [if_neg hb]
    exact ⟨_, rfl, rfl, ⟨v, A, hW⟩, frM_refl _ _⟩
  have main : okT S f l t md → X E M_MD_total 9 0 0 Z 27 [some (.ref mo), some (vI f), some (vI l), some (vI t), some (vI md), none, none, none] [] h 0 0 := by
    intro hk
    have hk0 := hk
    obtain ⟨hmd2, ht1, hr1, hr2, hr3⟩ := hk
    obtain ⟨n, rfl⟩ : ∃ n : Nat, t = (n : Int) := ⟨t.toNat, by omega⟩
    obtain ⟨i, rfl⟩ : ∃ i : Nat, f = (i : Int) := ⟨f.toNat, by omega⟩
    obtain ⟨j, rfl⟩ : ∃ j : Nat, l = (j : Int) := ⟨l.toNat, by omega⟩
    have hn : n < zN S := by omega
    refine x_aload_n d_MD_total_27 rfl rfl (by first | rfl | assumption) ?_
    refine x_iload_n d_MD_total_28 rfl rfl ?_
    refine x_iload_n d_MD_total_29 rfl rfl ?_
    refine x_callVq (M' := M_MD_hold) d_MD_total_30 lk_MD_235 (m_hold i j hO hW (by omega) (by omega)) mt_MD_hold im_MD_hold se_MD_hold (by repeat (first | assumption | exact hs_self (by assumption) | exact hs_self (hs_ne (by omega) (by assumption)) | exact hs_self (hs_ne (by omega) (hs_ne (by omega) (by assumption))) | refine hs_ne (by omega) ?_)) rfl (by decide) rfl (Nat.le_of_ble_eq_true rfl) (by decide) (by decide) ?_
    rintro w h2 ⟨hW2, hf2, H, hH2, rfl, hHH⟩
    obtain ⟨so2, m02⟩ := hW2.1
    refine j_if_ne 41 d_MD_total_33 (by decide) (by unfold iR; split <;> omega) (fun c33 => ?_) (fun c33 => ?_)
    · rw [ite10] at c33
      have hb := Classical.not_not.mp c33
      have hHk := hHH hb
      rw [fTotal_s hk0 (by rw [Int.toNat_natCast, Int.toNat_natCast]; exact hb)] at hZ
      obtain ⟨o, ho⟩ : ∃ o, o = tO S i j n md := ⟨_, rfl⟩
      rw [← ho, Int.toNat_natCast] at hZ
      have loop : ∀ (r c : Nat) (z s : Int), c + r = j + 1 → i ≤ c → z = (c : Int) → s.natAbs ≤ c * 10000000000000 → tLp S (j + 1 - i) i 0 = tLp S r c s → X E M_MD_total 9 0 0 Z 47 [some (.ref mo), some (vI i), some (vI j), some (vI n), some (vI md), some (vL s), none, some (vI z)] [] h2 0 0 := by
        intro r
        induction r with
        | zero =>
          intro c z s hc hic hz hsb hal
          subst hz
          refine x_iload d_MD_total_47 rfl ?_
          refine x_iload_n d_MD_total_49 rfl rfl ?_
          refine j_icmp_gt 99 d_MD_total_50 (by decide) (by unfold iR; omega) (by unfold iR; omega) (fun c50 => ?_) (fun c50 => ?_)
          · have hce : sRes s 10000 (fS (zD S n)) (fN (zD S n)) md = o := by
              rw [ho]
              unfold tO
              rw [Int.toNat_natCast, Int.toNat_natCast, gS, gN, Int.toNat_natCast, hal]
              rfl
            refine x_aload_n d_MD_total_99 rfl rfl (by first | rfl | assumption) ?_
            refine x_lload d_MD_total_100 rfl ?_
            refine x_ldc2 d_MD_total_102 kl_MD_238 ?_
            refine x_iload_n d_MD_total_105 rfl rfl ?_
            refine x_iload d_MD_total_106 rfl ?_
            refine x_callVq (M' := M_MD_result) d_MD_total_108 lk_MD_228 (m_result n s 10000 md o hO hW2 hn (by omega) (by decide) (by decide) hmd2 hce) mt_MD_result im_MD_result se_MD_result (by repeat (first | assumption | exact hs_self (by assumption) | exact hs_self (hs_ne (by omega) (by assumption)) | exact hs_self (hs_ne (by omega) (hs_ne (by omega) (by assumption))) | refine hs_ne (by omega) ?_)) rfl (by decide) rfl (Nat.le_of_ble_eq_true rfl) (by decide) (by decide) ?_
            rintro w h4 ⟨rfl, hW4, hf4, -⟩
            have he := e01_r o
            rw [hZ]
            refine j_if_eq 118 d_MD_total_111 (by decide) (by unfold iR; omega) (fun c111 => ?_) (fun c111 => ?_)
            · refine j_iconst d_MD_total_118 ?_
              refine x_ireturn d_MD_total_119 rfl ?_
              exact ⟨_, rfl, by rw [show e01 o = 0 by omega], ⟨v, A, hW4⟩, frM_trans hf2 hf4⟩
            · refine j_iconst d_MD_total_114 ?_
              refine x_goto 119 d_MD_total_115 (by decide) ?_
              refine x_ireturn d_MD_total_119 rfl ?_
              exact ⟨_, rfl, by rw [show e01 o = 1 by omega], ⟨v, A, hW4⟩, frM_trans hf2 hf4⟩
          · exfalso; omega
        | succ r ih =>
          intro c z s hc hic hz hsb hal
          subst hz
          have hcn : c < zN S := by omega
          obtain ⟨-, -, -, h4'', -, h6, -⟩ := hW2.2.2.2.2.2.2.1
          obtain ⟨-, -, -, fsc, -, fe, -⟩ := hW2.2.2.2.2.2.2.2.2.2 c hcn
          have next : ∀ s2 : Int, s2.natAbs ≤ (c + 1) * 10000000000000 → tLp S (j + 1 - i) i 0 = tLp S r (c + 1) s2 → X E M_MD_total 9 0 0 Z 91 [some (.ref mo), some (vI i), some (vI j), some (vI n), some (vI md), some (vL s), none, some (vI c)] [vL s2] h2 0 0 := by
            intro s2 hs2 hal2
            refine x_lstore d_MD_total_91 (Nat.le_of_ble_eq_true rfl) ?_
            refine j_iinc d_MD_total_93 rfl ?_
            refine x_goto 47 d_MD_total_96 (by decide) ?_
            exact ih (c + 1) _ s2 (by omega) (by omega) (by omega) hs2 hal2
          refine x_iload d_MD_total_47 rfl ?_
          refine x_iload_n d_MD_total_49 rfl rfl ?_
          refine j_icmp_gt 99 d_MD_total_50 (by decide) (by unfold iR; omega) (by unfold iR; omega) (fun c50 => ?_) (fun c50 => ?_)
          · exfalso; omega
          · refine x_aload_n d_MD_total_53 rfl rfl (by first | rfl | assumption) ?_
            refine x_get 5 17 d_MD_total_54 gf_MD_35 (by repeat (first | assumption | exact hs_self (by assumption) | exact hs_self (hs_ne (by omega) (by assumption)) | exact hs_self (hs_ne (by omega) (hs_ne (by omega) (by assumption))) | refine hs_ne (by omega) ?_)) (by rfl) ?_
            refine x_iload d_MD_total_57 rfl ?_
            refine j_zald d_MD_total_59 (by repeat (first | assumption | exact hs_self (by assumption) | exact hs_self (hs_ne (by omega) (by assumption)) | exact hs_self (hs_ne (by omega) (hs_ne (by omega) (by assumption))) | refine hs_ne (by omega) ?_)) (by omega) (by omega) (by decide) ?_
            refine x_top (w := vI (if fM (zD S c) = 4 then 1 else 0)) (by rw [Int.toNat_natCast, fe]) ?_
            refine j_if_eq 68 d_MD_total_60 (by decide) (by unfold iR; split <;> omega) (fun c60 => ?_) (fun c60 => ?_)
            · rw [ite10] at c60
              rw [tLp_2 c60] at hal
              have hcu := hHk c hic (by omega) c60
              have hhu : hU S c = H c := by unfold hU; rw [hcu]; rfl
              have hDc := (hO.2.2.2.2 c (by omega)).1
              have hub := uA_9 hDc hO.2.2.2.1 _ hcu
              have hsc := hDc.2.2.1
              have hm2 := p8_b (a := 4 - fS (zD S c)) hub (by omega)
              refine x_lload d_MD_total_68 rfl ?_
              refine x_aload_n d_MD_total_70 rfl rfl (by first | rfl | assumption) ?_
              refine x_get 5 23 d_MD_total_71 gf_MD_53 (by repeat (first | assumption | exact hs_self (by assumption) | exact hs_self (hs_ne (by omega) (by assumption)) | exact hs_self (hs_ne (by omega) (hs_ne (by omega) (by assumption))) | refine hs_ne (by omega) ?_)) (by rfl) ?_
              refine x_iload d_MD_total_74 rfl ?_
              refine j_lald d_MD_total_76 (by repeat (first | assumption | exact hs_self (by assumption) | exact hs_self (hs_ne (by omega) (by assumption)) | exact hs_self (hs_ne (by omega) (hs_ne (by omega) (by assumption))) | refine hs_ne (by omega) ?_)) (by omega) (by omega) (by decide) ?_
              rw [Int.toNat_natCast]
              refine j_iconst d_MD_total_77 ?_
              refine x_aload_n d_MD_total_78 rfl rfl (by first | rfl | assumption) ?_
              refine x_get 5 15 d_MD_total_79 gf_MD_28 (by repeat (first | assumption | exact hs_self (by assumption) | exact hs_self (hs_ne (by omega) (by assumption)) | exact hs_self (hs_ne (by omega) (hs_ne (by omega) (by assumption))) | refine hs_ne (by omega) ?_)) (by rfl) ?_
              refine x_iload d_MD_total_82 rfl ?_
              refine j_iald d_MD_total_84 (by repeat (first | assumption | exact hs_self (by assumption) | exact hs_self (hs_ne (by omega) (by assumption)) | exact hs_self (hs_ne (by omega) (hs_ne (by omega) (by assumption))) | refine hs_ne (by omega) ?_)) (by omega) (by omega) (by decide) ?_
              refine x_top (w := vI (fS (zD S c))) (by rw [Int.toNat_natCast, fsc]) ?_
              refine j_isub d_MD_total_85 ?_
              refine x_top (w := vI ((4 - fS (zD S c) : Nat) : Int)) (by rw [show ((4 - fS (zD S c) : Nat) : Int) = 4 - (fS (zD S c) : Int) by omega]) ?_
              refine x_callS1 (M' := M_MD_power) d_MD_total_86 lk_MD_138 (c_power E h2 (4 - fS (zD S c)) (by omega)) mt_MD_power st_MD_power (by decide) rfl (Nat.le_of_ble_eq_true rfl) (by decide) (by decide) ?_
              refine j_lmul d_MD_total_89 ?_
              refine j_ladd d_MD_total_90 ?_
              exact next _ (by omega) (by rw [hal, hhu])
            · rw [ite10] at c60
              have c60 := Classical.not_not.mp c60
              refine x_lload d_MD_total_63 rfl ?_
              refine x_goto 91 d_MD_total_65 (by decide) ?_
              exact next s (Nat.le_trans hsb (Nat.mul_le_mul_right _ (Nat.le_succ c))) (by rw [hal, tLp_1 c60])
      refine j_lconst 0 d_MD_total_41 (by decide) ?_
      refine x_lstore d_MD_total_42 (Nat.le_of_ble_eq_true rfl) ?_
      refine x_iload_n d_MD_total_44 rfl rfl ?_
      refine x_istore d_MD_total_45 (Nat.le_of_ble_eq_true rfl) ?_
      exact loop (j + 1 - i) i _ _ (by omega) (by omega) rfl (by omega) rfl
    · rw [ite10] at c33
      refine x_aload_n d_MD_total_36 rfl rfl (by first | rfl | assumption) ?_
      refine x_callVq (M' := M_MD_badData) d_MD_total_37 lk_MD_214 (m_badData hW2) mt_MD_badData im_MD_badData se_MD_badData (by repeat (first | assumption | exact hs_self (by assumption) | exact hs_self (hs_ne (by omega) (by assumption)) | exact hs_self (hs_ne (by omega) (hs_ne (by omega) (by assumption))) | refine hs_ne (by omega) ?_)) rfl (by decide) rfl (Nat.le_of_ble_eq_true rfl) (by decide) (by decide) ?_
      rintro w h3 ⟨rfl, hW3, hf3⟩
      rw [hZ]
      refine x_ireturn d_MD_total_40 rfl ?_
      rw [fTotal_d hk0 (by rw [Int.toNat_natCast, Int.toNat_natCast]; exact Bool.eq_false_iff.mpr c33)]
      exact ⟨_, rfl, rfl, ⟨v, A, hW3⟩, frM_trans hf2 hf3⟩
  refine x_iload d_MD_total_0 rfl ?_
  refine x_callS1 (M' := M_MD_isMode) d_MD_total_2 lk_MD_218 (m_isMode md hmd) mt_MD_isMode st_MD_isMode (by decide) rfl (Nat.le_of_ble_eq_true rfl) (by decide) (by decide) ?_
  refine j_if_eq 25 d_MD_total_5 (by decide) (by unfold iR; split <;> omega) (fun c5 => ?_) (fun c5 => ?_)
  · rw [ite10] at c5
    exact bad (fun x => c5 x.1) _
  · rw [ite10] at c5
    refine x_aload_n d_MD_total_8 rfl rfl (by first | rfl | assumption) ?_
    refine x_iload_n d_MD_total_9 rfl rfl ?_
    refine x_callV1 (M' := M_MD_there) d_MD_total_10 lk_MD_126 (m_there t hO hW ht) mt_MD_there im_MD_there se_MD_there (by repeat (first | assumption | exact hs_self (by assumption) | exact hs_self (hs_ne (by omega) (by assumption)) | exact hs_self (hs_ne (by omega) (hs_ne (by omega) (by assumption))) | refine hs_ne (by omega) ?_)) rfl (by decide) rfl (Nat.le_of_ble_eq_true rfl) (by decide) (by decide) ?_
    refine j_if_eq 25 d_MD_total_13 (by decide) (by unfold iR; split <;> omega) (fun c13 => ?_) (fun c13 => ?_)
    · rw [ite10] at c13
      exact bad (fun x => c13 x.2.1) _
    · rw [ite10] at c13
      refine x_aload_n d_MD_total_16 rfl rfl (by first | rfl | assumption) ?_
      refine x_iload_n d_MD_total_17 rfl rfl ?_
      refine x_iload_n d_MD_total_18 rfl rfl ?_
      refine x_callV1 (M' := M_MD_range) d_MD_total_19 lk_MD_232 (m_range f l hO hW hf hl) mt_MD_range im_MD_range se_MD_range (by repeat (first | assumption | exact hs_self (by assumption) | exact hs_self (hs_ne (by omega) (by assumption)) | exact hs_self (hs_ne (by omega) (hs_ne (by omega) (by assumption))) | refine hs_ne (by omega) ?_)) rfl (by decide) rfl (Nat.le_of_ble_eq_true rfl) (by decide) (by decide) ?_
      refine j_if_ne 27 d_MD_total_22 (by decide) (by unfold iR; split <;> omega) (fun c22 => ?_) (fun c22 => ?_)
      · rw [ite10] at c22
        exact main ⟨Classical.not_not.mp c5, Classical.not_not.mp c13, Classical.not_not.mp c22⟩
      · rw [ite10] at c22
        exact bad (fun x => c22 x.2.2) _
end MA'
