section MD'
variable {E : xEnv} {h : xH} {mo : Nat} {S : ST} {v : Nat → Int} {A : MA}
set_option maxHeartbeats 4000000 in
theorem m_divide (a b q r md : Int) (hO : SO S) (hX : MX h mo S) (ha : iR a) (hb : iR b) (hq : iR q) (hr : iR r) (hmd : iR md) : xCt E 9 0 0 M_MD_divide [.ref mo, vI a, vI b, vI q, vI r, vI md] h (rQ (pM mo h (fDivide S a b q r md))) := by
  obtain ⟨v, A, hW⟩ := hX
  refine x_met rfl rfl (Nat.le_of_ble_eq_true rfl) ?_
  obtain ⟨so, m0⟩ := hW.1
  have h12 := hO.1
  obtain ⟨Z, hZ⟩ : ∃ Z, Z = (xZ E 0 0 (rQ (pM mo h (fDivide S a b q r md)))) := ⟨_, rfl⟩
  rw [← hZ]
  have bad : ¬ okD S a b q r md → ∀ L : List (Option Value), X E M_MD_divide 9 0 0 Z 41 L [] h 0 0 := by
    intro hb L
    rw [hZ]
    refine j_iconst d_MD_divide_41 ?_
    refine x_ireturn d_MD_divide_42 rfl ?_
    unfold fDivide
    rw [if_neg hb]
    exact ⟨_, rfl, rfl, ⟨v, A, hW⟩, frM_refl _ _⟩
  have main : okD S a b q r md → X E M_MD_divide 9 0 0 Z 43 [some (.ref mo), some (vI a), some (vI b), some (vI q), some (vI r), some (vI md), none, none, none, none, none, none, none, none, none, none, none, none] [] h 0 0 := by
    intro hk
    have hk0 := hk
    obtain ⟨hmd2, ⟨ha1, ha2⟩, ⟨hb1, hb2⟩, hq1, hr1⟩ := hk
    obtain ⟨i, rfl⟩ : ∃ i : Nat, a = (i : Int) := ⟨a.toNat, by omega⟩
    obtain ⟨j, rfl⟩ : ∃ j : Nat, b = (j : Int) := ⟨b.toNat, by omega⟩
    obtain ⟨l, rfl⟩ : ∃ l : Nat, q = (l : Int) := ⟨q.toNat, by omega⟩
    obtain ⟨g, rfl⟩ : ∃ g : Nat, r = (g : Int) := ⟨r.toNat, by omega⟩
    have hi : i < zN S := by omega
    have hj : j < zN S := by omega
    have hl : l < zN S := by omega
    have hg : g < zN S := by omega
    have hDi := (hO.2.2.2.2 i hi).1
    have hDj := (hO.2.2.2.2 j hj).1
    have hDl := (hO.2.2.2.2 l hl).1
    have hsi := hDi.2.2.1
    have hsj := hDj.2.2.1
    have hsl := hDl.2.2.1
    have dErr : (gU' S i = none ∨ gU' S j = none) → ∀ (L : List (Option Value)) (h2 : xH), L[0]? = some (some (.ref mo)) → MW h2 mo v A S → frM mo h h2 → X E M_MD_divide 9 0 0 Z 59 L [] h2 0 0 := by
      intro hn L h2 hL hW2 hf2
      obtain ⟨so2, m02⟩ := hW2.1
      refine x_aload_n d_MD_divide_59 rfl hL rfl ?_
      refine x_callVq (M' := M_MD_badData) d_MD_divide_60 lk_MD_214 (m_badData hW2) mt_MD_badData im_MD_badData se_MD_badData (by repeat (first | assumption | exact hs_self (by assumption) | exact hs_self (hs_ne (by omega) (by assumption)) | exact hs_self (hs_ne (by omega) (hs_ne (by omega) (by assumption))) | refine hs_ne (by omega) ?_)) rfl (by decide) rfl (Nat.le_of_ble_eq_true rfl) (by decide) (by decide) ?_
      rintro w h3 ⟨rfl, hW3, hf3⟩
      rw [hZ]
      refine x_ireturn d_MD_divide_63 rfl ?_
      rw [fDivide_d hk0 hn]
      exact ⟨_, rfl, rfl, ⟨v, A, hW3⟩, frM_trans hf2 hf3⟩
    refine x_aload_n d_MD_divide_43 rfl rfl (by first | rfl | assumption) ?_
    refine x_iload_n d_MD_divide_44 rfl rfl ?_
    refine x_callVq (M' := M_MD_isSound) d_MD_divide_45 lk_MD_211 (m_isSound i hO hW hi) mt_MD_isSound im_MD_isSound se_MD_isSound (by repeat (first | assumption | exact hs_self (by assumption) | exact hs_self (hs_ne (by omega) (by assumption)) | exact hs_self (hs_ne (by omega) (hs_ne (by omega) (by assumption))) | refine hs_ne (by omega) ?_)) rfl (by decide) rfl (Nat.le_of_ble_eq_true rfl) (by decide) (by decide) ?_
    rintro w h1 ⟨rfl, hW1, hf1⟩
    obtain ⟨so1, m01⟩ := hW1.1
    refine j_if_eq 59 d_MD_divide_48 (by decide) (by unfold iR; split <;> omega) (fun c48 => ?_) (fun c48 => ?_)
    · rw [ite01] at c48
      exact dErr (Or.inl (by rw [gU', Int.toNat_natCast]; exact c48)) _ _ rfl hW1 hf1
    · rw [ite01] at c48
      obtain ⟨x, hx⟩ : ∃ x, uA (zD S i) (zB S) = some x := Option.ne_none_iff_exists'.mp c48
      refine x_aload_n d_MD_divide_51 rfl rfl (by first | rfl | assumption) ?_
      refine x_iload_n d_MD_divide_52 rfl rfl ?_
      refine x_callVq (M' := M_MD_isSound) d_MD_divide_53 lk_MD_211 (m_isSound j hO hW1 hj) mt_MD_isSound im_MD_isSound se_MD_isSound (by repeat (first | assumption | exact hs_self (by assumption) | exact hs_self (hs_ne (by omega) (by assumption)) | exact hs_self (hs_ne (by omega) (hs_ne (by omega) (by assumption))) | refine hs_ne (by omega) ?_)) rfl (by decide) rfl (Nat.le_of_ble_eq_true rfl) (by decide) (by decide) ?_
      rintro w h2 ⟨rfl, hW2, hf2⟩
      obtain ⟨so2, m02⟩ := hW2.1
      have hf' := frM_trans hf1 hf2
      refine j_if_ne 64 d_MD_divide_56 (by decide) (by unfold iR; split <;> omega) (fun c56 => ?_) (fun c56 => ?_)
      · rw [ite01] at c56
        obtain ⟨y, hy⟩ : ∃ y, uA (zD S j) (zB S) = some y := Option.ne_none_iff_exists'.mp c56
        have hxb := uA_9 hDi hO.2.2.2.1 x hx
        have hyb := uA_9 hDj hO.2.2.2.1 y hy
        rw [fDivide_s hk0 (x := x) (y := y) (by rw [gU', Int.toNat_natCast]; exact hx) (by rw [gU', Int.toNat_natCast]; exact hy)] at hZ
        simp only [gS, gN, Int.toNat_natCast] at hZ
        obtain ⟨o1, ho1⟩ : ∃ o, o = qO x y (fS (zD S i)) (fS (zD S j)) (fS (zD S l)) (fN (zD S l)) md := ⟨_, rfl⟩
        obtain ⟨o2, ho2⟩ : ∃ o, o = dvR x y (fS (zD S i)) (fS (zD S j) + fS (zD S l)) (fS (zD S g)) (fN (zD S g)) := ⟨_, rfl⟩
        rw [← ho1, ← ho2] at hZ
        have hy0 : ¬ o1 = none → ¬ y = 0 := by
          intro hn h0
          apply hn
          rw [ho1]; unfold qO; rw [if_pos h0]
        refine x_aload_n d_MD_divide_64 rfl rfl (by first | rfl | assumption) ?_
        refine x_iload_n d_MD_divide_65 rfl rfl ?_
        refine x_callVq (M' := M_MD_units) d_MD_divide_66 lk_MD_181 (m_units i hO hW2 hi) mt_MD_units im_MD_units se_MD_units (by repeat (first | assumption | exact hs_self (by assumption) | exact hs_self (hs_ne (by omega) (by assumption)) | exact hs_self (hs_ne (by omega) (hs_ne (by omega) (by assumption))) | refine hs_ne (by omega) ?_)) rfl (by decide) rfl (Nat.le_of_ble_eq_true rfl) (by decide) (by decide) ?_
        rintro w h3 ⟨u, so3, rfl, -, hux, hW3, hf3, -, m03, -, -⟩
        obtain rfl := hux x hx
        refine x_lstore d_MD_divide_69 (Nat.le_of_ble_eq_true rfl) ?_
        refine x_aload_n d_MD_divide_71 rfl rfl (by first | rfl | assumption) ?_
        refine x_iload_n d_MD_divide_72 rfl rfl ?_
        refine x_callVq (M' := M_MD_units) d_MD_divide_73 lk_MD_181 (m_units j hO hW3 hj) mt_MD_units im_MD_units se_MD_units (by repeat (first | assumption | exact hs_self (by assumption) | exact hs_self (hs_ne (by omega) (by assumption)) | exact hs_self (hs_ne (by omega) (hs_ne (by omega) (by assumption))) | refine hs_ne (by omega) ?_)) rfl (by decide) rfl (Nat.le_of_ble_eq_true rfl) (by decide) (by decide) ?_
        rintro w h4 ⟨u2, so4, rfl, -, hux2, hW4, hf4, -, m04, -, -⟩
        obtain rfl := hux2 y hy
        have hf := frM_trans hf' (frM_trans hf3 hf4)
        obtain ⟨-, -, -, h4', -⟩ := hW4.2.2.2.2.2.2.1
        obtain ⟨-, -, -, fsi, -⟩ := hW4.2.2.2.2.2.2.2.2.2 i hi
        obtain ⟨-, -, -, fsj, -⟩ := hW4.2.2.2.2.2.2.2.2.2 j hj
        obtain ⟨-, -, -, fsl, -⟩ := hW4.2.2.2.2.2.2.2.2.2 l hl
        refine x_lstore d_MD_divide_76 (Nat.le_of_ble_eq_true rfl) ?_
        refine x_aload_n d_MD_divide_78 rfl rfl (by first | rfl | assumption) ?_
        refine x_get 5 15 d_MD_divide_79 gf_MD_28 (by repeat (first | assumption | exact hs_self (by assumption) | exact hs_self (hs_ne (by omega) (by assumption)) | exact hs_self (hs_ne (by omega) (hs_ne (by omega) (by assumption))) | refine hs_ne (by omega) ?_)) (by rfl) ?_
        refine x_iload_n d_MD_divide_82 rfl rfl ?_
        refine j_iald d_MD_divide_83 (by repeat (first | assumption | exact hs_self (by assumption) | exact hs_self (hs_ne (by omega) (by assumption)) | exact hs_self (hs_ne (by omega) (hs_ne (by omega) (by assumption))) | refine hs_ne (by omega) ?_)) (by omega) (by omega) (by decide) ?_
        refine x_top (w := vI (fS (zD S i))) (by rw [Int.toNat_natCast, fsi]) ?_
        refine x_callS1 (M' := M_MD_power) d_MD_divide_84 lk_MD_138 (c_power E h4 (fS (zD S i)) (by omega)) mt_MD_power st_MD_power (by decide) rfl (Nat.le_of_ble_eq_true rfl) (by decide) (by decide) ?_
        refine x_lstore d_MD_divide_87 (Nat.le_of_ble_eq_true rfl) ?_
        refine x_aload_n d_MD_divide_89 rfl rfl (by first | rfl | assumption) ?_
        refine x_get 5 15 d_MD_divide_90 gf_MD_28 (by repeat (first | assumption | exact hs_self (by assumption) | exact hs_self (hs_ne (by omega) (by assumption)) | exact hs_self (hs_ne (by omega) (hs_ne (by omega) (by assumption))) | refine hs_ne (by omega) ?_)) (by rfl) ?_
        refine x_iload_n d_MD_divide_93 rfl rfl ?_
        refine j_iald d_MD_divide_94 (by repeat (first | assumption | exact hs_self (by assumption) | exact hs_self (hs_ne (by omega) (by assumption)) | exact hs_self (hs_ne (by omega) (hs_ne (by omega) (by assumption))) | refine hs_ne (by omega) ?_)) (by omega) (by omega) (by decide) ?_
        refine x_top (w := vI (fS (zD S j))) (by rw [Int.toNat_natCast, fsj]) ?_
        refine x_callS1 (M' := M_MD_power) d_MD_divide_95 lk_MD_138 (c_power E h4 (fS (zD S j)) (by omega)) mt_MD_power st_MD_power (by decide) rfl (Nat.le_of_ble_eq_true rfl) (by decide) (by decide) ?_
        refine x_aload_n d_MD_divide_98 rfl rfl (by first | rfl | assumption) ?_
        refine x_get 5 15 d_MD_divide_99 gf_MD_28 (by repeat (first | assumption | exact hs_self (by assumption) | exact hs_self (hs_ne (by omega) (by assumption)) | exact hs_self (hs_ne (by omega) (hs_ne (by omega) (by assumption))) | refine hs_ne (by omega) ?_)) (by rfl) ?_
        refine x_iload_n d_MD_divide_102 rfl rfl ?_
        refine j_iald d_MD_divide_103 (by repeat (first | assumption | exact hs_self (by assumption) | exact hs_self (hs_ne (by omega) (by assumption)) | exact hs_self (hs_ne (by omega) (hs_ne (by omega) (by assumption))) | refine hs_ne (by omega) ?_)) (by omega) (by omega) (by decide) ?_
        refine x_top (w := vI (fS (zD S l))) (by rw [Int.toNat_natCast, fsl]) ?_
        refine x_callS1 (M' := M_MD_power) d_MD_divide_104 lk_MD_138 (c_power E h4 (fS (zD S l)) (by omega)) mt_MD_power st_MD_power (by decide) rfl (Nat.le_of_ble_eq_true rfl) (by decide) (by decide) ?_
        refine j_lmul d_MD_divide_107 ?_
        obtain ⟨dc, hdc⟩ : ∃ dc, dc = fS (zD S j) + fS (zD S l) := ⟨_, rfl⟩
        refine x_top (w := vL (10 ^ dc)) (by rw [hdc, p10a]) ?_
        rw [← hdc] at ho2
        refine x_lstore d_MD_divide_108 (Nat.le_of_ble_eq_true rfl) ?_
        refine x_aload_n d_MD_divide_110 rfl rfl (by first | rfl | assumption) ?_
        refine x_iload_n d_MD_divide_111 rfl rfl ?_
        refine x_iload_n d_MD_divide_112 rfl rfl ?_
        refine x_iload_n d_MD_divide_113 rfl rfl ?_
        refine x_iload d_MD_divide_114 rfl ?_
        refine x_callVq (M' := M_MD_quotient) d_MD_divide_116 lk_MD_224 (m_quotient i j l u u2 md o1 hO hW4 hi hj hl hx hy hmd2 ho1.symm) mt_MD_quotient im_MD_quotient se_MD_quotient (by repeat (first | assumption | exact hs_self (by assumption) | exact hs_self (hs_ne (by omega) (by assumption)) | exact hs_self (hs_ne (by omega) (hs_ne (by omega) (by assumption))) | refine hs_ne (by omega) ?_)) rfl (by decide) rfl (Nat.le_of_ble_eq_true rfl) (by decide) (by decide) ?_
        rintro w h5 ⟨rfl, hW5, hf5⟩
        have he1 := e01_r o1
        have hf6 := frM_trans hf hf5
        refine j_if_eq 124 d_MD_divide_119 (by decide) (by unfold iR; omega) (fun c119 => ?_) (fun c119 => ?_)
        · have hn1 : ¬ o1 = none := by intro h0; rw [h0] at c119; exact absurd c119 (by decide)
          have hy1 := hy0 hn1
          have hO5 := SO_sRs o1 hO hl
          have hq := p8_q hsi (show dc ≤ 8 by omega)
          have hp8 := pow10_le (n := dc) (m := 8) (by omega)
          have hp80 := pow10_pos dc
          have hm0 := mul_abs_lt (a := u) (b := 10 ^ dc) (x := 1000000000) (y := 100000000) hxb (by omega) (by decide)
          have hm1 := p8_b hyb hsi
          have hm2 := tdivmul_le (u * 10 ^ dc) (u2 * 10 ^ fS (zD S i))
          have hun : ¬ u2 * 10 ^ fS (zD S i) = 0 := by
            intro z0
            have := pow10_pos (fS (zD S i))
            rcases Int.mul_eq_zero.mp z0 with z | z <;> omega
          have hre : u2 * 10 ^ fS (zD S i) * (u * 10 ^ dc).tdiv (u2 * 10 ^ fS (zD S i)) = u2 * (u * 10 ^ dc).tdiv (u2 * 10 ^ fS (zD S i)) * 10 ^ fS (zD S i) := by rw [Int.mul_assoc, Int.mul_comm (10 ^ fS (zD S i)), ← Int.mul_assoc]
          rw [hre] at hm2
          obtain ⟨so5, m05⟩ := hW5.1
          refine x_lload d_MD_divide_124 rfl ?_
          refine x_lload d_MD_divide_126 rfl ?_
          refine j_lmul d_MD_divide_128 ?_
          refine x_lload d_MD_divide_129 rfl ?_
          refine x_lload d_MD_divide_131 rfl ?_
          refine j_lmul d_MD_divide_133 ?_
          refine j_ldiv d_MD_divide_134 (by unfold lR; omega) (by unfold lR; omega) (by first | decide | omega) ?_
          refine x_lstore d_MD_divide_135 (Nat.le_of_ble_eq_true rfl) ?_
          refine x_lload d_MD_divide_137 rfl ?_
          refine x_lload d_MD_divide_139 rfl ?_
          refine j_lmul d_MD_divide_141 ?_
          refine x_lload d_MD_divide_142 rfl ?_
          refine x_lload d_MD_divide_144 rfl ?_
          refine j_lmul d_MD_divide_146 ?_
          refine x_lload d_MD_divide_147 rfl ?_
          refine j_lmul d_MD_divide_149 ?_
          refine j_lsub d_MD_divide_150 ?_
          refine x_lstore d_MD_divide_151 (Nat.le_of_ble_eq_true rfl) ?_
          refine x_aload_n d_MD_divide_153 rfl rfl (by first | rfl | assumption) ?_
          refine x_lload d_MD_divide_154 rfl ?_
          refine x_lload d_MD_divide_156 rfl ?_
          refine x_lload d_MD_divide_158 rfl ?_
          refine j_lmul d_MD_divide_160 ?_
          refine x_iload d_MD_divide_161 rfl ?_
          refine j_iconst d_MD_divide_163 ?_
          refine x_callVq (M' := M_MD_result) d_MD_divide_164 lk_MD_228 (m_result (S := sRs S l o1) g _ _ 0 o2 hO5 hW5 hg (by omega) hq.1 (by omega) (by decide) ho2.symm) mt_MD_result im_MD_result se_MD_result (by repeat (first | assumption | exact hs_self (by assumption) | exact hs_self (hs_ne (by omega) (by assumption)) | exact hs_self (hs_ne (by omega) (hs_ne (by omega) (by assumption))) | refine hs_ne (by omega) ?_)) rfl (by decide) rfl (Nat.le_of_ble_eq_true rfl) (by decide) (by decide) ?_
          rintro w h6 ⟨rfl, hW6, hf7, -⟩
          have he2 := e01_r o2
          have hres : fDiv2 S l g o1 o2 = (2 * e01 o2, sRs (sRs S l o1) g o2) := by unfold fDiv2; rw [if_neg hn1, Int.toNat_natCast, Int.toNat_natCast]
          rw [hZ, hres]
          refine j_if_eq 174 d_MD_divide_167 (by decide) (by unfold iR; omega) (fun c167 => ?_) (fun c167 => ?_)
          · refine j_iconst d_MD_divide_174 ?_
            refine x_ireturn d_MD_divide_175 rfl ?_
            exact ⟨_, rfl, by show vI 0 = vI (2 * e01 o2); rw [show e01 o2 = 0 by omega]; rfl, ⟨v, A, hW6⟩, frM_trans hf6 hf7⟩
          · refine j_iconst d_MD_divide_170 ?_
            refine x_goto 175 d_MD_divide_171 (by decide) ?_
            refine x_ireturn d_MD_divide_175 rfl ?_
            exact ⟨_, rfl, by show vI 2 = vI (2 * e01 o2); rw [show e01 o2 = 1 by omega]; rfl, ⟨v, A, hW6⟩, frM_trans hf6 hf7⟩
        · have hn1 : o1 = none := by
            cases ho : o1 with
            | none => rfl
            | some y => exfalso; rw [ho] at c119; have : e01 (some y) = 0 := rfl; omega
          rw [hZ]
          refine j_iconst d_MD_divide_122 ?_
          refine x_ireturn d_MD_divide_123 rfl ?_
          unfold fDiv2
          rw [if_pos hn1, Int.toNat_natCast]
          exact ⟨_, rfl, rfl, ⟨v, A, hW5⟩, hf6⟩
      · rw [ite01] at c56
        exact dErr (Or.inr (by rw [gU', Int.toNat_natCast]; exact c56)) _ _ rfl hW2 hf'
  refine x_iload d_MD_divide_0 rfl ?_
  refine x_callS1 (M' := M_MD_isMode) d_MD_divide_2 lk_MD_218 (m_isMode md hmd) mt_MD_isMode st_MD_isMode (by decide) rfl (Nat.le_of_ble_eq_true rfl) (by decide) (by decide) ?_
  refine j_if_eq 41 d_MD_divide_5 (by decide) (by unfold iR; split <;> omega) (fun c5 => ?_) (fun c5 => ?_)
  · rw [ite10] at c5
    exact bad (fun x => c5 x.1) _
  · rw [ite10] at c5
    refine x_aload_n d_MD_divide_8 rfl rfl (by first | rfl | assumption) ?_
    refine x_iload_n d_MD_divide_9 rfl rfl ?_
    refine x_callV1 (M' := M_MD_number) d_MD_divide_10 lk_MD_221 (m_number a hO hW ha) mt_MD_number im_MD_number se_MD_number (by repeat (first | assumption | exact hs_self (by assumption) | exact hs_self (hs_ne (by omega) (by assumption)) | exact hs_self (hs_ne (by omega) (hs_ne (by omega) (by assumption))) | refine hs_ne (by omega) ?_)) rfl (by decide) rfl (Nat.le_of_ble_eq_true rfl) (by decide) (by decide) ?_
    refine j_if_eq 41 d_MD_divide_13 (by decide) (op01_i S a) (fun c13 => ?_) (fun c13 => ?_)
    · exact bad (fun x => op01_0.mp c13 x.2.1) _
    · refine x_aload_n d_MD_divide_16 rfl rfl (by first | rfl | assumption) ?_
      refine x_iload_n d_MD_divide_17 rfl rfl ?_
      refine x_callV1 (M' := M_MD_number) d_MD_divide_18 lk_MD_221 (m_number b hO hW hb) mt_MD_number im_MD_number se_MD_number (by repeat (first | assumption | exact hs_self (by assumption) | exact hs_self (hs_ne (by omega) (by assumption)) | exact hs_self (hs_ne (by omega) (hs_ne (by omega) (by assumption))) | refine hs_ne (by omega) ?_)) rfl (by decide) rfl (Nat.le_of_ble_eq_true rfl) (by decide) (by decide) ?_
      refine j_if_eq 41 d_MD_divide_21 (by decide) (op01_i S b) (fun c21 => ?_) (fun c21 => ?_)
      · exact bad (fun x => op01_0.mp c21 x.2.2.1) _
      · refine x_aload_n d_MD_divide_24 rfl rfl (by first | rfl | assumption) ?_
        refine x_iload_n d_MD_divide_25 rfl rfl ?_
        refine x_callV1 (M' := M_MD_there) d_MD_divide_26 lk_MD_126 (m_there q hO hW hq) mt_MD_there im_MD_there se_MD_there (by repeat (first | assumption | exact hs_self (by assumption) | exact hs_self (hs_ne (by omega) (by assumption)) | exact hs_self (hs_ne (by omega) (hs_ne (by omega) (by assumption))) | refine hs_ne (by omega) ?_)) rfl (by decide) rfl (Nat.le_of_ble_eq_true rfl) (by decide) (by decide) ?_
        refine j_if_eq 41 d_MD_divide_29 (by decide) (by unfold iR; split <;> omega) (fun c29 => ?_) (fun c29 => ?_)
        · rw [ite10] at c29
          exact bad (fun x => c29 x.2.2.2.1) _
        · rw [ite10] at c29
          refine x_aload_n d_MD_divide_32 rfl rfl (by first | rfl | assumption) ?_
          refine x_iload d_MD_divide_33 rfl ?_
          refine x_callV1 (M' := M_MD_there) d_MD_divide_35 lk_MD_126 (m_there r hO hW hr) mt_MD_there im_MD_there se_MD_there (by repeat (first | assumption | exact hs_self (by assumption) | exact hs_self (hs_ne (by omega) (by assumption)) | exact hs_self (hs_ne (by omega) (hs_ne (by omega) (by assumption))) | refine hs_ne (by omega) ?_)) rfl (by decide) rfl (Nat.le_of_ble_eq_true rfl) (by decide) (by decide) ?_
          refine j_if_ne 43 d_MD_divide_38 (by decide) (by unfold iR; split <;> omega) (fun c38 => ?_) (fun c38 => ?_)
          · rw [ite10] at c38
            exact main ⟨Classical.not_not.mp c5, opd_of c13, opd_of c21, Classical.not_not.mp c29, Classical.not_not.mp c38⟩
          · rw [ite10] at c38
            exact bad (fun x => c38 x.2.2.2.2) _
theorem MW_held {H : Nat → Int} (hW : MW h mo v A S) : MW (h.set (mo + 15) (aL 12 H)) mo v A S := by
  obtain ⟨⟨so0, m0⟩, v2, v11, m1, m2, ⟨G, m3⟩, hR, ⟨T0, m14, hT0⟩, ⟨H0, m15⟩, hF⟩ := hW
  exact ⟨⟨so0, hs_ne (by omega) m0⟩, v2, v11, hs_ne (by omega) m1, hs_ne (by omega) m2, ⟨G, hs_ne (by omega) m3⟩, mR_set hR (by omega), ⟨T0, hs_ne (by omega) m14, hT0⟩, ⟨H, hs_self m15⟩, hF⟩
set_option maxHeartbeats 4000000 in
theorem m_hold (i j : Nat) (hO : SO S) (hW : MW h mo v A S) (hij : i ≤ j) (hj : j < zN S) : xCt E 8 0 0 M_MD_hold [.ref mo, vI i, vI j] h (rQ (fun w h' => MW h' mo v A S ∧ frM mo h h' ∧ ∃ H : Nat → Int, h'[mo + 15]? = some (aL 12 H) ∧ w = vI (if hB S (j + 1 - i) i = true then 1 else 0) ∧ (hB S (j + 1 - i) i = true → ∀ k, i ≤ k → k ≤ j → ¬ fM (zD S k) = 4 → uA (zD S k) (zB S) = some (H k)))) := by
  refine x_met rfl rfl (Nat.le_of_ble_eq_true rfl) ?_
  have h12 := hO.1
  obtain ⟨Z, hZ⟩ : ∃ Z, Z = (xZ E 0 0 (rQ (fun w h' => MW h' mo v A S ∧ frM mo h h' ∧ ∃ H : Nat → Int, h'[mo + 15]? = some (aL 12 H) ∧ w = vI (if hB S (j + 1 - i) i = true then 1 else 0) ∧ (hB S (j + 1 - i) i = true → ∀ k, i ≤ k → k ≤ j → ¬ fM (zD S k) = 4 → uA (zD S k) (zB S) = some (H k))))) := ⟨_, rfl⟩
  rw [← hZ]
  have loop : ∀ (r c : Nat) (h1 : xH) (H : Nat → Int) (z aa : Int), c + r = j + 1 → i ≤ c → z = (c : Int) → MW h1 mo v A S → frM mo h h1 → h1[mo + 15]? = some (aL 12 H) → (aa = 1 ∧ hB S (j + 1 - i) i = hB S r c ∧ (∀ k, i ≤ k → k < c → ¬ fM (zD S k) = 4 → uA (zD S k) (zB S) = some (H k)) ∨ aa = 0 ∧ hB S (j + 1 - i) i = false) → X E M_MD_hold 8 0 0 Z 5 [some (.ref mo), some (vI i), some (vI j), some (vI aa), some (vI z)] [] h1 0 0 := by
    intro r
    induction r with
    | zero =>
      intro c h1 H z aa hc hic hz hW1 hf1 hH1 hb
      subst hz
      have ha01 : aa = 0 ∨ aa = 1 := by rcases hb with ⟨q, -⟩ | ⟨q, -⟩ <;> omega
      refine x_iload d_MD_hold_5 rfl ?_
      refine x_iload_n d_MD_hold_7 rfl rfl ?_
      refine j_icmp_gt 57 d_MD_hold_8 (by decide) (by unfold iR; omega) (by unfold iR; omega) (fun c8 => ?_) (fun c8 => ?_)
      · rw [hZ]
        refine x_iload_n d_MD_hold_57 rfl rfl ?_
        refine j_zreturn d_MD_hold_58 rfl (by omega) ?_
        refine ⟨_, rfl, hW1, hf1, H, hH1, ?_, ?_⟩
        · rcases hb with ⟨q, hb, -⟩ | ⟨q, hb⟩
          · have hbt : hB S (j + 1 - i) i = true := by rw [hb]; rfl
            rw [if_pos hbt, q]
          · rw [hb, q]; rfl
        · intro hbt k k1 k2 k3
          rcases hb with ⟨q, -, hb⟩ | ⟨q, hb⟩
          · exact hb k k1 (by omega) k3
          · rw [hb] at hbt; cases hbt
      · exfalso; omega
    | succ r ih =>
      intro c h1 H z aa hc hic hz hW1 hf1 hH1 hb
      subst hz
      have ha01 : aa = 0 ∨ aa = 1 := by rcases hb with ⟨q, -⟩ | ⟨q, -⟩ <;> omega
      have hcn : c < zN S := by omega
      obtain ⟨so1, m01⟩ := hW1.1
      obtain ⟨-, -, -, -, -, h6, -⟩ := hW1.2.2.2.2.2.2.1
      obtain ⟨-, -, -, -, -, fe, -⟩ := hW1.2.2.2.2.2.2.2.2.2 c hcn
      refine x_iload d_MD_hold_5 rfl ?_
      refine x_iload_n d_MD_hold_7 rfl rfl ?_
      refine j_icmp_gt 57 d_MD_hold_8 (by decide) (by unfold iR; omega) (by unfold iR; omega) (fun c8 => ?_) (fun c8 => ?_)
      · exfalso; omega
      · refine x_aload_n d_MD_hold_11 rfl rfl (by first | rfl | assumption) ?_
        refine x_get 5 17 d_MD_hold_12 gf_MD_35 (by repeat (first | assumption | exact hs_self (by assumption) | exact hs_self (hs_ne (by omega) (by assumption)) | exact hs_self (hs_ne (by omega) (hs_ne (by omega) (by assumption))) | refine hs_ne (by omega) ?_)) (by rfl) ?_
        refine x_iload d_MD_hold_15 rfl ?_
        refine j_zald d_MD_hold_17 (by repeat (first | assumption | exact hs_self (by assumption) | exact hs_self (hs_ne (by omega) (by assumption)) | exact hs_self (hs_ne (by omega) (hs_ne (by omega) (by assumption))) | refine hs_ne (by omega) ?_)) (by omega) (by omega) (by decide) ?_
        refine x_top (w := vI (if fM (zD S c) = 4 then 1 else 0)) (by rw [Int.toNat_natCast, fe]) ?_
        refine j_if_ne 51 d_MD_hold_18 (by decide) (by unfold iR; split <;> omega) (fun c18 => ?_) (fun c18 => ?_)
        · rw [ite10] at c18
          have c18 := Classical.not_not.mp c18
          refine j_iinc d_MD_hold_51 rfl ?_
          refine x_goto 5 d_MD_hold_54 (by decide) ?_
          refine ih (c + 1) h1 H _ aa (by omega) (by omega) (by omega) hW1 hf1 hH1 ?_
          rcases hb with ⟨q, hb, hk⟩ | ⟨q, hb⟩
          · refine Or.inl ⟨q, by rw [hb, hB_1 c18], fun k k1 k2 k3 => ?_⟩
            by_cases hkc : k = c
            · exact absurd (hkc ▸ c18) k3
            · exact hk k k1 (by omega) k3
          · exact Or.inr ⟨q, hb⟩
        · rw [ite10] at c18
          refine x_aload_n d_MD_hold_21 rfl rfl (by first | rfl | assumption) ?_
          refine x_get 5 23 d_MD_hold_22 gf_MD_53 (by repeat (first | assumption | exact hs_self (by assumption) | exact hs_self (hs_ne (by omega) (by assumption)) | exact hs_self (hs_ne (by omega) (hs_ne (by omega) (by assumption))) | refine hs_ne (by omega) ?_)) (by rfl) ?_
          refine x_iload d_MD_hold_25 rfl ?_
          refine x_aload_n d_MD_hold_27 rfl rfl (by first | rfl | assumption) ?_
          refine x_iload d_MD_hold_28 rfl ?_
          refine x_callVq (M' := M_MD_units) d_MD_hold_30 lk_MD_181 (m_units c hO hW1 hcn) mt_MD_units im_MD_units se_MD_units (by repeat (first | assumption | exact hs_self (by assumption) | exact hs_self (hs_ne (by omega) (by assumption)) | exact hs_self (hs_ne (by omega) (hs_ne (by omega) (by assumption))) | refine hs_ne (by omega) ?_)) rfl (by decide) rfl (Nat.le_of_ble_eq_true rfl) (by decide) (by decide) ?_
          rintro w h2 ⟨u, so2, rfl, -, hux, hW2, hf2, hk2, m02, hs, hs2⟩
          rw [hH1] at hk2
          have hW3 := MW_held (H := gU H c u) hW2
          have hf3 := frM_set (e := aL 12 (gU H c u)) (o := mo + 15) (frM_trans hf1 hf2) (by omega)
          have hk3 : (h2.set (mo + 15) (aL 12 (gU H c u)))[mo + 15]? = some (aL 12 (gU H c u)) := hs_self hk2
          refine j_last d_MD_hold_33 (by repeat (first | assumption | exact hs_self (by assumption) | exact hs_self (hs_ne (by omega) (by assumption)) | exact hs_self (hs_ne (by omega) (hs_ne (by omega) (by assumption))) | refine hs_ne (by omega) ?_)) (by omega) (by omega) (by decide) ?_
          rw [Int.toNat_natCast]
          have next : ∀ a2 : Int, (a2 = 1 ∧ hB S (j + 1 - i) i = hB S r (c + 1) ∧ (∀ k, i ≤ k → k < c + 1 → ¬ fM (zD S k) = 4 → uA (zD S k) (zB S) = some (gU H c u k)) ∨ a2 = 0 ∧ hB S (j + 1 - i) i = false) → X E M_MD_hold 8 0 0 Z 50 [some (.ref mo), some (vI i), some (vI j), some (vI aa), some (vI c)] [vI a2] (h2.set (mo + 15) (aL 12 (gU H c u))) 0 0 := by
            intro a2 ha2
            refine x_istore_n d_MD_hold_50 rfl (Nat.le_of_ble_eq_true rfl) ?_
            refine j_iinc d_MD_hold_51 rfl ?_
            refine x_goto 5 d_MD_hold_54 (by decide) ?_
            exact ih (c + 1) _ _ _ a2 (by omega) (by omega) (by omega) hW3 hf3 hk3 ha2
          refine x_iload_n d_MD_hold_34 rfl rfl ?_
          refine j_if_eq 49 d_MD_hold_35 (by decide) (by unfold iR; omega) (fun c35 => ?_) (fun c35 => ?_)
          · refine j_iconst d_MD_hold_49 ?_
            refine next 0 (Or.inr ⟨rfl, ?_⟩)
            rcases hb with ⟨q, -⟩ | ⟨q, hb⟩
            · omega
            · exact hb
          · have ha1 : aa = 1 := by omega
            refine x_aload_n d_MD_hold_38 rfl rfl (by first | rfl | assumption) ?_
            refine x_get 5 24 d_MD_hold_39 gf_MD_158 (by repeat (first | assumption | exact hs_self (by assumption) | exact hs_self (hs_ne (by omega) (by assumption)) | exact hs_self (hs_ne (by omega) (hs_ne (by omega) (by assumption))) | refine hs_ne (by omega) ?_)) (by rfl) ?_
            refine j_if_eq 49 d_MD_hold_42 (by decide) (by unfold iR; omega) (fun c42 => ?_) (fun c42 => ?_)
            · refine j_iconst d_MD_hold_49 ?_
              refine next 0 (Or.inr ⟨rfl, ?_⟩)
              have hn : uA (zD S c) (zB S) = none := Classical.byContradiction (fun q => by have := hs2.mpr q; omega)
              rcases hb with ⟨q, hb, -⟩ | ⟨q, hb⟩
              · rw [hb, hB_3 c18 hn]
              · exact hb
            · refine j_iconst d_MD_hold_45 ?_
              refine x_goto 50 d_MD_hold_46 (by decide) ?_
              obtain ⟨x, hx⟩ : ∃ x, uA (zD S c) (zB S) = some x := Option.ne_none_iff_exists'.mp (hs2.mp (by omega))
              obtain rfl := hux x hx
              refine next 1 (Or.inl ⟨rfl, ?_⟩)
              rcases hb with ⟨q, hb, hk⟩ | ⟨q, hb⟩
              · refine ⟨by rw [hb, hB_2 hx], fun k k1 k2 k3 => ?_⟩
                by_cases hkc : k = c
                · subst hkc; rw [gU_self, hx]
                · rw [gU_ne _ _ hkc]; exact hk k k1 (by omega) k3
              · omega
  obtain ⟨H0, hH0⟩ := hW.2.2.2.2.2.2.2.2.1
  refine j_iconst d_MD_hold_0 ?_
  refine x_istore_n d_MD_hold_1 rfl (Nat.le_of_ble_eq_true rfl) ?_
  refine x_iload_n d_MD_hold_2 rfl rfl ?_
  refine x_istore d_MD_hold_3 (Nat.le_of_ble_eq_true rfl) ?_
  exact loop (j + 1 - i) i h H0 _ _ (by omega) (by omega) rfl hW (frM_refl _ _) hH0 (Or.inl ⟨rfl, rfl, fun k k1 k2 => by omega⟩)
end MD'
