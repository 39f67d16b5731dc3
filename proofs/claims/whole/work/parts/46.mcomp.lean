section MC
variable {E : xEnv} {h : xH} {mo : Nat} {S : ST} {v : Nat → Int} {A : MA}
theorem p8_b {x : Int} {a : Nat} (hx : x.natAbs < 1000000000) (ha : a ≤ 4) : (x * 10 ^ a).natAbs < 1000000000 * 10000 := by
  have hp := pow10_le (n := a) (m := 4) ha
  have hp0 := pow10_pos a
  exact mul_abs_lt hx (by omega) (by decide)
theorem p8_q {a b : Nat} (ha : a ≤ 4) (hb : b ≤ 8) : 0 < (10 : Int) ^ a * 10 ^ b ∧ (10 : Int) ^ a * 10 ^ b ≤ 1000000000000 := by
  have hp := pow10_le (n := a + b) (m := 12) (by omega)
  rw [p10a] at hp
  exact ⟨Int.mul_pos (pow10_pos a) (pow10_pos b), by omega⟩
set_option maxHeartbeats 4000000 in
theorem m_quotient (i j t : Nat) (x y md : Int) (o : Option Int) (hO : SO S) (hW : MW h mo v A S) (hi : i < zN S) (hj : j < zN S) (ht : t < zN S) (hx : uA (zD S i) (zB S) = some x) (hy : uA (zD S j) (zB S) = some y) (hmd : 0 ≤ md ∧ md ≤ 7) (ho : qO x y (fS (zD S i)) (fS (zD S j)) (fS (zD S t)) (fN (zD S t)) md = o) : xCt E 8 0 0 M_MD_quotient [.ref mo, vI i, vI j, vI t, vI md] h (rQ (fun w h' => w = vI (e01 o) ∧ MW h' mo v A (sRs S t o) ∧ frM mo h h')) := by
  refine x_met rfl rfl (Nat.le_of_ble_eq_true rfl) ?_
  obtain ⟨Z, hZ⟩ : ∃ Z, Z = (xZ E 0 0 (rQ (fun w h' => w = vI (e01 o) ∧ MW h' mo v A (sRs S t o) ∧ frM mo h h'))) := ⟨_, rfl⟩
  rw [← hZ]
  obtain ⟨so, m0⟩ := hW.1
  have h12 := hO.1
  have hxb := uA_9 (hO.2.2.2.2 i hi).1 hO.2.2.2.1 x hx
  have hyb := uA_9 (hO.2.2.2.2 j hj).1 hO.2.2.2.1 y hy
  have hsi := (hO.2.2.2.2 i hi).1.2.2.1
  have hsj := (hO.2.2.2.2 j hj).1.2.2.1
  refine x_aload_n d_MD_quotient_0 rfl rfl (by first | rfl | assumption) ?_
  refine x_iload_n d_MD_quotient_1 rfl rfl ?_
  refine x_callVq (M' := M_MD_units) d_MD_quotient_2 lk_MD_181 (m_units i hO hW hi) mt_MD_units im_MD_units se_MD_units (by repeat (first | assumption | exact hs_self (by assumption) | exact hs_self (hs_ne (by omega) (by assumption)) | exact hs_self (hs_ne (by omega) (hs_ne (by omega) (by assumption))) | refine hs_ne (by omega) ?_)) rfl (by decide) rfl (Nat.le_of_ble_eq_true rfl) (by decide) (by decide) ?_
  rintro w h1 ⟨u, so1, rfl, -, hux, hW1, hf1, -, m01, -, -⟩
  obtain rfl := hux x hx
  obtain ⟨-, -, -, h4', -⟩ := hW1.2.2.2.2.2.2.1
  obtain ⟨-, -, -, fs, -⟩ := hW1.2.2.2.2.2.2.2.2.2 j hj
  refine x_aload_n d_MD_quotient_5 rfl rfl (by first | rfl | assumption) ?_
  refine x_get 5 15 d_MD_quotient_6 gf_MD_28 (by repeat (first | assumption | exact hs_self (by assumption) | exact hs_self (hs_ne (by omega) (by assumption)) | exact hs_self (hs_ne (by omega) (hs_ne (by omega) (by assumption))) | refine hs_ne (by omega) ?_)) (by rfl) ?_
  refine x_iload_n d_MD_quotient_9 rfl rfl ?_
  refine j_iald d_MD_quotient_10 (by repeat (first | assumption | exact hs_self (by assumption) | exact hs_self (hs_ne (by omega) (by assumption)) | exact hs_self (hs_ne (by omega) (hs_ne (by omega) (by assumption))) | refine hs_ne (by omega) ?_)) (by omega) (by omega) (by decide) ?_
  refine x_top (w := vI (fS (zD S j))) (by rw [Int.toNat_natCast, fs]) ?_
  refine x_callS1 (M' := M_MD_power) d_MD_quotient_11 lk_MD_138 (c_power E h1 (fS (zD S j)) (by omega)) mt_MD_power st_MD_power (by decide) rfl (Nat.le_of_ble_eq_true rfl) (by decide) (by decide) ?_
  refine j_lmul d_MD_quotient_14 ?_
  refine x_lstore d_MD_quotient_15 (Nat.le_of_ble_eq_true rfl) ?_
  refine x_aload_n d_MD_quotient_17 rfl rfl (by first | rfl | assumption) ?_
  refine x_iload_n d_MD_quotient_18 rfl rfl ?_
  refine x_callVq (M' := M_MD_units) d_MD_quotient_19 lk_MD_181 (m_units j hO hW1 hj) mt_MD_units im_MD_units se_MD_units (by repeat (first | assumption | exact hs_self (by assumption) | exact hs_self (hs_ne (by omega) (by assumption)) | exact hs_self (hs_ne (by omega) (hs_ne (by omega) (by assumption))) | refine hs_ne (by omega) ?_)) rfl (by decide) rfl (Nat.le_of_ble_eq_true rfl) (by decide) (by decide) ?_
  rintro w h2 ⟨u2, so2, rfl, -, hux2, hW2, hf2, -, m02, -, -⟩
  obtain rfl := hux2 y hy
  obtain ⟨-, -, -, h4'', -⟩ := hW2.2.2.2.2.2.2.1
  obtain ⟨-, -, -, fs2, -⟩ := hW2.2.2.2.2.2.2.2.2.2 i hi
  have hf := frM_trans hf1 hf2
  refine x_aload_n d_MD_quotient_22 rfl rfl (by first | rfl | assumption) ?_
  refine x_get 5 15 d_MD_quotient_23 gf_MD_28 (by repeat (first | assumption | exact hs_self (by assumption) | exact hs_self (hs_ne (by omega) (by assumption)) | exact hs_self (hs_ne (by omega) (hs_ne (by omega) (by assumption))) | refine hs_ne (by omega) ?_)) (by rfl) ?_
  refine x_iload_n d_MD_quotient_26 rfl rfl ?_
  refine j_iald d_MD_quotient_27 (by repeat (first | assumption | exact hs_self (by assumption) | exact hs_self (hs_ne (by omega) (by assumption)) | exact hs_self (hs_ne (by omega) (hs_ne (by omega) (by assumption))) | refine hs_ne (by omega) ?_)) (by omega) (by omega) (by decide) ?_
  refine x_top (w := vI (fS (zD S i))) (by rw [Int.toNat_natCast, fs2]) ?_
  refine x_callS1 (M' := M_MD_power) d_MD_quotient_28 lk_MD_138 (c_power E h2 (fS (zD S i)) (by omega)) mt_MD_power st_MD_power (by decide) rfl (Nat.le_of_ble_eq_true rfl) (by decide) (by decide) ?_
  refine j_lmul d_MD_quotient_31 ?_
  have hb1 := p8_b hxb hsj
  have hb2 := p8_b hyb hsi
  have hsg := mul_sgn (a := u2) (pow10_pos (fS (zD S i)))
  unfold qO at ho
  generalize hov : u * 10 ^ fS (zD S j) = ov at *
  generalize hun : u2 * 10 ^ fS (zD S i) = un at *
  have fin : ∀ (L : List (Option Value)) (h3 : xH) (w : Value), w = vI (e01 o) → MW h3 mo v A (sRs S t o) → frM mo h2 h3 → X E M_MD_quotient 8 0 0 Z 87 L [w] h3 0 0 := by
    intro L h3 w hw hW3 hf3
    subst hw
    have := e01_r o
    rw [hZ]
    refine j_zreturn d_MD_quotient_87 rfl (by omega) ?_
    exact ⟨_, rfl, rfl, hW3, frM_trans hf hf3⟩
  refine x_lstore d_MD_quotient_32 (Nat.le_of_ble_eq_true rfl) ?_
  refine x_lload d_MD_quotient_34 rfl ?_
  refine j_lconst 0 d_MD_quotient_36 (by decide) ?_
  refine j_lcmp_ne 53 d_MD_quotient_37 d_MD_quotient_38 (by decide) (by unfold lR; omega) (by unfold lR; omega) (fun c37 => ?_) (fun c37 => ?_)
  · have hy0 : ¬ u2 = 0 := by intro h0; rw [h0, Int.zero_mul] at hun; omega
    rw [if_neg hy0] at ho
    refine x_lload d_MD_quotient_53 rfl ?_
    refine j_lconst 0 d_MD_quotient_55 (by decide) ?_
    refine j_lcmp_ge 76 d_MD_quotient_56 d_MD_quotient_57 (by decide) (by unfold lR; omega) (by unfold lR; omega) (fun c56 => ?_) (fun c56 => ?_)
    · rw [if_neg (by omega)] at ho
      refine x_aload_n d_MD_quotient_76 rfl rfl (by first | rfl | assumption) ?_
      refine x_lload d_MD_quotient_77 rfl ?_
      refine x_lload d_MD_quotient_79 rfl ?_
      refine x_iload_n d_MD_quotient_81 rfl rfl ?_
      refine x_iload d_MD_quotient_82 rfl ?_
      refine x_callVq (M' := M_MD_result) d_MD_quotient_84 lk_MD_228 (m_result t ov un md o hO hW2 ht (by omega) (by omega) (by omega) hmd ho) mt_MD_result im_MD_result se_MD_result (by repeat (first | assumption | exact hs_self (by assumption) | exact hs_self (hs_ne (by omega) (by assumption)) | exact hs_self (hs_ne (by omega) (hs_ne (by omega) (by assumption))) | refine hs_ne (by omega) ?_)) rfl (by decide) rfl (Nat.le_of_ble_eq_true rfl) (by decide) (by decide) ?_
      rintro w h3 ⟨rfl, hW3, hf3, -⟩
      exact fin _ _ _ rfl hW3 hf3
    · rw [if_pos (by omega)] at ho
      refine x_aload_n d_MD_quotient_60 rfl rfl (by first | rfl | assumption) ?_
      refine x_lload d_MD_quotient_61 rfl ?_
      refine j_lneg d_MD_quotient_63 ?_
      refine x_lload d_MD_quotient_64 rfl ?_
      refine j_lneg d_MD_quotient_66 ?_
      refine x_iload_n d_MD_quotient_67 rfl rfl ?_
      refine x_iload d_MD_quotient_68 rfl ?_
      refine x_callVq (M' := M_MD_result) d_MD_quotient_70 lk_MD_228 (m_result t (-ov) (-un) md o hO hW2 ht (by omega) (by omega) (by omega) hmd ho) mt_MD_result im_MD_result se_MD_result (by repeat (first | assumption | exact hs_self (by assumption) | exact hs_self (hs_ne (by omega) (by assumption)) | exact hs_self (hs_ne (by omega) (hs_ne (by omega) (by assumption))) | refine hs_ne (by omega) ?_)) rfl (by decide) rfl (Nat.le_of_ble_eq_true rfl) (by decide) (by decide) ?_
      rintro w h3 ⟨rfl, hW3, hf3, -⟩
      refine x_goto 87 d_MD_quotient_73 (by decide) ?_
      exact fin _ _ _ rfl hW3 hf3
  · have hy0 : u2 = 0 := by omega
    rw [if_pos hy0] at ho
    subst ho
    refine x_aload_n d_MD_quotient_41 rfl rfl (by first | rfl | assumption) ?_
    refine x_dup d_MD_quotient_42 rfl ?_
    refine x_get 5 25 d_MD_quotient_43 gf_MD_201 (by repeat (first | assumption | exact hs_self (by assumption) | exact hs_self (hs_ne (by omega) (by assumption)) | exact hs_self (hs_ne (by omega) (hs_ne (by omega) (by assumption))) | refine hs_ne (by omega) ?_)) (by rfl) ?_
    refine j_iconst d_MD_quotient_46 ?_
    refine j_iadd d_MD_quotient_47 ?_
    refine xp_MD_25 d_MD_quotient_48 pf_MD_quotient_201 (by repeat (first | assumption | exact hs_self (by assumption) | exact hs_self (hs_ne (by omega) (by assumption)) | exact hs_self (hs_ne (by omega) (hs_ne (by omega) (by assumption))) | refine hs_ne (by omega) ?_)) ?_
    rw [hZ]
    refine j_iconst d_MD_quotient_51 ?_
    refine j_zreturn d_MD_quotient_52 rfl (by omega) ?_
    exact ⟨_, rfl, rfl, MW_obj (L := zL S) hW2 hW2.2.1 hW2.2.2.1, frM_set hf (by omega)⟩
set_option maxHeartbeats 4000000 in
theorem m_compute (op a b t md : Int) (hO : SO S) (hX : MX h mo S) (hop : iR op) (ha : iR a) (hb : iR b) (ht : iR t) (hmd : iR md) : xCt E 9 0 0 M_MD_compute [.ref mo, vI op, vI a, vI b, vI t, vI md] h (rQ (pM mo h (fCompute S op a b t md))) := by
  obtain ⟨v, A, hW⟩ := hX
  refine x_met rfl rfl (Nat.le_of_ble_eq_true rfl) ?_
  obtain ⟨so, m0⟩ := hW.1
  have h12 := hO.1
  obtain ⟨Z, hZ⟩ : ∃ Z, Z = (xZ E 0 0 (rQ (pM mo h (fCompute S op a b t md)))) := ⟨_, rfl⟩
  rw [← hZ]
  unfold iR at hop
  have bad : ¬ okC S op a b t md → ∀ L : List (Option Value), X E M_MD_compute 9 0 0 Z 42 L [] h 0 0 := by
    intro hb L
    rw [hZ]
    refine j_iconst d_MD_compute_42 ?_
    refine x_ireturn d_MD_compute_43 rfl ?_
    unfold fCompute
    rw [if_neg hb]
    exact ⟨_, rfl, rfl, ⟨v, A, hW⟩, frM_refl _ _⟩
  have main : okC S op a b t md → X E M_MD_compute 9 0 0 Z 44 [some (.ref mo), some (vI op), some (vI a), some (vI b), some (vI t), some (vI md), none, none, none, none, none, none, none, none, none, none, none] [] h 0 0 := by
    intro hk
    have hk0 := hk
    obtain ⟨hop2, hmd2, ⟨ha1, ha2⟩, ⟨hb1, hb2⟩, ht1⟩ := hk
    obtain ⟨i, rfl⟩ : ∃ i : Nat, a = (i : Int) := ⟨a.toNat, by omega⟩
    obtain ⟨j, rfl⟩ : ∃ j : Nat, b = (j : Int) := ⟨b.toNat, by omega⟩
    obtain ⟨l, rfl⟩ : ∃ l : Nat, t = (l : Int) := ⟨t.toNat, by omega⟩
    have hi : i < zN S := by omega
    have hj : j < zN S := by omega
    have hl : l < zN S := by omega
    have hDi := (hO.2.2.2.2 i hi).1
    have hDj := (hO.2.2.2.2 j hj).1
    have hsi := hDi.2.2.1
    have hsj := hDj.2.2.1
    have dErr : (gU' S i = none ∨ gU' S j = none) → ∀ (L : List (Option Value)) (h2 : xH), L[0]? = some (some (.ref mo)) → MW h2 mo v A S → frM mo h h2 → X E M_MD_compute 9 0 0 Z 60 L [] h2 0 0 := by
      intro hn L h2 hL hW2 hf2
      obtain ⟨so2, m02⟩ := hW2.1
      refine x_aload_n d_MD_compute_60 rfl hL rfl ?_
      refine x_callVq (M' := M_MD_badData) d_MD_compute_61 lk_MD_214 (m_badData hW2) mt_MD_badData im_MD_badData se_MD_badData (by repeat (first | assumption | exact hs_self (by assumption) | exact hs_self (hs_ne (by omega) (by assumption)) | exact hs_self (hs_ne (by omega) (hs_ne (by omega) (by assumption))) | refine hs_ne (by omega) ?_)) rfl (by decide) rfl (Nat.le_of_ble_eq_true rfl) (by decide) (by decide) ?_
      rintro w h3 ⟨rfl, hW3, hf3⟩
      rw [hZ]
      refine x_ireturn d_MD_compute_64 rfl ?_
      rw [fCompute_d hk0 hn]
      exact ⟨_, rfl, rfl, ⟨v, A, hW3⟩, frM_trans hf2 hf3⟩
    refine x_aload_n d_MD_compute_44 rfl rfl (by first | rfl | assumption) ?_
    refine x_iload_n d_MD_compute_45 rfl rfl ?_
    refine x_callVq (M' := M_MD_isSound) d_MD_compute_46 lk_MD_211 (m_isSound i hO hW hi) mt_MD_isSound im_MD_isSound se_MD_isSound (by repeat (first | assumption | exact hs_self (by assumption) | exact hs_self (hs_ne (by omega) (by assumption)) | exact hs_self (hs_ne (by omega) (hs_ne (by omega) (by assumption))) | refine hs_ne (by omega) ?_)) rfl (by decide) rfl (Nat.le_of_ble_eq_true rfl) (by decide) (by decide) ?_
    rintro w h1 ⟨rfl, hW1, hf1⟩
    obtain ⟨so1, m01⟩ := hW1.1
    refine j_if_eq 60 d_MD_compute_49 (by decide) (by unfold iR; split <;> omega) (fun c49 => ?_) (fun c49 => ?_)
    · rw [ite01] at c49
      exact dErr (Or.inl (by rw [gU', Int.toNat_natCast]; exact c49)) _ _ rfl hW1 hf1
    · rw [ite01] at c49
      obtain ⟨x, hx⟩ : ∃ x, uA (zD S i) (zB S) = some x := Option.ne_none_iff_exists'.mp c49
      refine x_aload_n d_MD_compute_52 rfl rfl (by first | rfl | assumption) ?_
      refine x_iload_n d_MD_compute_53 rfl rfl ?_
      refine x_callVq (M' := M_MD_isSound) d_MD_compute_54 lk_MD_211 (m_isSound j hO hW1 hj) mt_MD_isSound im_MD_isSound se_MD_isSound (by repeat (first | assumption | exact hs_self (by assumption) | exact hs_self (hs_ne (by omega) (by assumption)) | exact hs_self (hs_ne (by omega) (hs_ne (by omega) (by assumption))) | refine hs_ne (by omega) ?_)) rfl (by decide) rfl (Nat.le_of_ble_eq_true rfl) (by decide) (by decide) ?_
      rintro w h2 ⟨rfl, hW2, hf2⟩
      obtain ⟨so2, m02⟩ := hW2.1
      have hf' := frM_trans hf1 hf2
      refine j_if_ne 65 d_MD_compute_57 (by decide) (by unfold iR; split <;> omega) (fun c57 => ?_) (fun c57 => ?_)
      · rw [ite01] at c57
        obtain ⟨y, hy⟩ : ∃ y, uA (zD S j) (zB S) = some y := Option.ne_none_iff_exists'.mp c57
        have hxb := uA_9 hDi hO.2.2.2.1 x hx
        have hyb := uA_9 hDj hO.2.2.2.1 y hy
        rw [fCompute_s hk0 (x := x) (y := y) (by rw [gU', Int.toNat_natCast]; exact hx) (by rw [gU', Int.toNat_natCast]; exact hy)] at hZ
        simp only [gS, gN, Int.toNat_natCast] at hZ
        obtain ⟨o, ho⟩ : ∃ o, o = cO op x y (fS (zD S i)) (fS (zD S j)) (fS (zD S l)) (fN (zD S l)) md := ⟨_, rfl⟩
        rw [← ho] at hZ
        refine x_aload_n d_MD_compute_65 rfl rfl (by first | rfl | assumption) ?_
        refine x_iload_n d_MD_compute_66 rfl rfl ?_
        refine x_callVq (M' := M_MD_units) d_MD_compute_67 lk_MD_181 (m_units i hO hW2 hi) mt_MD_units im_MD_units se_MD_units (by repeat (first | assumption | exact hs_self (by assumption) | exact hs_self (hs_ne (by omega) (by assumption)) | exact hs_self (hs_ne (by omega) (hs_ne (by omega) (by assumption))) | refine hs_ne (by omega) ?_)) rfl (by decide) rfl (Nat.le_of_ble_eq_true rfl) (by decide) (by decide) ?_
        rintro w h3 ⟨u, so3, rfl, -, hux, hW3, hf3, -, m03, -, -⟩
        obtain rfl := hux x hx
        refine x_lstore d_MD_compute_70 (Nat.le_of_ble_eq_true rfl) ?_
        refine x_aload_n d_MD_compute_72 rfl rfl (by first | rfl | assumption) ?_
        refine x_iload_n d_MD_compute_73 rfl rfl ?_
        refine x_callVq (M' := M_MD_units) d_MD_compute_74 lk_MD_181 (m_units j hO hW3 hj) mt_MD_units im_MD_units se_MD_units (by repeat (first | assumption | exact hs_self (by assumption) | exact hs_self (hs_ne (by omega) (by assumption)) | exact hs_self (hs_ne (by omega) (hs_ne (by omega) (by assumption))) | refine hs_ne (by omega) ?_)) rfl (by decide) rfl (Nat.le_of_ble_eq_true rfl) (by decide) (by decide) ?_
        rintro w h4 ⟨u2, so4, rfl, -, hux2, hW4, hf4, -, m04, -, -⟩
        obtain rfl := hux2 y hy
        have hf := frM_trans hf' (frM_trans hf3 hf4)
        obtain ⟨-, -, -, h4', -⟩ := hW4.2.2.2.2.2.2.1
        obtain ⟨-, -, -, fsi, -⟩ := hW4.2.2.2.2.2.2.2.2.2 i hi
        obtain ⟨-, -, -, fsj, -⟩ := hW4.2.2.2.2.2.2.2.2.2 j hj
        refine x_lstore d_MD_compute_77 (Nat.le_of_ble_eq_true rfl) ?_
        refine x_aload_n d_MD_compute_79 rfl rfl (by first | rfl | assumption) ?_
        refine x_get 5 15 d_MD_compute_80 gf_MD_28 (by repeat (first | assumption | exact hs_self (by assumption) | exact hs_self (hs_ne (by omega) (by assumption)) | exact hs_self (hs_ne (by omega) (hs_ne (by omega) (by assumption))) | refine hs_ne (by omega) ?_)) (by rfl) ?_
        refine x_iload_n d_MD_compute_83 rfl rfl ?_
        refine j_iald d_MD_compute_84 (by repeat (first | assumption | exact hs_self (by assumption) | exact hs_self (hs_ne (by omega) (by assumption)) | exact hs_self (hs_ne (by omega) (hs_ne (by omega) (by assumption))) | refine hs_ne (by omega) ?_)) (by omega) (by omega) (by decide) ?_
        refine x_top (w := vI (fS (zD S i))) (by rw [Int.toNat_natCast, fsi]) ?_
        refine x_callS1 (M' := M_MD_power) d_MD_compute_85 lk_MD_138 (c_power E h4 (fS (zD S i)) (by omega)) mt_MD_power st_MD_power (by decide) rfl (Nat.le_of_ble_eq_true rfl) (by decide) (by decide) ?_
        refine x_lstore d_MD_compute_88 (Nat.le_of_ble_eq_true rfl) ?_
        refine x_aload_n d_MD_compute_90 rfl rfl (by first | rfl | assumption) ?_
        refine x_get 5 15 d_MD_compute_91 gf_MD_28 (by repeat (first | assumption | exact hs_self (by assumption) | exact hs_self (hs_ne (by omega) (by assumption)) | exact hs_self (hs_ne (by omega) (hs_ne (by omega) (by assumption))) | refine hs_ne (by omega) ?_)) (by rfl) ?_
        refine x_iload_n d_MD_compute_94 rfl rfl ?_
        refine j_iald d_MD_compute_95 (by repeat (first | assumption | exact hs_self (by assumption) | exact hs_self (hs_ne (by omega) (by assumption)) | exact hs_self (hs_ne (by omega) (hs_ne (by omega) (by assumption))) | refine hs_ne (by omega) ?_)) (by omega) (by omega) (by decide) ?_
        refine x_top (w := vI (fS (zD S j))) (by rw [Int.toNat_natCast, fsj]) ?_
        refine x_callS1 (M' := M_MD_power) d_MD_compute_96 lk_MD_138 (c_power E h4 (fS (zD S j)) (by omega)) mt_MD_power st_MD_power (by decide) rfl (Nat.le_of_ble_eq_true rfl) (by decide) (by decide) ?_
        refine x_lstore d_MD_compute_99 (Nat.le_of_ble_eq_true rfl) ?_
        refine j_iconst d_MD_compute_101 ?_
        refine x_istore d_MD_compute_102 (Nat.le_of_ble_eq_true rfl) ?_
        have hq := p8_q hsi (show fS (zD S j) ≤ 8 by omega)
        have hm1 := p8_b hxb hsj
        have hm2 := p8_b hyb hsi
        have hm2' := p8_b (x := -u2) (by omega) hsi
        have hm3 := mul_abs_lt (a := u) (b := u2) (x := 1000000000) (y := 1000000000) hxb (by omega) (by decide)
        have fin : ∀ (h5 : xH) (L : List (Option Value)), MW h5 mo v A (sRs S l o) → frM mo h4 h5 → L[14]? = some (some (vI (e01 o))) → X E M_MD_compute 9 0 0 Z 195 L [] h5 0 0 := by
          intro h5 L hW5 hf5 hL
          have he := e01_r o
          refine x_iload d_MD_compute_195 hL ?_
          rw [hZ]
          refine j_if_eq 204 d_MD_compute_197 (by decide) (by unfold iR; omega) (fun c197 => ?_) (fun c197 => ?_)
          · refine j_iconst d_MD_compute_204 ?_
            refine x_ireturn d_MD_compute_205 rfl ?_
            exact ⟨_, rfl, by rw [show e01 o = 0 by omega], ⟨v, A, hW5⟩, frM_trans hf hf5⟩
          · refine j_iconst d_MD_compute_200 ?_
            refine x_goto 205 d_MD_compute_201 (by decide) ?_
            refine x_ireturn d_MD_compute_205 rfl ?_
            exact ⟨_, rfl, by rw [show e01 o = 1 by omega], ⟨v, A, hW5⟩, frM_trans hf hf5⟩
        have sums : ∀ y' : Int, (y' * 10 ^ fS (zD S i)).natAbs < 1000000000 * 10000 → o = sRes (u * 10 ^ fS (zD S j) + y' * 10 ^ fS (zD S i)) (10 ^ fS (zD S i) * 10 ^ fS (zD S j)) (fS (zD S l)) (fN (zD S l)) md → X E M_MD_compute 9 0 0 Z 170 [some (.ref mo), some (vI op), some (vI i), some (vI j), some (vI l), some (vI md), some (vL u), none, some (vL u2), none, some (vL (10 ^ fS (zD S i))), none, some (vL (10 ^ fS (zD S j))), none, some (vI 0), none, none] [vL (y' * 10 ^ fS (zD S i))] h4 0 0 := by
          intro y' hy' hoe
          refine x_lstore d_MD_compute_170 (Nat.le_of_ble_eq_true rfl) ?_
          refine x_aload_n d_MD_compute_172 rfl rfl (by first | rfl | assumption) ?_
          refine x_lload d_MD_compute_173 rfl ?_
          refine x_lload d_MD_compute_175 rfl ?_
          refine j_lmul d_MD_compute_177 ?_
          refine x_lload d_MD_compute_178 rfl ?_
          refine j_ladd d_MD_compute_180 ?_
          refine x_lload d_MD_compute_181 rfl ?_
          refine x_lload d_MD_compute_183 rfl ?_
          refine j_lmul d_MD_compute_185 ?_
          refine x_iload d_MD_compute_186 rfl ?_
          refine x_iload d_MD_compute_188 rfl ?_
          refine x_callVq (M' := M_MD_result) d_MD_compute_190 lk_MD_228 (m_result l _ _ md o hO hW4 hl (by omega) hq.1 (by omega) hmd2 hoe.symm) mt_MD_result im_MD_result se_MD_result (by repeat (first | assumption | exact hs_self (by assumption) | exact hs_self (hs_ne (by omega) (by assumption)) | exact hs_self (hs_ne (by omega) (hs_ne (by omega) (by assumption))) | refine hs_ne (by omega) ?_)) rfl (by decide) rfl (Nat.le_of_ble_eq_true rfl) (by decide) (by decide) ?_
          rintro w h5 ⟨rfl, hW5, hf5, -⟩
          refine x_istore d_MD_compute_193 (Nat.le_of_ble_eq_true rfl) ?_
          exact fin _ _ hW5 hf5 rfl
        refine x_iload_n d_MD_compute_104 rfl rfl ?_
        refine j_iconst d_MD_compute_105 ?_
        refine j_icmp_ne 124 d_MD_compute_106 (by decide) (by unfold iR; omega) (by unfold iR; omega) (fun c106 => ?_) (fun c106 => ?_)
        · refine x_iload_n d_MD_compute_124 rfl rfl ?_
          refine j_iconst d_MD_compute_125 ?_
          refine j_icmp_ne 152 d_MD_compute_126 (by decide) (by unfold iR; omega) (by unfold iR; omega) (fun c126 => ?_) (fun c126 => ?_)
          · refine x_iload_n d_MD_compute_152 rfl rfl ?_
            refine j_if_ne 164 d_MD_compute_153 (by decide) (by unfold iR; omega) (fun c153 => ?_) (fun c153 => ?_)
            · refine x_lload d_MD_compute_164 rfl ?_
              refine j_lneg d_MD_compute_166 ?_
              refine x_lload d_MD_compute_167 rfl ?_
              refine j_lmul d_MD_compute_169 ?_
              refine sums (-u2) hm2' ?_
              rw [ho]; unfold cO
              rw [if_neg c126, if_neg c106, if_neg (by omega)]
            · refine x_lload d_MD_compute_156 rfl ?_
              refine x_lload d_MD_compute_158 rfl ?_
              refine j_lmul d_MD_compute_160 ?_
              refine x_goto 170 d_MD_compute_161 (by decide) ?_
              refine sums u2 hm2 ?_
              rw [ho]; unfold cO
              rw [if_neg c126, if_neg c106, if_pos (by omega)]
          · refine x_aload_n d_MD_compute_129 rfl rfl (by first | rfl | assumption) ?_
            refine x_lload d_MD_compute_130 rfl ?_
            refine x_lload d_MD_compute_132 rfl ?_
            refine j_lmul d_MD_compute_134 ?_
            refine x_lload d_MD_compute_135 rfl ?_
            refine x_lload d_MD_compute_137 rfl ?_
            refine j_lmul d_MD_compute_139 ?_
            refine x_iload d_MD_compute_140 rfl ?_
            refine x_iload d_MD_compute_142 rfl ?_
            refine x_callVq (M' := M_MD_result) d_MD_compute_144 lk_MD_228 (m_result l (u * u2) _ md o hO hW4 hl (by omega) hq.1 (by omega) hmd2 (by rw [ho]; unfold cO; rw [if_pos (by omega)])) mt_MD_result im_MD_result se_MD_result (by repeat (first | assumption | exact hs_self (by assumption) | exact hs_self (hs_ne (by omega) (by assumption)) | exact hs_self (hs_ne (by omega) (hs_ne (by omega) (by assumption))) | refine hs_ne (by omega) ?_)) rfl (by decide) rfl (Nat.le_of_ble_eq_true rfl) (by decide) (by decide) ?_
            rintro w h5 ⟨rfl, hW5, hf5, -⟩
            refine x_istore d_MD_compute_147 (Nat.le_of_ble_eq_true rfl) ?_
            refine x_goto 195 d_MD_compute_149 (by decide) ?_
            exact fin _ _ hW5 hf5 rfl
        · refine x_aload_n d_MD_compute_109 rfl rfl (by first | rfl | assumption) ?_
          refine x_iload_n d_MD_compute_110 rfl rfl ?_
          refine x_iload_n d_MD_compute_111 rfl rfl ?_
          refine x_iload d_MD_compute_112 rfl ?_
          refine x_iload d_MD_compute_114 rfl ?_
          refine x_callVq (M' := M_MD_quotient) d_MD_compute_116 lk_MD_224 (m_quotient i j l u u2 md o hO hW4 hi hj hl hx hy hmd2 (by rw [ho]; unfold cO; rw [if_neg (show ¬ op = 2 by omega), if_pos (show op = 3 by omega)])) mt_MD_quotient im_MD_quotient se_MD_quotient (by repeat (first | assumption | exact hs_self (by assumption) | exact hs_self (hs_ne (by omega) (by assumption)) | exact hs_self (hs_ne (by omega) (hs_ne (by omega) (by assumption))) | refine hs_ne (by omega) ?_)) rfl (by decide) rfl (Nat.le_of_ble_eq_true rfl) (by decide) (by decide) ?_
          rintro w h5 ⟨rfl, hW5, hf5⟩
          refine x_istore d_MD_compute_119 (Nat.le_of_ble_eq_true rfl) ?_
          refine x_goto 195 d_MD_compute_121 (by decide) ?_
          exact fin _ _ hW5 hf5 rfl
      · rw [ite01] at c57
        exact dErr (Or.inr (by rw [gU', Int.toNat_natCast]; exact c57)) _ _ rfl hW2 hf'
  refine x_iload_n d_MD_compute_0 rfl rfl ?_
  refine j_if_lt 42 d_MD_compute_1 (by decide) (by unfold iR; omega) (fun c1 => ?_) (fun c1 => ?_)
  · exact bad (fun x => by have := x.1.1; omega) _
  · refine x_iload_n d_MD_compute_4 rfl rfl ?_
    refine j_iconst d_MD_compute_5 ?_
    refine j_icmp_gt 42 d_MD_compute_6 (by decide) (by unfold iR; omega) (by unfold iR; omega) (fun c6 => ?_) (fun c6 => ?_)
    · exact bad (fun x => by have := x.1.2; omega) _
    · refine x_iload d_MD_compute_9 rfl ?_
      refine x_callS1 (M' := M_MD_isMode) d_MD_compute_11 lk_MD_218 (m_isMode md hmd) mt_MD_isMode st_MD_isMode (by decide) rfl (Nat.le_of_ble_eq_true rfl) (by decide) (by decide) ?_
      refine j_if_eq 42 d_MD_compute_14 (by decide) (by unfold iR; split <;> omega) (fun c14 => ?_) (fun c14 => ?_)
      · rw [ite10] at c14
        exact bad (fun x => c14 x.2.1) _
      · rw [ite10] at c14
        refine x_aload_n d_MD_compute_17 rfl rfl (by first | rfl | assumption) ?_
        refine x_iload_n d_MD_compute_18 rfl rfl ?_
        refine x_callV1 (M' := M_MD_number) d_MD_compute_19 lk_MD_221 (m_number a hO hW ha) mt_MD_number im_MD_number se_MD_number (by repeat (first | assumption | exact hs_self (by assumption) | exact hs_self (hs_ne (by omega) (by assumption)) | exact hs_self (hs_ne (by omega) (hs_ne (by omega) (by assumption))) | refine hs_ne (by omega) ?_)) rfl (by decide) rfl (Nat.le_of_ble_eq_true rfl) (by decide) (by decide) ?_
        refine j_if_eq 42 d_MD_compute_22 (by decide) (op01_i S a) (fun c22 => ?_) (fun c22 => ?_)
        · exact bad (fun x => op01_0.mp c22 x.2.2.1) _
        · refine x_aload_n d_MD_compute_25 rfl rfl (by first | rfl | assumption) ?_
          refine x_iload_n d_MD_compute_26 rfl rfl ?_
          refine x_callV1 (M' := M_MD_number) d_MD_compute_27 lk_MD_221 (m_number b hO hW hb) mt_MD_number im_MD_number se_MD_number (by repeat (first | assumption | exact hs_self (by assumption) | exact hs_self (hs_ne (by omega) (by assumption)) | exact hs_self (hs_ne (by omega) (hs_ne (by omega) (by assumption))) | refine hs_ne (by omega) ?_)) rfl (by decide) rfl (Nat.le_of_ble_eq_true rfl) (by decide) (by decide) ?_
          refine j_if_eq 42 d_MD_compute_30 (by decide) (op01_i S b) (fun c30 => ?_) (fun c30 => ?_)
          · exact bad (fun x => op01_0.mp c30 x.2.2.2.1) _
          · refine x_aload_n d_MD_compute_33 rfl rfl (by first | rfl | assumption) ?_
            refine x_iload d_MD_compute_34 rfl ?_
            refine x_callV1 (M' := M_MD_there) d_MD_compute_36 lk_MD_126 (m_there t hO hW ht) mt_MD_there im_MD_there se_MD_there (by repeat (first | assumption | exact hs_self (by assumption) | exact hs_self (hs_ne (by omega) (by assumption)) | exact hs_self (hs_ne (by omega) (hs_ne (by omega) (by assumption))) | refine hs_ne (by omega) ?_)) rfl (by decide) rfl (Nat.le_of_ble_eq_true rfl) (by decide) (by decide) ?_
            refine j_if_ne 44 d_MD_compute_39 (by decide) (by unfold iR; split <;> omega) (fun c39 => ?_) (fun c39 => ?_)
            · rw [ite10] at c39
              exact main ⟨⟨by omega, by omega⟩, Classical.not_not.mp c14, opd_of c22, opd_of c30, Classical.not_not.mp c39⟩
            · rw [ite10] at c39
              exact bad (fun x => c39 x.2.2.2.2) _
end MC
