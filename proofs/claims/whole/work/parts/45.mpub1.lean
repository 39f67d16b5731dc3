def MX (h : xH) (mo : Nat) (S : ST) : Prop := ∃ v A, MW h mo v A S
def pM (mo : Nat) (h : xH) (r : Int × ST) : Value → xH → Prop := fun w h' => w = vI r.1 ∧ MX h' mo r.2 ∧ frM mo h h'
section MP
variable {E : xEnv} {h : xH} {mo : Nat} {S : ST}
theorem MW_draft {v : Nat → Int} {A : MA} {R : Nat → Int} (hW : MW h mo v A S) : MW (h.set (mo + 2) (aI 24 R)) mo v A (zB S, R, zL S, zN S, zD S, zE S, zF S) := by
  obtain ⟨⟨so0, m0⟩, v2, v11, m1, m2, ⟨G, m3⟩, hR, ⟨T0, m14, hT0⟩, ⟨H, m15⟩, hF⟩ := hW
  exact ⟨⟨so0, hs_ne (by omega) m0⟩, v2, v11, hs_ne (by omega) m1, hs_self m2, ⟨G, hs_ne (by omega) m3⟩, mR_set hR (by omega), ⟨T0, hs_ne (by omega) m14, hT0⟩, ⟨H, hs_ne (by omega) m15⟩, hF⟩
set_option maxHeartbeats 1000000 in
theorem m_pic (c : Int) (hO : SO S) (hX : MX h mo S) (hc : 0 ≤ c ∧ c < 65536) : xCt E 0 0 0 M_MD_pic [.ref mo, vI c] h (rQ (pM mo h (fPic S c))) := by
  obtain ⟨v, A, hW⟩ := hX
  refine x_met rfl rfl (Nat.le_of_ble_eq_true rfl) ?_
  obtain ⟨so, m0⟩ := hW.1
  have v2 := hW.2.1
  have m2 := hW.2.2.2.2.1
  have hL := hO.2.1
  have bad : ¬ (32 ≤ c ∧ c ≤ 126 ∧ zL S < 24) → ∀ L : List (Option Value), X E M_MD_pic 0 0 0 (xZ E 0 0 (rQ (pM mo h (fPic S c)))) 21 L [] h 0 0 := by
    intro hb L
    refine j_iconst d_MD_pic_21 ?_
    refine j_zreturn d_MD_pic_22 rfl (by omega) ?_
    unfold fPic
    rw [if_neg hb]
    exact ⟨_, rfl, rfl, ⟨v, A, hW⟩, frM_refl _ _⟩
  refine x_iload_n d_MD_pic_0 rfl rfl ?_
  refine j_bipush d_MD_pic_1 (by decide) ?_
  refine j_icmp_lt 21 d_MD_pic_3 (by decide) (by unfold iR; omega) (by unfold iR; omega) (fun c3 => ?_) (fun c3 => ?_)
  · exact bad (by omega) _
  · refine x_iload_n d_MD_pic_6 rfl rfl ?_
    refine j_bipush d_MD_pic_7 (by decide) ?_
    refine j_icmp_gt 21 d_MD_pic_9 (by decide) (by unfold iR; omega) (by unfold iR; omega) (fun c9 => ?_) (fun c9 => ?_)
    · exact bad (by omega) _
    · refine x_aload_n d_MD_pic_12 rfl rfl (by first | rfl | assumption) ?_
      refine x_get 5 2 d_MD_pic_13 gf_MD_57 (by repeat (first | assumption | exact hs_self (by assumption) | exact hs_self (hs_ne (by omega) (by assumption)) | exact hs_self (hs_ne (by omega) (hs_ne (by omega) (by assumption))) | refine hs_ne (by omega) ?_)) (by rfl) ?_
      refine j_bipush d_MD_pic_16 (by decide) ?_
      refine j_icmp_ne 23 d_MD_pic_18 (by decide) (by unfold iR; omega) (by unfold iR; omega) (fun c18 => ?_) (fun c18 => ?_)
      · refine x_aload_n d_MD_pic_23 rfl rfl (by first | rfl | assumption) ?_
        refine x_get 5 1 d_MD_pic_24 gf_MD_13 (by repeat (first | assumption | exact hs_self (by assumption) | exact hs_self (hs_ne (by omega) (by assumption)) | exact hs_self (hs_ne (by omega) (hs_ne (by omega) (by assumption))) | refine hs_ne (by omega) ?_)) (by rfl) ?_
        refine x_aload_n d_MD_pic_27 rfl rfl (by first | rfl | assumption) ?_
        refine x_get 5 2 d_MD_pic_28 gf_MD_57 (by repeat (first | assumption | exact hs_self (by assumption) | exact hs_self (hs_ne (by omega) (by assumption)) | exact hs_self (hs_ne (by omega) (hs_ne (by omega) (by assumption))) | refine hs_ne (by omega) ?_)) (by rfl) ?_
        refine x_iload_n d_MD_pic_31 rfl rfl ?_
        refine j_iast d_MD_pic_32 (by repeat (first | assumption | exact hs_self (by assumption) | exact hs_self (hs_ne (by omega) (by assumption)) | exact hs_self (hs_ne (by omega) (hs_ne (by omega) (by assumption))) | refine hs_ne (by omega) ?_)) (by omega) (by omega) (by decide) ?_
        refine x_aload_n d_MD_pic_33 rfl rfl (by first | rfl | assumption) ?_
        refine x_dup d_MD_pic_34 rfl ?_
        refine x_get 5 2 d_MD_pic_35 gf_MD_57 (by repeat (first | assumption | exact hs_self (by assumption) | exact hs_self (hs_ne (by omega) (by assumption)) | exact hs_self (hs_ne (by omega) (hs_ne (by omega) (by assumption))) | refine hs_ne (by omega) ?_)) (by rfl) ?_
        refine j_iconst d_MD_pic_38 ?_
        refine j_iadd d_MD_pic_39 ?_
        refine xp_MD_2 d_MD_pic_40 pf_MD_pic_57 (by repeat (first | assumption | exact hs_self (by assumption) | exact hs_self (hs_ne (by omega) (by assumption)) | exact hs_self (hs_ne (by omega) (hs_ne (by omega) (by assumption))) | refine hs_ne (by omega) ?_)) ?_
        refine j_iconst d_MD_pic_43 ?_
        refine j_zreturn d_MD_pic_44 rfl (by omega) ?_
        unfold fPic
        rw [if_pos (by omega)]
        have e : (v 2).toNat = zL S := by omega
        rw [e]
        exact ⟨_, rfl, rfl, ⟨_, A, MW_obj (L := zL S + 1) (MW_draft hW) (by rw [gU_self, v2]; rfl) hW.2.2.1⟩, frM_set (frM_set (frM_refl _ _) (by omega)) (by omega)⟩
      · exact bad (by omega) _
set_option maxHeartbeats 1000000 in
theorem m_scrap (hX : MX h mo S) : xCt E 0 0 0 M_MD_scrap [.ref mo] h (rP (fun h' => MX h' mo (sScrap S) ∧ frM mo h h')) := by
  obtain ⟨v, A, hW⟩ := hX
  refine x_met rfl rfl (Nat.le_of_ble_eq_true rfl) ?_
  obtain ⟨so, m0⟩ := hW.1
  refine x_aload_n d_MD_scrap_0 rfl rfl (by first | rfl | assumption) ?_
  refine j_iconst d_MD_scrap_1 ?_
  refine xp_MD_2 d_MD_scrap_2 pf_MD_scrap_57 (by repeat (first | assumption | exact hs_self (by assumption) | exact hs_self (hs_ne (by omega) (by assumption)) | exact hs_self (hs_ne (by omega) (hs_ne (by omega) (by assumption))) | refine hs_ne (by omega) ?_)) ?_
  refine x_return d_MD_scrap_5 rfl ?_
  exact ⟨rfl, ⟨_, A, MW_obj (L := 0) hW (gU_self _ _ _) hW.2.2.1⟩, frM_set (frM_refl _ _) (by omega)⟩
set_option maxHeartbeats 1000000 in
theorem m_fields (hX : MX h mo S) : xCt E 0 0 0 M_MD_fields [.ref mo] h (rV (vI (zN S)) h) := by
  obtain ⟨v, A, hW⟩ := hX
  refine x_met rfl rfl (Nat.le_of_ble_eq_true rfl) ?_
  obtain ⟨so, m0⟩ := hW.1
  refine x_aload_n d_MD_fields_0 rfl rfl (by first | rfl | assumption) ?_
  refine x_get 5 11 d_MD_fields_1 gf_MD_123 (by repeat (first | assumption | exact hs_self (by assumption) | exact hs_self (hs_ne (by omega) (by assumption)) | exact hs_self (hs_ne (by omega) (hs_ne (by omega) (by assumption))) | refine hs_ne (by omega) ?_)) (by rfl) ?_
  refine x_ireturn d_MD_fields_4 rfl ?_
  exact ⟨by rw [hW.2.2.1], rfl⟩
set_option maxHeartbeats 1000000 in
theorem m_sizeErrors (hX : MX h mo S) : xCt E 0 0 0 M_MD_sizeErrors [.ref mo] h (rV (vI (zE S)) h) := by
  obtain ⟨v, A, hW⟩ := hX
  refine x_met rfl rfl (Nat.le_of_ble_eq_true rfl) ?_
  obtain ⟨so, m0⟩ := hW.1
  refine x_aload_n d_MD_sizeErrors_0 rfl rfl (by first | rfl | assumption) ?_
  refine x_get 5 25 d_MD_sizeErrors_1 gf_MD_201 (by repeat (first | assumption | exact hs_self (by assumption) | exact hs_self (hs_ne (by omega) (by assumption)) | exact hs_self (hs_ne (by omega) (hs_ne (by omega) (by assumption))) | refine hs_ne (by omega) ?_)) (by rfl) ?_
  refine x_ireturn d_MD_sizeErrors_4 rfl ?_
  exact ⟨rfl, rfl⟩
set_option maxHeartbeats 1000000 in
theorem m_dataErrors (hX : MX h mo S) : xCt E 0 0 0 M_MD_dataErrors [.ref mo] h (rV (vI (zF S)) h) := by
  obtain ⟨v, A, hW⟩ := hX
  refine x_met rfl rfl (Nat.le_of_ble_eq_true rfl) ?_
  obtain ⟨so, m0⟩ := hW.1
  refine x_aload_n d_MD_dataErrors_0 rfl rfl (by first | rfl | assumption) ?_
  refine x_get 5 26 d_MD_dataErrors_1 gf_MD_208 (by repeat (first | assumption | exact hs_self (by assumption) | exact hs_self (hs_ne (by omega) (by assumption)) | exact hs_self (hs_ne (by omega) (hs_ne (by omega) (by assumption))) | refine hs_ne (by omega) ?_)) (by rfl) ?_
  refine x_ireturn d_MD_dataErrors_4 rfl ?_
  exact ⟨rfl, rfl⟩
theorem fW_eq {D : FD} (h4 : ¬ fM D = 4) (hm : fM D ≤ 4) : (if (fM D : Int) = 0 then (fN D : Int) else if (fM D : Int) = 1 then ((fN D / 2 + 1 : Nat) : Int) else if (fM D : Int) = 2 then (fN D : Int) + 1 else wB (fN D)) = fW D := by
  unfold fW
  rw [if_neg h4]
  have hc : fM D = 0 ∨ fM D = 1 ∨ fM D = 2 ∨ fM D = 3 := by omega
  rcases hc with hc | hc | hc | hc <;> rw [hc] <;> rfl
set_option maxHeartbeats 1000000 in
theorem m_size (z : Int) (hO : SO S) (hX : MX h mo S) (hz : iR z) : xCt E 1 0 0 M_MD_size [.ref mo, vI z] h (rV (vI (fSize S z)) h) := by
  obtain ⟨v, A, hW⟩ := hX
  refine x_met rfl rfl (Nat.le_of_ble_eq_true rfl) ?_
  obtain ⟨so, m0⟩ := hW.1
  have h12 := hO.1
  obtain ⟨h1, h2, h3, h4, h5, h6, h7, h8, h9, h10⟩ := hW.2.2.2.2.2.2.1
  refine x_aload_n d_MD_size_0 rfl rfl (by first | rfl | assumption) ?_
  refine x_iload_n d_MD_size_1 rfl rfl ?_
  refine x_callV1 (M' := M_MD_there) d_MD_size_2 lk_MD_126 (m_there z hO hW hz) mt_MD_there im_MD_there se_MD_there (by repeat (first | assumption | exact hs_self (by assumption) | exact hs_self (hs_ne (by omega) (by assumption)) | exact hs_self (hs_ne (by omega) (hs_ne (by omega) (by assumption))) | refine hs_ne (by omega) ?_)) rfl (by decide) rfl (Nat.le_of_ble_eq_true rfl) (by decide) (by decide) ?_
  refine j_if_ne 10 d_MD_size_5 (by decide) (by unfold iR; split <;> omega) (fun c5 => ?_) (fun c5 => ?_)
  · rw [ite10] at c5
    have hc := Classical.not_not.mp c5
    obtain ⟨f0, fu, fn, -, -, fe, f4⟩ := hW.2.2.2.2.2.2.2.2.2 z.toNat (by omega)
    obtain ⟨hm4, hn, -⟩ := (hO.2.2.2.2 z.toNat (by omega)).1
    have hz0 := hc.1
    have hz1 := hc.2
    refine x_aload_n d_MD_size_10 rfl rfl (by first | rfl | assumption) ?_
    refine x_get 5 17 d_MD_size_11 gf_MD_35 (by repeat (first | assumption | exact hs_self (by assumption) | exact hs_self (hs_ne (by omega) (by assumption)) | exact hs_self (hs_ne (by omega) (hs_ne (by omega) (by assumption))) | refine hs_ne (by omega) ?_)) (by rfl) ?_
    refine x_iload_n d_MD_size_14 rfl rfl ?_
    refine j_zald d_MD_size_15 (by repeat (first | assumption | exact hs_self (by assumption) | exact hs_self (hs_ne (by omega) (by assumption)) | exact hs_self (hs_ne (by omega) (hs_ne (by omega) (by assumption))) | refine hs_ne (by omega) ?_)) (by omega) (by omega) (by decide) ?_
    refine x_top (w := vI (if fM (zD S z.toNat) = 4 then 1 else 0)) (by rw [fe]) ?_
    refine j_if_eq 28 d_MD_size_16 (by decide) (by unfold iR; split <;> omega) (fun c16 => ?_) (fun c16 => ?_)
    · rw [ite10] at c16
      rw [if_neg c16] at fu
      refine x_aload_n d_MD_size_28 rfl rfl (by first | rfl | assumption) ?_
      refine x_get 5 13 d_MD_size_29 gf_MD_22 (by repeat (first | assumption | exact hs_self (by assumption) | exact hs_self (hs_ne (by omega) (by assumption)) | exact hs_self (hs_ne (by omega) (hs_ne (by omega) (by assumption))) | refine hs_ne (by omega) ?_)) (by rfl) ?_
      refine x_iload_n d_MD_size_32 rfl rfl ?_
      refine j_iald d_MD_size_33 (by repeat (first | assumption | exact hs_self (by assumption) | exact hs_self (hs_ne (by omega) (by assumption)) | exact hs_self (hs_ne (by omega) (hs_ne (by omega) (by assumption))) | refine hs_ne (by omega) ?_)) (by omega) (by omega) (by decide) ?_
      refine x_top (w := vI (fM (zD S z.toNat))) (by rw [fu]) ?_
      refine x_aload_n d_MD_size_34 rfl rfl (by first | rfl | assumption) ?_
      refine x_get 5 14 d_MD_size_35 gf_MD_25 (by repeat (first | assumption | exact hs_self (by assumption) | exact hs_self (hs_ne (by omega) (by assumption)) | exact hs_self (hs_ne (by omega) (hs_ne (by omega) (by assumption))) | refine hs_ne (by omega) ?_)) (by rfl) ?_
      refine x_iload_n d_MD_size_38 rfl rfl ?_
      refine j_iald d_MD_size_39 (by repeat (first | assumption | exact hs_self (by assumption) | exact hs_self (hs_ne (by omega) (by assumption)) | exact hs_self (hs_ne (by omega) (hs_ne (by omega) (by assumption))) | refine hs_ne (by omega) ?_)) (by omega) (by omega) (by decide) ?_
      refine x_top (w := vI (fN (zD S z.toNat))) (by rw [fn]) ?_
      refine x_callS1 (M' := M_MD_widthOf) d_MD_size_40 lk_MD_120 (c_widthOf E h _ _ (by omega) (by omega)) mt_MD_widthOf st_MD_widthOf (by decide) rfl (Nat.le_of_ble_eq_true rfl) (by decide) (by decide) ?_
      refine x_ireturn d_MD_size_43 rfl ?_
      exact rV_i (by rw [fW_eq c16 hm4]; unfold fSize; rw [if_pos hc]) rfl
    · rw [ite10] at c16
      have c16 := Classical.not_not.mp c16
      refine x_aload_n d_MD_size_19 rfl rfl (by first | rfl | assumption) ?_
      refine x_get 5 19 d_MD_size_20 gf_MD_41 (by repeat (first | assumption | exact hs_self (by assumption) | exact hs_self (hs_ne (by omega) (by assumption)) | exact hs_self (hs_ne (by omega) (hs_ne (by omega) (by assumption))) | refine hs_ne (by omega) ?_)) (by rfl) ?_
      refine x_iload_n d_MD_size_23 rfl rfl ?_
      refine j_iald d_MD_size_24 (by repeat (first | assumption | exact hs_self (by assumption) | exact hs_self (hs_ne (by omega) (by assumption)) | exact hs_self (hs_ne (by omega) (hs_ne (by omega) (by assumption))) | refine hs_ne (by omega) ?_)) (by omega) (by omega) (by decide) ?_
      refine x_goto 43 d_MD_size_25 (by decide) ?_
      refine x_ireturn d_MD_size_43 rfl ?_
      exact rV_i (by rw [(f4 c16).1]; unfold fSize fW; rw [if_pos hc, if_pos c16]) rfl
  · rw [ite10] at c5
    refine j_iconst d_MD_size_8 ?_
    refine x_ireturn d_MD_size_9 rfl ?_
    exact rV_i (by unfold fSize; rw [if_neg c5]) rfl
set_option maxHeartbeats 1000000 in
theorem m_shape (z : Int) (hO : SO S) (hX : MX h mo S) (hz : iR z) : xCt E 1 0 0 M_MD_shape [.ref mo, vI z] h (rV (vI (fShape S z)) h) := by
  obtain ⟨v, A, hW⟩ := hX
  refine x_met rfl rfl (Nat.le_of_ble_eq_true rfl) ?_
  obtain ⟨so, m0⟩ := hW.1
  have h12 := hO.1
  obtain ⟨h1, h2, h3, h4, h5, h6, h7, h8, h9, h10⟩ := hW.2.2.2.2.2.2.1
  refine x_aload_n d_MD_shape_0 rfl rfl (by first | rfl | assumption) ?_
  refine x_iload_n d_MD_shape_1 rfl rfl ?_
  refine x_callV1 (M' := M_MD_there) d_MD_shape_2 lk_MD_126 (m_there z hO hW hz) mt_MD_there im_MD_there se_MD_there (by repeat (first | assumption | exact hs_self (by assumption) | exact hs_self (hs_ne (by omega) (by assumption)) | exact hs_self (hs_ne (by omega) (hs_ne (by omega) (by assumption))) | refine hs_ne (by omega) ?_)) rfl (by decide) rfl (Nat.le_of_ble_eq_true rfl) (by decide) (by decide) ?_
  refine j_if_ne 10 d_MD_shape_5 (by decide) (by unfold iR; split <;> omega) (fun c5 => ?_) (fun c5 => ?_)
  · rw [ite10] at c5
    have hc := Classical.not_not.mp c5
    obtain ⟨f0, fu, fn, fs, fg, fe, f4⟩ := hW.2.2.2.2.2.2.2.2.2 z.toNat (by omega)
    obtain ⟨hm4, hn, hs, hg, -⟩ := (hO.2.2.2.2 z.toNat (by omega)).1
    have hz0 := hc.1
    have hz1 := hc.2
    have fin : ∀ (x y : Int) (L : List (Option Value)), x = (if fG (zD S z.toNat) = 1 then 256 else 0) → y = (if fM (zD S z.toNat) = 4 then 512 else 0) → X E M_MD_shape 1 0 0 (xZ E 0 0 (rV (vI (fShape S z)) h)) 59 L [vI y, vI ((fN (zD S z.toNat) : Int) + 16 * (fS (zD S z.toNat) : Int) + x)] h 0 0 := by
      intro x y L hx hy
      refine j_iadd d_MD_shape_59 ?_
      refine x_ireturn d_MD_shape_60 rfl ?_
      exact rV_i (by unfold fShape; rw [if_pos hc, hx, hy]) rfl
    have mid : ∀ (x : Int), x = (if fG (zD S z.toNat) = 1 then 256 else 0) → X E M_MD_shape 1 0 0 (xZ E 0 0 (rV (vI (fShape S z)) h)) 42 [some (.ref mo), some (vI z)] [vI x, vI ((fN (zD S z.toNat) : Int) + 16 * (fS (zD S z.toNat) : Int))] h 0 0 := by
      intro x hx
      refine j_iadd d_MD_shape_42 ?_
      refine x_aload_n d_MD_shape_43 rfl rfl (by first | rfl | assumption) ?_
      refine x_get 5 17 d_MD_shape_44 gf_MD_35 (by repeat (first | assumption | exact hs_self (by assumption) | exact hs_self (hs_ne (by omega) (by assumption)) | exact hs_self (hs_ne (by omega) (hs_ne (by omega) (by assumption))) | refine hs_ne (by omega) ?_)) (by rfl) ?_
      refine x_iload_n d_MD_shape_47 rfl rfl ?_
      refine j_zald d_MD_shape_48 (by repeat (first | assumption | exact hs_self (by assumption) | exact hs_self (hs_ne (by omega) (by assumption)) | exact hs_self (hs_ne (by omega) (hs_ne (by omega) (by assumption))) | refine hs_ne (by omega) ?_)) (by omega) (by omega) (by decide) ?_
      refine x_top (w := vI (if fM (zD S z.toNat) = 4 then 1 else 0)) (by rw [fe]) ?_
      refine j_if_eq 58 d_MD_shape_49 (by decide) (by unfold iR; split <;> omega) (fun c49 => ?_) (fun c49 => ?_)
      · rw [ite10] at c49
        refine j_iconst d_MD_shape_58 ?_
        exact fin _ _ _ hx (by rw [if_neg c49])
      · rw [ite10] at c49
        refine j_sipush d_MD_shape_52 (by decide) ?_
        refine x_goto 59 d_MD_shape_55 (by decide) ?_
        exact fin _ _ _ hx (by rw [if_pos (Classical.not_not.mp c49)])
    refine x_aload_n d_MD_shape_10 rfl rfl (by first | rfl | assumption) ?_
    refine x_get 5 14 d_MD_shape_11 gf_MD_25 (by repeat (first | assumption | exact hs_self (by assumption) | exact hs_self (hs_ne (by omega) (by assumption)) | exact hs_self (hs_ne (by omega) (hs_ne (by omega) (by assumption))) | refine hs_ne (by omega) ?_)) (by rfl) ?_
    refine x_iload_n d_MD_shape_14 rfl rfl ?_
    refine j_iald d_MD_shape_15 (by repeat (first | assumption | exact hs_self (by assumption) | exact hs_self (hs_ne (by omega) (by assumption)) | exact hs_self (hs_ne (by omega) (hs_ne (by omega) (by assumption))) | refine hs_ne (by omega) ?_)) (by omega) (by omega) (by decide) ?_
    refine x_top (w := vI (fN (zD S z.toNat))) (by rw [fn]) ?_
    refine j_bipush d_MD_shape_16 (by decide) ?_
    refine x_aload_n d_MD_shape_18 rfl rfl (by first | rfl | assumption) ?_
    refine x_get 5 15 d_MD_shape_19 gf_MD_28 (by repeat (first | assumption | exact hs_self (by assumption) | exact hs_self (hs_ne (by omega) (by assumption)) | exact hs_self (hs_ne (by omega) (hs_ne (by omega) (by assumption))) | refine hs_ne (by omega) ?_)) (by rfl) ?_
    refine x_iload_n d_MD_shape_22 rfl rfl ?_
    refine j_iald d_MD_shape_23 (by repeat (first | assumption | exact hs_self (by assumption) | exact hs_self (hs_ne (by omega) (by assumption)) | exact hs_self (hs_ne (by omega) (hs_ne (by omega) (by assumption))) | refine hs_ne (by omega) ?_)) (by omega) (by omega) (by decide) ?_
    refine x_top (w := vI (fS (zD S z.toNat))) (by rw [fs]) ?_
    refine j_imul d_MD_shape_24 ?_
    refine j_iadd d_MD_shape_25 ?_
    refine x_aload_n d_MD_shape_26 rfl rfl (by first | rfl | assumption) ?_
    refine x_get 5 16 d_MD_shape_27 gf_MD_31 (by repeat (first | assumption | exact hs_self (by assumption) | exact hs_self (hs_ne (by omega) (by assumption)) | exact hs_self (hs_ne (by omega) (hs_ne (by omega) (by assumption))) | refine hs_ne (by omega) ?_)) (by rfl) ?_
    refine x_iload_n d_MD_shape_30 rfl rfl ?_
    refine j_zald d_MD_shape_31 (by repeat (first | assumption | exact hs_self (by assumption) | exact hs_self (hs_ne (by omega) (by assumption)) | exact hs_self (hs_ne (by omega) (hs_ne (by omega) (by assumption))) | refine hs_ne (by omega) ?_)) (by omega) (by omega) (by decide) ?_
    refine x_top (w := vI (fG (zD S z.toNat))) (by rw [fg]) ?_
    refine j_if_eq 41 d_MD_shape_32 (by decide) (by unfold iR; omega) (fun c32 => ?_) (fun c32 => ?_)
    · refine j_iconst d_MD_shape_41 ?_
      exact mid _ (by rw [if_neg (by omega)])
    · refine j_sipush d_MD_shape_35 (by decide) ?_
      refine x_goto 42 d_MD_shape_38 (by decide) ?_
      exact mid _ (by rw [if_pos (by omega)])
  · rw [ite10] at c5
    refine j_iconst d_MD_shape_8 ?_
    refine x_ireturn d_MD_shape_9 rfl ?_
    exact rV_i (by unfold fShape; rw [if_neg c5]) rfl
set_option maxHeartbeats 1000000 in
theorem m_peek (p : Int) (hX : MX h mo S) (hp : iR p) : xCt E 1 0 0 M_MD_peek [.ref mo, vI p] h (rV (vI (fPeek S p)) h) := by
  obtain ⟨v, A, hW⟩ := hX
  refine x_met rfl rfl (Nat.le_of_ble_eq_true rfl) ?_
  obtain ⟨so, m0⟩ := hW.1
  have m1 := hW.2.2.2.1
  unfold iR at hp
  refine x_iload_n d_MD_peek_0 rfl rfl ?_
  refine j_if_lt 10 d_MD_peek_1 (by decide) (by unfold iR; omega) (fun c1 => ?_) (fun c1 => ?_)
  · refine j_iconst d_MD_peek_10 ?_
    refine x_goto 20 d_MD_peek_11 (by decide) ?_
    refine x_ireturn d_MD_peek_20 rfl ?_
    exact rV_i (by unfold fPeek; rw [if_neg (by omega)]) rfl
  · refine x_iload_n d_MD_peek_4 rfl rfl ?_
    refine j_bipush d_MD_peek_5 (by decide) ?_
    refine j_icmp_le 14 d_MD_peek_7 (by decide) (by unfold iR; omega) (by unfold iR; omega) (fun c7 => ?_) (fun c7 => ?_)
    · refine x_aload_n d_MD_peek_14 rfl rfl (by first | rfl | assumption) ?_
      refine x_get 5 0 d_MD_peek_15 gf_MD_7 (by repeat (first | assumption | exact hs_self (by assumption) | exact hs_self (hs_ne (by omega) (by assumption)) | exact hs_self (hs_ne (by omega) (hs_ne (by omega) (by assumption))) | refine hs_ne (by omega) ?_)) (by rfl) ?_
      refine x_iload_n d_MD_peek_18 rfl rfl ?_
      refine j_iald d_MD_peek_19 (by repeat (first | assumption | exact hs_self (by assumption) | exact hs_self (hs_ne (by omega) (by assumption)) | exact hs_self (hs_ne (by omega) (hs_ne (by omega) (by assumption))) | refine hs_ne (by omega) ?_)) (by omega) (by omega) (by decide) ?_
      refine x_ireturn d_MD_peek_20 rfl ?_
      exact rV_i (by unfold fPeek; rw [if_pos (by omega)]) rfl
    · refine j_iconst d_MD_peek_10 ?_
      refine x_goto 20 d_MD_peek_11 (by decide) ?_
      refine x_ireturn d_MD_peek_20 rfl ?_
      exact rV_i (by unfold fPeek; rw [if_neg (by omega)]) rfl
set_option maxHeartbeats 1000000 in
theorem m_poke (p b : Int) (hX : MX h mo S) (hp : iR p) (hb : iR b) : xCt E 1 0 0 M_MD_poke [.ref mo, vI p, vI b] h (rQ (pM mo h (fPoke S p b))) := by
  obtain ⟨v, A, hW⟩ := hX
  refine x_met rfl rfl (Nat.le_of_ble_eq_true rfl) ?_
  obtain ⟨so, m0⟩ := hW.1
  have m1 := hW.2.2.2.1
  obtain ⟨T, m14, hT⟩ := hW.2.2.2.2.2.2.2.1
  unfold iR at hp hb
  have bad : ¬ (0 ≤ p ∧ p < 64 ∧ 0 ≤ b ∧ b ≤ 255) → ∀ L : List (Option Value), X E M_MD_poke 1 0 0 (xZ E 0 0 (rQ (pM mo h (fPoke S p b)))) 21 L [] h 0 0 := by
    intro hb L
    refine j_iconst d_MD_poke_21 ?_
    refine j_zreturn d_MD_poke_22 rfl (by omega) ?_
    unfold fPoke
    rw [if_neg hb]
    exact ⟨_, rfl, rfl, ⟨v, A, hW⟩, frM_refl _ _⟩
  refine x_iload_n d_MD_poke_0 rfl rfl ?_
  refine j_if_lt 21 d_MD_poke_1 (by decide) (by unfold iR; omega) (fun c1 => ?_) (fun c1 => ?_)
  · exact bad (by omega) _
  · refine x_iload_n d_MD_poke_4 rfl rfl ?_
    refine j_bipush d_MD_poke_5 (by decide) ?_
    refine j_icmp_gt 21 d_MD_poke_7 (by decide) (by unfold iR; omega) (by unfold iR; omega) (fun c7 => ?_) (fun c7 => ?_)
    · exact bad (by omega) _
    · refine x_iload_n d_MD_poke_10 rfl rfl ?_
      refine j_if_lt 21 d_MD_poke_11 (by decide) (by unfold iR; omega) (fun c11 => ?_) (fun c11 => ?_)
      · exact bad (by omega) _
      · refine x_iload_n d_MD_poke_14 rfl rfl ?_
        refine j_sipush d_MD_poke_15 (by decide) ?_
        refine j_icmp_le 23 d_MD_poke_18 (by decide) (by unfold iR; omega) (by unfold iR; omega) (fun c18 => ?_) (fun c18 => ?_)
        · refine x_aload_n d_MD_poke_23 rfl rfl (by first | rfl | assumption) ?_
          refine x_get 5 0 d_MD_poke_24 gf_MD_7 (by repeat (first | assumption | exact hs_self (by assumption) | exact hs_self (hs_ne (by omega) (by assumption)) | exact hs_self (hs_ne (by omega) (hs_ne (by omega) (by assumption))) | refine hs_ne (by omega) ?_)) (by rfl) ?_
          refine x_iload_n d_MD_poke_27 rfl rfl ?_
          refine x_iload_n d_MD_poke_28 rfl rfl ?_
          refine j_iast d_MD_poke_29 (by repeat (first | assumption | exact hs_self (by assumption) | exact hs_self (hs_ne (by omega) (by assumption)) | exact hs_self (hs_ne (by omega) (hs_ne (by omega) (by assumption))) | refine hs_ne (by omega) ?_)) (by omega) (by omega) (by decide) ?_
          refine j_iconst d_MD_poke_30 ?_
          refine j_zreturn d_MD_poke_31 rfl (by omega) ?_
          unfold fPoke
          rw [if_pos (by omega)]
          have := MW_byte (B := gU (zB S) p.toNat b) hW hT
          rw [hset_id m14] at this
          exact ⟨_, rfl, rfl, ⟨v, A, this⟩, frM_set (frM_refl _ _) (by omega)⟩
        · exact bad (by omega) _
set_option maxHeartbeats 1000000 in
theorem m_value (z : Int) (hO : SO S) (hX : MX h mo S) (hz : iR z) : xCt E 8 0 0 M_MD_value [.ref mo, vI z] h (rQ (fun w h' => w = vL (fValue S z) ∧ MX h' mo S ∧ frM mo h h')) := by
  obtain ⟨v, A, hW⟩ := hX
  refine x_met rfl rfl (Nat.le_of_ble_eq_true rfl) ?_
  obtain ⟨so, m0⟩ := hW.1
  have h12 := hO.1
  refine x_aload_n d_MD_value_0 rfl rfl (by first | rfl | assumption) ?_
  refine x_iload_n d_MD_value_1 rfl rfl ?_
  refine x_callV1 (M' := M_MD_there) d_MD_value_2 lk_MD_126 (m_there z hO hW hz) mt_MD_there im_MD_there se_MD_there (by repeat (first | assumption | exact hs_self (by assumption) | exact hs_self (hs_ne (by omega) (by assumption)) | exact hs_self (hs_ne (by omega) (hs_ne (by omega) (by assumption))) | refine hs_ne (by omega) ?_)) rfl (by decide) rfl (Nat.le_of_ble_eq_true rfl) (by decide) (by decide) ?_
  refine j_if_ne 12 d_MD_value_5 (by decide) (by unfold iR; split <;> omega) (fun c5 => ?_) (fun c5 => ?_)
  · rw [ite10] at c5
    have hc := Classical.not_not.mp c5
    obtain ⟨i, rfl⟩ : ∃ i : Nat, z = (i : Int) := ⟨z.toNat, by omega⟩
    refine x_aload_n d_MD_value_12 rfl rfl (by first | rfl | assumption) ?_
    refine x_iload_n d_MD_value_13 rfl rfl ?_
    refine x_callVq (M' := M_MD_units) d_MD_value_14 lk_MD_181 (m_units i hO hW (by omega)) mt_MD_units im_MD_units se_MD_units (by repeat (first | assumption | exact hs_self (by assumption) | exact hs_self (hs_ne (by omega) (by assumption)) | exact hs_self (hs_ne (by omega) (hs_ne (by omega) (by assumption))) | refine hs_ne (by omega) ?_)) rfl (by decide) rfl (Nat.le_of_ble_eq_true rfl) (by decide) (by decide) ?_
    rintro w h' ⟨u, so', rfl, hub, hux, hW', hf', -, m0', hs, hs2⟩
    refine x_lstore_n d_MD_value_17 rfl (Nat.le_of_ble_eq_true rfl) ?_
    refine x_aload_n d_MD_value_18 rfl rfl (by first | rfl | assumption) ?_
    refine x_get 5 24 d_MD_value_19 gf_MD_158 (by repeat (first | assumption | exact hs_self (by assumption) | exact hs_self (hs_ne (by omega) (by assumption)) | exact hs_self (hs_ne (by omega) (hs_ne (by omega) (by assumption))) | refine hs_ne (by omega) ?_)) (by rfl) ?_
    refine j_if_eq 29 d_MD_value_22 (by decide) (by unfold iR; omega) (fun c22 => ?_) (fun c22 => ?_)
    · refine x_ldc2 d_MD_value_29 kl_MD_184 ?_
      refine x_lreturn d_MD_value_32 rfl ?_
      have hn : uA (zD S i) (zB S) = none := Classical.byContradiction (fun q => by have := hs2.mpr q; omega)
      exact ⟨_, rfl, by unfold fValue; rw [if_pos hc, Int.toNat_natCast, hn]; rfl, ⟨v, A, hW'⟩, hf'⟩
    · refine x_lload_n d_MD_value_25 rfl rfl ?_
      refine x_goto 32 d_MD_value_26 (by decide) ?_
      refine x_lreturn d_MD_value_32 rfl ?_
      obtain ⟨x, hx⟩ : ∃ x, uA (zD S i) (zB S) = some x := Option.ne_none_iff_exists'.mp (hs2.mp (by omega))
      exact ⟨_, rfl, by unfold fValue; rw [if_pos hc, Int.toNat_natCast, hx, hux x hx]; rfl, ⟨v, A, hW'⟩, hf'⟩
  · rw [ite10] at c5
    refine x_ldc2 d_MD_value_8 kl_MD_184 ?_
    refine x_lreturn d_MD_value_11 rfl ?_
    exact ⟨_, rfl, by unfold fValue; rw [if_neg c5]; rfl, ⟨v, A, hW⟩, frM_refl _ _⟩
set_option maxHeartbeats 1000000 in
theorem m_put (z x sc : Int) (hO : SO S) (hX : MX h mo S) (hz : iR z) (hx : iR x) (hsc : iR sc) : xCt E 7 0 0 M_MD_put [.ref mo, vI z, vI x, vI sc] h (rQ (pM mo h (fPut S z x sc))) := by
  obtain ⟨v, A, hW⟩ := hX
  refine x_met rfl rfl (Nat.le_of_ble_eq_true rfl) ?_
  obtain ⟨so, m0⟩ := hW.1
  have h12 := hO.1
  unfold iR at hsc hx
  have bad : ¬ (th S z ∧ 0 ≤ sc ∧ sc ≤ 9) → ∀ L : List (Option Value), X E M_MD_put 7 0 0 (xZ E 0 0 (rQ (pM mo h (fPut S z x sc)))) 18 L [] h 0 0 := by
    intro hb L
    refine j_iconst d_MD_put_18 ?_
    refine j_zreturn d_MD_put_19 rfl (by omega) ?_
    unfold fPut
    rw [if_neg hb]
    exact ⟨_, rfl, rfl, ⟨v, A, hW⟩, frM_refl _ _⟩
  refine x_aload_n d_MD_put_0 rfl rfl (by first | rfl | assumption) ?_
  refine x_iload_n d_MD_put_1 rfl rfl ?_
  refine x_callV1 (M' := M_MD_there) d_MD_put_2 lk_MD_126 (m_there z hO hW hz) mt_MD_there im_MD_there se_MD_there (by repeat (first | assumption | exact hs_self (by assumption) | exact hs_self (hs_ne (by omega) (by assumption)) | exact hs_self (hs_ne (by omega) (hs_ne (by omega) (by assumption))) | refine hs_ne (by omega) ?_)) rfl (by decide) rfl (Nat.le_of_ble_eq_true rfl) (by decide) (by decide) ?_
  refine j_if_eq 18 d_MD_put_5 (by decide) (by unfold iR; split <;> omega) (fun c5 => ?_) (fun c5 => ?_)
  · rw [ite10] at c5
    exact bad (by omega) _
  · rw [ite10] at c5
    have hc := Classical.not_not.mp c5
    refine x_iload_n d_MD_put_8 rfl rfl ?_
    refine j_if_lt 18 d_MD_put_9 (by decide) (by unfold iR; omega) (fun c9 => ?_) (fun c9 => ?_)
    · exact bad (by omega) _
    · refine x_iload_n d_MD_put_12 rfl rfl ?_
      refine j_bipush d_MD_put_13 (by decide) ?_
      refine j_icmp_le 20 d_MD_put_15 (by decide) (by unfold iR; omega) (by unfold iR; omega) (fun c15 => ?_) (fun c15 => ?_)
      · obtain ⟨i, rfl⟩ : ∃ i : Nat, z = (i : Int) := ⟨z.toNat, by omega⟩
        obtain ⟨s, rfl⟩ : ∃ s : Nat, sc = (s : Int) := ⟨sc.toNat, by omega⟩
        refine x_aload_n d_MD_put_20 rfl rfl (by first | rfl | assumption) ?_
        refine x_iload_n d_MD_put_21 rfl rfl ?_
        refine j_i2l d_MD_put_22 (by unfold iR; omega) ?_
        refine x_iload_n d_MD_put_23 rfl rfl ?_
        refine x_callS1 (M' := M_MD_power) d_MD_put_24 lk_MD_138 (c_power E h s (by omega)) mt_MD_power st_MD_power (by decide) rfl (Nat.le_of_ble_eq_true rfl) (by decide) (by decide) ?_
        refine x_iload_n d_MD_put_27 rfl rfl ?_
        refine x_callVp (M' := M_MD_transfer) d_MD_put_28 lk_MD_204 (m_transfer i s x hO hW (by omega) (by omega) (by omega)) mt_MD_transfer im_MD_transfer se_MD_transfer (by repeat (first | assumption | exact hs_self (by assumption) | exact hs_self (hs_ne (by omega) (by assumption)) | exact hs_self (hs_ne (by omega) (hs_ne (by omega) (by assumption))) | refine hs_ne (by omega) ?_)) rfl (by decide) rfl (Nat.le_of_ble_eq_true rfl) (by decide) (by decide) ?_
        rintro h' ⟨hW', hf'⟩
        refine j_iconst d_MD_put_31 ?_
        refine j_zreturn d_MD_put_32 rfl (by omega) ?_
        unfold fPut
        rw [if_pos (by omega), Int.toNat_natCast, Int.toNat_natCast]
        exact ⟨_, rfl, rfl, ⟨v, A, hW'⟩, hf'⟩
      · exact bad (by omega) _
set_option maxHeartbeats 1000000 in
theorem m_move (a b : Int) (hO : SO S) (hX : MX h mo S) (ha : iR a) (hb : iR b) : xCt E 9 0 0 M_MD_move [.ref mo, vI a, vI b] h (rQ (pM mo h (fMove S a b))) := by
  obtain ⟨v, A, hW⟩ := hX
  refine x_met rfl rfl (Nat.le_of_ble_eq_true rfl) ?_
  obtain ⟨so, m0⟩ := hW.1
  have h12 := hO.1
  have bad : ¬ (th S a ∧ th S b) → ∀ L : List (Option Value), X E M_MD_move 9 0 0 (xZ E 0 0 (rQ (pM mo h (fMove S a b)))) 16 L [] h 0 0 := by
    intro hb L
    refine j_iconst d_MD_move_16 ?_
    refine x_ireturn d_MD_move_17 rfl ?_
    unfold fMove
    rw [if_neg hb]
    exact ⟨_, rfl, rfl, ⟨v, A, hW⟩, frM_refl _ _⟩
  refine x_aload_n d_MD_move_0 rfl rfl (by first | rfl | assumption) ?_
  refine x_iload_n d_MD_move_1 rfl rfl ?_
  refine x_callV1 (M' := M_MD_there) d_MD_move_2 lk_MD_126 (m_there a hO hW ha) mt_MD_there im_MD_there se_MD_there (by repeat (first | assumption | exact hs_self (by assumption) | exact hs_self (hs_ne (by omega) (by assumption)) | exact hs_self (hs_ne (by omega) (hs_ne (by omega) (by assumption))) | refine hs_ne (by omega) ?_)) rfl (by decide) rfl (Nat.le_of_ble_eq_true rfl) (by decide) (by decide) ?_
  refine j_if_eq 16 d_MD_move_5 (by decide) (by unfold iR; split <;> omega) (fun c5 => ?_) (fun c5 => ?_)
  · rw [ite10] at c5
    exact bad (by omega) _
  · rw [ite10] at c5
    have hca := Classical.not_not.mp c5
    refine x_aload_n d_MD_move_8 rfl rfl (by first | rfl | assumption) ?_
    refine x_iload_n d_MD_move_9 rfl rfl ?_
    refine x_callV1 (M' := M_MD_there) d_MD_move_10 lk_MD_126 (m_there b hO hW hb) mt_MD_there im_MD_there se_MD_there (by repeat (first | assumption | exact hs_self (by assumption) | exact hs_self (hs_ne (by omega) (by assumption)) | exact hs_self (hs_ne (by omega) (hs_ne (by omega) (by assumption))) | refine hs_ne (by omega) ?_)) rfl (by decide) rfl (Nat.le_of_ble_eq_true rfl) (by decide) (by decide) ?_
    refine j_if_ne 18 d_MD_move_13 (by decide) (by unfold iR; split <;> omega) (fun c13 => ?_) (fun c13 => ?_)
    · rw [ite10] at c13
      have hcb := Classical.not_not.mp c13
      obtain ⟨i, rfl⟩ : ∃ i : Nat, a = (i : Int) := ⟨a.toNat, by omega⟩
      obtain ⟨j, rfl⟩ : ∃ j : Nat, b = (j : Int) := ⟨b.toNat, by omega⟩
      have hin : i < zN S := by omega
      have hjn : j < zN S := by omega
      have hu9 := uA_9 (hO.2.2.2.2 i hin).1 hO.2.2.2.1
      have hsi := (hO.2.2.2.2 i hin).1.2.2.1
      refine x_aload_n d_MD_move_18 rfl rfl (by first | rfl | assumption) ?_
      refine x_iload_n d_MD_move_19 rfl rfl ?_
      refine x_callVq (M' := M_MD_isSound) d_MD_move_20 lk_MD_211 (m_isSound i hO hW hin) mt_MD_isSound im_MD_isSound se_MD_isSound (by repeat (first | assumption | exact hs_self (by assumption) | exact hs_self (hs_ne (by omega) (by assumption)) | exact hs_self (hs_ne (by omega) (hs_ne (by omega) (by assumption))) | refine hs_ne (by omega) ?_)) rfl (by decide) rfl (Nat.le_of_ble_eq_true rfl) (by decide) (by decide) ?_
      rintro w h1 ⟨rfl, hW1, hf1⟩
      obtain ⟨so1, m01⟩ := hW1.1
      refine j_if_ne 31 d_MD_move_23 (by decide) (by unfold iR; split <;> omega) (fun c23 => ?_) (fun c23 => ?_)
      · rw [ite01] at c23
        obtain ⟨x, hx⟩ : ∃ x, uA (zD S i) (zB S) = some x := Option.ne_none_iff_exists'.mp c23
        have hxb := hu9 x hx
        refine x_aload_n d_MD_move_31 rfl rfl (by first | rfl | assumption) ?_
        refine x_aload_n d_MD_move_32 rfl rfl (by first | rfl | assumption) ?_
        refine x_iload_n d_MD_move_33 rfl rfl ?_
        refine x_callVq (M' := M_MD_units) d_MD_move_34 lk_MD_181 (m_units i hO hW1 hin) mt_MD_units im_MD_units se_MD_units (by repeat (first | assumption | exact hs_self (by assumption) | exact hs_self (hs_ne (by omega) (by assumption)) | exact hs_self (hs_ne (by omega) (hs_ne (by omega) (by assumption))) | refine hs_ne (by omega) ?_)) rfl (by decide) rfl (Nat.le_of_ble_eq_true rfl) (by decide) (by decide) ?_
        rintro w h2 ⟨u, so', rfl, hub, hux, hW2, hf2, -, m02, hs, hs2⟩
        obtain rfl := hux x hx
        obtain ⟨h1', h2', h3', h4', -⟩ := hW2.2.2.2.2.2.2.1
        obtain ⟨-, -, -, fs, -⟩ := hW2.2.2.2.2.2.2.2.2.2 i hin
        refine x_aload_n d_MD_move_37 rfl rfl (by first | rfl | assumption) ?_
        refine x_get 5 15 d_MD_move_38 gf_MD_28 (by repeat (first | assumption | exact hs_self (by assumption) | exact hs_self (hs_ne (by omega) (by assumption)) | exact hs_self (hs_ne (by omega) (hs_ne (by omega) (by assumption))) | refine hs_ne (by omega) ?_)) (by rfl) ?_
        refine x_iload_n d_MD_move_41 rfl rfl ?_
        refine j_iald d_MD_move_42 (by repeat (first | assumption | exact hs_self (by assumption) | exact hs_self (hs_ne (by omega) (by assumption)) | exact hs_self (hs_ne (by omega) (hs_ne (by omega) (by assumption))) | refine hs_ne (by omega) ?_)) (by omega) (by omega) (by decide) ?_
        refine x_top (w := vI (fS (zD S i))) (by rw [Int.toNat_natCast, fs]) ?_
        refine x_callS1 (M' := M_MD_power) d_MD_move_43 lk_MD_138 (c_power E h2 (fS (zD S i)) (by omega)) mt_MD_power st_MD_power (by decide) rfl (Nat.le_of_ble_eq_true rfl) (by decide) (by decide) ?_
        refine x_iload_n d_MD_move_46 rfl rfl ?_
        refine x_callVp (M' := M_MD_transfer) d_MD_move_47 lk_MD_204 (m_transfer j (fS (zD S i)) u hO hW2 hjn (by omega) (by omega)) mt_MD_transfer im_MD_transfer se_MD_transfer (by repeat (first | assumption | exact hs_self (by assumption) | exact hs_self (hs_ne (by omega) (by assumption)) | exact hs_self (hs_ne (by omega) (hs_ne (by omega) (by assumption))) | refine hs_ne (by omega) ?_)) rfl (by decide) rfl (Nat.le_of_ble_eq_true rfl) (by decide) (by decide) ?_
        rintro h3 ⟨hW3, hf3⟩
        refine j_iconst d_MD_move_50 ?_
        refine x_ireturn d_MD_move_51 rfl ?_
        unfold fMove
        rw [if_pos ⟨hca, hcb⟩, Int.toNat_natCast, Int.toNat_natCast, hx]
        exact ⟨_, rfl, rfl, ⟨v, A, hW3⟩, frM_trans hf1 (frM_trans hf2 hf3)⟩
      · rw [ite01] at c23
        have hn := c23
        refine x_aload_n d_MD_move_26 rfl rfl (by first | rfl | assumption) ?_
        refine x_callVq (M' := M_MD_badData) d_MD_move_27 lk_MD_214 (m_badData hW1) mt_MD_badData im_MD_badData se_MD_badData (by repeat (first | assumption | exact hs_self (by assumption) | exact hs_self (hs_ne (by omega) (by assumption)) | exact hs_self (hs_ne (by omega) (hs_ne (by omega) (by assumption))) | refine hs_ne (by omega) ?_)) rfl (by decide) rfl (Nat.le_of_ble_eq_true rfl) (by decide) (by decide) ?_
        rintro w h2 ⟨rfl, hW2, hf2⟩
        refine x_ireturn d_MD_move_30 rfl ?_
        unfold fMove
        rw [if_pos ⟨hca, hcb⟩, Int.toNat_natCast, Int.toNat_natCast, hn]
        exact ⟨_, rfl, rfl, ⟨v, A, hW2⟩, frM_trans hf1 hf2⟩
    · rw [ite10] at c13
      exact bad (by omega) _
end MP
