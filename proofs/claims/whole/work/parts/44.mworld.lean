/-! the model's world -/
def MW (h : xH) (mo : Nat) (v : Nat → Int) (A : MA) (S : ST) : Prop := (∃ so, h[mo]? = some (oM mo v so (zE S) (zF S))) ∧ v 2 = zL S ∧ v 11 = zN S ∧ h[mo + 1]? = some (aI 64 (zB S)) ∧ h[mo + 2]? = some (aI 24 (zR S)) ∧ (∃ G : Nat → Int, h[mo + 3]? = some (aI 18 G)) ∧ mR h mo A ∧ (∃ T : Nat → Int, h[mo + 14]? = some (aI 18 T) ∧ ∀ i, i < 18 → iR (T i)) ∧ (∃ H : Nat → Int, h[mo + 15]? = some (aL 12 H)) ∧ ∀ j, j < zN S → mF A j (zD S j)
/-- the cells that are not the model's are as they were -/
def frM (mo : Nat) (h h' : xH) : Prop := ∀ i, i < mo ∨ mo + 16 ≤ i → h'[i]? = h[i]?
theorem frM_refl (mo : Nat) (h : xH) : frM mo h h := fun _ _ => rfl
theorem frM_trans {mo : Nat} {h h1 h2 : xH} (a : frM mo h h1) (b : frM mo h1 h2) : frM mo h h2 := fun i x => by rw [b i x, a i x]
theorem frM_set {mo : Nat} {h h1 : xH} {o : Nat} {e : va_E} (a : frM mo h h1) (ho : mo ≤ o ∧ o < mo + 16) : frM mo h (h1.set o e) := fun i x => by rw [List.getElem?_set_ne (by omega), a i x]
theorem MW_fr {h h' : xH} {mo : Nat} {v : Nat → Int} {A : MA} {S : ST} (hW : MW h mo v A S) (hf : ∀ i, mo ≤ i → i < mo + 16 → h'[i]? = h[i]?) : MW h' mo v A S := by
  obtain ⟨⟨so, m0⟩, v2, v11, m1, m2, ⟨G, m3⟩, hR, ⟨T, m14, hT⟩, ⟨H, m15⟩, hF⟩ := hW
  obtain ⟨h1, h2, h3, h4, h5, h6, h7, h8, h9, h10⟩ := hR
  refine ⟨⟨so, by rw [hf _ (by omega) (by omega)]; exact m0⟩, v2, v11, by rw [hf _ (by omega) (by omega)]; exact m1, by rw [hf _ (by omega) (by omega)]; exact m2, ⟨G, by rw [hf _ (by omega) (by omega)]; exact m3⟩, ⟨?_, ?_, ?_, ?_, ?_, ?_, ?_, ?_, ?_, ?_⟩, ⟨T, by rw [hf _ (by omega) (by omega)]; exact m14, hT⟩, ⟨H, by rw [hf _ (by omega) (by omega)]; exact m15⟩, hF⟩
  all_goals rw [hf _ (by omega) (by omega)]; assumption
/-- a step that changes the text, the bytes and the object alone -/
theorem MW_step {h : xH} {mo : Nat} {v v' : Nat → Int} {A : MA} {S : ST} {T B : Nat → Int} {so se de : Int} {L : Nat} (hW : MW h mo v A S) (hT : ∀ i, i < 18 → iR (T i)) (h2 : v' 2 = L) (h11 : v' 11 = zN S) : MW (((h.set (mo + 14) (aI 18 T)).set (mo + 1) (aI 64 B)).set mo (oM mo v' so se de)) mo v' A (B, zR S, L, zN S, zD S, se, de) := by
  obtain ⟨⟨so0, m0⟩, v2, v11, m1, m2, ⟨G, m3⟩, hR, ⟨T0, m14, hT0⟩, ⟨H, m15⟩, hF⟩ := hW
  exact ⟨⟨so, hs_self (hs_ne (by omega) (hs_ne (by omega) m0))⟩, h2, h11, hs_ne (by omega) (hs_self (hs_ne (by omega) m1)), hs_ne (by omega) (hs_ne (by omega) (hs_ne (by omega) m2)), ⟨G, hs_ne (by omega) (hs_ne (by omega) (hs_ne (by omega) m3))⟩, mR_set (mR_set (mR_set hR (by omega)) (by omega)) (by omega), ⟨T, hs_ne (by omega) (hs_ne (by omega) (hs_self m14)), hT⟩, ⟨H, hs_ne (by omega) (hs_ne (by omega) (hs_ne (by omega) m15))⟩, hF⟩
theorem MW_text {h : xH} {mo : Nat} {v : Nat → Int} {A : MA} {S : ST} {T : Nat → Int} {so : Int} (hW : MW h mo v A S) (hT : ∀ i, i < 18 → iR (T i)) : MW ((h.set (mo + 14) (aI 18 T)).set mo (oM mo v so (zE S) (zF S))) mo v A S := by
  have := MW_step (v' := v) (B := zB S) (so := so) (se := zE S) (de := zF S) (L := zL S) hW hT hW.2.1 hW.2.2.1
  rw [hset_id (hs_ne (by omega) hW.2.2.2.1)] at this
  exact this
theorem MW_byte {h : xH} {mo : Nat} {v : Nat → Int} {A : MA} {S : ST} {T B : Nat → Int} (hW : MW h mo v A S) (hT : ∀ i, i < 18 → iR (T i)) : MW ((h.set (mo + 14) (aI 18 T)).set (mo + 1) (aI 64 B)) mo v A (sB S B) := by
  obtain ⟨so, m0⟩ := hW.1
  have := MW_step (v' := v) (B := B) (so := so) (se := zE S) (de := zF S) (L := zL S) hW hT hW.2.1 hW.2.2.1
  rw [hset_id (hs_ne (by omega) (hs_ne (by omega) m0))] at this
  exact this
theorem MW_obj {h : xH} {mo : Nat} {v v' : Nat → Int} {A : MA} {S : ST} {so se de : Int} {L : Nat} (hW : MW h mo v A S) (h2 : v' 2 = L) (h11 : v' 11 = zN S) : MW (h.set mo (oM mo v' so se de)) mo v' A (zB S, zR S, L, zN S, zD S, se, de) := by
  have h1 := hW.2.2.2.2.2.2.2.1
  obtain ⟨T, m14, hT⟩ := h1
  have := MW_step (v' := v') (B := zB S) (so := so) (se := se) (de := de) (L := L) hW hT h2 h11
  rw [hset_id m14, hset_id hW.2.2.2.1] at this
  exact this
section MH
variable {E : xEnv} {h : xH} {mo : Nat} {v : Nat → Int} {A : MA} {S : ST}
set_option maxHeartbeats 1000000 in
theorem m_there (z : Int) (hO : SO S) (hW : MW h mo v A S) (hz : iR z) : xCt E 0 0 0 M_MD_there [.ref mo, vI z] h (rV (vI (if th S z then 1 else 0)) h) := by
  refine x_met rfl rfl (Nat.le_of_ble_eq_true rfl) ?_
  obtain ⟨so, m0⟩ := hW.1
  have v11 := hW.2.2.1
  have h12 := hO.1
  unfold iR at hz
  refine x_iload_n d_MD_there_0 rfl rfl ?_
  refine j_if_lt 16 d_MD_there_1 (by decide) (by unfold iR; omega) (fun c1 => ?_) (fun c1 => ?_)
  · refine j_iconst d_MD_there_16 ?_
    refine j_zreturn d_MD_there_17 rfl (by omega) ?_
    exact rV_i (by split <;> omega) rfl
  · refine x_iload_n d_MD_there_4 rfl rfl ?_
    refine x_aload_n d_MD_there_5 rfl rfl (by first | rfl | assumption) ?_
    refine x_get 5 11 d_MD_there_6 gf_MD_123 (by repeat (first | assumption | exact hs_self (by assumption) | exact hs_self (hs_ne (by omega) (by assumption)) | exact hs_self (hs_ne (by omega) (hs_ne (by omega) (by assumption))) | refine hs_ne (by omega) ?_)) (by rfl) ?_
    refine j_icmp_ge 16 d_MD_there_9 (by decide) (by unfold iR; omega) (by unfold iR; omega) (fun c9 => ?_) (fun c9 => ?_)
    · refine j_iconst d_MD_there_16 ?_
      refine j_zreturn d_MD_there_17 rfl (by omega) ?_
      exact rV_i (by split <;> omega) rfl
    · refine j_iconst d_MD_there_12 ?_
      refine x_goto 17 d_MD_there_13 (by decide) ?_
      refine j_zreturn d_MD_there_17 rfl (by omega) ?_
      exact rV_i (by split <;> omega) rfl
set_option maxHeartbeats 1000000 in
theorem m_number (z : Int) (hO : SO S) (hW : MW h mo v A S) (hz : iR z) : xCt E 1 0 0 M_MD_number [.ref mo, vI z] h (rV (vI (op01 S z)) h) := by
  refine x_met rfl rfl (Nat.le_of_ble_eq_true rfl) ?_
  obtain ⟨so, m0⟩ := hW.1
  have v11 := hW.2.2.1
  have h12 := hO.1
  obtain ⟨h1, h2, h3, h4, h5, h6, h7, h8, h9, h10⟩ := hW.2.2.2.2.2.2.1
  have hF := hW.2.2.2.2.2.2.2.2.2
  refine x_aload_n d_MD_number_0 rfl rfl (by first | rfl | assumption) ?_
  refine x_iload_n d_MD_number_1 rfl rfl ?_
  refine x_callV1 (M' := M_MD_there) d_MD_number_2 lk_MD_126 (m_there z hO hW hz) mt_MD_there im_MD_there se_MD_there (by repeat (first | assumption | exact hs_self (by assumption) | exact hs_self (hs_ne (by omega) (by assumption)) | exact hs_self (hs_ne (by omega) (hs_ne (by omega) (by assumption))) | refine hs_ne (by omega) ?_)) rfl (by decide) rfl (Nat.le_of_ble_eq_true rfl) (by decide) (by decide) ?_
  refine j_if_eq 21 d_MD_number_5 (by decide) (by unfold iR; split <;> omega) (fun c5 => ?_) (fun c5 => ?_)
  · rw [ite10] at c5
    refine j_iconst d_MD_number_21 ?_
    refine j_zreturn d_MD_number_22 rfl (by omega) ?_
    exact rV_i (op01_0.mpr (fun x => c5 x.1)).symm rfl
  · rw [ite10] at c5
    have hc := Classical.not_not.mp c5
    have hz0 := hc.1
    have hz1 := hc.2
    obtain ⟨-, -, -, -, -, fe, -⟩ := hF z.toNat (by omega)
    refine x_aload_n d_MD_number_8 rfl rfl (by first | rfl | assumption) ?_
    refine x_get 5 17 d_MD_number_9 gf_MD_35 (by repeat (first | assumption | exact hs_self (by assumption) | exact hs_self (hs_ne (by omega) (by assumption)) | exact hs_self (hs_ne (by omega) (hs_ne (by omega) (by assumption))) | refine hs_ne (by omega) ?_)) (by rfl) ?_
    refine x_iload_n d_MD_number_12 rfl rfl ?_
    refine j_zald d_MD_number_13 (by repeat (first | assumption | exact hs_self (by assumption) | exact hs_self (hs_ne (by omega) (by assumption)) | exact hs_self (hs_ne (by omega) (hs_ne (by omega) (by assumption))) | refine hs_ne (by omega) ?_)) (by omega) (by omega) (by decide) ?_
    refine x_top (w := vI (if fM (zD S z.toNat) = 4 then 1 else 0)) (by rw [fe]) ?_
    refine j_if_ne 21 d_MD_number_14 (by decide) (by unfold iR; split <;> omega) (fun c14 => ?_) (fun c14 => ?_)
    · rw [ite10] at c14
      refine j_iconst d_MD_number_21 ?_
      refine j_zreturn d_MD_number_22 rfl (by omega) ?_
      exact rV_i (op01_0.mpr (fun x => c14 x.2)).symm rfl
    · rw [ite10] at c14
      refine j_iconst d_MD_number_17 ?_
      refine x_goto 22 d_MD_number_18 (by decide) ?_
      refine j_zreturn d_MD_number_22 rfl (by omega) ?_
      exact rV_i (by unfold op01; rw [if_pos ⟨hc, c14⟩]) rfl
set_option maxHeartbeats 1000000 in
theorem m_isMode (z : Int) (hz : iR z) : xCt E 0 0 0 M_MD_isMode [vI z] h (rV (vI (if 0 ≤ z ∧ z ≤ 7 then 1 else 0)) h) := by
  refine x_met rfl rfl (Nat.le_of_ble_eq_true rfl) ?_
  unfold iR at hz
  refine x_iload_n d_MD_isMode_0 rfl rfl ?_
  refine j_if_lt 14 d_MD_isMode_1 (by decide) (by unfold iR; omega) (fun c1 => ?_) (fun c1 => ?_)
  · refine j_iconst d_MD_isMode_14 ?_
    refine j_zreturn d_MD_isMode_15 rfl (by omega) ?_
    exact rV_i (by split <;> omega) rfl
  · refine x_iload_n d_MD_isMode_4 rfl rfl ?_
    refine j_bipush d_MD_isMode_5 (by decide) ?_
    refine j_icmp_gt 14 d_MD_isMode_7 (by decide) (by unfold iR; omega) (by unfold iR; omega) (fun c7 => ?_) (fun c7 => ?_)
    · refine j_iconst d_MD_isMode_14 ?_
      refine j_zreturn d_MD_isMode_15 rfl (by omega) ?_
      exact rV_i (by split <;> omega) rfl
    · refine j_iconst d_MD_isMode_10 ?_
      refine x_goto 15 d_MD_isMode_11 (by decide) ?_
      refine j_zreturn d_MD_isMode_15 rfl (by omega) ?_
      exact rV_i (by split <;> omega) rfl
set_option maxHeartbeats 1000000 in
theorem m_range (a b : Int) (hO : SO S) (hW : MW h mo v A S) (ha : iR a) (hb : iR b) : xCt E 1 0 0 M_MD_range [.ref mo, vI a, vI b] h (rV (vI (if rng S a b then 1 else 0)) h) := by
  refine x_met rfl rfl (Nat.le_of_ble_eq_true rfl) ?_
  obtain ⟨so, m0⟩ := hW.1
  refine x_aload_n d_MD_range_0 rfl rfl (by first | rfl | assumption) ?_
  refine x_iload_n d_MD_range_1 rfl rfl ?_
  refine x_callV1 (M' := M_MD_there) d_MD_range_2 lk_MD_126 (m_there a hO hW ha) mt_MD_there im_MD_there se_MD_there (by repeat (first | assumption | exact hs_self (by assumption) | exact hs_self (hs_ne (by omega) (by assumption)) | exact hs_self (hs_ne (by omega) (hs_ne (by omega) (by assumption))) | refine hs_ne (by omega) ?_)) rfl (by decide) rfl (Nat.le_of_ble_eq_true rfl) (by decide) (by decide) ?_
  refine j_if_eq 25 d_MD_range_5 (by decide) (by unfold iR; split <;> omega) (fun c5 => ?_) (fun c5 => ?_)
  · rw [ite10] at c5
    refine j_iconst d_MD_range_25 ?_
    refine j_zreturn d_MD_range_26 rfl (by omega) ?_
    exact rV_i (by rw [if_neg (by omega)]) rfl
  · rw [ite10] at c5
    refine x_aload_n d_MD_range_8 rfl rfl (by first | rfl | assumption) ?_
    refine x_iload_n d_MD_range_9 rfl rfl ?_
    refine x_callV1 (M' := M_MD_there) d_MD_range_10 lk_MD_126 (m_there b hO hW hb) mt_MD_there im_MD_there se_MD_there (by repeat (first | assumption | exact hs_self (by assumption) | exact hs_self (hs_ne (by omega) (by assumption)) | exact hs_self (hs_ne (by omega) (hs_ne (by omega) (by assumption))) | refine hs_ne (by omega) ?_)) rfl (by decide) rfl (Nat.le_of_ble_eq_true rfl) (by decide) (by decide) ?_
    refine j_if_eq 25 d_MD_range_13 (by decide) (by unfold iR; split <;> omega) (fun c13 => ?_) (fun c13 => ?_)
    · rw [ite10] at c13
      refine j_iconst d_MD_range_25 ?_
      refine j_zreturn d_MD_range_26 rfl (by omega) ?_
      exact rV_i (by rw [if_neg (by omega)]) rfl
    · rw [ite10] at c13
      refine x_iload_n d_MD_range_16 rfl rfl ?_
      refine x_iload_n d_MD_range_17 rfl rfl ?_
      refine j_icmp_gt 25 d_MD_range_18 (by decide) ha hb (fun c18 => ?_) (fun c18 => ?_)
      · refine j_iconst d_MD_range_25 ?_
        refine j_zreturn d_MD_range_26 rfl (by omega) ?_
        exact rV_i (by rw [if_neg (by omega)]) rfl
      · refine j_iconst d_MD_range_21 ?_
        refine x_goto 26 d_MD_range_22 (by decide) ?_
        refine j_zreturn d_MD_range_26 rfl (by omega) ?_
        exact rV_i (by rw [if_pos (by omega)]) rfl
set_option maxHeartbeats 1000000 in
theorem m_badData (hW : MW h mo v A S) : xCt E 0 0 0 M_MD_badData [.ref mo] h (rQ (fun w h' => w = vI (-2) ∧ MW h' mo v A (sUn S) ∧ frM mo h h')) := by
  refine x_met rfl rfl (Nat.le_of_ble_eq_true rfl) ?_
  obtain ⟨so, m0⟩ := hW.1
  refine x_aload_n d_MD_badData_0 rfl rfl (by first | rfl | assumption) ?_
  refine x_dup d_MD_badData_1 rfl ?_
  refine x_get 5 26 d_MD_badData_2 gf_MD_208 (by repeat (first | assumption | exact hs_self (by assumption) | exact hs_self (hs_ne (by omega) (by assumption)) | exact hs_self (hs_ne (by omega) (hs_ne (by omega) (by assumption))) | refine hs_ne (by omega) ?_)) (by rfl) ?_
  refine j_iconst d_MD_badData_5 ?_
  refine j_iadd d_MD_badData_6 ?_
  refine xp_MD_26 d_MD_badData_7 pf_MD_badData_208 (by repeat (first | assumption | exact hs_self (by assumption) | exact hs_self (hs_ne (by omega) (by assumption)) | exact hs_self (hs_ne (by omega) (hs_ne (by omega) (by assumption))) | refine hs_ne (by omega) ?_)) ?_
  refine j_bipush d_MD_badData_10 (by decide) ?_
  refine x_ireturn d_MD_badData_12 rfl ?_
  exact ⟨_, rfl, rfl, MW_obj (L := zL S) hW hW.2.1 hW.2.2.1, frM_set (frM_refl _ _) (by omega)⟩
theorem m_units (j : Nat) (hO : SO S) (hW : MW h mo v A S) (hj : j < zN S) : xCt E 7 0 0 M_MD_units [.ref mo, vI j] h (rQ (fun w h' => ∃ z so : Int, w = vL z ∧ z.natAbs < 1000000000000 ∧ (∀ x, uA (zD S j) (zB S) = some x → z = x) ∧ MW h' mo v A S ∧ frM mo h h' ∧ h'[mo + 15]? = h[mo + 15]? ∧ h'[mo]? = some (oM mo v so (zE S) (zF S)) ∧ (so = 0 ∨ so = 1) ∧ (so = 1 ↔ ¬ uA (zD S j) (zB S) = none))) := by
  obtain ⟨so, m0⟩ := hW.1
  obtain ⟨T, m14, hT⟩ := hW.2.2.2.2.2.2.2.1
  have h12 := hO.1
  have e := hO.2.2.2.2 j hj
  refine xCt_q (c_units E h mo j v so (zE S) (zF S) A _ _ T m0 hW.2.2.2.2.2.2.1 hW.2.2.2.1 m14 (hW.2.2.2.2.2.2.2.2.2 j hj) (by omega) e.1 e.2.1 hO.2.2.2.1 hT) ?_
  rintro w h' ⟨z, so', T', rfl, hz, rfl, hs, hs2, hx, hT'⟩
  refine ⟨z, so', rfl, hz, hx, MW_text hW hT', frM_set (frM_set (frM_refl _ _) (by omega)) (by omega), ?_, hs_self (hs_ne (by omega) m0), hs, hs2⟩
  rw [List.getElem?_set_ne (by omega), List.getElem?_set_ne (by omega)]
theorem m_isSound (j : Nat) (hO : SO S) (hW : MW h mo v A S) (hj : j < zN S) : xCt E 8 0 0 M_MD_isSound [.ref mo, vI j] h (rQ (fun w h' => w = vI (if uA (zD S j) (zB S) = none then 0 else 1) ∧ MW h' mo v A S ∧ frM mo h h')) := by
  obtain ⟨so, m0⟩ := hW.1
  obtain ⟨T, m14, hT⟩ := hW.2.2.2.2.2.2.2.1
  have h12 := hO.1
  have e := hO.2.2.2.2 j hj
  refine xCt_q (c_isSound E h mo j v so (zE S) (zF S) A _ _ T m0 hW.2.2.2.2.2.2.1 hW.2.2.2.1 m14 (hW.2.2.2.2.2.2.2.2.2 j hj) (by omega) e.1 e.2.1 hO.2.2.2.1 hT) ?_
  rintro w h' ⟨rfl, so', T', rfl, hs, hT'⟩
  exact ⟨rfl, MW_text hW hT', frM_set (frM_set (frM_refl _ _) (by omega)) (by omega)⟩
theorem m_store (j : Nat) (u : Int) (hO : SO S) (hW : MW h mo v A S) (hj : j < zN S) (hu : u.natAbs < 1000000000000) : xCt E 5 0 0 M_MD_store [.ref mo, vI j, vL u] h (rP (fun h' => MW h' mo v A (sB S (stA (zD S j) (zB S) u)) ∧ frM mo h h')) := by
  obtain ⟨so, m0⟩ := hW.1
  obtain ⟨T, m14, hT⟩ := hW.2.2.2.2.2.2.2.1
  have h12 := hO.1
  have e := hO.2.2.2.2 j hj
  refine xCt_p (c_mstore E h mo j v so (zE S) (zF S) u A _ _ T m0 hW.2.2.2.2.2.2.1 hW.2.2.2.1 m14 (hW.2.2.2.2.2.2.2.2.2 j hj) (by omega) e.1 e.2.1 hu hT) ?_
  rintro h' ⟨T', rfl, hT'⟩
  exact ⟨MW_byte hW hT', frM_set (frM_set (frM_refl _ _) (by omega)) (by omega)⟩
theorem m_result (j : Nat) (p q mode : Int) (o : Option Int) (hO : SO S) (hW : MW h mo v A S) (hj : j < zN S) (hp : p.natAbs < 4000000000000000000) (hq0 : 0 < q) (hq1 : q ≤ 100000000000000) (hmd : 0 ≤ mode ∧ mode ≤ 7) (ho : sRes p q (fS (zD S j)) (fN (zD S j)) mode = o) : xCt E 6 0 0 M_MD_result [.ref mo, vL p, vL q, vI j, vI mode] h (rQ (fun w h' => w = vI (e01 o) ∧ MW h' mo v A (sRs S j o) ∧ frM mo h h' ∧ h'[mo + 15]? = h[mo + 15]?)) := by
  obtain ⟨so, m0⟩ := hW.1
  obtain ⟨T, m14, hT⟩ := hW.2.2.2.2.2.2.2.1
  have h12 := hO.1
  have e := hO.2.2.2.2 j hj
  refine xCt_q (c_mresult E h mo j v so (zE S) (zF S) p q mode A _ _ T m0 hW.2.2.2.2.2.2.1 hW.2.2.2.1 m14 (hW.2.2.2.2.2.2.2.2.2 j hj) (by omega) e.1 e.2.1 hp hq0 hq1 hmd hT) ?_
  rintro w h' ⟨rfl, T', rfl, hT'⟩
  rw [ho]
  refine ⟨rfl, MW_step (L := zL S) hW hT' hW.2.1 hW.2.2.1, frM_set (frM_set (frM_set (frM_refl _ _) (by omega)) (by omega)) (by omega), ?_⟩
  rw [List.getElem?_set_ne (by omega), List.getElem?_set_ne (by omega), List.getElem?_set_ne (by omega)]
theorem mvU_eq {D : FD} {p q : Int} (hg : fG D = 0 ∨ fG D = 1) : (if (p * 10 ^ fS D).tdiv q < 0 ∧ fG D = 1 then -((((p * 10 ^ fS D).tdiv q).natAbs : Int).tmod (10 ^ fN D)) else (((p * 10 ^ fS D).tdiv q).natAbs : Int).tmod (10 ^ fN D)) = mvU D p q := by
  unfold mvU
  generalize (p * 10 ^ fS D).tdiv q = y
  have hp := pow10_pos (fN D)
  by_cases hy : y < 0
  · have e : (y.natAbs : Int) = -y := by omega
    have hs := (tmod_sgn (p := y) (q := 10 ^ fN D)).2 (by omega)
    rw [e, Int.neg_tmod]
    rcases hg with hg | hg
    · rw [if_neg (by omega), if_neg (by omega)]; omega
    · rw [if_pos ⟨hy, hg⟩, if_pos hg]; omega
  · have e : (y.natAbs : Int) = y := by omega
    have hs := (tmod_sgn (p := y) (q := 10 ^ fN D)).1 (by omega)
    rw [e, if_neg (by omega)]
    split <;> omega
set_option maxHeartbeats 2000000 in
theorem m_transfer (j sc : Nat) (p : Int) (hO : SO S) (hW : MW h mo v A S) (hj : j < zN S) (hp : p.natAbs < 100000000000) (hs : sc ≤ 9) : xCt E 6 0 0 M_MD_transfer [.ref mo, vL p, vL (10 ^ sc), vI j] h (rP (fun h' => MW h' mo v A (sB S (stA (zD S j) (zB S) (mvU (zD S j) p (10 ^ sc)))) ∧ frM mo h h')) := by
  refine x_met rfl rfl (Nat.le_of_ble_eq_true rfl) ?_
  obtain ⟨Z, hZ⟩ : ∃ Z, Z = (xZ E 0 0 (rP (fun h' => MW h' mo v A (sB S (stA (zD S j) (zB S) (mvU (zD S j) p (10 ^ sc)))) ∧ frM mo h h'))) := ⟨_, rfl⟩
  rw [← hZ]
  obtain ⟨so, m0⟩ := hW.1
  have h12 := hO.1
  obtain ⟨h1, h2, h3, h4, h5, h6, h7, h8, h9, h10⟩ := hW.2.2.2.2.2.2.1
  obtain ⟨-, -, fn, fs, fg, -, -⟩ := hW.2.2.2.2.2.2.2.2.2 j hj
  obtain ⟨-, hn, hsc, hg, -⟩ := (hO.2.2.2.2 j hj).1
  have hmv := mvU_eq (D := zD S j) (p := p) (q := 10 ^ sc) hg
  generalize hDe : zD S j = D at *
  have hps := pow10_le (n := fS D) (m := 4) hsc
  have hps0 := pow10_pos (fS D)
  have hpc := pow10_le (n := sc) (m := 9) hs
  have hpc0 := pow10_pos sc
  have hpl := pow10_le (n := fN D) (m := 9) (by omega)
  have hpl0 := pow10_pos (fN D)
  have hm := mul_abs_lt (a := p) (b := 10 ^ fS D) (x := 100000000000) (y := 10000) hp (by omega) (by decide)
  have hd := Int.natAbs_tdiv_le_natAbs (p * 10 ^ fS D) (10 ^ sc)
  refine x_lload_n d_MD_transfer_0 rfl rfl ?_
  refine x_aload_n d_MD_transfer_1 rfl rfl (by first | rfl | assumption) ?_
  refine x_get 5 15 d_MD_transfer_2 gf_MD_28 (by repeat (first | assumption | exact hs_self (by assumption) | exact hs_self (hs_ne (by omega) (by assumption)) | exact hs_self (hs_ne (by omega) (hs_ne (by omega) (by assumption))) | refine hs_ne (by omega) ?_)) (by rfl) ?_
  refine x_iload d_MD_transfer_5 rfl ?_
  refine j_iald d_MD_transfer_7 (by repeat (first | assumption | exact hs_self (by assumption) | exact hs_self (hs_ne (by omega) (by assumption)) | exact hs_self (hs_ne (by omega) (hs_ne (by omega) (by assumption))) | refine hs_ne (by omega) ?_)) (by omega) (by omega) (by decide) ?_
  refine x_top (w := vI (fS D)) (by rw [Int.toNat_natCast, fs]) ?_
  refine x_callS1 (M' := M_MD_power) d_MD_transfer_8 lk_MD_138 (c_power E h (fS D) (by omega)) mt_MD_power st_MD_power (by decide) rfl (Nat.le_of_ble_eq_true rfl) (by decide) (by decide) ?_
  refine j_lmul d_MD_transfer_11 ?_
  refine x_lload_n d_MD_transfer_12 rfl rfl ?_
  refine j_ldiv d_MD_transfer_13 (by unfold lR; omega) (by unfold lR; omega) (by first | decide | omega) ?_
  generalize hye : (p * 10 ^ fS D).tdiv (10 ^ sc) = y at *
  have hr := tmod_abs (p := (y.natAbs : Int)) (q := 10 ^ fN D) hpl0
  have hr0 := (tmod_sgn (p := (y.natAbs : Int)) (q := 10 ^ fN D)).1 (by omega)
  have fin : ∀ (u : Int) (L : List (Option Value)), u = mvU D p (10 ^ sc) → u.natAbs < 1000000000000 → X E M_MD_transfer 6 0 0 Z 72 L [vL u, vI j, .ref mo] h 0 0 := by
    intro u L hu hub
    refine x_callVp (M' := M_MD_store) d_MD_transfer_72 lk_MD_198 (m_store j u hO hW hj hub) mt_MD_store im_MD_store se_MD_store (by repeat (first | assumption | exact hs_self (by assumption) | exact hs_self (hs_ne (by omega) (by assumption)) | exact hs_self (hs_ne (by omega) (hs_ne (by omega) (by assumption))) | refine hs_ne (by omega) ?_)) rfl (by decide) rfl (Nat.le_of_ble_eq_true rfl) (by decide) (by decide) ?_
    rintro h' ⟨hW', hf'⟩
    rw [hZ]
    refine x_return d_MD_transfer_75 rfl ?_
    rw [hDe, hu] at hW'
    exact ⟨rfl, hW', hf'⟩
  have mid : X E M_MD_transfer 6 0 0 Z 31 [some (.ref mo), some (vL p), none, some (vL (10 ^ sc)), none, some (vI j), some (vL y), none, none, none] [vL (y.natAbs : Int)] h 0 0 := by
    refine x_aload_n d_MD_transfer_31 rfl rfl (by first | rfl | assumption) ?_
    refine x_get 5 14 d_MD_transfer_32 gf_MD_25 (by repeat (first | assumption | exact hs_self (by assumption) | exact hs_self (hs_ne (by omega) (by assumption)) | exact hs_self (hs_ne (by omega) (hs_ne (by omega) (by assumption))) | refine hs_ne (by omega) ?_)) (by rfl) ?_
    refine x_iload d_MD_transfer_35 rfl ?_
    refine j_iald d_MD_transfer_37 (by repeat (first | assumption | exact hs_self (by assumption) | exact hs_self (hs_ne (by omega) (by assumption)) | exact hs_self (hs_ne (by omega) (hs_ne (by omega) (by assumption))) | refine hs_ne (by omega) ?_)) (by omega) (by omega) (by decide) ?_
    refine x_top (w := vI (fN D)) (by rw [Int.toNat_natCast, fn]) ?_
    refine x_callS1 (M' := M_MD_power) d_MD_transfer_38 lk_MD_138 (c_power E h (fN D) (by omega)) mt_MD_power st_MD_power (by decide) rfl (Nat.le_of_ble_eq_true rfl) (by decide) (by decide) ?_
    refine j_lrem d_MD_transfer_41 (by unfold lR; omega) (by unfold lR; omega) (by first | decide | omega) ?_
    refine x_lstore d_MD_transfer_42 (Nat.le_of_ble_eq_true rfl) ?_
    refine x_aload_n d_MD_transfer_44 rfl rfl (by first | rfl | assumption) ?_
    refine x_iload d_MD_transfer_45 rfl ?_
    refine x_lload d_MD_transfer_47 rfl ?_
    refine j_lconst 0 d_MD_transfer_49 (by decide) ?_
    refine j_lcmp_ge 70 d_MD_transfer_50 d_MD_transfer_51 (by decide) (by unfold lR; omega) (by unfold lR; omega) (fun c50 => ?_) (fun c50 => ?_)
    · refine x_lload d_MD_transfer_70 rfl ?_
      exact fin _ _ (by rw [← hmv, if_neg (by omega)]) (by omega)
    · refine x_aload_n d_MD_transfer_54 rfl rfl (by first | rfl | assumption) ?_
      refine x_get 5 16 d_MD_transfer_55 gf_MD_31 (by repeat (first | assumption | exact hs_self (by assumption) | exact hs_self (hs_ne (by omega) (by assumption)) | exact hs_self (hs_ne (by omega) (hs_ne (by omega) (by assumption))) | refine hs_ne (by omega) ?_)) (by rfl) ?_
      refine x_iload d_MD_transfer_58 rfl ?_
      refine j_zald d_MD_transfer_60 (by repeat (first | assumption | exact hs_self (by assumption) | exact hs_self (hs_ne (by omega) (by assumption)) | exact hs_self (hs_ne (by omega) (hs_ne (by omega) (by assumption))) | refine hs_ne (by omega) ?_)) (by omega) (by omega) (by decide) ?_
      refine x_top (w := vI (fG D)) (by rw [Int.toNat_natCast, fg]) ?_
      refine j_if_eq 70 d_MD_transfer_61 (by decide) (by unfold iR; omega) (fun c61 => ?_) (fun c61 => ?_)
      · refine x_lload d_MD_transfer_70 rfl ?_
        exact fin _ _ (by rw [← hmv, if_neg (by omega)]) (by omega)
      · refine x_lload d_MD_transfer_64 rfl ?_
        refine j_lneg d_MD_transfer_66 ?_
        refine x_goto 72 d_MD_transfer_67 (by decide) ?_
        exact fin _ _ (by rw [← hmv, if_pos (by omega)]) (by omega)
  refine x_lstore d_MD_transfer_14 (Nat.le_of_ble_eq_true rfl) ?_
  refine x_lload d_MD_transfer_16 rfl ?_
  refine j_lconst 0 d_MD_transfer_18 (by decide) ?_
  refine j_lcmp_ge 29 d_MD_transfer_19 d_MD_transfer_20 (by decide) (by unfold lR; omega) (by unfold lR; omega) (fun c19 => ?_) (fun c19 => ?_)
  · refine x_lload d_MD_transfer_29 rfl ?_
    have : (y.natAbs : Int) = y := by omega
    rw [this] at mid
    exact mid
  · refine x_lload d_MD_transfer_23 rfl ?_
    refine j_lneg d_MD_transfer_25 ?_
    refine x_goto 31 d_MD_transfer_26 (by decide) ?_
    have : (y.natAbs : Int) = -y := by omega
    rw [this] at mid
    exact mid
end MH
