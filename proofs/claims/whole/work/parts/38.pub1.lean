/-! what each call answers and leaves -/
def fPic (S : ST) (c : Int) : Int × ST := if 32 ≤ c ∧ c ≤ 126 ∧ zL S < 24 then (1, (zB S, gU (zR S) (zL S) c, zL S + 1, zN S, zD S, zE S, zF S)) else (0, S)
def sScrap (S : ST) : ST := (zB S, zR S, 0, zN S, zD S, zE S, zF S)
def fSize (S : ST) (z : Int) : Int := if th S z then (fW (zD S z.toNat) : Int) else -1
def fShape (S : ST) (z : Int) : Int := if th S z then (fN (zD S z.toNat) : Int) + 16 * (fS (zD S z.toNat) : Int) + (if fG (zD S z.toNat) = 1 then 256 else 0) + (if fM (zD S z.toNat) = 4 then 512 else 0) else -1
def fPeek (S : ST) (p : Int) : Int := if 0 ≤ p ∧ p < 64 then zB S p.toNat else -1
def fPoke (S : ST) (p b : Int) : Int × ST := if 0 ≤ p ∧ p < 64 ∧ 0 ≤ b ∧ b ≤ 255 then (1, sB S (gU (zB S) p.toNat b)) else (0, S)
def fValue (S : ST) (z : Int) : Int := if th S z then (uA (zD S z.toNat) (zB S)).getD nonI else nonI
def fPut (S : ST) (z v sc : Int) : Int × ST := if th S z ∧ 0 ≤ sc ∧ sc ≤ 9 then (1, sB S (stA (zD S z.toNat) (zB S) (mvU (zD S z.toNat) v (10 ^ sc.toNat)))) else (0, S)
def fMove (S : ST) (a b : Int) : Int × ST := if th S a ∧ th S b then (match uA (zD S a.toNat) (zB S) with
  | none => (-2, sUn S)
  | some u => (0, sB S (stA (zD S b.toNat) (zB S) (mvU (zD S b.toNat) u (10 ^ fS (zD S a.toNat)))))) else (-1, S)
theorem uA_9 {D : FD} {B : Nat → Int} (hD : fOk D) (hB : bOk B) (x : Int) (h : uA D B = some x) : x.natAbs < 1000000000 := by
  have := uA_r hD hB h
  have hp := Nat.pow_le_pow_right (n := 10) (by decide) hD.2.1.2
  omega
section XL
variable {E : xEnv} {M : xM} {d K N : Nat} {Z : xEnd} {pc : Nat} {L L' : List (Option Value)} {st : List Value} {h : xH} {k n : Nat}
theorem x_loc (e : L = L') (kk : X E M d K N Z pc L' st h k n) : X E M d K N Z pc L st h k n := by rw [e]; exact kk
end XL
def pC (po : Nat) (Y : LY) (h : xH) (r : Int × ST) : Value → xH → Prop := fun w h' => w = vI r.1 ∧ CW h' po Y r.2 ∧ frC po h h'
theorem CW_draft {h : xH} {po : Nat} {Y : LY} {S : ST} {R : Nat → Int} (hW : CW h po Y S) : CW (h.set (po + 1) (aC 24 R)) po Y (zB S, R, zL S, zN S, zD S, zE S, zF S) := by
  obtain ⟨w0, w1, ⟨mk, w2, w3⟩, ⟨T, s1, s2, s3, s4, s5, s6⟩, ⟨U0, w4⟩, ⟨p1, p2, p0, ⟨ct, dg, sc, sg, ed, bs, be, fi, fl, p3⟩, G, p4, p5⟩, w5⟩ := hW
  refine ⟨hs_ne (by omega) w0, hs_self w1, ⟨mk, hs_ne (by omega) w2, w3⟩, ⟨T, hs_ne (by omega) s1, hs_ne (by omega) s2, hs_ne (by omega) s3, hs_ne (by omega) s4, s5, s6⟩, ⟨U0, hs_ne (by omega) w4⟩, ⟨p1, p2, p0, ⟨ct, dg, sc, sg, ed, bs, be, fi, fl, hs_ne (by omega) p3⟩, G, hs_ne (by omega) p4, p5⟩, fun i hi => ?_⟩
  obtain ⟨a, b⟩ := w5 i hi
  have := b
  obtain ⟨⟨a1, a2, a3⟩, -⟩ := this
  exact ⟨fAt_set a (by omega) (by omega) (by omega), b⟩
set_option maxHeartbeats 1000000 in
theorem w_pic {E : xEnv} {h : xH} {po : Nat} {Y : LY} {S : ST} (c : Int) (hO : SO S) (hW : CW h po Y S) (hc : 0 ≤ c ∧ c < 65536) : xCt E 0 0 0 M_PR_pic [.ref po, vI c] h (rQ (pC po Y h (fPic S c))) := by
  refine x_met rfl rfl (Nat.le_of_ble_eq_true rfl) ?_
  have w0 := hW.1
  have w1 := hW.2.1
  have hL := hO.2.1
  have bad : ¬ (32 ≤ c ∧ c ≤ 126 ∧ zL S < 24) → ∀ L : List (Option Value), X E M_PR_pic 0 0 0 (xZ E 0 0 (rQ (pC po Y h (fPic S c)))) 21 L [] h 0 0 := by
    intro hb L
    refine j_iconst d_PR_pic_21 ?_
    refine j_zreturn d_PR_pic_22 rfl (by omega) ?_
    unfold fPic
    rw [if_neg hb]
    exact ⟨_, rfl, rfl, hW, frC_refl _ _⟩
  refine x_iload_n d_PR_pic_0 rfl rfl ?_
  refine j_bipush d_PR_pic_1 (by decide) ?_
  refine j_icmp_lt 21 d_PR_pic_3 (by decide) (by unfold iR; omega) (by unfold iR; omega) (fun c3 => ?_) (fun c3 => ?_)
  · exact bad (by omega) _
  · refine x_iload_n d_PR_pic_6 rfl rfl ?_
    refine j_bipush d_PR_pic_7 (by decide) ?_
    refine j_icmp_gt 21 d_PR_pic_9 (by decide) (by unfold iR; omega) (by unfold iR; omega) (fun c9 => ?_) (fun c9 => ?_)
    · exact bad (by omega) _
    · refine x_aload_n d_PR_pic_12 rfl rfl (by first | rfl | assumption) ?_
      refine x_get 4 1 d_PR_pic_13 gf_PR_37 (by repeat (first | assumption | exact hs_self (by assumption) | exact hs_self (hs_ne (by omega) (by assumption)) | exact hs_self (hs_ne (by omega) (hs_ne (by omega) (by assumption))) | refine hs_ne (by omega) ?_)) (by rfl) ?_
      refine j_bipush d_PR_pic_16 (by decide) ?_
      refine j_icmp_lt 23 d_PR_pic_18 (by decide) (by unfold iR; omega) (by unfold iR; omega) (fun c18 => ?_) (fun c18 => ?_)
      · refine x_aload_n d_PR_pic_23 rfl rfl (by first | rfl | assumption) ?_
        refine x_get 4 0 d_PR_pic_24 gf_PR_9 (by repeat (first | assumption | exact hs_self (by assumption) | exact hs_self (hs_ne (by omega) (by assumption)) | exact hs_self (hs_ne (by omega) (hs_ne (by omega) (by assumption))) | refine hs_ne (by omega) ?_)) (by rfl) ?_
        refine x_aload_n d_PR_pic_27 rfl rfl (by first | rfl | assumption) ?_
        refine x_get 4 1 d_PR_pic_28 gf_PR_37 (by repeat (first | assumption | exact hs_self (by assumption) | exact hs_self (hs_ne (by omega) (by assumption)) | exact hs_self (hs_ne (by omega) (hs_ne (by omega) (by assumption))) | refine hs_ne (by omega) ?_)) (by rfl) ?_
        refine x_iload_n d_PR_pic_31 rfl rfl ?_
        refine j_cast d_PR_pic_32 (by repeat (first | assumption | exact hs_self (by assumption) | exact hs_self (hs_ne (by omega) (by assumption)) | exact hs_self (hs_ne (by omega) (hs_ne (by omega) (by assumption))) | refine hs_ne (by omega) ?_)) (by omega) (by omega) (by decide) (by omega) (by omega) ?_
        refine x_aload_n d_PR_pic_33 rfl rfl (by first | rfl | assumption) ?_
        refine x_dup d_PR_pic_34 rfl ?_
        refine x_get 4 1 d_PR_pic_35 gf_PR_37 (by repeat (first | assumption | exact hs_self (by assumption) | exact hs_self (hs_ne (by omega) (by assumption)) | exact hs_self (hs_ne (by omega) (hs_ne (by omega) (by assumption))) | refine hs_ne (by omega) ?_)) (by rfl) ?_
        refine j_iconst d_PR_pic_38 ?_
        refine j_iadd d_PR_pic_39 ?_
        refine xp_PR_1 d_PR_pic_40 pf_PR_pic_37 (by repeat (first | assumption | exact hs_self (by assumption) | exact hs_self (hs_ne (by omega) (by assumption)) | exact hs_self (hs_ne (by omega) (hs_ne (by omega) (by assumption))) | refine hs_ne (by omega) ?_)) ?_
        refine j_iconst d_PR_pic_43 ?_
        refine j_zreturn d_PR_pic_44 rfl (by omega) ?_
        unfold fPic
        rw [if_pos (by omega)]
        exact ⟨_, rfl, rfl, CW_obj (L := zL S + 1) (CW_draft hW), frC_set (frC_set (frC_refl _ _) (by omega)) (by omega)⟩
      · exact bad (by omega) _
set_option maxHeartbeats 1000000 in
theorem w_scrap {E : xEnv} {h : xH} {po : Nat} {Y : LY} {S : ST} (hW : CW h po Y S) : xCt E 0 0 0 M_PR_scrap [.ref po] h (rP (fun h' => CW h' po Y (sScrap S) ∧ frC po h h')) := by
  refine x_met rfl rfl (Nat.le_of_ble_eq_true rfl) ?_
  have w0 := hW.1
  refine x_aload_n d_PR_scrap_0 rfl rfl (by first | rfl | assumption) ?_
  refine j_iconst d_PR_scrap_1 ?_
  refine xp_PR_1 d_PR_scrap_2 pf_PR_scrap_37 (by repeat (first | assumption | exact hs_self (by assumption) | exact hs_self (hs_ne (by omega) (by assumption)) | exact hs_self (hs_ne (by omega) (hs_ne (by omega) (by assumption))) | refine hs_ne (by omega) ?_)) ?_
  refine x_return d_PR_scrap_5 rfl ?_
  exact ⟨rfl, CW_obj (L := 0) hW, frC_set (frC_refl _ _) (by omega)⟩
set_option maxHeartbeats 1000000 in
theorem w_fields {E : xEnv} {h : xH} {po : Nat} {Y : LY} {S : ST} (hW : CW h po Y S) : xCt E 0 0 0 M_PR_fields [.ref po] h (rV (vI (zN S)) h) := by
  refine x_met rfl rfl (Nat.le_of_ble_eq_true rfl) ?_
  have w0 := hW.1
  refine x_aload_n d_PR_fields_0 rfl rfl (by first | rfl | assumption) ?_
  refine x_get 4 4 d_PR_fields_1 gf_PR_53 (by repeat (first | assumption | exact hs_self (by assumption) | exact hs_self (hs_ne (by omega) (by assumption)) | exact hs_self (hs_ne (by omega) (hs_ne (by omega) (by assumption))) | refine hs_ne (by omega) ?_)) (by rfl) ?_
  refine x_ireturn d_PR_fields_4 rfl ?_
  exact ⟨rfl, rfl⟩
set_option maxHeartbeats 1000000 in
theorem w_sizeErrors {E : xEnv} {h : xH} {po : Nat} {Y : LY} {S : ST} (hW : CW h po Y S) : xCt E 0 0 0 M_PR_sizeErrors [.ref po] h (rV (vI (zE S)) h) := by
  refine x_met rfl rfl (Nat.le_of_ble_eq_true rfl) ?_
  have w0 := hW.1
  refine x_aload_n d_PR_sizeErrors_0 rfl rfl (by first | rfl | assumption) ?_
  refine x_get 4 7 d_PR_sizeErrors_1 gf_PR_138 (by repeat (first | assumption | exact hs_self (by assumption) | exact hs_self (hs_ne (by omega) (by assumption)) | exact hs_self (hs_ne (by omega) (hs_ne (by omega) (by assumption))) | refine hs_ne (by omega) ?_)) (by rfl) ?_
  refine x_ireturn d_PR_sizeErrors_4 rfl ?_
  exact ⟨rfl, rfl⟩
set_option maxHeartbeats 1000000 in
theorem w_dataErrors {E : xEnv} {h : xH} {po : Nat} {Y : LY} {S : ST} (hW : CW h po Y S) : xCt E 0 0 0 M_PR_dataErrors [.ref po] h (rV (vI (zF S)) h) := by
  refine x_met rfl rfl (Nat.le_of_ble_eq_true rfl) ?_
  have w0 := hW.1
  refine x_aload_n d_PR_dataErrors_0 rfl rfl (by first | rfl | assumption) ?_
  refine x_get 4 8 d_PR_dataErrors_1 gf_PR_141 (by repeat (first | assumption | exact hs_self (by assumption) | exact hs_self (hs_ne (by omega) (by assumption)) | exact hs_self (hs_ne (by omega) (hs_ne (by omega) (by assumption))) | refine hs_ne (by omega) ?_)) (by rfl) ?_
  refine x_ireturn d_PR_dataErrors_4 rfl ?_
  exact ⟨rfl, rfl⟩
set_option maxHeartbeats 1000000 in
theorem w_size {E : xEnv} {h : xH} {po : Nat} {Y : LY} {S : ST} (z : Int) (hO : SO S) (hW : CW h po Y S) (hz : iR z) : xCt E 1 0 0 M_PR_size [.ref po, vI z] h (rV (vI (fSize S z)) h) := by
  refine x_met rfl rfl (Nat.le_of_ble_eq_true rfl) ?_
  have w0 := hW.1
  have rz := gF_rf S Y z
  refine x_aload_n d_PR_size_0 rfl rfl (by first | rfl | assumption) ?_
  refine x_iload_n d_PR_size_1 rfl rfl ?_
  refine x_callV1 (M' := M_PR_fieldAt) d_PR_size_2 lk_PR_59 (w_fieldAt z hO hW hz) mt_PR_fieldAt im_PR_fieldAt se_PR_fieldAt (by repeat (first | assumption | exact hs_self (by assumption) | exact hs_self (hs_ne (by omega) (by assumption)) | exact hs_self (hs_ne (by omega) (hs_ne (by omega) (by assumption))) | refine hs_ne (by omega) ?_)) rfl (by decide) rfl (Nat.le_of_ble_eq_true rfl) (by decide) (by decide) ?_
  refine x_astore_n d_PR_size_5 rfl (Nat.le_of_ble_eq_true rfl) (by first | rfl | assumption) ?_
  refine x_aload_n d_PR_size_6 rfl rfl (by first | rfl | assumption) ?_
  refine x_ifnonnull 14 d_PR_size_7 (by first | rfl | assumption) (by decide) (fun c7 => ?_) (fun c7 => ?_)
  · have hc : th S z := Classical.byContradiction (fun x => c7 (gF_null.mpr x))
    rw [gF_pos hc]
    have a1 := (hW.2.2.2.2.2.2 z.toNat (by omega)).1.1
    refine x_aload_n d_PR_size_14 rfl rfl (by first | rfl | assumption) ?_
    refine x_get 1 3 d_PR_size_15 gf_PR_63 (by repeat (first | assumption | exact hs_self (by assumption) | exact hs_self (hs_ne (by omega) (by assumption)) | exact hs_self (hs_ne (by omega) (hs_ne (by omega) (by assumption))) | refine hs_ne (by omega) ?_)) (by rfl) ?_
    refine x_ireturn d_PR_size_18 rfl ?_
    exact rV_i (by unfold fSize; rw [if_pos hc]) rfl
  · have hc := gF_null.mp c7
    refine j_iconst d_PR_size_10 ?_
    refine x_goto 18 d_PR_size_11 (by decide) ?_
    refine x_ireturn d_PR_size_18 rfl ?_
    exact rV_i (by unfold fSize; rw [if_neg hc]) rfl
set_option maxHeartbeats 1000000 in
theorem w_shape {E : xEnv} {h : xH} {po : Nat} {Y : LY} {S : ST} (z : Int) (hO : SO S) (hW : CW h po Y S) (hz : iR z) : xCt E 1 0 0 M_PR_shape [.ref po, vI z] h (rV (vI (fShape S z)) h) := by
  refine x_met rfl rfl (Nat.le_of_ble_eq_true rfl) ?_
  have w0 := hW.1
  have rz := gF_rf S Y z
  refine x_aload_n d_PR_shape_0 rfl rfl (by first | rfl | assumption) ?_
  refine x_iload_n d_PR_shape_1 rfl rfl ?_
  refine x_callV1 (M' := M_PR_fieldAt) d_PR_shape_2 lk_PR_59 (w_fieldAt z hO hW hz) mt_PR_fieldAt im_PR_fieldAt se_PR_fieldAt (by repeat (first | assumption | exact hs_self (by assumption) | exact hs_self (hs_ne (by omega) (by assumption)) | exact hs_self (hs_ne (by omega) (hs_ne (by omega) (by assumption))) | refine hs_ne (by omega) ?_)) rfl (by decide) rfl (Nat.le_of_ble_eq_true rfl) (by decide) (by decide) ?_
  refine x_astore_n d_PR_shape_5 rfl (Nat.le_of_ble_eq_true rfl) (by first | rfl | assumption) ?_
  refine x_aload_n d_PR_shape_6 rfl rfl (by first | rfl | assumption) ?_
  refine x_ifnonnull 12 d_PR_shape_7 (by first | rfl | assumption) (by decide) (fun c7 => ?_) (fun c7 => ?_)
  · have hc : th S z := Classical.byContradiction (fun x => c7 (gF_null.mpr x))
    rw [gF_pos hc]
    have hi : z.toNat < zN S := by omega
    have a0 := (hW.2.2.2.2.2.2 z.toNat hi).1
    have a1 := a0.1
    have hD := (hO.2.2.2.2 z.toNat hi).1
    obtain ⟨-, -, -, hg, -⟩ := id hD
    have fin : ∀ (x y : Int) (L : List (Option Value)), x = (if fG (zD S z.toNat) = 1 then 256 else 0) → y = (if fM (zD S z.toNat) = 4 then 512 else 0) → X E M_PR_shape 1 0 0 (xZ E 0 0 (rV (vI (fShape S z)) h)) 53 L [vI y, vI ((fN (zD S z.toNat) : Int) + 16 * (fS (zD S z.toNat) : Int) + x)] h 0 0 := by
      intro x y L hx hy
      refine j_iadd d_PR_shape_53 ?_
      refine x_ireturn d_PR_shape_54 rfl ?_
      exact rV_i (by unfold fShape; rw [if_pos hc, hx, hy]) rfl
    have mid : ∀ (x : Int), x = (if fG (zD S z.toNat) = 1 then 256 else 0) → X E M_PR_shape 1 0 0 (xZ E 0 0 (rV (vI (fShape S z)) h)) 38 [some (.ref po), some (vI z), some (.ref (lF' Y z.toNat))] [vI x, vI ((fN (zD S z.toNat) : Int) + 16 * (fS (zD S z.toNat) : Int))] h 0 0 := by
      intro x hx
      refine j_iadd d_PR_shape_38 ?_
      refine x_aload_n d_PR_shape_39 rfl rfl (by first | rfl | assumption) ?_
      refine x_callV1 (M' := M_FD_isEdited) d_PR_shape_40 lk_PR_76 (c_isEdited E h _ _ _ _ a0 hD) mt_FD_isEdited im_FD_isEdited se_FD_isEdited (by repeat (first | assumption | exact hs_self (by assumption) | exact hs_self (hs_ne (by omega) (by assumption)) | exact hs_self (hs_ne (by omega) (hs_ne (by omega) (by assumption))) | refine hs_ne (by omega) ?_)) rfl (by decide) rfl (Nat.le_of_ble_eq_true rfl) (by decide) (by decide) ?_
      refine j_if_eq 52 d_PR_shape_43 (by decide) (by unfold iR; split <;> omega) (fun c43 => ?_) (fun c43 => ?_)
      · rw [ite10] at c43
        refine j_iconst d_PR_shape_52 ?_
        exact fin _ _ _ hx (by rw [if_neg c43])
      · rw [ite10] at c43
        refine j_sipush d_PR_shape_46 (by decide) ?_
        refine x_goto 53 d_PR_shape_49 (by decide) ?_
        exact fin _ _ _ hx (by rw [if_pos (Classical.not_not.mp c43)])
    refine x_aload_n d_PR_shape_12 rfl rfl (by first | rfl | assumption) ?_
    refine x_get 1 4 d_PR_shape_13 gf_PR_66 (by repeat (first | assumption | exact hs_self (by assumption) | exact hs_self (hs_ne (by omega) (by assumption)) | exact hs_self (hs_ne (by omega) (hs_ne (by omega) (by assumption))) | refine hs_ne (by omega) ?_)) (by rfl) ?_
    refine j_bipush d_PR_shape_16 (by decide) ?_
    refine x_aload_n d_PR_shape_18 rfl rfl (by first | rfl | assumption) ?_
    refine x_get 1 5 d_PR_shape_19 gf_PR_69 (by repeat (first | assumption | exact hs_self (by assumption) | exact hs_self (hs_ne (by omega) (by assumption)) | exact hs_self (hs_ne (by omega) (hs_ne (by omega) (by assumption))) | refine hs_ne (by omega) ?_)) (by rfl) ?_
    refine j_imul d_PR_shape_22 ?_
    refine j_iadd d_PR_shape_23 ?_
    refine x_aload_n d_PR_shape_24 rfl rfl (by first | rfl | assumption) ?_
    refine x_get 1 6 d_PR_shape_25 gf_PR_72 (by repeat (first | assumption | exact hs_self (by assumption) | exact hs_self (hs_ne (by omega) (by assumption)) | exact hs_self (hs_ne (by omega) (hs_ne (by omega) (by assumption))) | refine hs_ne (by omega) ?_)) (by rfl) ?_
    refine j_if_eq 37 d_PR_shape_28 (by decide) (by unfold iR; omega) (fun c28 => ?_) (fun c28 => ?_)
    · refine j_iconst d_PR_shape_37 ?_
      exact mid _ (by rw [if_neg (by omega)])
    · refine j_sipush d_PR_shape_31 (by decide) ?_
      refine x_goto 38 d_PR_shape_34 (by decide) ?_
      exact mid _ (by rw [if_pos (by omega)])
  · have hc := gF_null.mp c7
    refine j_iconst d_PR_shape_10 ?_
    refine x_ireturn d_PR_shape_11 rfl ?_
    exact rV_i (by unfold fShape; rw [if_neg hc]) rfl
set_option maxHeartbeats 1000000 in
theorem w_peek {E : xEnv} {h : xH} {po : Nat} {Y : LY} {S : ST} (p : Int) (hW : CW h po Y S) (hp : iR p) : xCt E 1 0 0 M_PR_peek [.ref po, vI p] h (rV (vI (fPeek S p)) h) := by
  refine x_met rfl rfl (Nat.le_of_ble_eq_true rfl) ?_
  have w0 := hW.1
  obtain ⟨T, s1, s2, s3, s4, s5, s6⟩ := hW.2.2.2.1
  refine x_iload_n d_PR_peek_0 rfl rfl ?_
  refine x_callS1 (M' := M_PR_isPlace) d_PR_peek_1 lk_PR_80 (c_isPlace E h p hp) mt_PR_isPlace st_PR_isPlace (by decide) rfl (Nat.le_of_ble_eq_true rfl) (by decide) (by decide) ?_
  refine j_if_eq 19 d_PR_peek_4 (by decide) (by unfold iR; split <;> omega) (fun c4 => ?_) (fun c4 => ?_)
  · rw [ite10] at c4
    refine j_iconst d_PR_peek_19 ?_
    refine x_ireturn d_PR_peek_20 rfl ?_
    exact rV_i (by unfold fPeek; rw [if_neg c4]) rfl
  · rw [ite10] at c4
    have c4 := Classical.not_not.mp c4
    refine x_aload_n d_PR_peek_7 rfl rfl (by first | rfl | assumption) ?_
    refine x_get 4 5 d_PR_peek_8 gf_PR_29 (by repeat (first | assumption | exact hs_self (by assumption) | exact hs_self (hs_ne (by omega) (by assumption)) | exact hs_self (hs_ne (by omega) (hs_ne (by omega) (by assumption))) | refine hs_ne (by omega) ?_)) (by rfl) ?_
    refine x_get 3 0 d_PR_peek_11 gf_PR_83 (by repeat (first | assumption | exact hs_self (by assumption) | exact hs_self (hs_ne (by omega) (by assumption)) | exact hs_self (hs_ne (by omega) (hs_ne (by omega) (by assumption))) | refine hs_ne (by omega) ?_)) (by rfl) ?_
    refine x_iload_n d_PR_peek_14 rfl rfl ?_
    refine j_iald d_PR_peek_15 (by repeat (first | assumption | exact hs_self (by assumption) | exact hs_self (hs_ne (by omega) (by assumption)) | exact hs_self (hs_ne (by omega) (hs_ne (by omega) (by assumption))) | refine hs_ne (by omega) ?_)) (by omega) (by omega) (by decide) ?_
    refine x_goto 20 d_PR_peek_16 (by decide) ?_
    refine x_ireturn d_PR_peek_20 rfl ?_
    exact rV_i (by unfold fPeek; rw [if_pos c4]) rfl
set_option maxHeartbeats 1000000 in
theorem w_poke {E : xEnv} {h : xH} {po : Nat} {Y : LY} {S : ST} (p b : Int) (hW : CW h po Y S) (hp : iR p) (hb : iR b) : xCt E 1 0 0 M_PR_poke [.ref po, vI p, vI b] h (rQ (pC po Y h (fPoke S p b))) := by
  refine x_met rfl rfl (Nat.le_of_ble_eq_true rfl) ?_
  have w0 := hW.1
  obtain ⟨T, s1, s2, s3, s4, s5, s6⟩ := hW.2.2.2.1
  unfold iR at hb
  have bad : ¬ (0 ≤ p ∧ p < 64 ∧ 0 ≤ b ∧ b ≤ 255) → ∀ L : List (Option Value), X E M_PR_poke 1 0 0 (xZ E 0 0 (rQ (pC po Y h (fPoke S p b)))) 18 L [] h 0 0 := by
    intro hb L
    refine j_iconst d_PR_poke_18 ?_
    refine j_zreturn d_PR_poke_19 rfl (by omega) ?_
    unfold fPoke
    rw [if_neg hb]
    exact ⟨_, rfl, rfl, hW, frC_refl _ _⟩
  refine x_iload_n d_PR_poke_0 rfl rfl ?_
  refine x_callS1 (M' := M_PR_isPlace) d_PR_poke_1 lk_PR_80 (c_isPlace E h p hp) mt_PR_isPlace st_PR_isPlace (by decide) rfl (Nat.le_of_ble_eq_true rfl) (by decide) (by decide) ?_
  refine j_if_eq 18 d_PR_poke_4 (by decide) (by unfold iR; split <;> omega) (fun c4 => ?_) (fun c4 => ?_)
  · rw [ite10] at c4
    exact bad (by omega) _
  · rw [ite10] at c4
    have c4 := Classical.not_not.mp c4
    refine x_iload_n d_PR_poke_7 rfl rfl ?_
    refine j_if_lt 18 d_PR_poke_8 (by decide) (by unfold iR; omega) (fun c8 => ?_) (fun c8 => ?_)
    · exact bad (by omega) _
    · refine x_iload_n d_PR_poke_11 rfl rfl ?_
      refine j_sipush d_PR_poke_12 (by decide) ?_
      refine j_icmp_le 20 d_PR_poke_15 (by decide) (by unfold iR; omega) (by unfold iR; omega) (fun c15 => ?_) (fun c15 => ?_)
      · refine x_aload_n d_PR_poke_20 rfl rfl (by first | rfl | assumption) ?_
        refine x_get 4 5 d_PR_poke_21 gf_PR_29 (by repeat (first | assumption | exact hs_self (by assumption) | exact hs_self (hs_ne (by omega) (by assumption)) | exact hs_self (hs_ne (by omega) (hs_ne (by omega) (by assumption))) | refine hs_ne (by omega) ?_)) (by rfl) ?_
        refine x_get 3 0 d_PR_poke_24 gf_PR_83 (by repeat (first | assumption | exact hs_self (by assumption) | exact hs_self (hs_ne (by omega) (by assumption)) | exact hs_self (hs_ne (by omega) (hs_ne (by omega) (by assumption))) | refine hs_ne (by omega) ?_)) (by rfl) ?_
        refine x_iload_n d_PR_poke_27 rfl rfl ?_
        refine x_iload_n d_PR_poke_28 rfl rfl ?_
        refine j_iast d_PR_poke_29 (by repeat (first | assumption | exact hs_self (by assumption) | exact hs_self (hs_ne (by omega) (by assumption)) | exact hs_self (hs_ne (by omega) (hs_ne (by omega) (by assumption))) | refine hs_ne (by omega) ?_)) (by omega) (by omega) (by decide) ?_
        refine j_iconst d_PR_poke_30 ?_
        refine j_zreturn d_PR_poke_31 rfl (by omega) ?_
        unfold fPoke
        rw [if_pos (by omega)]
        exact ⟨_, rfl, rfl, CW_byte hW (bOk_gU s6 (by omega)), frC_set (frC_refl _ _) (by omega)⟩
      · exact bad (by omega) _
set_option maxHeartbeats 1000000 in
theorem w_value {E : xEnv} {h : xH} {po : Nat} {Y : LY} {S : ST} (z : Int) (hO : SO S) (hW : CW h po Y S) (hz : iR z) : xCt E 5 0 0 M_PR_value [.ref po, vI z] h (rQ (fun w h' => w = vL (fValue S z) ∧ CW h' po Y S ∧ frC po h h')) := by
  refine x_met rfl rfl (Nat.le_of_ble_eq_true rfl) ?_
  have w0 := hW.1
  obtain ⟨T, s1, s2, s3, s4, s5, s6⟩ := hW.2.2.2.1
  have rz := gF_rf S Y z
  refine x_aload_n d_PR_value_0 rfl rfl (by first | rfl | assumption) ?_
  refine x_iload_n d_PR_value_1 rfl rfl ?_
  refine x_callV1 (M' := M_PR_fieldAt) d_PR_value_2 lk_PR_59 (w_fieldAt z hO hW hz) mt_PR_fieldAt im_PR_fieldAt se_PR_fieldAt (by repeat (first | assumption | exact hs_self (by assumption) | exact hs_self (hs_ne (by omega) (by assumption)) | exact hs_self (hs_ne (by omega) (hs_ne (by omega) (by assumption))) | refine hs_ne (by omega) ?_)) rfl (by decide) rfl (Nat.le_of_ble_eq_true rfl) (by decide) (by decide) ?_
  refine x_astore_n d_PR_value_5 rfl (Nat.le_of_ble_eq_true rfl) (by first | rfl | assumption) ?_
  refine x_aload_n d_PR_value_6 rfl rfl (by first | rfl | assumption) ?_
  refine x_ifnonnull 16 d_PR_value_7 (by first | rfl | assumption) (by decide) (fun c7 => ?_) (fun c7 => ?_)
  · have hc : th S z := Classical.byContradiction (fun x => c7 (gF_null.mpr x))
    rw [gF_pos hc]
    refine x_aload_n d_PR_value_16 rfl rfl (by first | rfl | assumption) ?_
    refine x_get 4 5 d_PR_value_17 gf_PR_29 (by repeat (first | assumption | exact hs_self (by assumption) | exact hs_self (hs_ne (by omega) (by assumption)) | exact hs_self (hs_ne (by omega) (hs_ne (by omega) (by assumption))) | refine hs_ne (by omega) ?_)) (by rfl) ?_
    refine x_aload_n d_PR_value_20 rfl rfl (by first | rfl | assumption) ?_
    refine x_callVq (M' := M_SG_unitsOf) d_PR_value_21 lk_PR_89 (w_unitsOf z.toNat hO hW (by omega)) mt_SG_unitsOf im_SG_unitsOf se_SG_unitsOf (by repeat (first | assumption | exact hs_self (by assumption) | exact hs_self (hs_ne (by omega) (by assumption)) | exact hs_self (hs_ne (by omega) (hs_ne (by omega) (by assumption))) | refine hs_ne (by omega) ?_)) rfl (by decide) rfl (Nat.le_of_ble_eq_true rfl) (by decide) (by decide) ?_
    rintro v h' ⟨rfl, hW', hfr, -⟩
    refine x_lreturn d_PR_value_24 rfl ?_
    exact ⟨_, rfl, by unfold fValue; rw [if_pos hc], hW', hfr⟩
  · have hc := gF_null.mp c7
    refine x_ldc2 d_PR_value_10 kl_PR_87 ?_
    refine x_goto 24 d_PR_value_13 (by decide) ?_
    refine x_lreturn d_PR_value_24 rfl ?_
    exact ⟨_, rfl, by unfold fValue; rw [if_neg hc]; rfl, hW, frC_refl _ _⟩
set_option maxHeartbeats 1000000 in
theorem w_put {E : xEnv} {h : xH} {po : Nat} {Y : LY} {S : ST} (z v sc : Int) (hO : SO S) (hW : CW h po Y S) (hz : iR z) (hv : iR v) (hsc : iR sc) : xCt E 6 0 0 M_PR_put [.ref po, vI z, vI v, vI sc] h (rQ (pC po Y h (fPut S z v sc))) := by
  refine x_met rfl rfl (Nat.le_of_ble_eq_true rfl) ?_
  have w0 := hW.1
  have rz := gF_rf S Y z
  unfold iR at hsc hv
  have bad : ¬ (th S z ∧ 0 ≤ sc ∧ sc ≤ 9) → ∀ L : List (Option Value), X E M_PR_put 6 0 0 (xZ E 0 0 (rQ (pC po Y h (fPut S z v sc)))) 22 L [] h 0 0 := by
    intro hb L
    refine j_iconst d_PR_put_22 ?_
    refine j_zreturn d_PR_put_23 rfl (by omega) ?_
    unfold fPut
    rw [if_neg hb]
    exact ⟨_, rfl, rfl, hW, frC_refl _ _⟩
  refine x_aload_n d_PR_put_0 rfl rfl (by first | rfl | assumption) ?_
  refine x_iload_n d_PR_put_1 rfl rfl ?_
  refine x_callV1 (M' := M_PR_fieldAt) d_PR_put_2 lk_PR_59 (w_fieldAt z hO hW hz) mt_PR_fieldAt im_PR_fieldAt se_PR_fieldAt (by repeat (first | assumption | exact hs_self (by assumption) | exact hs_self (hs_ne (by omega) (by assumption)) | exact hs_self (hs_ne (by omega) (hs_ne (by omega) (by assumption))) | refine hs_ne (by omega) ?_)) rfl (by decide) rfl (Nat.le_of_ble_eq_true rfl) (by decide) (by decide) ?_
  refine x_astore d_PR_put_5 (Nat.le_of_ble_eq_true rfl) (by first | rfl | assumption) ?_
  refine x_aload d_PR_put_7 rfl (by first | rfl | assumption) ?_
  refine x_ifnull 22 d_PR_put_9 (by first | rfl | assumption) (by decide) (fun c9 => ?_) (fun c9 => ?_)
  · have hc := gF_null.mp c9
    exact bad (fun x => hc x.1) _
  · have hc : th S z := Classical.byContradiction (fun x => c9 (gF_null.mpr x))
    refine x_iload_n d_PR_put_12 rfl rfl ?_
    refine j_if_lt 22 d_PR_put_13 (by decide) (by unfold iR; omega) (fun c13 => ?_) (fun c13 => ?_)
    · exact bad (by omega) _
    · refine x_iload_n d_PR_put_16 rfl rfl ?_
      refine j_bipush d_PR_put_17 (by decide) ?_
      refine j_icmp_le 24 d_PR_put_19 (by decide) (by unfold iR; omega) (by unfold iR; omega) (fun c19 => ?_) (fun c19 => ?_)
      · rw [gF_pos hc]
        refine x_aload_n d_PR_put_24 rfl rfl (by first | rfl | assumption) ?_
        refine x_aload d_PR_put_25 rfl (by first | rfl | assumption) ?_
        refine x_iload_n d_PR_put_27 rfl rfl ?_
        refine j_i2l d_PR_put_28 (by unfold iR; omega) ?_
        rw [show sc = (sc.toNat : Int) by omega]
        refine x_iload_n d_PR_put_29 rfl rfl ?_
        refine x_callVp (M' := M_PR_storeByMove) d_PR_put_30 lk_PR_93 (w_storeByMove z.toNat sc.toNat v hO hW (by omega) (by omega) (by omega)) mt_PR_storeByMove im_PR_storeByMove se_PR_storeByMove (by repeat (first | assumption | exact hs_self (by assumption) | exact hs_self (hs_ne (by omega) (by assumption)) | exact hs_self (hs_ne (by omega) (hs_ne (by omega) (by assumption))) | refine hs_ne (by omega) ?_)) rfl (by decide) rfl (Nat.le_of_ble_eq_true rfl) (by decide) (by decide) ?_
        rintro h' ⟨hW', hfr⟩
        refine j_iconst d_PR_put_33 ?_
        refine j_zreturn d_PR_put_34 rfl (by omega) ?_
        unfold fPut
        rw [if_pos (by omega)]
        exact ⟨_, rfl, rfl, hW', hfr⟩
      · exact bad (by omega) _
set_option maxHeartbeats 1000000 in
theorem w_move {E : xEnv} {h : xH} {po : Nat} {Y : LY} {S : ST} (a b : Int) (hO : SO S) (hW : CW h po Y S) (ha : iR a) (hb : iR b) : xCt E 6 0 0 M_PR_move [.ref po, vI a, vI b] h (rQ (pC po Y h (fMove S a b))) := by
  refine x_met rfl rfl (Nat.le_of_ble_eq_true rfl) ?_
  have w0 := hW.1
  obtain ⟨T, s1, s2, s3, s4, s5, s6⟩ := hW.2.2.2.1
  have ra := gF_rf S Y a
  have rb := gF_rf S Y b
  have bad : ¬ (th S a ∧ th S b) → ∀ L : List (Option Value), X E M_PR_move 6 0 0 (xZ E 0 0 (rQ (pC po Y h (fMove S a b)))) 22 L [] h 0 0 := by
    intro hb L
    refine j_iconst d_PR_move_22 ?_
    refine x_ireturn d_PR_move_23 rfl ?_
    unfold fMove
    rw [if_neg hb]
    exact ⟨_, rfl, rfl, hW, frC_refl _ _⟩
  refine x_aload_n d_PR_move_0 rfl rfl (by first | rfl | assumption) ?_
  refine x_iload_n d_PR_move_1 rfl rfl ?_
  refine x_callV1 (M' := M_PR_fieldAt) d_PR_move_2 lk_PR_59 (w_fieldAt a hO hW ha) mt_PR_fieldAt im_PR_fieldAt se_PR_fieldAt (by repeat (first | assumption | exact hs_self (by assumption) | exact hs_self (hs_ne (by omega) (by assumption)) | exact hs_self (hs_ne (by omega) (hs_ne (by omega) (by assumption))) | refine hs_ne (by omega) ?_)) rfl (by decide) rfl (Nat.le_of_ble_eq_true rfl) (by decide) (by decide) ?_
  refine x_astore_n d_PR_move_5 rfl (Nat.le_of_ble_eq_true rfl) (by first | rfl | assumption) ?_
  refine x_aload_n d_PR_move_6 rfl rfl (by first | rfl | assumption) ?_
  refine x_iload_n d_PR_move_7 rfl rfl ?_
  refine x_callV1 (M' := M_PR_fieldAt) d_PR_move_8 lk_PR_59 (w_fieldAt b hO hW hb) mt_PR_fieldAt im_PR_fieldAt se_PR_fieldAt (by repeat (first | assumption | exact hs_self (by assumption) | exact hs_self (hs_ne (by omega) (by assumption)) | exact hs_self (hs_ne (by omega) (hs_ne (by omega) (by assumption))) | refine hs_ne (by omega) ?_)) rfl (by decide) rfl (Nat.le_of_ble_eq_true rfl) (by decide) (by decide) ?_
  refine x_astore d_PR_move_11 (Nat.le_of_ble_eq_true rfl) (by first | rfl | assumption) ?_
  refine x_loc (L' := [some (.ref po), some (vI a), some (vI b), some (gF S Y a), some (gF S Y b), none, none]) (by unfold gF; split <;> split <;> rfl) ?_
  refine x_aload_n d_PR_move_13 rfl rfl (by first | rfl | assumption) ?_
  refine x_ifnull 22 d_PR_move_14 (by first | rfl | assumption) (by decide) (fun c14 => ?_) (fun c14 => ?_)
  · have hc := gF_null.mp c14
    exact bad (fun x => hc x.1) _
  · have hca : th S a := Classical.byContradiction (fun x => c14 (gF_null.mpr x))
    refine x_aload d_PR_move_17 rfl (by first | rfl | assumption) ?_
    refine x_ifnonnull 24 d_PR_move_19 (by first | rfl | assumption) (by decide) (fun c19 => ?_) (fun c19 => ?_)
    · have hcb : th S b := Classical.byContradiction (fun x => c19 (gF_null.mpr x))
      rw [gF_pos hca, gF_pos hcb]
      have hia : a.toNat < zN S := by omega
      have hib : b.toNat < zN S := by omega
      have hu := uA_9 (hO.2.2.2.2 _ hia).1 s6
      have hDa := (hO.2.2.2.2 _ hia).1
      refine x_aload_n d_PR_move_24 rfl rfl (by first | rfl | assumption) ?_
      refine x_get 4 5 d_PR_move_25 gf_PR_29 (by repeat (first | assumption | exact hs_self (by assumption) | exact hs_self (hs_ne (by omega) (by assumption)) | exact hs_self (hs_ne (by omega) (hs_ne (by omega) (by assumption))) | refine hs_ne (by omega) ?_)) (by rfl) ?_
      refine x_aload_n d_PR_move_28 rfl rfl (by first | rfl | assumption) ?_
      refine x_callVq (M' := M_SG_unitsOf) d_PR_move_29 lk_PR_89 (w_unitsOf a.toNat hO hW hia) mt_SG_unitsOf im_SG_unitsOf se_SG_unitsOf (by repeat (first | assumption | exact hs_self (by assumption) | exact hs_self (hs_ne (by omega) (by assumption)) | exact hs_self (hs_ne (by omega) (hs_ne (by omega) (by assumption))) | refine hs_ne (by omega) ?_)) rfl (by decide) rfl (Nat.le_of_ble_eq_true rfl) (by decide) (by decide) ?_
      rintro v h' ⟨rfl, hW', hfr, -⟩
      have w0' := hW'.1
      have a1 := (hW'.2.2.2.2.2.2 a.toNat hia).1.1
      cases hua : uA (zD S a.toNat) (zB S) with
      | none =>
        refine x_top (w := vL nonI) rfl ?_
        refine x_lstore d_PR_move_32 (Nat.le_of_ble_eq_true rfl) ?_
        refine x_lload d_PR_move_34 rfl ?_
        refine x_ldc2 d_PR_move_36 kl_PR_87 ?_
        refine j_lcmp_ne 48 d_PR_move_39 d_PR_move_40 (by decide) (by unfold lR nonI; omega) (by unfold lR; omega) (fun c39 => ?_) (fun c39 => ?_)
        · exact absurd rfl c39
        · refine x_aload_n d_PR_move_43 rfl rfl (by first | rfl | assumption) ?_
          refine x_callVq (M' := M_PR_dataError) d_PR_move_44 lk_PR_97 (w_dataError hW') mt_PR_dataError im_PR_dataError se_PR_dataError (by repeat (first | assumption | exact hs_self (by assumption) | exact hs_self (hs_ne (by omega) (by assumption)) | exact hs_self (hs_ne (by omega) (hs_ne (by omega) (by assumption))) | refine hs_ne (by omega) ?_)) rfl (by decide) rfl (Nat.le_of_ble_eq_true rfl) (by decide) (by decide) ?_
          rintro v h2 ⟨rfl, hW2, hf2⟩
          refine x_ireturn d_PR_move_47 rfl ?_
          unfold fMove
          rw [if_pos ⟨hca, hcb⟩, hua]
          exact ⟨_, rfl, rfl, hW2, frC_trans hfr hf2⟩
      | some u =>
        have hub := hu _ hua
        refine x_top (w := vL u) rfl ?_
        refine x_lstore d_PR_move_32 (Nat.le_of_ble_eq_true rfl) ?_
        refine x_lload d_PR_move_34 rfl ?_
        refine x_ldc2 d_PR_move_36 kl_PR_87 ?_
        refine j_lcmp_ne 48 d_PR_move_39 d_PR_move_40 (by decide) (by unfold lR; omega) (by unfold lR; omega) (fun c39 => ?_) (fun c39 => ?_)
        · refine x_aload_n d_PR_move_48 rfl rfl (by first | rfl | assumption) ?_
          refine x_aload d_PR_move_49 rfl (by first | rfl | assumption) ?_
          refine x_lload d_PR_move_51 rfl ?_
          refine x_aload_n d_PR_move_53 rfl rfl (by first | rfl | assumption) ?_
          refine x_get 1 5 d_PR_move_54 gf_PR_69 (by repeat (first | assumption | exact hs_self (by assumption) | exact hs_self (hs_ne (by omega) (by assumption)) | exact hs_self (hs_ne (by omega) (hs_ne (by omega) (by assumption))) | refine hs_ne (by omega) ?_)) (by rfl) ?_
          refine x_callVp (M' := M_PR_storeByMove) d_PR_move_57 lk_PR_93 (w_storeByMove b.toNat _ u hO hW' hib (by omega) (by have := hDa.2.2.1; omega)) mt_PR_storeByMove im_PR_storeByMove se_PR_storeByMove (by repeat (first | assumption | exact hs_self (by assumption) | exact hs_self (hs_ne (by omega) (by assumption)) | exact hs_self (hs_ne (by omega) (hs_ne (by omega) (by assumption))) | refine hs_ne (by omega) ?_)) rfl (by decide) rfl (Nat.le_of_ble_eq_true rfl) (by decide) (by decide) ?_
          rintro h2 ⟨hW2, hf2⟩
          refine j_iconst d_PR_move_60 ?_
          refine x_ireturn d_PR_move_61 rfl ?_
          unfold fMove
          rw [if_pos ⟨hca, hcb⟩, hua]
          exact ⟨_, rfl, rfl, hW2, frC_trans hfr hf2⟩
        · exfalso; omega
    · have hc := gF_null.mp c19
      exact bad (fun x => hc x.2) _
