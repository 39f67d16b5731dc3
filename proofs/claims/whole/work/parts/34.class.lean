/-! the class: its object at po, what it makes first behind it -/
abbrev oR (po sp : Nat) (dl mc se de : Int) : va_E := ob 4 [.ref (po + 1), vI dl, .ref sp, .ref (po + 4), vI mc, .ref (po + 5), .ref (po + 9), vI se, vI de]
section XPR
variable {E : xEnv} {M : xM} {d K N : Nat} {Z : xEnd} {pc : Nat} {L : List (Option Value)} {st : List Value} {h : xH} {k n : Nat} {index po sp : Nat} {dl mc se de x : Int}
theorem xp_PR_1 (hd : decode M.2.1 pc = .ok (.putfield index, 3)) (hp : xPut M.1 index 4 1 .int) (ho : h[po]? = some (oR po sp dl mc se de)) (kk : X E M d K N Z (pc + 3) L st (h.set po (oR po sp x mc se de)) k n) : X E M d K N Z pc L (vI x :: .ref po :: st) h k n := x_put 4 1 hd hp ho (Nat.le_of_ble_eq_true rfl) rfl rfl kk
theorem xp_PR_4 (hd : decode M.2.1 pc = .ok (.putfield index, 3)) (hp : xPut M.1 index 4 4 .int) (ho : h[po]? = some (oR po sp dl mc se de)) (kk : X E M d K N Z (pc + 3) L st (h.set po (oR po sp dl x se de)) k n) : X E M d K N Z pc L (vI x :: .ref po :: st) h k n := x_put 4 4 hd hp ho (Nat.le_of_ble_eq_true rfl) rfl rfl kk
theorem xp_PR_7 (hd : decode M.2.1 pc = .ok (.putfield index, 3)) (hp : xPut M.1 index 4 7 .int) (ho : h[po]? = some (oR po sp dl mc se de)) (kk : X E M d K N Z (pc + 3) L st (h.set po (oR po sp dl mc x de)) k n) : X E M d K N Z pc L (vI x :: .ref po :: st) h k n := x_put 4 7 hd hp ho (Nat.le_of_ble_eq_true rfl) rfl rfl kk
theorem xp_PR_8 (hd : decode M.2.1 pc = .ok (.putfield index, 3)) (hp : xPut M.1 index 4 8 .int) (ho : h[po]? = some (oR po sp dl mc se de)) (kk : X E M d K N Z (pc + 3) L st (h.set po (oR po sp dl mc se x)) k n) : X E M d K N Z pc L (vI x :: .ref po :: st) h k n := x_put 4 8 hd hp ho (Nat.le_of_ble_eq_true rfl) rfl rfl kk
end XPR

def cS (h : xH) (po : Nat) (B T : Nat → Int) : Prop := h[po + 5]? = some (oS (po + 6) (po + 7)) ∧ h[po + 6]? = some (aI 64 B) ∧ h[po + 7]? = some (oE (po + 8)) ∧ h[po + 8]? = some (aI 18 T) ∧ (∀ i, i < 18 → iR (T i)) ∧ bOk B
/-- where a field's cells may lie -/
def fd (po f p q : Nat) : Prop := po + 9 < f ∧ (p = po + 2 ∨ po + 9 < p) ∧ (q = po + 3 ∨ po + 9 < q)
theorem fAt_set {h : xH} {o f p q : Nat} {D : FD} {e : va_E} (hf : fAt h f p q D) (h1 : o ≠ f) (h2 : o ≠ p) (h3 : o ≠ q) : fAt (h.set o e) f p q D := by
  refine ⟨hs_ne h1 hf.1, fun h4 => ?_⟩
  obtain ⟨⟨a, b, c, d, g⟩, i⟩ := hf.2 h4
  exact ⟨⟨a, b, c, d, hs_ne h2 g⟩, hs_ne h3 i⟩
set_option maxHeartbeats 1000000 in
theorem c_fieldAt (E : xEnv) (h : xH) (po sp n : Nat) (dl se de z : Int) (mk : Nat → Option Nat) (hR : h[po]? = some (oR po sp dl n se de)) (hmk : h[po + 4]? = some (aR 12 mk)) (hn : n ≤ 12) (hz : iR z) : xCt E 0 0 0 M_PR_fieldAt [.ref po, vI z] h (rV (if 0 ≤ z ∧ z < n then xrv (mk z.toNat) else .null) h) := by
  refine x_met rfl rfl (Nat.le_of_ble_eq_true rfl) ?_
  unfold iR at hz
  refine x_iload_n d_PR_fieldAt_0 rfl rfl ?_
  refine j_if_lt 21 d_PR_fieldAt_1 (by decide) (by unfold iR; omega) (fun c1 => ?_) (fun c1 => ?_)
  · refine x_aconst_null d_PR_fieldAt_21 ?_
    refine x_areturn d_PR_fieldAt_22 rfl (Or.inl ⟨_, rfl⟩) rfl ?_
    exact ⟨by rw [if_neg (by omega)], rfl⟩
  · refine x_iload_n d_PR_fieldAt_4 rfl rfl ?_
    refine x_aload_n d_PR_fieldAt_5 rfl rfl rfl ?_
    refine x_get 4 4 d_PR_fieldAt_6 gf_PR_53 (by repeat (first | assumption | exact hs_self (by assumption) | exact hs_self (hs_ne (by omega) (by assumption)) | exact hs_self (hs_ne (by omega) (hs_ne (by omega) (by assumption))) | refine hs_ne (by omega) ?_)) (by rfl) ?_
    refine j_icmp_ge 21 d_PR_fieldAt_9 (by decide) (by unfold iR; omega) (by unfold iR; omega) (fun c9 => ?_) (fun c9 => ?_)
    · refine x_aconst_null d_PR_fieldAt_21 ?_
      refine x_areturn d_PR_fieldAt_22 rfl (Or.inl ⟨_, rfl⟩) rfl ?_
      exact ⟨by rw [if_neg (by omega)], rfl⟩
    · refine x_aload_n d_PR_fieldAt_12 rfl rfl rfl ?_
      refine x_get 4 3 d_PR_fieldAt_13 gf_PR_22 (by repeat (first | assumption | exact hs_self (by assumption) | exact hs_self (hs_ne (by omega) (by assumption)) | exact hs_self (hs_ne (by omega) (hs_ne (by omega) (by assumption))) | refine hs_ne (by omega) ?_)) (by rfl) ?_
      refine x_iload_n d_PR_fieldAt_16 rfl rfl ?_
      refine j_aald d_PR_fieldAt_17 (by repeat (first | assumption | exact hs_self (by assumption) | exact hs_self (hs_ne (by omega) (by assumption)) | exact hs_self (hs_ne (by omega) (hs_ne (by omega) (by assumption))) | refine hs_ne (by omega) ?_)) (by omega) (by omega) (by decide) ?_
      refine x_goto 22 d_PR_fieldAt_18 (by decide) ?_
      refine x_areturn d_PR_fieldAt_22 rfl (Or.inl ⟨_, rfl⟩) (by cases mk z.toNat <;> rfl) ?_
      exact ⟨by rw [if_pos (by omega)], rfl⟩
set_option maxHeartbeats 1000000 in
theorem c_isEdited (E : xEnv) (h : xH) (f p q : Nat) (D : FD) (hf : fAt h f p q D) (hD : fOk D) : xCt E 0 0 0 M_FD_isEdited [.ref f] h (rV (vI (if fM D = 4 then 1 else 0)) h) := by
  refine x_met rfl rfl (Nat.le_of_ble_eq_true rfl) ?_
  have hf1 := hf.1
  have hm4 := hD.1
  refine x_aload_n d_FD_isEdited_0 rfl rfl rfl ?_
  refine x_get 1 1 d_FD_isEdited_1 gf_FD_21 (by repeat (first | assumption | exact hs_self (by assumption) | exact hs_self (hs_ne (by omega) (by assumption)) | exact hs_self (hs_ne (by omega) (hs_ne (by omega) (by assumption))) | refine hs_ne (by omega) ?_)) (by rfl) ?_
  refine j_iconst d_FD_isEdited_4 ?_
  refine j_icmp_ne 12 d_FD_isEdited_5 (by decide) (by unfold iR; omega) (by unfold iR; omega) (fun c5 => ?_) (fun c5 => ?_)
  · refine j_iconst d_FD_isEdited_12 ?_
    refine j_zreturn d_FD_isEdited_13 rfl (by omega) ?_
    exact rV_i (by split <;> omega) rfl
  · refine j_iconst d_FD_isEdited_8 ?_
    refine x_goto 13 d_FD_isEdited_9 (by decide) ?_
    refine j_zreturn d_FD_isEdited_13 rfl (by omega) ?_
    exact rV_i (by split <;> omega) rfl
set_option maxHeartbeats 1000000 in
theorem c_isOperand (E : xEnv) (h : xH) (f p q : Nat) (D : FD) (hf : fAt h f p q D) (hD : fOk D) : xCt E 1 0 0 M_PR_isOperand [.ref f] h (rV (vI (if fM D = 4 then 0 else 1)) h) := by
  refine x_met rfl rfl (Nat.le_of_ble_eq_true rfl) ?_
  have hf1 := hf.1
  refine x_aload_n d_PR_isOperand_0 rfl rfl rfl ?_
  refine x_ifnull 15 d_PR_isOperand_1 rfl (by decide) (fun c1 => ?_) (fun c1 => ?_)
  · cases c1
  · refine x_aload_n d_PR_isOperand_4 rfl rfl rfl ?_
    refine x_callV1 (M' := M_FD_isEdited) d_PR_isOperand_5 lk_PR_76 (c_isEdited E h f p q D hf hD) mt_FD_isEdited im_FD_isEdited se_FD_isEdited (by repeat (first | assumption | exact hs_self (by assumption) | exact hs_self (hs_ne (by omega) (by assumption)) | exact hs_self (hs_ne (by omega) (hs_ne (by omega) (by assumption))) | refine hs_ne (by omega) ?_)) rfl (by decide) rfl (Nat.le_of_ble_eq_true rfl) (by decide) (by decide) ?_
    refine j_if_ne 15 d_PR_isOperand_8 (by decide) (by unfold iR; split <;> omega) (fun c8 => ?_) (fun c8 => ?_)
    · rw [ite10] at c8
      refine j_iconst d_PR_isOperand_15 ?_
      refine j_zreturn d_PR_isOperand_16 rfl (by omega) ?_
      exact rV_i (by rw [if_pos (by omega)]) rfl
    · rw [ite10] at c8
      refine j_iconst d_PR_isOperand_11 ?_
      refine x_goto 16 d_PR_isOperand_12 (by decide) ?_
      refine j_zreturn d_PR_isOperand_16 rfl (by omega) ?_
      exact rV_i (by rw [if_neg c8]) rfl
set_option maxHeartbeats 1000000 in
theorem c_isOperandN (E : xEnv) (h : xH) : xCt E 1 0 0 M_PR_isOperand [.null] h (rV (vI 0) h) := by
  refine x_met rfl rfl (Nat.le_of_ble_eq_true rfl) ?_
  refine x_aload_n d_PR_isOperand_0 rfl rfl rfl ?_
  refine x_ifnull 15 d_PR_isOperand_1 rfl (by decide) (fun c1 => ?_) (fun c1 => ?_)
  · refine j_iconst d_PR_isOperand_15 ?_
    refine j_zreturn d_PR_isOperand_16 rfl (by omega) ?_
    exact ⟨rfl, rfl⟩
  · exact absurd rfl c1
set_option maxHeartbeats 1000000 in
theorem c_isRange (E : xEnv) (h : xH) (po sp n : Nat) (dl se de a b : Int) (hR : h[po]? = some (oR po sp dl n se de)) (hn : n ≤ 12) (ha : iR a) (hb : iR b) : xCt E 0 0 0 M_PR_isRange [.ref po, vI a, vI b] h (rV (vI (if 0 ≤ a ∧ a ≤ b ∧ b < n then 1 else 0)) h) := by
  refine x_met rfl rfl (Nat.le_of_ble_eq_true rfl) ?_
  unfold iR at ha hb
  refine x_iload_n d_PR_isRange_0 rfl rfl ?_
  refine j_if_lt 21 d_PR_isRange_1 (by decide) (by unfold iR; omega) (fun c1 => ?_) (fun c1 => ?_)
  · refine j_iconst d_PR_isRange_21 ?_
    refine j_zreturn d_PR_isRange_22 rfl (by omega) ?_
    exact rV_i (by split <;> omega) rfl
  · refine x_iload_n d_PR_isRange_4 rfl rfl ?_
    refine x_iload_n d_PR_isRange_5 rfl rfl ?_
    refine j_icmp_gt 21 d_PR_isRange_6 (by decide) (by unfold iR; omega) (by unfold iR; omega) (fun c6 => ?_) (fun c6 => ?_)
    · refine j_iconst d_PR_isRange_21 ?_
      refine j_zreturn d_PR_isRange_22 rfl (by omega) ?_
      exact rV_i (by split <;> omega) rfl
    · refine x_iload_n d_PR_isRange_9 rfl rfl ?_
      refine x_aload_n d_PR_isRange_10 rfl rfl rfl ?_
      refine x_get 4 4 d_PR_isRange_11 gf_PR_53 (by repeat (first | assumption | exact hs_self (by assumption) | exact hs_self (hs_ne (by omega) (by assumption)) | exact hs_self (hs_ne (by omega) (hs_ne (by omega) (by assumption))) | refine hs_ne (by omega) ?_)) (by rfl) ?_
      refine j_icmp_ge 21 d_PR_isRange_14 (by decide) (by unfold iR; omega) (by unfold iR; omega) (fun c14 => ?_) (fun c14 => ?_)
      · refine j_iconst d_PR_isRange_21 ?_
        refine j_zreturn d_PR_isRange_22 rfl (by omega) ?_
        exact rV_i (by split <;> omega) rfl
      · refine j_iconst d_PR_isRange_17 ?_
        refine x_goto 22 d_PR_isRange_18 (by decide) ?_
        refine j_zreturn d_PR_isRange_22 rfl (by omega) ?_
        exact rV_i (by split <;> omega) rfl
set_option maxHeartbeats 1000000 in
theorem c_isMode (E : xEnv) (h : xH) (z : Int) (hz : iR z) : xCt E 0 0 0 M_PR_isMode [vI z] h (rV (vI (if 0 ≤ z ∧ z ≤ 7 then 1 else 0)) h) := by
  refine x_met rfl rfl (Nat.le_of_ble_eq_true rfl) ?_
  unfold iR at hz
  refine x_iload_n d_PR_isMode_0 rfl rfl ?_
  refine j_if_lt 14 d_PR_isMode_1 (by decide) (by unfold iR; omega) (fun c1 => ?_) (fun c1 => ?_)
  · refine j_iconst d_PR_isMode_14 ?_
    refine j_zreturn d_PR_isMode_15 rfl (by omega) ?_
    exact rV_i (by split <;> omega) rfl
  · refine x_iload_n d_PR_isMode_4 rfl rfl ?_
    refine j_bipush d_PR_isMode_5 (by decide) ?_
    refine j_icmp_gt 14 d_PR_isMode_7 (by decide) (by unfold iR; omega) (by unfold iR; omega) (fun c7 => ?_) (fun c7 => ?_)
    · refine j_iconst d_PR_isMode_14 ?_
      refine j_zreturn d_PR_isMode_15 rfl (by omega) ?_
      exact rV_i (by split <;> omega) rfl
    · refine j_iconst d_PR_isMode_10 ?_
      refine x_goto 15 d_PR_isMode_11 (by decide) ?_
      refine j_zreturn d_PR_isMode_15 rfl (by omega) ?_
      exact rV_i (by split <;> omega) rfl
set_option maxHeartbeats 1000000 in
theorem c_isOperation (E : xEnv) (h : xH) (z : Int) (hz : iR z) : xCt E 0 0 0 M_PR_isOperation [vI z] h (rV (vI (if 0 ≤ z ∧ z ≤ 3 then 1 else 0)) h) := by
  refine x_met rfl rfl (Nat.le_of_ble_eq_true rfl) ?_
  unfold iR at hz
  refine x_iload_n d_PR_isOperation_0 rfl rfl ?_
  refine j_if_lt 13 d_PR_isOperation_1 (by decide) (by unfold iR; omega) (fun c1 => ?_) (fun c1 => ?_)
  · refine j_iconst d_PR_isOperation_13 ?_
    refine j_zreturn d_PR_isOperation_14 rfl (by omega) ?_
    exact rV_i (by split <;> omega) rfl
  · refine x_iload_n d_PR_isOperation_4 rfl rfl ?_
    refine j_iconst d_PR_isOperation_5 ?_
    refine j_icmp_gt 13 d_PR_isOperation_6 (by decide) (by unfold iR; omega) (by unfold iR; omega) (fun c6 => ?_) (fun c6 => ?_)
    · refine j_iconst d_PR_isOperation_13 ?_
      refine j_zreturn d_PR_isOperation_14 rfl (by omega) ?_
      exact rV_i (by split <;> omega) rfl
    · refine j_iconst d_PR_isOperation_9 ?_
      refine x_goto 14 d_PR_isOperation_10 (by decide) ?_
      refine j_zreturn d_PR_isOperation_14 rfl (by omega) ?_
      exact rV_i (by split <;> omega) rfl
set_option maxHeartbeats 1000000 in
theorem c_isPlace (E : xEnv) (h : xH) (z : Int) (hz : iR z) : xCt E 0 0 0 M_PR_isPlace [vI z] h (rV (vI (if 0 ≤ z ∧ z < 64 then 1 else 0)) h) := by
  refine x_met rfl rfl (Nat.le_of_ble_eq_true rfl) ?_
  unfold iR at hz
  refine x_iload_n d_PR_isPlace_0 rfl rfl ?_
  refine j_if_lt 14 d_PR_isPlace_1 (by decide) (by unfold iR; omega) (fun c1 => ?_) (fun c1 => ?_)
  · refine j_iconst d_PR_isPlace_14 ?_
    refine j_zreturn d_PR_isPlace_15 rfl (by omega) ?_
    exact rV_i (by split <;> omega) rfl
  · refine x_iload_n d_PR_isPlace_4 rfl rfl ?_
    refine j_bipush d_PR_isPlace_5 (by decide) ?_
    refine j_icmp_ge 14 d_PR_isPlace_7 (by decide) (by unfold iR; omega) (by unfold iR; omega) (fun c7 => ?_) (fun c7 => ?_)
    · refine j_iconst d_PR_isPlace_14 ?_
      refine j_zreturn d_PR_isPlace_15 rfl (by omega) ?_
      exact rV_i (by split <;> omega) rfl
    · refine j_iconst d_PR_isPlace_10 ?_
      refine x_goto 15 d_PR_isPlace_11 (by decide) ?_
      refine j_zreturn d_PR_isPlace_15 rfl (by omega) ?_
      exact rV_i (by split <;> omega) rfl
set_option maxHeartbeats 1000000 in
theorem c_dataError (E : xEnv) (h : xH) (po sp : Nat) (dl mc se de : Int) (hR : h[po]? = some (oR po sp dl mc se de)) : xCt E 0 0 0 M_PR_dataError [.ref po] h (rV (vI (-2)) (h.set po (oR po sp dl mc se (de + 1)))) := by
  refine x_met rfl rfl (Nat.le_of_ble_eq_true rfl) ?_
  refine x_aload_n d_PR_dataError_0 rfl rfl rfl ?_
  refine x_dup d_PR_dataError_1 rfl ?_
  refine x_get 4 8 d_PR_dataError_2 gf_PR_141 (by repeat (first | assumption | exact hs_self (by assumption) | exact hs_self (hs_ne (by omega) (by assumption)) | exact hs_self (hs_ne (by omega) (hs_ne (by omega) (by assumption))) | refine hs_ne (by omega) ?_)) (by rfl) ?_
  refine j_iconst d_PR_dataError_5 ?_
  refine j_iadd d_PR_dataError_6 ?_
  refine xp_PR_8 d_PR_dataError_7 pf_PR_dataError_141 (by repeat (first | assumption | exact hs_self (by assumption) | exact hs_self (hs_ne (by omega) (by assumption)) | exact hs_self (hs_ne (by omega) (hs_ne (by omega) (by assumption))) | refine hs_ne (by omega) ?_)) ?_
  refine j_bipush d_PR_dataError_10 (by decide) ?_
  refine x_ireturn d_PR_dataError_12 rfl ?_
  exact ⟨rfl, rfl⟩
/-- what the class stores of number / 10^scale / divisor; none at a size error -/
def cRes (z sc dv : Int) (t dg : Nat) (mode : Int) : Option Int := if (dRes z (t - sc) dv mode).natAbs < 10 ^ dg then some (dRes z (t - sc) dv mode) else none
theorem rnd_le {mode p q y : Int} (h : rnd mode p q = some y) : y.natAbs ≤ p.natAbs + 1 := by
  have hd := Int.natAbs_tdiv_le_natAbs p q
  unfold rnd at h
  split at h
  · cases h; omega
  · split at h
    · cases h
    · split at h
      · have h := Option.some.inj h
        by_cases hp : p < 0
        · rw [if_pos hp] at h; omega
        · rw [if_neg hp] at h; omega
      · cases h; omega
theorem rndS_le {mode p q : Int} (hp : p.natAbs < 4000000000000000000) : ((rndS mode p q).getD seI).natAbs ≤ 9000000000000000000 := by
  unfold rndS seI
  split
  · cases hr : rnd mode (-p) (-q) with
    | none => decide
    | some y => have := rnd_le hr; show y.natAbs ≤ _; omega
  · cases hr : rnd mode p q with
    | none => decide
    | some y => have := rnd_le hr; show y.natAbs ≤ _; omega
theorem dRes_le {z sf dv mode : Int} (hz : z.natAbs < 4000000000000000000) (hs : sf ≤ 8) : (dRes z sf dv mode).natAbs ≤ 9000000000000000000 := by
  unfold dRes
  split
  · decide
  · split
    · exact rndS_le hz
    · split
      · rename_i h0 h1 h2
        have hp := pow10_le (n := sf.toNat) (m := 8) (by omega)
        have hp0 := pow10_pos sf.toNat
        have hb := mul_abs_lt (a := z) (b := 10 ^ sf.toNat) (x := 1000000000) (y := 100000000) (by omega) (by omega) (by decide)
        exact rndS_le (by omega)
      · decide
set_option maxHeartbeats 4000000 in
theorem c_storeResult (E : xEnv) (h : xH) (po sp f p q : Nat) (dl mc se de z sc dv mode : Int) (D : FD) (B T : Nat → Int) (hR : h[po]? = some (oR po sp dl mc se de)) (hS : cS h po B T) (hf : fAt h f p q D) (hD : fOk D) (hfd : fd po f p q) (hz : z.natAbs < 4000000000000000000) (hs : -8 ≤ (fS D : Int) - sc ∧ (fS D : Int) - sc ≤ 8) (hdv : dv.natAbs < 1000000000) (hmd : 0 ≤ mode ∧ mode ≤ 7) : xCt E 5 0 0 M_PR_storeResult [.ref po, .ref f, vL z, vI sc, vL dv, vI mode] h (rQ (fun w h' => w = vI (1 - e01 (cRes z sc dv (fS D) (fN D) mode)) ∧ ∃ T' : Nat → Int, h' = ((h.set (po + 8) (aI 18 T')).set (po + 6) (aI 64 (nB D B (cRes z sc dv (fS D) (fN D) mode)))).set po (oR po sp dl mc (se + e01 (cRes z sc dv (fS D) (fN D) mode)) de) ∧ ∀ i, i < 18 → iR (T' i))) := by
  refine x_met rfl rfl (Nat.le_of_ble_eq_true rfl) ?_
  obtain ⟨s1, s2, s3, s4, s5, s6⟩ := hS
  have hf0 := hf
  have hD0 := hD
  have hf1 := hf.1
  obtain ⟨d1, d2, d3⟩ := hfd
  obtain ⟨hm4, hn, hsc, hg, ho, -⟩ := hD
  have e0 := hset_id s4
  have eb := hset_id s2
  have er := hset_id hR
  have hpl := pow10_le (n := fN D) (m := 9) (by omega)
  have hpl0 := pow10_pos (fN D)
  have hpc := p10c (fN D)
  obtain ⟨u, hu⟩ : ∃ u, u = dRes z ((fS D : Int) - sc) dv mode := ⟨_, rfl⟩
  have hub : u.natAbs ≤ 9000000000000000000 := by rw [hu]; exact dRes_le hz hs.2
  have hcr : cRes z sc dv (fS D) (fN D) mode = if u.natAbs < 10 ^ fN D then some u else none := by unfold cRes; rw [← hu]
  obtain ⟨o, ho⟩ : ∃ o, o = cRes z sc dv (fS D) (fN D) mode := ⟨_, rfl⟩
  rw [← ho] at hcr ⊢
  have hub2 : -9000000000000000000 ≤ u ∧ u ≤ 9000000000000000000 := by omega
  clear ho hm4 hg
  refine x_lload_n d_PR_storeResult_0 rfl rfl ?_
  refine x_aload_n d_PR_storeResult_1 rfl rfl rfl ?_
  refine x_get 1 5 d_PR_storeResult_2 gf_PR_69 (by repeat (first | assumption | exact hs_self (by assumption) | exact hs_self (hs_ne (by omega) (by assumption)) | exact hs_self (hs_ne (by omega) (hs_ne (by omega) (by assumption))) | refine hs_ne (by omega) ?_)) (by rfl) ?_
  refine x_iload d_PR_storeResult_5 rfl ?_
  refine j_isub d_PR_storeResult_7 ?_
  refine x_lload d_PR_storeResult_8 rfl ?_
  refine x_iload d_PR_storeResult_10 rfl ?_
  refine x_callS1 (M' := M_DC_result) d_PR_storeResult_12 lk_PR_144 (c_result E h z _ dv mode hz hs hdv hmd) mt_DC_result st_DC_result (by decide) rfl (Nat.le_of_ble_eq_true rfl) (by decide) (by decide) ?_
  rw [← hu]
  refine x_lstore d_PR_storeResult_15 (Nat.le_of_ble_eq_true rfl) ?_
  refine x_lload d_PR_storeResult_17 rfl ?_
  refine j_labs d_PR_storeResult_19 lk_PR_152w (by unfold lR; omega) (by decide) (Nat.le_of_ble_eq_true rfl) ?_
  refine x_aload_n d_PR_storeResult_22 rfl rfl rfl ?_
  refine x_get 1 4 d_PR_storeResult_23 gf_PR_66 (by repeat (first | assumption | exact hs_self (by assumption) | exact hs_self (hs_ne (by omega) (by assumption)) | exact hs_self (hs_ne (by omega) (hs_ne (by omega) (by assumption))) | refine hs_ne (by omega) ?_)) (by rfl) ?_
  refine x_callS1 (M' := M_DC_tenTo) d_PR_storeResult_26 lk_PR_148 (c_tenTo E h (fN D) (by omega)) mt_DC_tenTo st_DC_tenTo (by decide) rfl (Nat.le_of_ble_eq_true rfl) (by decide) (by decide) ?_
  obtain ⟨ll, hll⟩ : ∃ ll : Int, ll = 10 ^ fN D := ⟨_, rfl⟩
  rw [← hll] at hpl hpl0 hpc ⊢
  refine j_lcmp_lt 45 d_PR_storeResult_29 d_PR_storeResult_30 (by decide) (by unfold lR; omega) (by unfold lR; omega) (fun c29 => ?_) (fun c29 => ?_)
  · rw [if_pos (by omega)] at hcr
    refine x_aload_n d_PR_storeResult_45 rfl rfl rfl ?_
    refine x_get 4 5 d_PR_storeResult_46 gf_PR_29 (by repeat (first | assumption | exact hs_self (by assumption) | exact hs_self (hs_ne (by omega) (by assumption)) | exact hs_self (hs_ne (by omega) (hs_ne (by omega) (by assumption))) | refine hs_ne (by omega) ?_)) (by rfl) ?_
    refine x_aload_n d_PR_storeResult_49 rfl rfl rfl ?_
    refine x_lload d_PR_storeResult_50 rfl ?_
    refine x_callVp (M' := M_SG_store) d_PR_storeResult_52 lk_PR_156 (c_store E h (po + 5) (po + 6) (po + 7) (po + 8) f p q D B T u s1 s2 s3 s4 hf0 hD0 (by omega) (by omega) (by omega) (by omega) (by omega) (by omega) (by omega) (by omega) (by omega) s5) mt_SG_store im_SG_store se_SG_store (by repeat (first | assumption | exact hs_self (by assumption) | exact hs_self (hs_ne (by omega) (by assumption)) | exact hs_self (hs_ne (by omega) (hs_ne (by omega) (by assumption))) | refine hs_ne (by omega) ?_)) rfl (by decide) rfl (Nat.le_of_ble_eq_true rfl) (by decide) (by decide) ?_
    rintro h' ⟨T1, rfl, hT1⟩
    refine j_iconst d_PR_storeResult_55 ?_
    refine j_zreturn d_PR_storeResult_56 rfl (by omega) ?_
    have he : e01 o = 0 := by rw [hcr]; rfl
    refine ⟨_, rfl, by rw [he]; rfl, T1, ?_, hT1⟩
    rw [he, Int.add_zero, hset_id (hs_ne (by omega) (hs_ne (by omega) hR)), hcr]
    rfl
  · rw [if_neg (by omega)] at hcr
    have he : e01 o = 1 := by rw [hcr]; rfl
    refine x_aload_n d_PR_storeResult_33 rfl rfl rfl ?_
    refine x_dup d_PR_storeResult_34 rfl ?_
    refine x_get 4 7 d_PR_storeResult_35 gf_PR_138 (by repeat (first | assumption | exact hs_self (by assumption) | exact hs_self (hs_ne (by omega) (by assumption)) | exact hs_self (hs_ne (by omega) (hs_ne (by omega) (by assumption))) | refine hs_ne (by omega) ?_)) (by rfl) ?_
    refine j_iconst d_PR_storeResult_38 ?_
    refine j_iadd d_PR_storeResult_39 ?_
    refine xp_PR_7 d_PR_storeResult_40 pf_PR_storeResult_138 (by repeat (first | assumption | exact hs_self (by assumption) | exact hs_self (hs_ne (by omega) (by assumption)) | exact hs_self (hs_ne (by omega) (hs_ne (by omega) (by assumption))) | refine hs_ne (by omega) ?_)) ?_
    refine j_iconst d_PR_storeResult_43 ?_
    refine j_zreturn d_PR_storeResult_44 rfl (by omega) ?_
    refine ⟨_, rfl, by rw [he]; rfl, T, ?_, s5⟩
    rw [he, hcr]
    show _ = ((h.set (po + 8) (aI 18 T)).set (po + 6) (aI 64 B)).set po (oR po sp dl mc (se + 1) de)
    rw [e0, eb]
