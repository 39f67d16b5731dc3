/-! the model: its object at mo, its arrays behind it -/
abbrev oM (mo : Nat) (v : Nat → Int) (so tg us : Int) : va_E := ob 5 [.ref (mo + 1), .ref (mo + 2), vI (v 2), .ref (mo + 3), vI (v 4), vI (v 5), vI (v 6), vI (v 7), vI (v 8), vI (v 9), vI (v 10), vI (v 11), .ref (mo + 4), .ref (mo + 5), .ref (mo + 6), .ref (mo + 7), .ref (mo + 8), .ref (mo + 9), .ref (mo + 10), .ref (mo + 11), .ref (mo + 12), .ref (mo + 13), .ref (mo + 14), .ref (mo + 15), vI so, vI tg, vI us]
section XPM
variable {E : xEnv} {M : xM} {d K N : Nat} {Z : xEnd} {pc : Nat} {L : List (Option Value)} {st : List Value} {h : xH} {k n : Nat} {index mo : Nat} {v : Nat → Int} {so tg us x : Int}
theorem xp_MD_2 (hd : decode M.2.1 pc = .ok (.putfield index, 3)) (hp : xPut M.1 index 5 2 .int) (ho : h[mo]? = some (oM mo v so tg us)) (kk : X E M d K N Z (pc + 3) L st (h.set mo (oM mo (gU v 2 x) so tg us)) k n) : X E M d K N Z pc L (vI x :: .ref mo :: st) h k n := x_put 5 2 hd hp ho (Nat.le_of_ble_eq_true rfl) rfl rfl kk
theorem xp_MD_4 (hd : decode M.2.1 pc = .ok (.putfield index, 3)) (hp : xPut M.1 index 5 4 .int) (ho : h[mo]? = some (oM mo v so tg us)) (kk : X E M d K N Z (pc + 3) L st (h.set mo (oM mo (gU v 4 x) so tg us)) k n) : X E M d K N Z pc L (vI x :: .ref mo :: st) h k n := x_put 5 4 hd hp ho (Nat.le_of_ble_eq_true rfl) rfl rfl kk
theorem xp_MD_5 (hd : decode M.2.1 pc = .ok (.putfield index, 3)) (hp : xPut M.1 index 5 5 .int) (ho : h[mo]? = some (oM mo v so tg us)) (kk : X E M d K N Z (pc + 3) L st (h.set mo (oM mo (gU v 5 x) so tg us)) k n) : X E M d K N Z pc L (vI x :: .ref mo :: st) h k n := x_put 5 5 hd hp ho (Nat.le_of_ble_eq_true rfl) rfl rfl kk
theorem xp_MD_6 (hd : decode M.2.1 pc = .ok (.putfield index, 3)) (hp : xPut M.1 index 5 6 .int) (ho : h[mo]? = some (oM mo v so tg us)) (kk : X E M d K N Z (pc + 3) L st (h.set mo (oM mo (gU v 6 x) so tg us)) k n) : X E M d K N Z pc L (vI x :: .ref mo :: st) h k n := x_put 5 6 hd hp ho (Nat.le_of_ble_eq_true rfl) rfl rfl kk
theorem xp_MD_7 (hd : decode M.2.1 pc = .ok (.putfield index, 3)) (hp : xPut M.1 index 5 7 .int) (ho : h[mo]? = some (oM mo v so tg us)) (kk : X E M d K N Z (pc + 3) L st (h.set mo (oM mo (gU v 7 x) so tg us)) k n) : X E M d K N Z pc L (vI x :: .ref mo :: st) h k n := x_put 5 7 hd hp ho (Nat.le_of_ble_eq_true rfl) rfl rfl kk
theorem xp_MD_8 (hd : decode M.2.1 pc = .ok (.putfield index, 3)) (hp : xPut M.1 index 5 8 .int) (ho : h[mo]? = some (oM mo v so tg us)) (kk : X E M d K N Z (pc + 3) L st (h.set mo (oM mo (gU v 8 x) so tg us)) k n) : X E M d K N Z pc L (vI x :: .ref mo :: st) h k n := x_put 5 8 hd hp ho (Nat.le_of_ble_eq_true rfl) rfl rfl kk
theorem xp_MD_9 (hd : decode M.2.1 pc = .ok (.putfield index, 3)) (hp : xPut M.1 index 5 9 .boolean) (ho : h[mo]? = some (oM mo v so tg us)) (hx : x = 0 ∨ x = 1) (kk : X E M d K N Z (pc + 3) L st (h.set mo (oM mo (gU v 9 x) so tg us)) k n) : X E M d K N Z pc L (vI x :: .ref mo :: st) h k n := x_put 5 9 hd hp ho (Nat.le_of_ble_eq_true rfl) (nar_z hx).1 (nar_z hx).2.1 kk
theorem xp_MD_10 (hd : decode M.2.1 pc = .ok (.putfield index, 3)) (hp : xPut M.1 index 5 10 .boolean) (ho : h[mo]? = some (oM mo v so tg us)) (hx : x = 0 ∨ x = 1) (kk : X E M d K N Z (pc + 3) L st (h.set mo (oM mo (gU v 10 x) so tg us)) k n) : X E M d K N Z pc L (vI x :: .ref mo :: st) h k n := x_put 5 10 hd hp ho (Nat.le_of_ble_eq_true rfl) (nar_z hx).1 (nar_z hx).2.1 kk
theorem xp_MD_11 (hd : decode M.2.1 pc = .ok (.putfield index, 3)) (hp : xPut M.1 index 5 11 .int) (ho : h[mo]? = some (oM mo v so tg us)) (kk : X E M d K N Z (pc + 3) L st (h.set mo (oM mo (gU v 11 x) so tg us)) k n) : X E M d K N Z pc L (vI x :: .ref mo :: st) h k n := x_put 5 11 hd hp ho (Nat.le_of_ble_eq_true rfl) rfl rfl kk
theorem xp_MD_24 (hd : decode M.2.1 pc = .ok (.putfield index, 3)) (hp : xPut M.1 index 5 24 .boolean) (ho : h[mo]? = some (oM mo v so tg us)) (hx : x = 0 ∨ x = 1) (kk : X E M d K N Z (pc + 3) L st (h.set mo (oM mo v x tg us)) k n) : X E M d K N Z pc L (vI x :: .ref mo :: st) h k n := x_put 5 24 hd hp ho (Nat.le_of_ble_eq_true rfl) (nar_z hx).1 (nar_z hx).2.1 kk
theorem xp_MD_25 (hd : decode M.2.1 pc = .ok (.putfield index, 3)) (hp : xPut M.1 index 5 25 .int) (ho : h[mo]? = some (oM mo v so tg us)) (kk : X E M d K N Z (pc + 3) L st (h.set mo (oM mo v so x us)) k n) : X E M d K N Z pc L (vI x :: .ref mo :: st) h k n := x_put 5 25 hd hp ho (Nat.le_of_ble_eq_true rfl) rfl rfl kk
theorem xp_MD_26 (hd : decode M.2.1 pc = .ok (.putfield index, 3)) (hp : xPut M.1 index 5 26 .int) (ho : h[mo]? = some (oM mo v so tg us)) (kk : X E M d K N Z (pc + 3) L st (h.set mo (oM mo v so tg x)) k n) : X E M d K N Z pc L (vI x :: .ref mo :: st) h k n := x_put 5 26 hd hp ho (Nat.le_of_ble_eq_true rfl) rfl rfl kk
end XPM
/-- the model's rows of the fields: offset, usages, digits, scales, signed, edited, symbols, lengths, heads, tails -/
abbrev MA : Type := (Nat → Int) × (Nat → Int) × (Nat → Int) × (Nat → Int) × (Nat → Int) × (Nat → Int) × (Nat → Int) × (Nat → Int) × (Nat → Int) × (Nat → Int)
abbrev aOf (A : MA) : Nat → Int := A.1
abbrev aUs (A : MA) : Nat → Int := A.2.1
abbrev aDg (A : MA) : Nat → Int := A.2.2.1
abbrev aSc (A : MA) : Nat → Int := A.2.2.2.1
abbrev aSg (A : MA) : Nat → Int := A.2.2.2.2.1
abbrev aEd (A : MA) : Nat → Int := A.2.2.2.2.2.1
abbrev aSy (A : MA) : Nat → Int := A.2.2.2.2.2.2.1
abbrev aLn (A : MA) : Nat → Int := A.2.2.2.2.2.2.2.1
abbrev aHd (A : MA) : Nat → Int := A.2.2.2.2.2.2.2.2.1
abbrev aTl (A : MA) : Nat → Int := A.2.2.2.2.2.2.2.2.2
def mR (h : xH) (mo : Nat) (A : MA) : Prop := h[mo + 4]? = some (aI 12 (aOf A)) ∧ h[mo + 5]? = some (aI 12 (aUs A)) ∧ h[mo + 6]? = some (aI 12 (aDg A)) ∧ h[mo + 7]? = some (aI 12 (aSc A)) ∧ h[mo + 8]? = some (aZ 12 (aSg A)) ∧ h[mo + 9]? = some (aZ 12 (aEd A)) ∧ h[mo + 10]? = some (aI 216 (aSy A)) ∧ h[mo + 11]? = some (aI 12 (aLn A)) ∧ h[mo + 12]? = some (aI 12 (aHd A)) ∧ h[mo + 13]? = some (aI 12 (aTl A))
theorem mR_set {h : xH} {mo o : Nat} {A : MA} {e : va_E} (hR : mR h mo A) (ho : o < mo + 4 ∨ mo + 13 < o) : mR (h.set o e) mo A := by
  obtain ⟨h1, h2, h3, h4, h5, h6, h7, h8, h9, h10⟩ := hR
  exact ⟨hs_ne (by omega) h1, hs_ne (by omega) h2, hs_ne (by omega) h3, hs_ne (by omega) h4, hs_ne (by omega) h5, hs_ne (by omega) h6, hs_ne (by omega) h7, hs_ne (by omega) h8, hs_ne (by omega) h9, hs_ne (by omega) h10⟩
/-- row j of them says what D says -/
def mF (A : MA) (j : Nat) (D : FD) : Prop := aOf A j = fO D ∧ aUs A j = (if fM D = 4 then 0 else (fM D : Int)) ∧ aDg A j = fN D ∧ aSc A j = fS D ∧ aSg A j = fG D ∧ aEd A j = (if fM D = 4 then 1 else 0) ∧ (fM D = 4 → aLn A j = fC D ∧ aHd A j = fH D ∧ aTl A j = (fC D : Int) - fB D ∧ ∀ i, i < fC D → aSy A (18 * j + i) = fY D i)
/-- how an edited picture is built -/
def gOk (D : FD) : Prop := fM D = 4 → fH D < fB D ∧ (∀ i, fH D ≤ i → i < fB D → fY D i = 57 ∨ fY D i = 46 ∨ fY D i = 44 ∨ fY D i = 66 ∨ fY D i = 48 ∨ fY D i = 47 ∨ (fY D i = fI D ∧ ¬ fI D = 32)) ∧ (fI D = 32 ∨ fI D = 90 ∨ fI D = 42 ∨ fI D = 36 ∨ fI D = 43 ∨ fI D = 45) ∧ (¬ fI D = 32 → fY D (fH D) = fI D) ∧ (fL D = 1 ↔ fI D = 36 ∨ fI D = 43 ∨ fI D = 45) ∧ (∀ i, i < fH D → fY D i = 36 ∨ fY D i = 43 ∨ fY D i = 45) ∧ fC D ≤ fB D + 2 ∧ (fC D = fB D + 1 → fY D (fB D) = 43 ∨ fY D (fB D) = 45) ∧ (fC D = fB D + 2 → ∀ i, fB D ≤ i → i < fC D → ¬ fY D i = 36 ∧ ¬ fY D i = 43)

theorem ite10 {P : Prop} [Decidable P] : (if P then (1 : Int) else 0) = 0 ↔ ¬ P := by split <;> simp_all
set_option maxHeartbeats 1000000 in
theorem c_power (E : xEnv) (h : xH) (n : Nat) (hn : n ≤ 12) : xCt E 0 0 0 M_MD_power [vI n] h (rV (vL (10 ^ n)) h) := by
  refine x_met rfl rfl (Nat.le_of_ble_eq_true rfl) ?_
  have loop : ∀ (r k : Nat) (p i : Int), k + r = n → i = (k : Int) → p = 10 ^ k → X E M_MD_power 0 0 0 (xZ E 0 0 (rV (vL (10 ^ n)) h)) 4 [some (vI n), some (vL p), none, some (vI i)] [] h 0 0 := by
    intro r
    induction r with
    | zero =>
      intro k p i hk hi hp
      refine x_iload_n d_MD_power_4 rfl rfl ?_
      refine x_iload_n d_MD_power_5 rfl rfl ?_
      refine j_icmp_ge 21 d_MD_power_6 (by decide) (by unfold iR; omega) (by unfold iR; omega) (fun c6 => ?_) (fun c6 => ?_)
      · refine x_lload_n d_MD_power_21 rfl rfl ?_
        refine x_lreturn d_MD_power_22 rfl ?_
        exact rV_l (by rw [hp, show k = n by omega]) rfl
      · exfalso; omega
    | succ r ih =>
      intro k p i hk hi hp
      refine x_iload_n d_MD_power_4 rfl rfl ?_
      refine x_iload_n d_MD_power_5 rfl rfl ?_
      refine j_icmp_ge 21 d_MD_power_6 (by decide) (by unfold iR; omega) (by unfold iR; omega) (fun c6 => ?_) (fun c6 => ?_)
      · exfalso; omega
      · refine x_lload_n d_MD_power_9 rfl rfl ?_
        refine x_ldc2 d_MD_power_10 kl_MD_129 ?_
        refine j_lmul d_MD_power_13 ?_
        refine x_lstore_n d_MD_power_14 rfl (Nat.le_of_ble_eq_true rfl) ?_
        refine j_iinc d_MD_power_15 rfl ?_
        refine x_goto 4 d_MD_power_18 (by decide) ?_
        exact ih (k + 1) _ _ (by omega) (by omega) (by rw [hp, Int.pow_succ])
  refine j_lconst 1 d_MD_power_0 (by decide) ?_
  refine x_lstore_n d_MD_power_1 rfl (Nat.le_of_ble_eq_true rfl) ?_
  refine j_iconst d_MD_power_2 ?_
  refine x_istore_n d_MD_power_3 rfl (Nat.le_of_ble_eq_true rfl) ?_
  exact loop n 0 _ _ (by omega) rfl rfl
set_option maxHeartbeats 1000000 in
theorem c_plusMinus (E : xEnv) (h : xH) (z : Int) (hz : iR z) : xCt E 0 0 0 M_MD_plusMinus [vI z] h (rV (vI (if z = 43 ∨ z = 45 then 1 else 0)) h) := by
  refine x_met rfl rfl (Nat.le_of_ble_eq_true rfl) ?_
  unfold iR at hz
  refine x_iload_n d_MD_plusMinus_0 rfl rfl ?_
  refine j_bipush d_MD_plusMinus_1 (by decide) ?_
  refine j_icmp_eq 12 d_MD_plusMinus_3 (by decide) (by unfold iR; omega) (by unfold iR; omega) (fun c3 => ?_) (fun c3 => ?_)
  · refine j_iconst d_MD_plusMinus_12 ?_
    refine x_goto 17 d_MD_plusMinus_13 (by decide) ?_
    refine j_zreturn d_MD_plusMinus_17 rfl (by omega) ?_
    exact rV_i (by split <;> omega) rfl
  · refine x_iload_n d_MD_plusMinus_6 rfl rfl ?_
    refine j_bipush d_MD_plusMinus_7 (by decide) ?_
    refine j_icmp_ne 16 d_MD_plusMinus_9 (by decide) (by unfold iR; omega) (by unfold iR; omega) (fun c9 => ?_) (fun c9 => ?_)
    · refine j_iconst d_MD_plusMinus_16 ?_
      refine j_zreturn d_MD_plusMinus_17 rfl (by omega) ?_
      exact rV_i (by split <;> omega) rfl
    · refine j_iconst d_MD_plusMinus_12 ?_
      refine x_goto 17 d_MD_plusMinus_13 (by decide) ?_
      refine j_zreturn d_MD_plusMinus_17 rfl (by omega) ?_
      exact rV_i (by split <;> omega) rfl
set_option maxHeartbeats 1000000 in
theorem c_floating (E : xEnv) (h : xH) (z : Int) (hz : iR z) : xCt E 1 0 0 M_MD_floating [vI z] h (rV (vI (if z = 36 ∨ z = 43 ∨ z = 45 then 1 else 0)) h) := by
  refine x_met rfl rfl (Nat.le_of_ble_eq_true rfl) ?_
  unfold iR at hz
  refine x_iload_n d_MD_floating_0 rfl rfl ?_
  refine j_bipush d_MD_floating_1 (by decide) ?_
  refine j_icmp_eq 13 d_MD_floating_3 (by decide) (by unfold iR; omega) (by unfold iR; omega) (fun c3 => ?_) (fun c3 => ?_)
  · refine j_iconst d_MD_floating_13 ?_
    refine x_goto 18 d_MD_floating_14 (by decide) ?_
    refine j_zreturn d_MD_floating_18 rfl (by omega) ?_
    (try rw [ite10] at c10); exact rV_i (by split <;> omega) rfl
  · refine x_iload_n d_MD_floating_6 rfl rfl ?_
    refine x_callS1 (M' := M_MD_plusMinus) d_MD_floating_7 lk_MD_61 (c_plusMinus E h z hz) mt_MD_plusMinus st_MD_plusMinus (by decide) rfl (Nat.le_of_ble_eq_true rfl) (by decide) (by decide) ?_
    refine j_if_eq 17 d_MD_floating_10 (by decide) (by unfold iR; split <;> omega) (fun c10 => ?_) (fun c10 => ?_)
    · refine j_iconst d_MD_floating_17 ?_
      refine j_zreturn d_MD_floating_18 rfl (by omega) ?_
      (try rw [ite10] at c10); exact rV_i (by split <;> omega) rfl
    · refine j_iconst d_MD_floating_13 ?_
      refine x_goto 18 d_MD_floating_14 (by decide) ?_
      refine j_zreturn d_MD_floating_18 rfl (by omega) ?_
      (try rw [ite10] at c10); exact rV_i (by split <;> omega) rfl
set_option maxHeartbeats 1000000 in
theorem c_figure (E : xEnv) (h : xH) (z : Int) (hz : iR z) : xCt E 0 0 0 M_MD_figure [vI z] h (rV (vI (if 0 ≤ z - 48 ∧ z - 48 ≤ 9 then 1 else 0)) h) := by
  refine x_met rfl rfl (Nat.le_of_ble_eq_true rfl) ?_
  unfold iR at hz
  refine x_iload_n d_MD_figure_0 rfl rfl ?_
  refine j_bipush d_MD_figure_1 (by decide) ?_
  refine j_icmp_lt 16 d_MD_figure_3 (by decide) (by unfold iR; omega) (by unfold iR; omega) (fun c3 => ?_) (fun c3 => ?_)
  · refine j_iconst d_MD_figure_16 ?_
    refine j_zreturn d_MD_figure_17 rfl (by omega) ?_
    exact rV_i (by split <;> omega) rfl
  · refine x_iload_n d_MD_figure_6 rfl rfl ?_
    refine j_bipush d_MD_figure_7 (by decide) ?_
    refine j_icmp_gt 16 d_MD_figure_9 (by decide) (by unfold iR; omega) (by unfold iR; omega) (fun c9 => ?_) (fun c9 => ?_)
    · refine j_iconst d_MD_figure_16 ?_
      refine j_zreturn d_MD_figure_17 rfl (by omega) ?_
      exact rV_i (by split <;> omega) rfl
    · refine j_iconst d_MD_figure_12 ?_
      refine x_goto 17 d_MD_figure_13 (by decide) ?_
      refine j_zreturn d_MD_figure_17 rfl (by omega) ?_
      exact rV_i (by split <;> omega) rfl
def sgM (c ng : Int) : Int := if c = 36 then 36 else if ng = 1 then 45 else if c = 43 then 43 else 32
set_option maxHeartbeats 1000000 in
theorem c_signOf (E : xEnv) (h : xH) (c ng : Int) (hc : iR c) (hng : ng = 0 ∨ ng = 1) : xCt E 0 0 0 M_MD_signOf [vI c, vI ng] h (rV (vI (sgM c ng)) h) := by
  refine x_met rfl rfl (Nat.le_of_ble_eq_true rfl) ?_
  unfold iR at hc
  refine x_iload_n d_MD_signOf_0 rfl rfl ?_
  refine j_bipush d_MD_signOf_1 (by decide) ?_
  refine j_icmp_ne 11 d_MD_signOf_3 (by decide) (by unfold iR; omega) (by unfold iR; omega) (fun c3 => ?_) (fun c3 => ?_)
  · refine x_iload_n d_MD_signOf_11 rfl rfl ?_
    refine j_if_eq 20 d_MD_signOf_12 (by decide) (by unfold iR; omega) (fun c12 => ?_) (fun c12 => ?_)
    · refine x_iload_n d_MD_signOf_20 rfl rfl ?_
      refine j_bipush d_MD_signOf_21 (by decide) ?_
      refine j_icmp_ne 31 d_MD_signOf_23 (by decide) (by unfold iR; omega) (by unfold iR; omega) (fun c23 => ?_) (fun c23 => ?_)
      · refine j_bipush d_MD_signOf_31 (by decide) ?_
        refine x_ireturn d_MD_signOf_33 rfl ?_
        exact rV_i (by unfold sgM; (repeat' split) <;> omega) rfl
      · refine j_bipush d_MD_signOf_26 (by decide) ?_
        refine x_goto 33 d_MD_signOf_28 (by decide) ?_
        refine x_ireturn d_MD_signOf_33 rfl ?_
        exact rV_i (by unfold sgM; (repeat' split) <;> omega) rfl
    · refine j_bipush d_MD_signOf_15 (by decide) ?_
      refine x_goto 33 d_MD_signOf_17 (by decide) ?_
      refine x_ireturn d_MD_signOf_33 rfl ?_
      exact rV_i (by unfold sgM; (repeat' split) <;> omega) rfl
  · refine j_bipush d_MD_signOf_6 (by decide) ?_
    refine x_goto 33 d_MD_signOf_8 (by decide) ?_
    refine x_ireturn d_MD_signOf_33 rfl ?_
    exact rV_i (by unfold sgM; (repeat' split) <;> omega) rfl
set_option maxHeartbeats 1000000 in
theorem c_widthOf (E : xEnv) (h : xH) (us : Int) (n : Nat) (hus : 0 ≤ us ∧ us ≤ 3) (hn : n ≤ 9) : xCt E 0 0 0 M_MD_widthOf [vI us, vI n] h (rV (vI (if us = 0 then n else if us = 1 then ((n / 2 + 1 : Nat) : Int) else if us = 2 then n + 1 else wB n)) h) := by
  refine x_met rfl rfl (Nat.le_of_ble_eq_true rfl) ?_
  have e1 : (n : Int).tdiv 2 = ((n / 2 : Nat) : Int) := rfl
  refine x_iload_n d_MD_widthOf_0 rfl rfl ?_
  refine j_if_ne 8 d_MD_widthOf_1 (by decide) (by unfold iR; omega) (fun c1 => ?_) (fun c1 => ?_)
  · refine x_iload_n d_MD_widthOf_8 rfl rfl ?_
    refine j_iconst d_MD_widthOf_9 ?_
    refine j_icmp_ne 21 d_MD_widthOf_10 (by decide) (by unfold iR; omega) (by unfold iR; omega) (fun c10 => ?_) (fun c10 => ?_)
    · refine x_iload_n d_MD_widthOf_21 rfl rfl ?_
      refine j_iconst d_MD_widthOf_22 ?_
      refine j_icmp_ne 32 d_MD_widthOf_23 (by decide) (by unfold iR; omega) (by unfold iR; omega) (fun c23 => ?_) (fun c23 => ?_)
      · refine x_iload_n d_MD_widthOf_32 rfl rfl ?_
        refine j_iconst d_MD_widthOf_33 ?_
        refine j_icmp_gt 41 d_MD_widthOf_34 (by decide) (by unfold iR; omega) (by unfold iR; omega) (fun c34 => ?_) (fun c34 => ?_)
        · refine j_iconst d_MD_widthOf_41 ?_
          refine x_ireturn d_MD_widthOf_42 rfl ?_
          exact rV_i (by unfold wB; (try rw [e1]); (repeat' split) <;> omega) rfl
        · refine j_iconst d_MD_widthOf_37 ?_
          refine x_goto 42 d_MD_widthOf_38 (by decide) ?_
          refine x_ireturn d_MD_widthOf_42 rfl ?_
          exact rV_i (by unfold wB; (try rw [e1]); (repeat' split) <;> omega) rfl
      · refine x_iload_n d_MD_widthOf_26 rfl rfl ?_
        refine j_iconst d_MD_widthOf_27 ?_
        refine j_iadd d_MD_widthOf_28 ?_
        refine x_goto 42 d_MD_widthOf_29 (by decide) ?_
        refine x_ireturn d_MD_widthOf_42 rfl ?_
        exact rV_i (by unfold wB; (try rw [e1]); (repeat' split) <;> omega) rfl
    · refine x_iload_n d_MD_widthOf_13 rfl rfl ?_
      refine j_iconst d_MD_widthOf_14 ?_
      refine j_idiv d_MD_widthOf_15 (by unfold iR; omega) (by unfold iR; omega) (by decide) ?_
      refine j_iconst d_MD_widthOf_16 ?_
      refine j_iadd d_MD_widthOf_17 ?_
      refine x_goto 42 d_MD_widthOf_18 (by decide) ?_
      refine x_ireturn d_MD_widthOf_42 rfl ?_
      exact rV_i (by unfold wB; (try rw [e1]); (repeat' split) <;> omega) rfl
  · refine x_iload_n d_MD_widthOf_4 rfl rfl ?_
    refine x_goto 42 d_MD_widthOf_5 (by decide) ?_
    refine x_ireturn d_MD_widthOf_42 rfl ?_
    exact rV_i (by unfold wB; (try rw [e1]); (repeat' split) <;> omega) rfl
set_option maxHeartbeats 1000000 in
theorem c_symbolAt (E : xEnv) (h : xH) (mo j i : Nat) (v : Nat → Int) (so tg us : Int) (A : MA) (hm : h[mo]? = some (oM mo v so tg us)) (hR : mR h mo A) (hj : j < 12) (hi : i < 18) : xCt E 0 0 0 M_MD_symbolAt [.ref mo, vI j, vI i] h (rV (vI (aSy A (18 * j + i))) h) := by
  refine x_met rfl rfl (Nat.le_of_ble_eq_true rfl) ?_
  obtain ⟨h1, h2, h3, h4, h5, h6, h7, h8, h9, h10⟩ := hR
  refine x_aload_n d_MD_symbolAt_0 rfl rfl rfl ?_
  refine x_get 5 18 d_MD_symbolAt_1 gf_MD_38 (by repeat (first | assumption | refine hs_self ?_ | refine hs_ne (by omega) ?_)) (by rfl) ?_
  refine j_bipush d_MD_symbolAt_4 (by decide) ?_
  refine x_iload_n d_MD_symbolAt_6 rfl rfl ?_
  refine j_imul d_MD_symbolAt_7 ?_
  refine x_iload_n d_MD_symbolAt_8 rfl rfl ?_
  refine j_iadd d_MD_symbolAt_9 ?_
  refine j_iald d_MD_symbolAt_10 (by repeat (first | assumption | refine hs_self ?_ | refine hs_ne (by omega) ?_)) (by omega) (by omega) (by decide) ?_
  refine x_ireturn d_MD_symbolAt_11 rfl ?_
  exact rV_i (by rw [show (18 * (j : Int) + i).toNat = 18 * j + i by omega]) rfl
set_option maxHeartbeats 1000000 in
theorem c_half (E : xEnv) (h : xH) (mo j k : Nat) (v : Nat → Int) (so tg us : Int) (A : MA) (D : FD) (B : Nat → Int) (hm : h[mo]? = some (oM mo v so tg us)) (hb : h[mo + 1]? = some (aI 64 B)) (hR : mR h mo A) (hF : mF A j D) (hj : j < 12) (hB : bOk B) (hk : fO D + k / 2 < 64) (hk2 : k < 1000) : xCt E 0 0 0 M_MD_half [.ref mo, vI j, vI k] h (rV (vI (hfB B (fO D) k)) h) := by
  refine x_met rfl rfl (Nat.le_of_ble_eq_true rfl) ?_
  obtain ⟨h1, h2, h3, h4, h5, h6, h7, h8, h9, h10⟩ := hR
  have hof := hF.1
  have hb0 := hB (fO D + k / 2) hk
  have e1 : (k : Int).tdiv 2 = ((k / 2 : Nat) : Int) := rfl
  have e2 : (k : Int).tmod 2 = ((k % 2 : Nat) : Int) := rfl
  have e3 : (B (fO D + k / 2)).tdiv 16 = B (fO D + k / 2) / 16 := Int.tdiv_eq_ediv_of_nonneg (by omega)
  have e4 : (B (fO D + k / 2)).tmod 16 = B (fO D + k / 2) % 16 := Int.tmod_eq_emod_of_nonneg (by omega)
  refine x_aload_n d_MD_half_0 rfl rfl rfl ?_
  refine x_get 5 0 d_MD_half_1 gf_MD_7 (by repeat (first | assumption | refine hs_self ?_ | refine hs_ne (by omega) ?_)) (by rfl) ?_
  refine x_aload_n d_MD_half_4 rfl rfl rfl ?_
  refine x_get 5 12 d_MD_half_5 gf_MD_19 (by repeat (first | assumption | refine hs_self ?_ | refine hs_ne (by omega) ?_)) (by rfl) ?_
  refine x_iload_n d_MD_half_8 rfl rfl ?_
  refine j_iald d_MD_half_9 (by repeat (first | assumption | refine hs_self ?_ | refine hs_ne (by omega) ?_)) (by omega) (by omega) (by decide) ?_
  refine x_top (w := vI (fO D)) (by rw [Int.toNat_natCast, hof]) ?_
  refine x_iload_n d_MD_half_10 rfl rfl ?_
  refine j_iconst d_MD_half_11 ?_
  refine j_idiv d_MD_half_12 (by unfold iR; omega) (by unfold iR; omega) (by decide) ?_
  refine j_iadd d_MD_half_13 ?_
  refine j_iald d_MD_half_14 (by repeat (first | assumption | refine hs_self ?_ | refine hs_ne (by omega) ?_)) (by omega) (by omega) (by decide) ?_
  refine x_top (w := vI (B (fO D + k / 2))) (by rw [e1, show ((fO D : Int) + ((k / 2 : Nat) : Int)).toNat = fO D + k / 2 by omega]) ?_
  refine x_istore_n d_MD_half_15 rfl (Nat.le_of_ble_eq_true rfl) ?_
  refine x_iload_n d_MD_half_16 rfl rfl ?_
  refine j_iconst d_MD_half_17 ?_
  refine j_irem d_MD_half_18 (by unfold iR; omega) (by unfold iR; omega) (by decide) ?_
  refine x_top (w := vI ((k % 2 : Nat) : Int)) (by rw [e2]) ?_
  refine j_if_ne 29 d_MD_half_19 (by decide) (by unfold iR; omega) (fun c19 => ?_) (fun c19 => ?_)
  · refine x_iload_n d_MD_half_29 rfl rfl ?_
    refine j_bipush d_MD_half_30 (by decide) ?_
    refine j_irem d_MD_half_32 (by unfold iR; omega) (by unfold iR; omega) (by decide) ?_
    refine x_ireturn d_MD_half_33 rfl ?_
    exact rV_i (by unfold hfB; first | rw [if_pos (by omega), e3] | rw [if_neg (by omega), e4]) rfl
  · refine x_iload_n d_MD_half_22 rfl rfl ?_
    refine j_bipush d_MD_half_23 (by decide) ?_
    refine j_idiv d_MD_half_25 (by unfold iR; omega) (by unfold iR; omega) (by decide) ?_
    refine x_goto 33 d_MD_half_26 (by decide) ?_
    refine x_ireturn d_MD_half_33 rfl ?_
    exact rV_i (by unfold hfB; first | rw [if_pos (by omega), e3] | rw [if_neg (by omega), e4]) rfl
/-- is there c among the symbols i .. i + r - 1 -/
def hasS (sy : Nat → Int) (c : Int) : Nat → Nat → Bool
  | 0, _ => false
  | r + 1, i => decide (sy i = c) || hasS sy c r (i + 1)
theorem hasS_iff (sy : Nat → Int) (c : Int) : ∀ (r i : Nat), hasS sy c r i = true ↔ ∃ k, i ≤ k ∧ k < i + r ∧ sy k = c
  | 0, i => by simp [hasS]; omega
  | r + 1, i => by
    unfold hasS
    rw [Bool.or_eq_true, decide_eq_true_iff, hasS_iff sy c r]
    constructor
    · rintro (h | ⟨k, h1, h2, h3⟩)
      · exact ⟨i, Nat.le_refl _, by omega, h⟩
      · exact ⟨k, by omega, by omega, h3⟩
    · rintro ⟨k, h1, h2, h3⟩
      by_cases hk : k = i
      · left; rw [← hk]; exact h3
      · right; exact ⟨k, by omega, by omega, h3⟩
/-- the model's way to tell a digit place agrees with the class's -/
theorem dp_eq {D : FD} (hG : gOk D) (h4 : fM D = 4) {i : Nat} (h1 : fH D ≤ i) (h2 : i < fB D) : fDp D i = true ↔ (fY D i = 57 ∨ fY D i = 90 ∨ fY D i = 42 ∨ ((fY D i = 36 ∨ fY D i = 43 ∨ fY D i = 45) ∧ hasS (fY D) (fY D i) (i - fH D) (fH D) = true)) := by
  obtain ⟨g0, g1, g2, g3, g4, -⟩ := hG h4
  have g1 := g1 i h1 h2
  have hx : hasS (fY D) (fY D i) (i - fH D) (fH D) = true ↔ ∃ k, fH D ≤ k ∧ k < i ∧ fY D k = fY D i := by
    rw [hasS_iff]
    constructor
    · rintro ⟨k, a, b, c⟩; exact ⟨k, a, by omega, c⟩
    · rintro ⟨k, a, b, c⟩; exact ⟨k, a, by omega, c⟩
  rw [hx]
  clear hx
  unfold fDp dp
  simp only [Bool.or_eq_true, Bool.and_eq_true, decide_eq_true_iff, Bool.not_eq_true', Bool.and_eq_false_iff, decide_eq_false_iff_not]
  constructor
  · rintro (h | ⟨h, hh⟩)
    · exact Or.inl h
    · by_cases hz : fI D = 90 ∨ fI D = 42
      · omega
      · have hfl : fI D = 36 ∨ fI D = 43 ∨ fI D = 45 := by omega
        right; right; right
        refine ⟨by omega, fH D, Nat.le_refl _, ?_, ?_⟩
        · have := g4.mpr hfl
          omega
        · rw [h]; exact g3 (by omega)
  · rintro (h | h | h | ⟨h, k, a, b, c⟩)
    · exact Or.inl h
    · right; exact ⟨by omega, Or.inl (by omega)⟩
    · right; exact ⟨by omega, Or.inl (by omega)⟩
    · right
      exact ⟨by omega, Or.inr (by omega)⟩
set_option maxHeartbeats 2000000 in
theorem c_digitPlace (E : xEnv) (h : xH) (mo j i : Nat) (v : Nat → Int) (so tg us : Int) (A : MA) (D : FD) (hm : h[mo]? = some (oM mo v so tg us)) (hR : mR h mo A) (hF : mF A j D) (hj : j < 12) (hD : fOk D) (hG : gOk D) (h4 : fM D = 4) (hi1 : fH D ≤ i) (hi2 : i < fB D) : xCt E 2 0 0 M_MD_digitPlace [.ref mo, vI j, vI i] h (rV (vI (if fDp D i = true then 1 else 0)) h) := by
  refine x_met rfl rfl (Nat.le_of_ble_eq_true rfl) ?_
  have hR0 := hR
  obtain ⟨h1, h2, h3, h4', h5, h6, h7, h8, h9, h10⟩ := hR
  obtain ⟨-, -, -, -, -, -, hF4⟩ := hF
  obtain ⟨f1, f2, f3, f4⟩ := hF4 h4
  obtain ⟨-, -, -, -, -, hw⟩ := hD
  obtain ⟨hsy, hhb, hbc, hc18, hfi, hfl, hnd⟩ := hw h4
  have hsi := hsy i (by omega)
  have hdp := dp_eq hG h4 hi1 hi2
  have fin : ∀ b : Int, b = (if hasS (fY D) (fY D i) (i - fH D) (fH D) = true then 1 else 0) → ∀ x, X E M_MD_digitPlace 2 0 0 (xZ E 0 0 (rV (vI (if fDp D i = true then 1 else 0)) h)) 53 [some (.ref mo), some (vI j), some (vI i), some (vI (fY D i)), some (vI b), x] [] h 0 0 := by
    intro b hb x
    have hb01 : b = 0 ∨ b = 1 := by subst hb; split <;> omega
    have hb1 : b = 1 ↔ hasS (fY D) (fY D i) (i - fH D) (fH D) = true := by subst hb; split <;> simp_all
    rw [← hb1] at hdp
    refine x_iload_n d_MD_digitPlace_53 rfl rfl ?_
    refine j_bipush d_MD_digitPlace_54 (by decide) ?_
    refine j_icmp_eq 83 d_MD_digitPlace_56 (by decide) (by unfold iR; omega) (by unfold iR; omega) (fun c56 => ?_) (fun c56 => ?_)
    · refine j_iconst d_MD_digitPlace_83 ?_
      refine x_goto 88 d_MD_digitPlace_84 (by decide) ?_
      refine j_zreturn d_MD_digitPlace_88 rfl (by omega) ?_
      (try rw [ite10] at c75); first | exact rV_i (by rw [if_pos (hdp.mpr (by omega))]) rfl | exact rV_i (by rw [if_neg (fun z => absurd (hdp.mp z) (by omega))]) rfl
    · refine x_iload_n d_MD_digitPlace_59 rfl rfl ?_
      refine j_bipush d_MD_digitPlace_60 (by decide) ?_
      refine j_icmp_eq 83 d_MD_digitPlace_62 (by decide) (by unfold iR; omega) (by unfold iR; omega) (fun c62 => ?_) (fun c62 => ?_)
      · refine j_iconst d_MD_digitPlace_83 ?_
        refine x_goto 88 d_MD_digitPlace_84 (by decide) ?_
        refine j_zreturn d_MD_digitPlace_88 rfl (by omega) ?_
        (try rw [ite10] at c75); first | exact rV_i (by rw [if_pos (hdp.mpr (by omega))]) rfl | exact rV_i (by rw [if_neg (fun z => absurd (hdp.mp z) (by omega))]) rfl
      · refine x_iload_n d_MD_digitPlace_65 rfl rfl ?_
        refine j_bipush d_MD_digitPlace_66 (by decide) ?_
        refine j_icmp_eq 83 d_MD_digitPlace_68 (by decide) (by unfold iR; omega) (by unfold iR; omega) (fun c68 => ?_) (fun c68 => ?_)
        · refine j_iconst d_MD_digitPlace_83 ?_
          refine x_goto 88 d_MD_digitPlace_84 (by decide) ?_
          refine j_zreturn d_MD_digitPlace_88 rfl (by omega) ?_
          (try rw [ite10] at c75); first | exact rV_i (by rw [if_pos (hdp.mpr (by omega))]) rfl | exact rV_i (by rw [if_neg (fun z => absurd (hdp.mp z) (by omega))]) rfl
        · refine x_iload_n d_MD_digitPlace_71 rfl rfl ?_
          refine x_callS1 (M' := M_MD_floating) d_MD_digitPlace_72 lk_MD_65 (c_floating E h (fY D i) (by unfold iR; omega)) mt_MD_floating st_MD_floating (by decide) rfl (Nat.le_of_ble_eq_true rfl) (by decide) (by decide) ?_
          refine j_if_eq 87 d_MD_digitPlace_75 (by decide) (by unfold iR; split <;> omega) (fun c75 => ?_) (fun c75 => ?_)
          · refine j_iconst d_MD_digitPlace_87 ?_
            refine j_zreturn d_MD_digitPlace_88 rfl (by omega) ?_
            (try rw [ite10] at c75); first | exact rV_i (by rw [if_pos (hdp.mpr (by omega))]) rfl | exact rV_i (by rw [if_neg (fun z => absurd (hdp.mp z) (by omega))]) rfl
          · refine x_iload d_MD_digitPlace_78 rfl ?_
            refine j_if_eq 87 d_MD_digitPlace_80 (by decide) (by unfold iR; omega) (fun c80 => ?_) (fun c80 => ?_)
            · refine j_iconst d_MD_digitPlace_87 ?_
              refine j_zreturn d_MD_digitPlace_88 rfl (by omega) ?_
              (try rw [ite10] at c75); first | exact rV_i (by rw [if_pos (hdp.mpr (by omega))]) rfl | exact rV_i (by rw [if_neg (fun z => absurd (hdp.mp z) (by omega))]) rfl
            · refine j_iconst d_MD_digitPlace_83 ?_
              refine x_goto 88 d_MD_digitPlace_84 (by decide) ?_
              refine j_zreturn d_MD_digitPlace_88 rfl (by omega) ?_
              (try rw [ite10] at c75); first | exact rV_i (by rw [if_pos (hdp.mpr (by omega))]) rfl | exact rV_i (by rw [if_neg (fun z => absurd (hdp.mp z) (by omega))]) rfl
  have loop : ∀ (r k : Nat) (b z : Int), k + r = i → z = (k : Int) → fH D ≤ k → (b = 0 ∨ b = 1) → (b = 1 ∨ hasS (fY D) (fY D i) r k = true ↔ hasS (fY D) (fY D i) (i - fH D) (fH D) = true) → X E M_MD_digitPlace 2 0 0 (xZ E 0 0 (rV (vI (if fDp D i = true then 1 else 0)) h)) 18 [some (.ref mo), some (vI j), some (vI i), some (vI (fY D i)), some (vI b), some (vI z)] [] h 0 0 := by
    intro r
    induction r with
    | zero =>
      intro k b z hk hz hhk hb hq
      have hq2 : b = 1 ↔ hasS (fY D) (fY D i) (i - fH D) (fH D) = true := by
        rw [← hq]; simp [hasS]
      refine x_iload d_MD_digitPlace_18 rfl ?_
      refine x_iload_n d_MD_digitPlace_20 rfl rfl ?_
      refine j_icmp_ge 53 d_MD_digitPlace_21 (by decide) (by unfold iR; omega) (by unfold iR; omega) (fun c21 => ?_) (fun c21 => ?_)
      · exact fin b (by split <;> simp_all) _
      · exfalso; omega
    | succ r ih =>
      intro k b z hk hz hhk hb hq
      have hsk := hsy k (by omega)
      rw [show hasS (fY D) (fY D i) (r + 1) k = (decide (fY D k = fY D i) || hasS (fY D) (fY D i) r (k + 1)) from rfl] at hq
      have go : ∀ b2 : Int, (b2 = 0 ∨ b2 = 1) → (b2 = 1 ↔ b = 1 ∨ fY D k = fY D i) → X E M_MD_digitPlace 2 0 0 (xZ E 0 0 (rV (vI (if fDp D i = true then 1 else 0)) h)) 45 [some (.ref mo), some (vI j), some (vI i), some (vI (fY D i)), some (vI b), some (vI z)] [vI b2] h 0 0 := by
        intro b2 hb2 hq2
        refine x_istore d_MD_digitPlace_45 (Nat.le_of_ble_eq_true rfl) ?_
        refine j_iinc d_MD_digitPlace_47 rfl ?_
        refine x_goto 18 d_MD_digitPlace_50 (by decide) ?_
        refine ih (k + 1) _ _ (by omega) (by omega) (by omega) hb2 ?_
        rw [← hq, hq2, Bool.or_eq_true, decide_eq_true_iff]
        constructor
        · rintro ((a | a) | a)
          · exact Or.inl a
          · exact Or.inr (Or.inl a)
          · exact Or.inr (Or.inr a)
        · rintro (a | a | a)
          · exact Or.inl (Or.inl a)
          · exact Or.inl (Or.inr a)
          · exact Or.inr a
      refine x_iload d_MD_digitPlace_18 rfl ?_
      refine x_iload_n d_MD_digitPlace_20 rfl rfl ?_
      refine j_icmp_ge 53 d_MD_digitPlace_21 (by decide) (by unfold iR; omega) (by unfold iR; omega) (fun c21 => ?_) (fun c21 => ?_)
      · exfalso; omega
      refine x_iload d_MD_digitPlace_24 rfl ?_
      refine j_if_ne 40 d_MD_digitPlace_26 (by decide) (by unfold iR; omega) (fun c26 => ?_) (fun c26 => ?_)
      · refine j_iconst d_MD_digitPlace_40 ?_
        refine x_goto 45 d_MD_digitPlace_41 (by decide) ?_
        exact go 1 (Or.inr rfl) ⟨fun _ => Or.inl (by omega), fun _ => rfl⟩
      · refine x_aload_n d_MD_digitPlace_29 rfl rfl rfl ?_
        refine x_iload_n d_MD_digitPlace_30 rfl rfl ?_
        refine x_iload d_MD_digitPlace_31 rfl ?_
        refine x_top (w := vI (k : Int)) (by rw [hz]) ?_
        refine x_callV1 (M' := M_MD_symbolAt) d_MD_digitPlace_33 lk_MD_131 (c_symbolAt E h mo j k v so tg us A hm hR0 hj (by omega)) mt_MD_symbolAt im_MD_symbolAt se_MD_symbolAt (by repeat (first | assumption | refine hs_self ?_ | refine hs_ne (by omega) ?_)) rfl (by decide) rfl (Nat.le_of_ble_eq_true rfl) (by decide) (by decide) ?_
        rw [f4 k (by omega)]
        refine x_iload_n d_MD_digitPlace_36 rfl rfl ?_
        refine j_icmp_ne 44 d_MD_digitPlace_37 (by decide) (by unfold iR; omega) (by unfold iR; omega) (fun c37 => ?_) (fun c37 => ?_)
        · refine j_iconst d_MD_digitPlace_44 ?_
          exact go 0 (Or.inl rfl) ⟨fun z => by omega, fun z => by omega⟩
        · refine j_iconst d_MD_digitPlace_40 ?_
          refine x_goto 45 d_MD_digitPlace_41 (by decide) ?_
          exact go 1 (Or.inr rfl) ⟨fun _ => Or.inr c37, fun _ => rfl⟩
  refine x_aload_n d_MD_digitPlace_0 rfl rfl rfl ?_
  refine x_iload_n d_MD_digitPlace_1 rfl rfl ?_
  refine x_iload_n d_MD_digitPlace_2 rfl rfl ?_
  refine x_callV1 (M' := M_MD_symbolAt) d_MD_digitPlace_3 lk_MD_131 (c_symbolAt E h mo j i v so tg us A hm hR0 hj (by omega)) mt_MD_symbolAt im_MD_symbolAt se_MD_symbolAt (by repeat (first | assumption | refine hs_self ?_ | refine hs_ne (by omega) ?_)) rfl (by decide) rfl (Nat.le_of_ble_eq_true rfl) (by decide) (by decide) ?_
  rw [f4 i (by omega)]
  refine x_istore_n d_MD_digitPlace_6 rfl (Nat.le_of_ble_eq_true rfl) ?_
  refine j_iconst d_MD_digitPlace_7 ?_
  refine x_istore d_MD_digitPlace_8 (Nat.le_of_ble_eq_true rfl) ?_
  refine x_aload_n d_MD_digitPlace_10 rfl rfl rfl ?_
  refine x_get 5 20 d_MD_digitPlace_11 gf_MD_44 (by repeat (first | assumption | refine hs_self ?_ | refine hs_ne (by omega) ?_)) (by rfl) ?_
  refine x_iload_n d_MD_digitPlace_14 rfl rfl ?_
  refine j_iald d_MD_digitPlace_15 (by repeat (first | assumption | refine hs_self ?_ | refine hs_ne (by omega) ?_)) (by omega) (by omega) (by decide) ?_
  refine x_top (w := vI (fH D)) (by rw [Int.toNat_natCast, f2]) ?_
  refine x_istore d_MD_digitPlace_16 (Nat.le_of_ble_eq_true rfl) ?_
  exact loop (i - fH D) (fH D) 0 _ (by omega) rfl (Nat.le_refl _) (Or.inl rfl) (by simp)
