/-! edited texts -/
def dp (sy : Nat → Int) (fi fl : Int) (hd i : Nat) : Bool := decide (sy i = 57) || (decide (sy i = fi) && !(decide (fl = 1) && decide (i = hd)))
def sgC (c ng : Int) : Int := if c = 36 then 36 else if c = 43 then (if ng = 1 then 45 else 43) else if ng = 1 then c else 32
def nd (d : Nat → Bool) : Nat → Nat → Nat
  | 0, _ => 0
  | r + 1, i => (if d i = true then 1 else 0) + nd d r (i + 1)
def dgt (m a : Nat) : Nat := m / 10 ^ a % 10
def wbt (sy : Nat → Int) (d : Nat → Bool) (be m i : Nat) : Int := if d i = true then 48 + (dgt m (nd d (be - i - 1) (i + 1)) : Int) else if sy i = 66 then 32 else sy i
def stn (sy : Nat → Int) (d : Nat → Bool) (be m i : Nat) : Bool := decide (sy i = 57) || (decide (sy i = 46) || (d i && decide (¬ dgt m (nd d (be - i - 1) (i + 1)) = 0)))
def fs (st : Nat → Bool) : Nat → Nat → Nat
  | 0, i => i
  | r + 1, i => if st i = true then i else fs st r (i + 1)
def sOk (sy : Nat → Int) : Prop := ∀ j, j < 18 → 0 ≤ sy j ∧ sy j < 65536
theorem fs_le (st : Nat → Bool) : ∀ (r i : Nat), i ≤ fs st r i ∧ fs st r i ≤ i + r
  | 0, i => ⟨Nat.le_refl _, Nat.le_refl _⟩
  | r + 1, i => by
    have := fs_le st r (i + 1)
    unfold fs
    split <;> omega
set_option maxHeartbeats 1000000 in
theorem c_isDigitPlace (E : xEnv) (h : xH) (p q hd i : Nat) (ct dg sc sg ed be fi fl : Int) (sy : Nat → Int) (hp : h[p]? = some (oP q ct dg sc sg ed hd be fi fl)) (hq : h[q]? = some (aC 18 sy)) (hs : sOk sy) (hi : i < 18) (hhd : hd ≤ 18) (hfi : 0 ≤ fi ∧ fi < 65536) (hfl : fl = 0 ∨ fl = 1) : xCt E 0 0 0 M_PC_isDigitPlace [.ref p, vI i] h (rV (vI (if dp sy fi fl hd i = true then 1 else 0)) h) := by
  refine x_met rfl rfl (Nat.le_of_ble_eq_true rfl) ?_
  have hs1 := hs i hi
  refine x_aload_n d_PC_isDigitPlace_0 rfl rfl rfl ?_
  refine x_get 2 0 d_PC_isDigitPlace_1 gf_PC_9 (by first | assumption | exact hs_self (by assumption) | exact hs_ne (by first | assumption | omega) (by assumption) | exact hs_ne (by first | assumption | omega) (hs_self (by assumption)) | exact hs_ne (by first | assumption | omega) (hs_ne (by first | assumption | omega) (by assumption))) (by rfl) ?_
  refine x_iload_n d_PC_isDigitPlace_4 rfl rfl ?_
  refine j_cald d_PC_isDigitPlace_5 (by first | assumption | exact hs_self (by assumption) | exact hs_ne (by first | assumption | omega) (by assumption) | exact hs_ne (by first | assumption | omega) (hs_self (by assumption)) | exact hs_ne (by first | assumption | omega) (hs_ne (by first | assumption | omega) (by assumption))) (by omega) (by omega) (by decide) ?_
  refine x_top (w := vI (sy i)) (by rw [Int.toNat_natCast]) ?_
  refine x_istore_n d_PC_isDigitPlace_6 rfl (Nat.le_of_ble_eq_true rfl) ?_
  refine x_iload_n d_PC_isDigitPlace_7 rfl rfl ?_
  refine j_bipush d_PC_isDigitPlace_8 (by decide) ?_
  refine j_icmp_eq 36 d_PC_isDigitPlace_10 (by decide) (by unfold iR; omega) (by unfold iR; omega) (fun c10 => ?_) (fun c10 => ?_)
  · refine j_iconst d_PC_isDigitPlace_36 ?_
    refine x_goto 41 d_PC_isDigitPlace_37 (by decide) ?_
    refine j_zreturn d_PC_isDigitPlace_41 rfl (by omega) ?_
    refine rV_i ?_ rfl; unfold dp; simp; omega
  · refine x_iload_n d_PC_isDigitPlace_13 rfl rfl ?_
    refine x_aload_n d_PC_isDigitPlace_14 rfl rfl rfl ?_
    refine x_get 2 8 d_PC_isDigitPlace_15 gf_PC_15 (by first | assumption | exact hs_self (by assumption) | exact hs_ne (by first | assumption | omega) (by assumption) | exact hs_ne (by first | assumption | omega) (hs_self (by assumption)) | exact hs_ne (by first | assumption | omega) (hs_ne (by first | assumption | omega) (by assumption))) (by rfl) ?_
    refine j_icmp_ne 40 d_PC_isDigitPlace_18 (by decide) (by unfold iR; omega) (by unfold iR; omega) (fun c18 => ?_) (fun c18 => ?_)
    · refine j_iconst d_PC_isDigitPlace_40 ?_
      refine j_zreturn d_PC_isDigitPlace_41 rfl (by omega) ?_
      refine rV_i ?_ rfl; unfold dp; simp; omega
    · refine x_aload_n d_PC_isDigitPlace_21 rfl rfl rfl ?_
      refine x_get 2 9 d_PC_isDigitPlace_22 gf_PC_103 (by first | assumption | exact hs_self (by assumption) | exact hs_ne (by first | assumption | omega) (by assumption) | exact hs_ne (by first | assumption | omega) (hs_self (by assumption)) | exact hs_ne (by first | assumption | omega) (hs_ne (by first | assumption | omega) (by assumption))) (by rfl) ?_
      refine j_if_eq 36 d_PC_isDigitPlace_25 (by decide) (by unfold iR; omega) (fun c25 => ?_) (fun c25 => ?_)
      · refine j_iconst d_PC_isDigitPlace_36 ?_
        refine x_goto 41 d_PC_isDigitPlace_37 (by decide) ?_
        refine j_zreturn d_PC_isDigitPlace_41 rfl (by omega) ?_
        refine rV_i ?_ rfl; unfold dp; simp; omega
      · refine x_iload_n d_PC_isDigitPlace_28 rfl rfl ?_
        refine x_aload_n d_PC_isDigitPlace_29 rfl rfl rfl ?_
        refine x_get 2 6 d_PC_isDigitPlace_30 gf_PC_87 (by first | assumption | exact hs_self (by assumption) | exact hs_ne (by first | assumption | omega) (by assumption) | exact hs_ne (by first | assumption | omega) (hs_self (by assumption)) | exact hs_ne (by first | assumption | omega) (hs_ne (by first | assumption | omega) (by assumption))) (by rfl) ?_
        refine j_icmp_eq 40 d_PC_isDigitPlace_33 (by decide) (by unfold iR; omega) (by unfold iR; omega) (fun c33 => ?_) (fun c33 => ?_)
        · refine j_iconst d_PC_isDigitPlace_40 ?_
          refine j_zreturn d_PC_isDigitPlace_41 rfl (by omega) ?_
          refine rV_i ?_ rfl; unfold dp; simp; omega
        · refine j_iconst d_PC_isDigitPlace_36 ?_
          refine x_goto 41 d_PC_isDigitPlace_37 (by decide) ?_
          refine j_zreturn d_PC_isDigitPlace_41 rfl (by omega) ?_
          refine rV_i ?_ rfl; unfold dp; simp; omega
set_option maxHeartbeats 1000000 in
theorem c_signChar (E : xEnv) (h : xH) (c ng : Int) (hc : 0 ≤ c ∧ c < 65536) (hn : ng = 0 ∨ ng = 1) : xCt E 0 0 0 M_ED_signCharacter [vI c, vI ng] h (rV (vI (sgC c ng)) h) := by
  refine x_met rfl rfl (Nat.le_of_ble_eq_true rfl) ?_
  refine x_iload_n d_ED_signCharacter_0 rfl rfl ?_
  refine j_bipush d_ED_signCharacter_1 (by decide) ?_
  refine j_icmp_ne 9 d_ED_signCharacter_3 (by decide) (by unfold iR; omega) (by unfold iR; omega) (fun c3 => ?_) (fun c3 => ?_)
  · refine x_iload_n d_ED_signCharacter_9 rfl rfl ?_
    refine j_bipush d_ED_signCharacter_10 (by decide) ?_
    refine j_icmp_ne 27 d_ED_signCharacter_12 (by decide) (by unfold iR; omega) (by unfold iR; omega) (fun c12 => ?_) (fun c12 => ?_)
    · refine x_iload_n d_ED_signCharacter_27 rfl rfl ?_
      refine j_if_eq 35 d_ED_signCharacter_28 (by decide) (by unfold iR; omega) (fun c28 => ?_) (fun c28 => ?_)
      · refine j_bipush d_ED_signCharacter_35 (by decide) ?_
        refine x_ireturn d_ED_signCharacter_37 rfl ?_
        exact rV_i (by unfold sgC; (repeat' split) <;> omega) rfl
      · refine x_iload_n d_ED_signCharacter_31 rfl rfl ?_
        refine x_goto 37 d_ED_signCharacter_32 (by decide) ?_
        refine x_ireturn d_ED_signCharacter_37 rfl ?_
        exact rV_i (by unfold sgC; (repeat' split) <;> omega) rfl
    · refine x_iload_n d_ED_signCharacter_15 rfl rfl ?_
      refine j_if_eq 24 d_ED_signCharacter_16 (by decide) (by unfold iR; omega) (fun c16 => ?_) (fun c16 => ?_)
      · refine j_bipush d_ED_signCharacter_24 (by decide) ?_
        refine x_ireturn d_ED_signCharacter_26 rfl ?_
        exact rV_i (by unfold sgC; (repeat' split) <;> omega) rfl
      · refine j_bipush d_ED_signCharacter_19 (by decide) ?_
        refine x_goto 26 d_ED_signCharacter_21 (by decide) ?_
        refine x_ireturn d_ED_signCharacter_26 rfl ?_
        exact rV_i (by unfold sgC; (repeat' split) <;> omega) rfl
  · refine j_bipush d_ED_signCharacter_6 (by decide) ?_
    refine x_ireturn d_ED_signCharacter_8 rfl ?_
    exact rV_i (by unfold sgC; (repeat' split) <;> omega) rfl
theorem sgC_r {c ng : Int} (hc : 0 ≤ c ∧ c < 65536) : 0 ≤ sgC c ng ∧ sgC c ng < 65536 := by unfold sgC; (repeat' split) <;> omega
theorem dgt_lt (m a : Nat) : dgt m a < 10 := Nat.mod_lt _ (by decide)
theorem wbt_r {sy : Nat → Int} {d : Nat → Bool} {be m i : Nat} (hs : 0 ≤ sy i ∧ sy i < 65536) : 0 ≤ wbt sy d be m i ∧ wbt sy d be m i < 65536 := by
  have := dgt_lt m (nd d (be - i - 1) (i + 1))
  unfold wbt; (repeat' split) <;> omega
theorem div10 (m a : Nat) : m / 10 ^ a / 10 = m / 10 ^ (a + 1) := by rw [Nat.div_div_eq_div_mul, Nat.pow_succ]
set_option maxHeartbeats 1000000 in
theorem c_writeBody (E : xEnv) (h : xH) (e t p q hd be m : Nat) (ct dg sc sg ed fi fl : Int) (sy T : Nat → Int) (he : h[e]? = some (oE t)) (ht : h[t]? = some (aI 18 T)) (hp : h[p]? = some (oP q ct dg sc sg ed hd be fi fl)) (hq : h[q]? = some (aC 18 sy)) (hte : t ≠ e) (htp : t ≠ p) (htq : t ≠ q) (hs : sOk sy) (hhb : hd ≤ be) (hbe : be ≤ 18) (hfi : 0 ≤ fi ∧ fi < 65536) (hfl : fl = 0 ∨ fl = 1) (hm : m < 1000000000000) : xCt E 1 0 0 M_ED_writeBody [.ref e, .ref p, vL m] h (fun r h' => r = none ∧ ∃ T' : Nat → Int, h' = h.set t (aI 18 T') ∧ (∀ j, hd ≤ j → j < be → T' j = wbt sy (dp sy fi fl hd) be m j) ∧ ∀ j, (j < hd ∨ be ≤ j) → T' j = T j) := by
  refine x_met rfl rfl (Nat.le_of_ble_eq_true rfl) ?_
  obtain ⟨Z, hZ⟩ : ∃ Z, Z = (xZ E 0 0 (fun r h' => r = none ∧ ∃ T' : Nat → Int, h' = h.set t (aI 18 T') ∧ (∀ j, hd ≤ j → j < be → T' j = wbt sy (dp sy fi fl hd) be m j) ∧ ∀ j, (j < hd ∨ be ≤ j) → T' j = T j)) := ⟨_, rfl⟩
  have loop : ∀ (k : Nat) (G : Nat → Int) (l i : Int), hd + k ≤ be → i = (hd : Int) + k - 1 → l = ((m / 10 ^ nd (dp sy fi fl hd) (be - (hd + k)) (hd + k) : Nat) : Int) → (∀ j, hd + k ≤ j → j < be → G j = wbt sy (dp sy fi fl hd) be m j) → (∀ j, (j < hd ∨ be ≤ j) → G j = T j) → X E M_ED_writeBody 1 0 0 Z 11 [some (.ref e), some (.ref p), some (vL m), none, some (vL l), none, some (vI i)] [] (h.set t (aI 18 G)) 0 0 := by
    intro k
    induction k with
    | zero =>
      intro G l i hk hi hl hG1 hG2
      refine x_iload d_ED_writeBody_11 rfl ?_
      refine x_aload_n d_ED_writeBody_13 rfl rfl rfl ?_
      refine x_get 2 6 d_ED_writeBody_14 gf_ED_15 (by first | assumption | exact hs_self (by assumption) | exact hs_ne (by first | assumption | omega) (by assumption) | exact hs_ne (by first | assumption | omega) (hs_self (by assumption)) | exact hs_ne (by first | assumption | omega) (hs_ne (by first | assumption | omega) (by assumption))) (by rfl) ?_
      refine j_icmp_lt 94 d_ED_writeBody_17 (by decide) (by unfold iR; omega) (by unfold iR; omega) (fun c17 => ?_) (fun c17 => ?_)
      · rw [hZ]
        refine x_return d_ED_writeBody_94 rfl ?_
        exact ⟨rfl, G, rfl, fun j h1 h2 => hG1 j (by omega) h2, hG2⟩
      · exfalso; omega
    | succ k ih =>
      intro G l i hk hi hl hG1 hG2
      obtain ⟨a, ha⟩ : ∃ a, a = nd (dp sy fi fl hd) (be - (hd + k) - 1) (hd + k + 1) := ⟨_, rfl⟩
      have hndS : nd (dp sy fi fl hd) (be - (hd + k)) (hd + k) = (if dp sy fi fl hd (hd + k) = true then 1 else 0) + a := by
        rw [ha, show be - (hd + k) = (be - (hd + k) - 1) + 1 by omega]
        rfl
      have hla : l = ((m / 10 ^ a : Nat) : Int) := by
        rw [hl, ha, show be - (hd + (k + 1)) = be - (hd + k) - 1 by omega, show hd + (k + 1) = hd + k + 1 by omega]
      have hle : m / 10 ^ a ≤ m := Nat.div_le_self _ _
      have hs1 := hs (hd + k) (by omega)
      obtain ⟨w, hw⟩ : ∃ w : Nat, w = m / 10 ^ a := ⟨_, rfl⟩
      rw [← hw] at hla hle
      clear hl
      subst hla
      refine x_iload d_ED_writeBody_11 rfl ?_
      refine x_aload_n d_ED_writeBody_13 rfl rfl rfl ?_
      refine x_get 2 6 d_ED_writeBody_14 gf_ED_15 (by first | assumption | exact hs_self (by assumption) | exact hs_ne (by first | assumption | omega) (by assumption) | exact hs_ne (by first | assumption | omega) (hs_self (by assumption)) | exact hs_ne (by first | assumption | omega) (hs_ne (by first | assumption | omega) (by assumption))) (by rfl) ?_
      refine j_icmp_lt 94 d_ED_writeBody_17 (by decide) (by unfold iR; omega) (by unfold iR; omega) (fun c17 => ?_) (fun c17 => ?_)
      · exfalso; omega
      refine x_aload_n d_ED_writeBody_20 rfl rfl rfl ?_
      refine x_iload d_ED_writeBody_21 rfl ?_
      refine x_top (w := vI ((hd + k : Nat) : Int)) (by rw [show i = ((hd + k : Nat) : Int) by omega]) ?_
      refine x_callV1 (M' := M_PC_isDigitPlace) d_ED_writeBody_23 lk_ED_53 (c_isDigitPlace E _ p q hd (hd + k) ct dg sc sg ed be fi fl sy (hs_ne htp hp) (hs_ne htq hq) hs (by omega) (by omega) hfi hfl) mt_PC_isDigitPlace im_PC_isDigitPlace se_PC_isDigitPlace (by first | assumption | exact hs_self (by assumption) | exact hs_ne (by first | assumption | omega) (by assumption) | exact hs_ne (by first | assumption | omega) (hs_self (by assumption)) | exact hs_ne (by first | assumption | omega) (hs_ne (by first | assumption | omega) (by assumption))) rfl (by decide) rfl (Nat.le_of_ble_eq_true rfl) (by decide) (by decide) ?_
      refine j_if_eq 57 d_ED_writeBody_26 (by decide) (by unfold iR; split <;> omega) (fun c26 => ?_) (fun c26 => ?_)
      · have hnd : ¬ dp sy fi fl hd (hd + k) = true := by
          intro z
          rw [if_pos z] at c26
          omega
        have fin : ∀ v : Int, v = wbt sy (dp sy fi fl hd) be m (hd + k) → X E M_ED_writeBody 1 0 0 Z 87 [some (.ref e), some (.ref p), some (vL m), none, some (vL (w : Int)), none, some (vI i)] [vI v, vI i, .ref t] (h.set t (aI 18 G)) 0 0 := by
          intro v hv
          refine j_iast d_ED_writeBody_87 (by first | assumption | exact hs_self (by assumption) | exact hs_ne (by first | assumption | omega) (by assumption) | exact hs_ne (by first | assumption | omega) (hs_self (by assumption)) | exact hs_ne (by first | assumption | omega) (hs_ne (by first | assumption | omega) (by assumption))) (by omega) (by omega) (by decide) ?_
          rw [List.set_set]
          refine j_iinc d_ED_writeBody_88 rfl ?_
          refine x_goto 11 d_ED_writeBody_91 (by decide) ?_
          refine ih _ _ _ (by omega) (by omega) (by rw [hndS, if_neg hnd, Nat.zero_add, hw]) (fun j h1 h2 => ?_) (fun j h1 => ?_)
          · by_cases hj : j = hd + k
            · subst hj
              rw [show i.toNat = hd + k by omega, gU_self]
              exact hv
            · rw [gU_ne _ _ (by omega)]
              exact hG1 j (by omega) h2
          · rw [gU_ne _ _ (by omega)]
            exact hG2 j h1
        refine x_aload_n d_ED_writeBody_57 rfl rfl rfl ?_
        refine x_get 0 0 d_ED_writeBody_58 gf_ED_9 (by first | assumption | exact hs_self (by assumption) | exact hs_ne (by first | assumption | omega) (by assumption) | exact hs_ne (by first | assumption | omega) (hs_self (by assumption)) | exact hs_ne (by first | assumption | omega) (hs_ne (by first | assumption | omega) (by assumption))) (by rfl) ?_
        refine x_iload d_ED_writeBody_61 rfl ?_
        refine x_aload_n d_ED_writeBody_63 rfl rfl rfl ?_
        refine x_get 2 0 d_ED_writeBody_64 gf_ED_21 (by first | assumption | exact hs_self (by assumption) | exact hs_ne (by first | assumption | omega) (by assumption) | exact hs_ne (by first | assumption | omega) (hs_self (by assumption)) | exact hs_ne (by first | assumption | omega) (hs_ne (by first | assumption | omega) (by assumption))) (by rfl) ?_
        refine x_iload d_ED_writeBody_67 rfl ?_
        refine j_cald d_ED_writeBody_69 (by first | assumption | exact hs_self (by assumption) | exact hs_ne (by first | assumption | omega) (by assumption) | exact hs_ne (by first | assumption | omega) (hs_self (by assumption)) | exact hs_ne (by first | assumption | omega) (hs_ne (by first | assumption | omega) (by assumption))) (by omega) (by omega) (by decide) ?_
        refine x_top (w := vI (sy (hd + k))) (by rw [show i.toNat = hd + k by omega]) ?_
        refine j_bipush d_ED_writeBody_70 (by decide) ?_
        refine j_icmp_ne 80 d_ED_writeBody_72 (by decide) (by unfold iR; omega) (by unfold iR; omega) (fun c72 => ?_) (fun c72 => ?_)
        · refine x_aload_n d_ED_writeBody_80 rfl rfl rfl ?_
          refine x_get 2 0 d_ED_writeBody_81 gf_ED_21 (by first | assumption | exact hs_self (by assumption) | exact hs_ne (by first | assumption | omega) (by assumption) | exact hs_ne (by first | assumption | omega) (hs_self (by assumption)) | exact hs_ne (by first | assumption | omega) (hs_ne (by first | assumption | omega) (by assumption))) (by rfl) ?_
          refine x_iload d_ED_writeBody_84 rfl ?_
          refine j_cald d_ED_writeBody_86 (by first | assumption | exact hs_self (by assumption) | exact hs_ne (by first | assumption | omega) (by assumption) | exact hs_ne (by first | assumption | omega) (hs_self (by assumption)) | exact hs_ne (by first | assumption | omega) (hs_ne (by first | assumption | omega) (by assumption))) (by omega) (by omega) (by decide) ?_
          refine x_top (w := vI (sy (hd + k))) (by rw [show i.toNat = hd + k by omega]) ?_
          exact fin _ (by unfold wbt; rw [if_neg hnd, if_neg c72])
        · refine j_bipush d_ED_writeBody_75 (by decide) ?_
          refine x_goto 87 d_ED_writeBody_77 (by decide) ?_
          exact fin _ (by unfold wbt; rw [if_neg hnd, if_pos c72])
      · have hnd : dp sy fi fl hd (hd + k) = true := by
          by_cases z : dp sy fi fl hd (hd + k) = true
          · exact z
          · rw [if_neg z] at c26
            exact absurd rfl c26
        refine x_aload_n d_ED_writeBody_29 rfl rfl rfl ?_
        refine x_get 0 0 d_ED_writeBody_30 gf_ED_9 (by first | assumption | exact hs_self (by assumption) | exact hs_ne (by first | assumption | omega) (by assumption) | exact hs_ne (by first | assumption | omega) (hs_self (by assumption)) | exact hs_ne (by first | assumption | omega) (hs_ne (by first | assumption | omega) (by assumption))) (by rfl) ?_
        refine x_iload d_ED_writeBody_33 rfl ?_
        refine j_bipush d_ED_writeBody_35 (by decide) ?_
        refine x_lload d_ED_writeBody_37 rfl ?_
        refine x_ldc2 d_ED_writeBody_39 kl_ED_57 ?_
        refine j_lrem d_ED_writeBody_42 (by unfold lR; omega) (by unfold lR; omega) (by decide) ?_
        refine x_top (w := vL (dgt m a : Int)) (by subst hw; rfl) ?_
        refine j_l2i d_ED_writeBody_43 ?_
        refine j_iadd d_ED_writeBody_44 ?_
        refine j_iast d_ED_writeBody_45 (by first | assumption | exact hs_self (by assumption) | exact hs_ne (by first | assumption | omega) (by assumption) | exact hs_ne (by first | assumption | omega) (hs_self (by assumption)) | exact hs_ne (by first | assumption | omega) (hs_ne (by first | assumption | omega) (by assumption))) (by omega) (by omega) (by decide) ?_
        rw [List.set_set]
        refine x_lload d_ED_writeBody_46 rfl ?_
        refine x_ldc2 d_ED_writeBody_48 kl_ED_57 ?_
        refine j_ldiv d_ED_writeBody_51 (by unfold lR; omega) (by unfold lR; omega) (by decide) ?_
        refine x_top (w := vL ((m / 10 ^ (a + 1) : Nat) : Int)) (by rw [← div10, ← hw]; rfl) ?_
        refine x_lstore d_ED_writeBody_52 (Nat.le_of_ble_eq_true rfl) ?_
        refine x_goto 88 d_ED_writeBody_54 (by decide) ?_
        refine j_iinc d_ED_writeBody_88 rfl ?_
        refine x_goto 11 d_ED_writeBody_91 (by decide) ?_
        refine ih _ _ _ (by omega) (by omega) (by rw [hndS, if_pos hnd, Nat.add_comm]) (fun j h1 h2 => ?_) (fun j h1 => ?_)
        · by_cases hj : j = hd + k
          · subst hj
            rw [show i.toNat = hd + k by omega, gU_self]
            unfold wbt
            rw [if_pos hnd, ← ha]
          · rw [gU_ne _ _ (by omega)]
            exact hG1 j (by omega) h2
        · rw [gU_ne _ _ (by omega)]
          exact hG2 j h1
  have e0 := hset_id ht
  rw [← hZ]
  refine x_lload_n d_ED_writeBody_0 rfl rfl ?_
  refine x_lstore d_ED_writeBody_1 (Nat.le_of_ble_eq_true rfl) ?_
  refine x_aload_n d_ED_writeBody_3 rfl rfl rfl ?_
  refine x_get 2 7 d_ED_writeBody_4 gf_ED_47 (by first | assumption | exact hs_self (by assumption) | exact hs_ne (by first | assumption | omega) (by assumption) | exact hs_ne (by first | assumption | omega) (hs_self (by assumption)) | exact hs_ne (by first | assumption | omega) (hs_ne (by first | assumption | omega) (by assumption))) (by rfl) ?_
  refine j_iconst d_ED_writeBody_7 ?_
  refine j_isub d_ED_writeBody_8 ?_
  refine x_istore d_ED_writeBody_9 (Nat.le_of_ble_eq_true rfl) ?_
  have := loop (be - hd) T m ((be : Int) - 1) (by omega) (by omega) (by rw [show be - (hd + (be - hd)) = 0 by omega]; simp [nd]) (fun j h1 h2 => by omega) (fun j _ => rfl)
  rw [e0] at this
  exact this
set_option maxHeartbeats 1000000 in
theorem c_firstShown (E : xEnv) (h : xH) (e t p q hd be m : Nat) (ct dg sc sg ed fi fl : Int) (sy T : Nat → Int) (he : h[e]? = some (oE t)) (ht : h[t]? = some (aI 18 T)) (hp : h[p]? = some (oP q ct dg sc sg ed hd be fi fl)) (hq : h[q]? = some (aC 18 sy)) (hs : sOk sy) (hhb : hd ≤ be) (hbe : be ≤ 18) (hfi : 0 ≤ fi ∧ fi < 65536) (hfl : fl = 0 ∨ fl = 1) (hT : ∀ j, hd ≤ j → j < be → T j = wbt sy (dp sy fi fl hd) be m j) : xCt E 1 0 0 M_ED_firstShown [.ref e, .ref p] h (rV (vI (fs (stn sy (dp sy fi fl hd) be m) (be - hd) hd)) h) := by
  refine x_met rfl rfl (Nat.le_of_ble_eq_true rfl) ?_
  have loop : ∀ (r k : Nat) (i : Int) (x : Option Value), k + r = be → hd ≤ k → i = (k : Int) → fs (stn sy (dp sy fi fl hd) be m) r k = fs (stn sy (dp sy fi fl hd) be m) (be - hd) hd → X E M_ED_firstShown 1 0 0 (xZ E 0 0 (rV (vI (fs (stn sy (dp sy fi fl hd) be m) (be - hd) hd)) h)) 5 [some (.ref e), some (.ref p), some (vI i), x] [] h 0 0 := by
    intro r
    induction r with
    | zero =>
      intro k i x hk hhk hi hf
      refine x_iload_n d_ED_firstShown_5 rfl rfl ?_
      refine x_aload_n d_ED_firstShown_6 rfl rfl rfl ?_
      refine x_get 2 7 d_ED_firstShown_7 gf_ED_47 (by first | assumption | exact hs_self (by assumption) | exact hs_ne (by first | assumption | omega) (by assumption) | exact hs_ne (by first | assumption | omega) (hs_self (by assumption)) | exact hs_ne (by first | assumption | omega) (hs_ne (by first | assumption | omega) (by assumption))) (by rfl) ?_
      refine j_icmp_ge 59 d_ED_firstShown_10 (by decide) (by unfold iR; omega) (by unfold iR; omega) (fun c10 => ?_) (fun c10 => ?_)
      · refine x_aload_n d_ED_firstShown_59 rfl rfl rfl ?_
        refine x_get 2 7 d_ED_firstShown_60 gf_ED_47 (by first | assumption | exact hs_self (by assumption) | exact hs_ne (by first | assumption | omega) (by assumption) | exact hs_ne (by first | assumption | omega) (hs_self (by assumption)) | exact hs_ne (by first | assumption | omega) (hs_ne (by first | assumption | omega) (by assumption))) (by rfl) ?_
        refine x_ireturn d_ED_firstShown_63 rfl ?_
        exact rV_i (by rw [← hf]; show (be : Int) = (k : Int); omega) rfl
      · exfalso; omega
    | succ r ih =>
      intro k i x hk hhk hi hf
      have hs1 := hs k (by omega)
      have hTk := hT k hhk (by omega)
      have hwr := wbt_r (sy := sy) (d := dp sy fi fl hd) (be := be) (m := m) (i := k) hs1
      have hstop : stn sy (dp sy fi fl hd) be m k = true → X E M_ED_firstShown 1 0 0 (xZ E 0 0 (rV (vI (fs (stn sy (dp sy fi fl hd) be m) (be - hd) hd)) h)) 51 [some (.ref e), some (.ref p), some (vI i), some (vI (sy k))] [] h 0 0 := by
        intro hst
        refine x_iload_n d_ED_firstShown_51 rfl rfl ?_
        refine x_ireturn d_ED_firstShown_52 rfl ?_
        exact rV_i (by rw [← hf]; unfold fs; rw [if_pos hst]; exact hi) rfl
      have hgo : ¬ stn sy (dp sy fi fl hd) be m k = true → X E M_ED_firstShown 1 0 0 (xZ E 0 0 (rV (vI (fs (stn sy (dp sy fi fl hd) be m) (be - hd) hd)) h)) 53 [some (.ref e), some (.ref p), some (vI i), some (vI (sy k))] [] h 0 0 := by
        intro hst
        refine j_iinc d_ED_firstShown_53 rfl ?_
        refine x_goto 5 d_ED_firstShown_56 (by decide) ?_
        exact ih (k + 1) _ _ (by omega) (by omega) (by omega) (by rw [← hf]; conv => rhs; unfold fs; rw [if_neg hst])
      refine x_iload_n d_ED_firstShown_5 rfl rfl ?_
      refine x_aload_n d_ED_firstShown_6 rfl rfl rfl ?_
      refine x_get 2 7 d_ED_firstShown_7 gf_ED_47 (by first | assumption | exact hs_self (by assumption) | exact hs_ne (by first | assumption | omega) (by assumption) | exact hs_ne (by first | assumption | omega) (hs_self (by assumption)) | exact hs_ne (by first | assumption | omega) (hs_ne (by first | assumption | omega) (by assumption))) (by rfl) ?_
      refine j_icmp_ge 59 d_ED_firstShown_10 (by decide) (by unfold iR; omega) (by unfold iR; omega) (fun c10 => ?_) (fun c10 => ?_)
      · exfalso; omega
      refine x_aload_n d_ED_firstShown_13 rfl rfl rfl ?_
      refine x_get 2 0 d_ED_firstShown_14 gf_ED_21 (by first | assumption | exact hs_self (by assumption) | exact hs_ne (by first | assumption | omega) (by assumption) | exact hs_ne (by first | assumption | omega) (hs_self (by assumption)) | exact hs_ne (by first | assumption | omega) (hs_ne (by first | assumption | omega) (by assumption))) (by rfl) ?_
      refine x_iload_n d_ED_firstShown_17 rfl rfl ?_
      refine j_cald d_ED_firstShown_18 (by first | assumption | exact hs_self (by assumption) | exact hs_ne (by first | assumption | omega) (by assumption) | exact hs_ne (by first | assumption | omega) (hs_self (by assumption)) | exact hs_ne (by first | assumption | omega) (hs_ne (by first | assumption | omega) (by assumption))) (by omega) (by omega) (by decide) ?_
      refine x_top (w := vI (sy k)) (by rw [show i.toNat = k by omega]) ?_
      refine x_istore_n d_ED_firstShown_19 rfl (Nat.le_of_ble_eq_true rfl) ?_
      refine x_iload_n d_ED_firstShown_20 rfl rfl ?_
      refine j_bipush d_ED_firstShown_21 (by decide) ?_
      refine j_icmp_eq 51 d_ED_firstShown_23 (by decide) (by unfold iR; omega) (by unfold iR; omega) (fun c23 => ?_) (fun c23 => ?_)
      · exact hstop (by unfold stn; simp [c23])
      refine x_iload_n d_ED_firstShown_26 rfl rfl ?_
      refine j_bipush d_ED_firstShown_27 (by decide) ?_
      refine j_icmp_eq 51 d_ED_firstShown_29 (by decide) (by unfold iR; omega) (by unfold iR; omega) (fun c29 => ?_) (fun c29 => ?_)
      · exact hstop (by unfold stn; simp [c29])
      refine x_aload_n d_ED_firstShown_32 rfl rfl rfl ?_
      refine x_iload_n d_ED_firstShown_33 rfl rfl ?_
      refine x_top (w := vI (k : Int)) (by rw [hi]) ?_
      refine x_callV1 (M' := M_PC_isDigitPlace) d_ED_firstShown_34 lk_ED_53 (c_isDigitPlace E _ p q hd k ct dg sc sg ed be fi fl sy hp hq hs (by omega) (by omega) hfi hfl) mt_PC_isDigitPlace im_PC_isDigitPlace se_PC_isDigitPlace (by first | assumption | exact hs_self (by assumption) | exact hs_ne (by first | assumption | omega) (by assumption) | exact hs_ne (by first | assumption | omega) (hs_self (by assumption)) | exact hs_ne (by first | assumption | omega) (hs_ne (by first | assumption | omega) (by assumption))) rfl (by decide) rfl (Nat.le_of_ble_eq_true rfl) (by decide) (by decide) ?_
      refine j_if_eq 53 d_ED_firstShown_37 (by decide) (by unfold iR; split <;> omega) (fun c37 => ?_) (fun c37 => ?_)
      · have hnd : ¬ dp sy fi fl hd k = true := by
          intro z
          rw [if_pos z] at c37
          omega
        exact hgo (by unfold stn; simp [c23, c29, hnd])
      · have hnd : dp sy fi fl hd k = true := by
          by_cases z : dp sy fi fl hd k = true
          · exact z
          · rw [if_neg z] at c37
            exact absurd rfl c37
        have hTk2 : T k = 48 + (dgt m (nd (dp sy fi fl hd) (be - k - 1) (k + 1)) : Int) := by rw [hTk]; unfold wbt; rw [if_pos hnd]
        refine x_aload_n d_ED_firstShown_40 rfl rfl rfl ?_
        refine x_get 0 0 d_ED_firstShown_41 gf_ED_9 (by first | assumption | exact hs_self (by assumption) | exact hs_ne (by first | assumption | omega) (by assumption) | exact hs_ne (by first | assumption | omega) (hs_self (by assumption)) | exact hs_ne (by first | assumption | omega) (hs_ne (by first | assumption | omega) (by assumption))) (by rfl) ?_
        refine x_iload_n d_ED_firstShown_44 rfl rfl ?_
        refine j_iald d_ED_firstShown_45 (by first | assumption | exact hs_self (by assumption) | exact hs_ne (by first | assumption | omega) (by assumption) | exact hs_ne (by first | assumption | omega) (hs_self (by assumption)) | exact hs_ne (by first | assumption | omega) (hs_ne (by first | assumption | omega) (by assumption))) (by omega) (by omega) (by decide) ?_
        refine x_top (w := vI (T k)) (by rw [show i.toNat = k by omega]) ?_
        refine j_bipush d_ED_firstShown_46 (by decide) ?_
        refine j_icmp_eq 53 d_ED_firstShown_48 (by decide) (by unfold iR; omega) (by unfold iR; omega) (fun c48 => ?_) (fun c48 => ?_)
        · exact hgo (by unfold stn; simp [c23, c29, hnd]; omega)
        · exact hstop (by unfold stn; simp [hnd]; omega)
  refine x_aload_n d_ED_firstShown_0 rfl rfl rfl ?_
  refine x_get 2 6 d_ED_firstShown_1 gf_ED_15 (by first | assumption | exact hs_self (by assumption) | exact hs_ne (by first | assumption | omega) (by assumption) | exact hs_ne (by first | assumption | omega) (hs_self (by assumption)) | exact hs_ne (by first | assumption | omega) (hs_ne (by first | assumption | omega) (by assumption))) (by rfl) ?_
  refine x_istore_n d_ED_firstShown_4 rfl (Nat.le_of_ble_eq_true rfl) ?_
  exact loop (be - hd) hd _ _ (by omega) (Nat.le_refl _) rfl rfl
