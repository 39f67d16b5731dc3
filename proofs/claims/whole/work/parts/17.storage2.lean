set_option maxHeartbeats 1000000 in
theorem c_separateUnits (E : xEnv) (h : xH) (s b e f p o n : Nat) (fm ln sc sg : Int) (B : Nat → Int) (hs : h[s]? = some (oS b e)) (hb : h[b]? = some (aI 64 B)) (hf : h[f]? = some (oF p fm o ln n sc sg)) (hB : bOk B) (ho : o + n + 1 ≤ 64) (hn : 1 ≤ n ∧ n ≤ 9) : xCt E 2 0 0 M_SG_separateUnits [.ref s, .ref f] h (rV (vL ((uS B o n).getD nonI)) h) := by
  refine x_met rfl rfl (Nat.le_of_ble_eq_true rfl) ?_
  have hb0 := hB (o + n) (by omega)
  have hp := pow10_le (n := n) (m := 9) (by omega)
  refine x_aload_n d_SG_separateUnits_0 rfl rfl rfl ?_
  refine x_get 3 0 d_SG_separateUnits_1 gf_SG_9 (by first | assumption | exact hs_self (by assumption) | exact hs_ne (by first | assumption | omega) (by assumption) | exact hs_ne (by first | assumption | omega) (hs_self (by assumption)) | exact hs_ne (by first | assumption | omega) (hs_ne (by first | assumption | omega) (by assumption))) (by rfl) ?_
  refine x_aload_n d_SG_separateUnits_4 rfl rfl rfl ?_
  refine x_get 1 2 d_SG_separateUnits_5 gf_SG_61 (by first | assumption | exact hs_self (by assumption) | exact hs_ne (by first | assumption | omega) (by assumption) | exact hs_ne (by first | assumption | omega) (hs_self (by assumption)) | exact hs_ne (by first | assumption | omega) (hs_ne (by first | assumption | omega) (by assumption))) (by rfl) ?_
  refine x_aload_n d_SG_separateUnits_8 rfl rfl rfl ?_
  refine x_get 1 4 d_SG_separateUnits_9 gf_SG_64 (by first | assumption | exact hs_self (by assumption) | exact hs_ne (by first | assumption | omega) (by assumption) | exact hs_ne (by first | assumption | omega) (hs_self (by assumption)) | exact hs_ne (by first | assumption | omega) (hs_ne (by first | assumption | omega) (by assumption))) (by rfl) ?_
  refine j_iadd d_SG_separateUnits_12 ?_
  refine j_iald d_SG_separateUnits_13 (by first | assumption | exact hs_self (by assumption) | exact hs_ne (by first | assumption | omega) (by assumption) | exact hs_ne (by first | assumption | omega) (hs_self (by assumption)) | exact hs_ne (by first | assumption | omega) (hs_ne (by first | assumption | omega) (by assumption))) (by omega) (by omega) (by decide) ?_
  refine x_top (w := vI (B (o + n))) (by rw [show ((o : Int) + n).toNat = o + n by omega]) ?_
  refine x_istore_n d_SG_separateUnits_14 rfl (Nat.le_of_ble_eq_true rfl) ?_
  refine x_aload_n d_SG_separateUnits_15 rfl rfl rfl ?_
  refine x_aload_n d_SG_separateUnits_16 rfl rfl rfl ?_
  refine x_get 1 2 d_SG_separateUnits_17 gf_SG_61 (by first | assumption | exact hs_self (by assumption) | exact hs_ne (by first | assumption | omega) (by assumption) | exact hs_ne (by first | assumption | omega) (hs_self (by assumption)) | exact hs_ne (by first | assumption | omega) (hs_ne (by first | assumption | omega) (by assumption))) (by rfl) ?_
  refine x_aload_n d_SG_separateUnits_20 rfl rfl rfl ?_
  refine x_get 1 4 d_SG_separateUnits_21 gf_SG_64 (by first | assumption | exact hs_self (by assumption) | exact hs_ne (by first | assumption | omega) (by assumption) | exact hs_ne (by first | assumption | omega) (hs_self (by assumption)) | exact hs_ne (by first | assumption | omega) (hs_ne (by first | assumption | omega) (by assumption))) (by rfl) ?_
  refine x_callV1 (M' := M_SG_digitsAt) d_SG_separateUnits_24 lk_SG_77 (c_digitsAt E h s b e o n B hs hb hB (by omega) (by omega)) mt_SG_digitsAt im_SG_digitsAt se_SG_digitsAt (by first | assumption | exact hs_self (by assumption) | exact hs_ne (by first | assumption | omega) (by assumption) | exact hs_ne (by first | assumption | omega) (hs_self (by assumption)) | exact hs_ne (by first | assumption | omega) (hs_ne (by first | assumption | omega) (by assumption))) rfl (by decide) rfl (Nat.le_of_ble_eq_true rfl) (by decide) (by decide) ?_
  cases hd : rdD B o n with
  | none =>
    have hu : uS B o n = none := by unfold uS; rw [hd]
    show X E M_SG_separateUnits 2 0 0 _ 27 _ (vL nonI :: []) h 0 0
    refine x_lstore_n d_SG_separateUnits_27 rfl (Nat.le_of_ble_eq_true rfl) ?_
    refine x_lload_n d_SG_separateUnits_28 rfl rfl ?_
    refine x_ldc2 d_SG_separateUnits_29 kl_SG_81 ?_
    refine j_lcmp_eq 48 d_SG_separateUnits_32 d_SG_separateUnits_33 (by decide) (by unfold lR nonI; omega) (by unfold lR; omega) (fun c32 => ?_) (fun c32 => ?_)
    · refine x_ldc2 d_SG_separateUnits_48 kl_SG_81 ?_
      refine x_lreturn d_SG_separateUnits_51 rfl ?_
      exact rV_l (by rw [hu]; rfl) rfl
    · exact absurd rfl c32
  | some m =>
    have hml := rdD_lt hd
    have hu : uS B o n = if B (o + n) = 43 then some m else if B (o + n) = 45 then some (-m) else none := by unfold uS; rw [hd]
    show X E M_SG_separateUnits 2 0 0 _ 27 _ (vL m :: []) h 0 0
    refine x_lstore_n d_SG_separateUnits_27 rfl (Nat.le_of_ble_eq_true rfl) ?_
    refine x_lload_n d_SG_separateUnits_28 rfl rfl ?_
    refine x_ldc2 d_SG_separateUnits_29 kl_SG_81 ?_
    refine j_lcmp_eq 48 d_SG_separateUnits_32 d_SG_separateUnits_33 (by decide) (by unfold lR; omega) (by unfold lR; omega) (fun c32 => ?_) (fun c32 => ?_)
    · exfalso; omega
    refine x_iload_n d_SG_separateUnits_36 rfl rfl ?_
    refine j_bipush d_SG_separateUnits_37 (by decide) ?_
    refine j_icmp_eq 52 d_SG_separateUnits_39 (by decide) (by unfold iR; omega) (by unfold iR; omega) (fun c39 => ?_) (fun c39 => ?_)
    · refine x_lload_n d_SG_separateUnits_52 rfl rfl ?_
      refine x_iload_n d_SG_separateUnits_53 rfl rfl ?_
      refine j_bipush d_SG_separateUnits_54 (by decide) ?_
      refine j_icmp_ne 63 d_SG_separateUnits_56 (by decide) (by unfold iR; omega) (by unfold iR; omega) (fun c56 => ?_) (fun c56 => ?_)
      · refine j_iconst d_SG_separateUnits_63 ?_
        refine x_callS1 (M' := M_SG_withSign) d_SG_separateUnits_64 lk_SG_85 (c_withSign E h m 0 (Or.inl rfl)) mt_SG_withSign st_SG_withSign (by decide) rfl (Nat.le_of_ble_eq_true rfl) (by decide) (by decide) ?_
        refine x_lreturn d_SG_separateUnits_67 rfl ?_
        exact rV_l (by rw [hu, if_pos c39]; rfl) rfl
      · exfalso; omega
    · refine x_iload_n d_SG_separateUnits_42 rfl rfl ?_
      refine j_bipush d_SG_separateUnits_43 (by decide) ?_
      refine j_icmp_eq 52 d_SG_separateUnits_45 (by decide) (by unfold iR; omega) (by unfold iR; omega) (fun c45 => ?_) (fun c45 => ?_)
      · refine x_lload_n d_SG_separateUnits_52 rfl rfl ?_
        refine x_iload_n d_SG_separateUnits_53 rfl rfl ?_
        refine j_bipush d_SG_separateUnits_54 (by decide) ?_
        refine j_icmp_ne 63 d_SG_separateUnits_56 (by decide) (by unfold iR; omega) (by unfold iR; omega) (fun c56 => ?_) (fun c56 => ?_)
        · exfalso; omega
        · refine j_iconst d_SG_separateUnits_59 ?_
          refine x_goto 64 d_SG_separateUnits_60 (by decide) ?_
          refine x_callS1 (M' := M_SG_withSign) d_SG_separateUnits_64 lk_SG_85 (c_withSign E h m 1 (Or.inr rfl)) mt_SG_withSign st_SG_withSign (by decide) rfl (Nat.le_of_ble_eq_true rfl) (by decide) (by decide) ?_
          refine x_lreturn d_SG_separateUnits_67 rfl ?_
          exact rV_l (by rw [hu, if_neg c39, if_pos c45]; rfl) rfl
      · refine x_ldc2 d_SG_separateUnits_48 kl_SG_81 ?_
        refine x_lreturn d_SG_separateUnits_51 rfl ?_
        exact rV_l (by rw [hu, if_neg c39, if_neg c45]; rfl) rfl
theorem hfB_le {B : Nat → Int} (hB : bOk B) {o k : Nat} (hk : o + k / 2 < 64) : 0 ≤ hfB B o k ∧ hfB B o k ≤ 15 := by
  have := hB _ hk
  unfold hfB
  split <;> omega
set_option maxHeartbeats 2000000 in
theorem c_packedUnits (E : xEnv) (h : xH) (s b e f p o n : Nat) (fm sc sg : Int) (B : Nat → Int) (hs : h[s]? = some (oS b e)) (hb : h[b]? = some (aI 64 B)) (hf : h[f]? = some (oF p fm o ((n / 2 + 1 : Nat) : Int) n sc sg)) (hB : bOk B) (ho : o + (n / 2 + 1) ≤ 64) (hn : 1 ≤ n ∧ n ≤ 9) (hsg : sg = 0 ∨ sg = 1) : xCt E 2 0 0 M_SG_packedUnits [.ref s, .ref f] h (rV (vL ((uP B o n sg).getD nonI)) h) := by
  refine x_met rfl rfl (Nat.le_of_ble_eq_true rfl) ?_
  obtain ⟨c, hc⟩ : ∃ c : Nat, c = 2 * (n / 2 + 1) - 1 := ⟨_, rfl⟩
  have hsh := hfB_le hB (o := o) (k := c) (by omega)
  have loop : ∀ (r k : Nat) (m i : Int) (x : Option Value), k + r = c → i = (k : Int) → rdP B o k = some m → X E M_SG_packedUnits 2 0 0 (xZ E 0 0 (rV (vL ((uP B o n sg).getD nonI)) h)) 14 [some (.ref s), some (.ref f), some (vI (2 * ((n / 2 + 1 : Nat) : Int) - 1)), some (vL m), none, some (vI i), x] [] h 0 0 := by
    intro r
    induction r with
    | zero =>
      intro k m i x hk hi hm
      have hml := rdP_lt hm
      have hp := pow10_le (n := k) (m := 9) (by omega)
      have hp2 := pow10_le (n := n) (m := 9) (by omega)
      have hp3 := pow10_pos n
      have hu : uP B o n sg = if hfB B o c < (if sg = 1 then 10 else 15) ∨ ¬ m < 10 ^ n then none else some (if hfB B o c = 13 ∨ hfB B o c = 11 then -m else m) := by
        unfold uP
        rw [← hc, show c = k by omega, hm]
      refine x_iload d_SG_packedUnits_14 rfl ?_
      refine x_iload_n d_SG_packedUnits_16 rfl rfl ?_
      refine j_icmp_ge 60 d_SG_packedUnits_17 (by decide) (by unfold iR; omega) (by unfold iR; omega) (fun c17 => ?_) (fun c17 => ?_)
      · refine x_aload_n d_SG_packedUnits_60 rfl rfl rfl ?_
        refine x_aload_n d_SG_packedUnits_61 rfl rfl rfl ?_
        refine x_get 1 2 d_SG_packedUnits_62 gf_SG_61 (by first | assumption | exact hs_self (by assumption) | exact hs_ne (by first | assumption | omega) (by assumption) | exact hs_ne (by first | assumption | omega) (hs_self (by assumption)) | exact hs_ne (by first | assumption | omega) (hs_ne (by first | assumption | omega) (by assumption))) (by rfl) ?_
        refine x_iload_n d_SG_packedUnits_65 rfl rfl ?_
        refine x_top (w := vI (c : Int)) (by rw [show 2 * ((n / 2 + 1 : Nat) : Int) - 1 = (c : Int) by omega]) ?_
        have fin : ∀ (ls : Int), ls = (if sg = 1 then 10 else 15) → X E M_SG_packedUnits 2 0 0 (xZ E 0 0 (rV (vL ((uP B o n sg).getD nonI)) h)) 87 [some (.ref s), some (.ref f), some (vI (2 * ((n / 2 + 1 : Nat) : Int) - 1)), some (vL m), none, some (vI (hfB B o c)), some (vI ls)] [] h 0 0 := by
          intro ls hls
          have hlr : 10 ≤ ls ∧ ls ≤ 15 := by subst hls; split <;> omega
          refine x_iload d_SG_packedUnits_87 rfl ?_
          refine x_iload d_SG_packedUnits_89 rfl ?_
          refine j_icmp_lt 106 d_SG_packedUnits_91 (by decide) (by unfold iR; omega) (by unfold iR; omega) (fun c91 => ?_) (fun c91 => ?_)
          · refine x_ldc2 d_SG_packedUnits_106 kl_SG_81 ?_
            refine x_lreturn d_SG_packedUnits_109 rfl ?_
            exact rV_l (by rw [hu, if_pos (Or.inl (by rw [← hls]; exact c91))]; rfl) rfl
          · refine x_lload_n d_SG_packedUnits_94 rfl rfl ?_
            refine x_aload_n d_SG_packedUnits_95 rfl rfl rfl ?_
            refine x_get 1 4 d_SG_packedUnits_96 gf_SG_64 (by first | assumption | exact hs_self (by assumption) | exact hs_ne (by first | assumption | omega) (by assumption) | exact hs_ne (by first | assumption | omega) (hs_self (by assumption)) | exact hs_ne (by first | assumption | omega) (hs_ne (by first | assumption | omega) (by assumption))) (by rfl) ?_
            refine x_callS1 (M' := M_DC_tenTo) d_SG_packedUnits_99 lk_SG_96 (c_tenTo E h n (by omega)) mt_DC_tenTo st_DC_tenTo (by decide) rfl (Nat.le_of_ble_eq_true rfl) (by decide) (by decide) ?_
            refine j_lcmp_lt 110 d_SG_packedUnits_102 d_SG_packedUnits_103 (by decide) (by unfold lR; omega) (by unfold lR; omega) (fun c102 => ?_) (fun c102 => ?_)
            · have hnn : ¬ (hfB B o c < (if sg = 1 then 10 else 15) ∨ ¬ m < 10 ^ n) := by rw [← hls]; omega
              refine x_lload_n d_SG_packedUnits_110 rfl rfl ?_
              refine x_iload d_SG_packedUnits_111 rfl ?_
              refine j_bipush d_SG_packedUnits_113 (by decide) ?_
              refine j_icmp_eq 125 d_SG_packedUnits_115 (by decide) (by unfold iR; omega) (by unfold iR; omega) (fun c115 => ?_) (fun c115 => ?_)
              · refine j_iconst d_SG_packedUnits_125 ?_
                refine x_goto 130 d_SG_packedUnits_126 (by decide) ?_
                refine x_callS1 (M' := M_SG_withSign) d_SG_packedUnits_130 lk_SG_85 (c_withSign E h m 1 (Or.inr rfl)) mt_SG_withSign st_SG_withSign (by decide) rfl (Nat.le_of_ble_eq_true rfl) (by decide) (by decide) ?_
                refine x_lreturn d_SG_packedUnits_133 rfl ?_
                exact rV_l (by rw [hu, if_neg hnn]; show (if (1 : Int) = 1 then -m else m) = if hfB B o c = 13 ∨ hfB B o c = 11 then -m else m; rw [if_pos rfl, if_pos (by omega)]) rfl
              · refine x_iload d_SG_packedUnits_118 rfl ?_
                refine j_bipush d_SG_packedUnits_120 (by decide) ?_
                refine j_icmp_ne 129 d_SG_packedUnits_122 (by decide) (by unfold iR; omega) (by unfold iR; omega) (fun c122 => ?_) (fun c122 => ?_)
                · refine j_iconst d_SG_packedUnits_129 ?_
                  refine x_callS1 (M' := M_SG_withSign) d_SG_packedUnits_130 lk_SG_85 (c_withSign E h m 0 (Or.inl rfl)) mt_SG_withSign st_SG_withSign (by decide) rfl (Nat.le_of_ble_eq_true rfl) (by decide) (by decide) ?_
                  refine x_lreturn d_SG_packedUnits_133 rfl ?_
                  exact rV_l (by rw [hu, if_neg hnn]; show (if (0 : Int) = 1 then -m else m) = if hfB B o c = 13 ∨ hfB B o c = 11 then -m else m; rw [if_neg (by decide), if_neg (by omega)]) rfl
                · refine j_iconst d_SG_packedUnits_125 ?_
                  refine x_goto 130 d_SG_packedUnits_126 (by decide) ?_
                  refine x_callS1 (M' := M_SG_withSign) d_SG_packedUnits_130 lk_SG_85 (c_withSign E h m 1 (Or.inr rfl)) mt_SG_withSign st_SG_withSign (by decide) rfl (Nat.le_of_ble_eq_true rfl) (by decide) (by decide) ?_
                  refine x_lreturn d_SG_packedUnits_133 rfl ?_
                  exact rV_l (by rw [hu, if_neg hnn]; show (if (1 : Int) = 1 then -m else m) = if hfB B o c = 13 ∨ hfB B o c = 11 then -m else m; rw [if_pos rfl, if_pos (by omega)]) rfl
            · refine x_ldc2 d_SG_packedUnits_106 kl_SG_81 ?_
              refine x_lreturn d_SG_packedUnits_109 rfl ?_
              exact rV_l (by rw [hu, if_pos (Or.inr (by omega))]; rfl) rfl
        refine x_callV1 (M' := M_SG_halfAt) d_SG_packedUnits_66 lk_SG_92 (c_halfAt E h s b e o c B hs hb hB (by omega) (by omega)) mt_SG_halfAt im_SG_halfAt se_SG_halfAt (by first | assumption | exact hs_self (by assumption) | exact hs_ne (by first | assumption | omega) (by assumption) | exact hs_ne (by first | assumption | omega) (hs_self (by assumption)) | exact hs_ne (by first | assumption | omega) (hs_ne (by first | assumption | omega) (by assumption))) rfl (by decide) rfl (Nat.le_of_ble_eq_true rfl) (by decide) (by decide) ?_
        refine x_istore d_SG_packedUnits_69 (Nat.le_of_ble_eq_true rfl) ?_
        refine x_aload_n d_SG_packedUnits_71 rfl rfl rfl ?_
        refine x_get 1 6 d_SG_packedUnits_72 gf_SG_44 (by first | assumption | exact hs_self (by assumption) | exact hs_ne (by first | assumption | omega) (by assumption) | exact hs_ne (by first | assumption | omega) (hs_self (by assumption)) | exact hs_ne (by first | assumption | omega) (hs_ne (by first | assumption | omega) (by assumption))) (by rfl) ?_
        refine j_if_eq 83 d_SG_packedUnits_75 (by decide) (by unfold iR; omega) (fun c75 => ?_) (fun c75 => ?_)
        · refine j_bipush d_SG_packedUnits_83 (by decide) ?_
          refine x_istore d_SG_packedUnits_85 (Nat.le_of_ble_eq_true rfl) ?_
          exact fin 15 (by rw [if_neg (by omega)])
        · refine j_bipush d_SG_packedUnits_78 (by decide) ?_
          refine x_goto 85 d_SG_packedUnits_80 (by decide) ?_
          refine x_istore d_SG_packedUnits_85 (Nat.le_of_ble_eq_true rfl) ?_
          exact fin 10 (by rw [if_pos (by omega)])
      · exfalso; omega
    | succ r ih =>
      intro k m i x hk hi hm
      subst hi
      have hml := rdP_lt hm
      have hp := pow10_le (n := k) (m := 9) (by omega)
      have hh := hfB_le hB (o := o) (k := k) (by omega)
      refine x_iload d_SG_packedUnits_14 rfl ?_
      refine x_iload_n d_SG_packedUnits_16 rfl rfl ?_
      refine j_icmp_ge 60 d_SG_packedUnits_17 (by decide) (by unfold iR; omega) (by unfold iR; omega) (fun c17 => ?_) (fun c17 => ?_)
      · exfalso; omega
      refine x_aload_n d_SG_packedUnits_20 rfl rfl rfl ?_
      refine x_aload_n d_SG_packedUnits_21 rfl rfl rfl ?_
      refine x_get 1 2 d_SG_packedUnits_22 gf_SG_61 (by first | assumption | exact hs_self (by assumption) | exact hs_ne (by first | assumption | omega) (by assumption) | exact hs_ne (by first | assumption | omega) (hs_self (by assumption)) | exact hs_ne (by first | assumption | omega) (hs_ne (by first | assumption | omega) (by assumption))) (by rfl) ?_
      refine x_iload d_SG_packedUnits_25 rfl ?_
      refine x_callV1 (M' := M_SG_halfAt) d_SG_packedUnits_27 lk_SG_92 (c_halfAt E h s b e o k B hs hb hB (by omega) (by omega)) mt_SG_halfAt im_SG_halfAt se_SG_halfAt (by first | assumption | exact hs_self (by assumption) | exact hs_ne (by first | assumption | omega) (by assumption) | exact hs_ne (by first | assumption | omega) (hs_self (by assumption)) | exact hs_ne (by first | assumption | omega) (hs_ne (by first | assumption | omega) (by assumption))) rfl (by decide) rfl (Nat.le_of_ble_eq_true rfl) (by decide) (by decide) ?_
      refine x_istore d_SG_packedUnits_30 (Nat.le_of_ble_eq_true rfl) ?_
      refine x_iload d_SG_packedUnits_32 rfl ?_
      refine x_callS1 (M' := M_SG_isDigit) d_SG_packedUnits_34 lk_SG_73 (c_isDigit E h (hfB B o k) (by unfold iR; omega)) mt_SG_isDigit st_SG_isDigit (by decide) rfl (Nat.le_of_ble_eq_true rfl) (by decide) (by decide) ?_
      refine j_if_ne 44 d_SG_packedUnits_37 (by decide) (by unfold iR; split <;> omega) (fun c37 => ?_) (fun c37 => ?_)
      · have hd : 0 ≤ hfB B o k ∧ hfB B o k ≤ 9 := by
          by_cases hd : 0 ≤ hfB B o k ∧ hfB B o k ≤ 9
          · exact hd
          · rw [if_neg hd] at c37; exact absurd rfl c37
        refine x_ldc2 d_SG_packedUnits_44 kl_SG_83 ?_
        refine x_lload_n d_SG_packedUnits_47 rfl rfl ?_
        refine j_lmul d_SG_packedUnits_48 ?_
        refine x_iload d_SG_packedUnits_49 rfl ?_
        refine j_i2l d_SG_packedUnits_51 (by unfold iR; omega) ?_
        refine j_ladd d_SG_packedUnits_52 ?_
        refine x_lstore_n d_SG_packedUnits_53 rfl (Nat.le_of_ble_eq_true rfl) ?_
        refine j_iinc d_SG_packedUnits_54 rfl ?_
        refine x_goto 14 d_SG_packedUnits_57 (by decide) ?_
        refine ih (k + 1) _ _ _ (by omega) (by omega) ?_
        show (match rdP B o k with | some m => _ | none => none) = _
        rw [hm]
        exact if_pos hd
      · have hd : ¬ (0 ≤ hfB B o k ∧ hfB B o k ≤ 9) := by
          intro hd
          rw [if_pos hd] at c37
          omega
        have hnn : rdP B o (k + 1) = none := by
          show (match rdP B o k with | some m => _ | none => none) = _
          rw [hm]
          exact if_neg hd
        refine x_ldc2 d_SG_packedUnits_40 kl_SG_81 ?_
        refine x_lreturn d_SG_packedUnits_43 rfl ?_
        exact rV_l (by unfold uP; rw [← hc, rdP_none hnn (by omega)]; rfl) rfl
  refine j_iconst d_SG_packedUnits_0 ?_
  refine x_aload_n d_SG_packedUnits_1 rfl rfl rfl ?_
  refine x_get 1 3 d_SG_packedUnits_2 gf_SG_89 (by first | assumption | exact hs_self (by assumption) | exact hs_ne (by first | assumption | omega) (by assumption) | exact hs_ne (by first | assumption | omega) (hs_self (by assumption)) | exact hs_ne (by first | assumption | omega) (hs_ne (by first | assumption | omega) (by assumption))) (by rfl) ?_
  refine j_imul d_SG_packedUnits_5 ?_
  refine j_iconst d_SG_packedUnits_6 ?_
  refine j_isub d_SG_packedUnits_7 ?_
  refine x_istore_n d_SG_packedUnits_8 rfl (Nat.le_of_ble_eq_true rfl) ?_
  refine j_lconst 0 d_SG_packedUnits_9 (by decide) ?_
  refine x_lstore_n d_SG_packedUnits_10 rfl (Nat.le_of_ble_eq_true rfl) ?_
  refine j_iconst d_SG_packedUnits_11 ?_
  refine x_istore d_SG_packedUnits_12 (Nat.le_of_ble_eq_true rfl) ?_
  exact loop c 0 0 _ _ (by omega) (by omega) rfl
theorem rdB_lt {B : Nat → Int} (hB : bOk B) {o : Nat} : ∀ {k : Nat}, o + k ≤ 64 → 0 ≤ rdB B o k ∧ rdB B o k < 256 ^ k
  | 0, _ => ⟨Int.le_refl _, by show (0 : Int) < 1; decide⟩
  | k + 1, hk => by
    have := rdB_lt hB (o := o) (k := k) (by omega)
    have h2 := hB (o + k) (by omega)
    unfold rdB
    rw [Int.pow_succ]
    omega
theorem pow256_le {n m : Nat} (h : n ≤ m) : (256 : Int) ^ n ≤ 256 ^ m := by
  have h1 : ((256 ^ n : Nat) : Int) ≤ ((256 ^ m : Nat) : Int) := Int.ofNat_le.mpr (Nat.pow_le_pow_right (n := 256) (by decide) h)
  rwa [Int.natCast_pow, Int.natCast_pow] at h1
theorem p10c (n : Nat) : ((10 ^ n : Nat) : Int) = 10 ^ n := by rw [Int.natCast_pow]; rfl
set_option maxHeartbeats 2000000 in
theorem c_binaryUnits (E : xEnv) (h : xH) (s b e f p o n : Nat) (fm sc sg : Int) (B : Nat → Int) (hs : h[s]? = some (oS b e)) (hb : h[b]? = some (aI 64 B)) (hf : h[f]? = some (oF p fm o (wB n) n sc sg)) (hB : bOk B) (ho : o + wB n ≤ 64) (hn : 1 ≤ n ∧ n ≤ 9) (hsg : sg = 0 ∨ sg = 1) : xCt E 1 0 0 M_SG_binaryUnits [.ref s, .ref f] h (rV (vL ((uB B o n sg).getD nonI)) h) := by
  refine x_met rfl rfl (Nat.le_of_ble_eq_true rfl) ?_
  have hw : wB n = 2 ∨ wB n = 4 := by unfold wB; split <;> omega
  have hv := rdB_lt hB (o := o) (k := wB n) ho
  have hp4 := pow256_le (n := wB n) (m := 4) (by omega)
  have hb0 := hB o (by omega)
  have hp2 := pow10_le (n := n) (m := 9) (by omega)
  have hp3 := pow10_pos n
  have fin : ∀ (v : Int) (x : Option Value), v = vB B o n sg → v.natAbs < 4294967297 → X E M_SG_binaryUnits 1 0 0 (xZ E 0 0 (rV (vL ((uB B o n sg).getD nonI)) h)) 77 [some (.ref s), some (.ref f), some (vL v), none, x] [] h 0 0 := by
    intro v x hve hvb
    have hpc := p10c n
    refine x_lload_n d_SG_binaryUnits_77 rfl rfl ?_
    refine j_labs d_SG_binaryUnits_78 lk_SG_48w (by unfold lR; omega) (by decide) (Nat.le_of_ble_eq_true rfl) ?_
    refine x_aload_n d_SG_binaryUnits_81 rfl rfl rfl ?_
    refine x_get 1 4 d_SG_binaryUnits_82 gf_SG_64 (by first | assumption | exact hs_self (by assumption) | exact hs_ne (by first | assumption | omega) (by assumption) | exact hs_ne (by first | assumption | omega) (hs_self (by assumption)) | exact hs_ne (by first | assumption | omega) (hs_ne (by first | assumption | omega) (by assumption))) (by rfl) ?_
    refine x_callS1 (M' := M_DC_tenTo) d_SG_binaryUnits_85 lk_SG_96 (c_tenTo E h n (by omega)) mt_DC_tenTo st_DC_tenTo (by decide) rfl (Nat.le_of_ble_eq_true rfl) (by decide) (by decide) ?_
    refine j_lcmp_ge 96 d_SG_binaryUnits_88 d_SG_binaryUnits_89 (by decide) (by unfold lR; omega) (by unfold lR; omega) (fun c88 => ?_) (fun c88 => ?_)
    · refine x_ldc2 d_SG_binaryUnits_96 kl_SG_81 ?_
      refine x_lreturn d_SG_binaryUnits_99 rfl ?_
      exact rV_l (by unfold uB; rw [← hve, if_neg (by omega)]; rfl) rfl
    · refine x_lload_n d_SG_binaryUnits_92 rfl rfl ?_
      refine x_goto 99 d_SG_binaryUnits_93 (by decide) ?_
      refine x_lreturn d_SG_binaryUnits_99 rfl ?_
      exact rV_l (by unfold uB; rw [← hve, if_pos (by omega)]; rfl) rfl
  have loop : ∀ (r k : Nat) (m i : Int), k + r = wB n → i = (o : Int) + (k : Int) → m = rdB B o k → X E M_SG_binaryUnits 1 0 0 (xZ E 0 0 (rV (vL ((uB B o n sg).getD nonI)) h)) 8 [some (.ref s), some (.ref f), some (vL m), none, some (vI i)] [] h 0 0 := by
    intro r
    induction r with
    | zero =>
      intro k m i hk hi hm
      have hkw : k = wB n := by omega
      subst hkw; subst hm
      refine x_iload d_SG_binaryUnits_8 rfl ?_
      refine x_aload_n d_SG_binaryUnits_10 rfl rfl rfl ?_
      refine x_get 1 2 d_SG_binaryUnits_11 gf_SG_61 (by first | assumption | exact hs_self (by assumption) | exact hs_ne (by first | assumption | omega) (by assumption) | exact hs_ne (by first | assumption | omega) (hs_self (by assumption)) | exact hs_ne (by first | assumption | omega) (hs_ne (by first | assumption | omega) (by assumption))) (by rfl) ?_
      refine x_aload_n d_SG_binaryUnits_14 rfl rfl rfl ?_
      refine x_get 1 3 d_SG_binaryUnits_15 gf_SG_89 (by first | assumption | exact hs_self (by assumption) | exact hs_ne (by first | assumption | omega) (by assumption) | exact hs_ne (by first | assumption | omega) (hs_self (by assumption)) | exact hs_ne (by first | assumption | omega) (hs_ne (by first | assumption | omega) (by assumption))) (by rfl) ?_
      refine j_iadd d_SG_binaryUnits_18 ?_
      refine j_icmp_ge 43 d_SG_binaryUnits_19 (by decide) (by unfold iR; omega) (by unfold iR; omega) (fun c19 => ?_) (fun c19 => ?_)
      · refine x_aload_n d_SG_binaryUnits_43 rfl rfl rfl ?_
        refine x_get 1 6 d_SG_binaryUnits_44 gf_SG_44 (by first | assumption | exact hs_self (by assumption) | exact hs_ne (by first | assumption | omega) (by assumption) | exact hs_ne (by first | assumption | omega) (hs_self (by assumption)) | exact hs_ne (by first | assumption | omega) (hs_ne (by first | assumption | omega) (by assumption))) (by rfl) ?_
        refine j_if_eq 77 d_SG_binaryUnits_47 (by decide) (by unfold iR; omega) (fun c47 => ?_) (fun c47 => ?_)
        · exact fin _ _ (by unfold vB; rw [if_neg (by omega)]) (by omega)
        · refine x_aload_n d_SG_binaryUnits_50 rfl rfl rfl ?_
          refine x_get 3 0 d_SG_binaryUnits_51 gf_SG_9 (by first | assumption | exact hs_self (by assumption) | exact hs_ne (by first | assumption | omega) (by assumption) | exact hs_ne (by first | assumption | omega) (hs_self (by assumption)) | exact hs_ne (by first | assumption | omega) (hs_ne (by first | assumption | omega) (by assumption))) (by rfl) ?_
          refine x_aload_n d_SG_binaryUnits_54 rfl rfl rfl ?_
          refine x_get 1 2 d_SG_binaryUnits_55 gf_SG_61 (by first | assumption | exact hs_self (by assumption) | exact hs_ne (by first | assumption | omega) (by assumption) | exact hs_ne (by first | assumption | omega) (hs_self (by assumption)) | exact hs_ne (by first | assumption | omega) (hs_ne (by first | assumption | omega) (by assumption))) (by rfl) ?_
          refine j_iald d_SG_binaryUnits_58 (by first | assumption | exact hs_self (by assumption) | exact hs_ne (by first | assumption | omega) (by assumption) | exact hs_ne (by first | assumption | omega) (hs_self (by assumption)) | exact hs_ne (by first | assumption | omega) (hs_ne (by first | assumption | omega) (by assumption))) (by omega) (by omega) (by decide) ?_
          refine x_top (w := vI (B o)) (by rw [Int.toNat_natCast]) ?_
          refine j_sipush d_SG_binaryUnits_59 (by decide) ?_
          refine j_icmp_lt 77 d_SG_binaryUnits_62 (by decide) (by unfold iR; omega) (by unfold iR; omega) (fun c62 => ?_) (fun c62 => ?_)
          · exact fin _ _ (by unfold vB; rw [if_neg (by omega)]) (by omega)
          · refine x_lload_n d_SG_binaryUnits_65 rfl rfl ?_
            refine j_lconst 1 d_SG_binaryUnits_66 (by decide) ?_
            refine j_bipush d_SG_binaryUnits_67 (by decide) ?_
            refine x_aload_n d_SG_binaryUnits_69 rfl rfl rfl ?_
            refine x_get 1 3 d_SG_binaryUnits_70 gf_SG_89 (by first | assumption | exact hs_self (by assumption) | exact hs_ne (by first | assumption | omega) (by assumption) | exact hs_ne (by first | assumption | omega) (hs_self (by assumption)) | exact hs_ne (by first | assumption | omega) (hs_ne (by first | assumption | omega) (by assumption))) (by rfl) ?_
            refine j_imul d_SG_binaryUnits_73 ?_
            refine x_lshl d_SG_binaryUnits_74 ?_
            refine x_top (w := vL (256 ^ wB n)) (by rcases hw with q | q <;> rw [q] <;> decide) ?_
            refine j_lsub d_SG_binaryUnits_75 ?_
            refine x_lstore_n d_SG_binaryUnits_76 rfl (Nat.le_of_ble_eq_true rfl) ?_
            exact fin _ _ (by unfold vB; rw [if_pos (by omega)]) (by omega)
      · exfalso; omega
    | succ r ih =>
      intro k m i hk hi hm
      have hb1 := hB (o + k) (by omega)
      refine x_iload d_SG_binaryUnits_8 rfl ?_
      refine x_aload_n d_SG_binaryUnits_10 rfl rfl rfl ?_
      refine x_get 1 2 d_SG_binaryUnits_11 gf_SG_61 (by first | assumption | exact hs_self (by assumption) | exact hs_ne (by first | assumption | omega) (by assumption) | exact hs_ne (by first | assumption | omega) (hs_self (by assumption)) | exact hs_ne (by first | assumption | omega) (hs_ne (by first | assumption | omega) (by assumption))) (by rfl) ?_
      refine x_aload_n d_SG_binaryUnits_14 rfl rfl rfl ?_
      refine x_get 1 3 d_SG_binaryUnits_15 gf_SG_89 (by first | assumption | exact hs_self (by assumption) | exact hs_ne (by first | assumption | omega) (by assumption) | exact hs_ne (by first | assumption | omega) (hs_self (by assumption)) | exact hs_ne (by first | assumption | omega) (hs_ne (by first | assumption | omega) (by assumption))) (by rfl) ?_
      refine j_iadd d_SG_binaryUnits_18 ?_
      refine j_icmp_ge 43 d_SG_binaryUnits_19 (by decide) (by unfold iR; omega) (by unfold iR; omega) (fun c19 => ?_) (fun c19 => ?_)
      · exfalso; omega
      refine x_ldc2 d_SG_binaryUnits_22 kl_SG_104 ?_
      refine x_lload_n d_SG_binaryUnits_25 rfl rfl ?_
      refine j_lmul d_SG_binaryUnits_26 ?_
      refine x_aload_n d_SG_binaryUnits_27 rfl rfl rfl ?_
      refine x_get 3 0 d_SG_binaryUnits_28 gf_SG_9 (by first | assumption | exact hs_self (by assumption) | exact hs_ne (by first | assumption | omega) (by assumption) | exact hs_ne (by first | assumption | omega) (hs_self (by assumption)) | exact hs_ne (by first | assumption | omega) (hs_ne (by first | assumption | omega) (by assumption))) (by rfl) ?_
      refine x_iload d_SG_binaryUnits_31 rfl ?_
      refine j_iald d_SG_binaryUnits_33 (by first | assumption | exact hs_self (by assumption) | exact hs_ne (by first | assumption | omega) (by assumption) | exact hs_ne (by first | assumption | omega) (hs_self (by assumption)) | exact hs_ne (by first | assumption | omega) (hs_ne (by first | assumption | omega) (by assumption))) (by omega) (by omega) (by decide) ?_
      refine x_top (w := vI (B (o + k))) (by rw [show i.toNat = o + k by omega]) ?_
      refine j_i2l d_SG_binaryUnits_34 (by unfold iR; omega) ?_
      refine j_ladd d_SG_binaryUnits_35 ?_
      refine x_lstore_n d_SG_binaryUnits_36 rfl (Nat.le_of_ble_eq_true rfl) ?_
      refine j_iinc d_SG_binaryUnits_37 rfl ?_
      refine x_goto 8 d_SG_binaryUnits_40 (by decide) ?_
      exact ih (k + 1) _ _ (by omega) (by omega) (by subst hm; rfl)
  refine j_lconst 0 d_SG_binaryUnits_0 (by decide) ?_
  refine x_lstore_n d_SG_binaryUnits_1 rfl (Nat.le_of_ble_eq_true rfl) ?_
  refine x_aload_n d_SG_binaryUnits_2 rfl rfl rfl ?_
  refine x_get 1 2 d_SG_binaryUnits_3 gf_SG_61 (by first | assumption | exact hs_self (by assumption) | exact hs_ne (by first | assumption | omega) (by assumption) | exact hs_ne (by first | assumption | omega) (hs_self (by assumption)) | exact hs_ne (by first | assumption | omega) (hs_ne (by first | assumption | omega) (by assumption))) (by rfl) ?_
  refine x_istore d_SG_binaryUnits_6 (Nat.le_of_ble_eq_true rfl) ?_
  exact loop (wB n) 0 0 _ (by omega) (by omega) rfl
