def tLp (S : ST) : Nat → Nat → Int → Int
  | 0, _, s => s
  | r + 1, k, s => tLp S r (k + 1) (if fM (zD S k) = 4 then s else s + hU S k * 10 ^ (4 - fS (zD S k)))
theorem tLp_1 {S : ST} {r k : Nat} {s : Int} (h : fM (zD S k) = 4) : tLp S (r + 1) k s = tLp S r (k + 1) s := by
  conv => lhs; unfold tLp
  rw [if_pos h]
theorem tLp_2 {S : ST} {r k : Nat} {s : Int} (h : ¬ fM (zD S k) = 4) : tLp S (r + 1) k s = tLp S r (k + 1) (s + hU S k * 10 ^ (4 - fS (zD S k))) := by
  conv => lhs; unfold tLp
  rw [if_neg h]
abbrev okT (S : ST) (f l t md : Int) : Prop := (0 ≤ md ∧ md ≤ 7) ∧ th S t ∧ rng S f l
abbrev tO (S : ST) (f l t md : Int) : Option Int := sRes (tLp S (l.toNat + 1 - f.toNat) f.toNat 0) 10000 (gS S t) (gN S t) md
def fTotal (S : ST) (f l t md : Int) : Int × ST := if okT S f l t md then (if hB S (l.toNat + 1 - f.toNat) f.toNat = true then (e01 (tO S f l t md), sRs S t.toNat (tO S f l t md)) else (-2, sUn S)) else (-1, S)
theorem fTotal_d {S : ST} {f l t md : Int} (h : okT S f l t md) (hn : hB S (l.toNat + 1 - f.toNat) f.toNat = false) : fTotal S f l t md = (-2, sUn S) := by
  unfold fTotal
  rw [if_pos h, hn]; rfl
theorem fTotal_s {S : ST} {f l t md : Int} (h : okT S f l t md) (hb : hB S (l.toNat + 1 - f.toNat) f.toNat = true) : fTotal S f l t md = (e01 (tO S f l t md), sRs S t.toNat (tO S f l t md)) := by
  unfold fTotal
  rw [if_pos h, if_pos hb]
set_option maxHeartbeats 4000000 in
theorem w_total {E : xEnv} {h : xH} {po : Nat} {Y : LY} {S : ST} (f l t md : Int) (hO : SO S) (hW : CW h po Y S) (hf : iR f) (hl : iR l) (ht : iR t) (hmd : iR md) : xCt E 6 0 0 M_PR_total [.ref po, vI f, vI l, vI t, vI md] h (rQ (pC po Y h (fTotal S f l t md))) := by
  refine x_met rfl rfl (Nat.le_of_ble_eq_true rfl) ?_
  have w0 := hW.1
  have h12 := hO.1
  obtain ⟨T, s1, s2, s3, s4, s5, s6⟩ := hW.2.2.2.1
  have rt := gF_rf S Y t
  obtain ⟨Z, hZ⟩ : ∃ Z, Z = (xZ E 0 0 (rQ (pC po Y h (fTotal S f l t md)))) := ⟨_, rfl⟩
  rw [← hZ]
  have bad : ¬ okT S f l t md → ∀ L : List (Option Value), X E M_PR_total 6 0 0 Z 29 L [] h 0 0 := by
    intro hb L
    rw [hZ]
    refine j_iconst d_PR_total_29 ?_
    refine x_ireturn d_PR_total_30 rfl ?_
    unfold fTotal
    rw [if_neg hb]
    exact ⟨_, rfl, rfl, hW, frC_refl _ _⟩
  have main : okT S f l t md → X E M_PR_total 6 0 0 Z 31 [some (.ref po), some (vI f), some (vI l), some (vI t), some (vI md), some (.ref (lF' Y t.toNat)), none, none, none, none] [] h 0 0 := by
    intro hk
    have hk0 := hk
    obtain ⟨hmd2, ht1, hr1, hr2, hr3⟩ := hk
    have hit : t.toNat < zN S := by omega
    obtain ⟨i, rfl⟩ : ∃ i : Nat, f = (i : Int) := ⟨f.toNat, by omega⟩
    obtain ⟨j, rfl⟩ : ∃ j : Nat, l = (j : Int) := ⟨l.toNat, by omega⟩
    have hDt := (hO.2.2.2.2 _ hit).1
    have hst := hDt.2.2.1
    have hnt := hDt.2.1
    refine x_aload_n d_PR_total_31 rfl rfl (by first | rfl | assumption) ?_
    refine x_iload_n d_PR_total_32 rfl rfl ?_
    refine x_iload_n d_PR_total_33 rfl rfl ?_
    refine x_callVq (M' := M_PR_readRange) d_PR_total_34 lk_PR_135 (w_readRange i j hO hW (by omega) (by omega)) mt_PR_readRange im_PR_readRange se_PR_readRange (by repeat (first | assumption | exact hs_self (by assumption) | exact hs_self (hs_ne (by omega) (by assumption)) | exact hs_self (hs_ne (by omega) (hs_ne (by omega) (by assumption))) | refine hs_ne (by omega) ?_)) rfl (by decide) rfl (Nat.le_of_ble_eq_true rfl) (by decide) (by decide) ?_
    rintro v h2 ⟨hW2, hf2, U, hU2, rfl, hUU⟩
    have w02 := hW2.1
    refine j_if_ne 45 d_PR_total_37 (by decide) (by unfold iR; split <;> omega) (fun c37 => ?_) (fun c37 => ?_)
    · rw [ite10] at c37
      have hb := Classical.not_not.mp c37
      have hUk := hUU hb
      rw [fTotal_s hk0 (by rw [Int.toNat_natCast, Int.toNat_natCast]; exact hb)] at hZ
      obtain ⟨o, ho⟩ : ∃ o, o = tO S i j t md := ⟨_, rfl⟩
      rw [← ho] at hZ
      have loop : ∀ (r c : Nat) (x9 : Option Value) (z s : Int), c + r = j + 1 → i ≤ c → z = (c : Int) → s.natAbs ≤ c * 10000000000000 → tLp S (j + 1 - i) i 0 = tLp S r c s → X E M_PR_total 6 0 0 Z 51 [some (.ref po), some (vI i), some (vI j), some (vI t), some (vI md), some (.ref (lF' Y t.toNat)), some (vL s), none, some (vI z), x9] [] h2 0 0 := by
        intro r
        induction r with
        | zero =>
          intro c x9 z s hc hic hz hsb hal
          subst hz
          refine x_iload d_PR_total_51 rfl ?_
          refine x_iload_n d_PR_total_53 rfl rfl ?_
          refine j_icmp_gt 99 d_PR_total_54 (by decide) (by unfold iR; omega) (by unfold iR; omega) (fun c54 => ?_) (fun c54 => ?_)
          · have hce : cRes s ((4 : Nat) : Int) 1 (fS (zD S t.toNat)) (fN (zD S t.toNat)) md = o := by
              rw [ho, cRes1 hnt.2]
              unfold tO
              rw [Int.toNat_natCast, Int.toNat_natCast, hal]
              rfl
            refine x_aload_n d_PR_total_99 rfl rfl (by first | rfl | assumption) ?_
            refine x_aload d_PR_total_100 rfl (by first | rfl | assumption) ?_
            refine x_lload d_PR_total_102 rfl ?_
            refine j_iconst d_PR_total_104 ?_
            refine j_lconst 1 d_PR_total_105 (by decide) ?_
            refine x_iload d_PR_total_106 rfl ?_
            refine x_callVq (M' := M_PR_storeResult) d_PR_total_108 lk_PR_111 (w_storeResult t.toNat s 4 1 md o hO hW2 hit (by omega) (by omega) (by decide) hmd2 hce) mt_PR_storeResult im_PR_storeResult se_PR_storeResult (by repeat (first | assumption | exact hs_self (by assumption) | exact hs_self (hs_ne (by omega) (by assumption)) | exact hs_self (hs_ne (by omega) (hs_ne (by omega) (by assumption))) | refine hs_ne (by omega) ?_)) rfl (by decide) rfl (Nat.le_of_ble_eq_true rfl) (by decide) (by decide) ?_
            rintro v h4 ⟨rfl, hW4, hf4, -⟩
            have he := e01_r o
            rw [hZ]
            refine j_if_eq 118 d_PR_total_111 (by decide) (by unfold iR; omega) (fun c111 => ?_) (fun c111 => ?_)
            · refine j_iconst d_PR_total_118 ?_
              refine x_ireturn d_PR_total_119 rfl ?_
              exact ⟨_, rfl, by rw [show e01 o = 1 by omega], hW4, frC_trans hf2 hf4⟩
            · refine j_iconst d_PR_total_114 ?_
              refine x_goto 119 d_PR_total_115 (by decide) ?_
              refine x_ireturn d_PR_total_119 rfl ?_
              exact ⟨_, rfl, by rw [show e01 o = 0 by omega], hW4, frC_trans hf2 hf4⟩
          · exfalso; omega
        | succ r ih =>
          intro c x9 z s hc hic hz hsb hal
          subst hz
          have hcn : c < zN S := by omega
          refine x_iload d_PR_total_51 rfl ?_
          refine x_iload_n d_PR_total_53 rfl rfl ?_
          refine j_icmp_gt 99 d_PR_total_54 (by decide) (by unfold iR; omega) (by unfold iR; omega) (fun c54 => ?_) (fun c54 => ?_)
          · exfalso; omega
          · refine x_aload_n d_PR_total_57 rfl rfl (by first | rfl | assumption) ?_
            refine x_iload d_PR_total_58 rfl ?_
            refine x_callV1 (M' := M_PR_fieldAt) d_PR_total_60 lk_PR_59 (w_fieldAt' c hO hW2 hcn) mt_PR_fieldAt im_PR_fieldAt se_PR_fieldAt (by repeat (first | assumption | exact hs_self (by assumption) | exact hs_self (hs_ne (by omega) (by assumption)) | exact hs_self (hs_ne (by omega) (hs_ne (by omega) (by assumption))) | refine hs_ne (by omega) ?_)) rfl (by decide) rfl (Nat.le_of_ble_eq_true rfl) (by decide) (by decide) ?_
            refine x_astore d_PR_total_63 (Nat.le_of_ble_eq_true rfl) (by first | rfl | assumption) ?_
            refine x_aload d_PR_total_65 rfl (by first | rfl | assumption) ?_
            refine x_callS1 (M' := M_PR_isOperand) d_PR_total_67 lk_PR_107 (w_isOperand' c hO hW2 hcn) mt_PR_isOperand st_PR_isOperand (by decide) rfl (Nat.le_of_ble_eq_true rfl) (by decide) (by decide) ?_
            refine j_if_eq 93 d_PR_total_70 (by decide) (by unfold iR; split <;> omega) (fun c70 => ?_) (fun c70 => ?_)
            · rw [ite01] at c70
              refine j_iinc d_PR_total_93 rfl ?_
              refine x_goto 51 d_PR_total_96 (by decide) ?_
              exact ih (c + 1) _ _ s (by omega) (by omega) (by omega) (Nat.le_trans hsb (Nat.mul_le_mul_right _ (Nat.le_succ c))) (by rw [hal, tLp_1 c70])
            · rw [ite01] at c70
              rw [tLp_2 c70] at hal
              have hcu := hUk c hic (by omega) c70
              have hhu : hU S c = U c := by unfold hU; rw [hcu]; rfl
              have hDc := (hO.2.2.2.2 c (by omega)).1
              have hub := uA_9 hDc s6 _ hcu
              have hsc := hDc.2.2.1
              have f3 := (hW2.2.2.2.2.2.2 c hcn).1.1
              have hpc := pow10_le (n := 4 - fS (zD S c)) (m := 4) (by omega)
              have hpc0 := pow10_pos (4 - fS (zD S c))
              have hm2 := mul_abs_lt (a := U c) (b := 10 ^ (4 - fS (zD S c))) (x := 1000000000) (y := 10000) hub (by omega) (by decide)
              refine x_lload d_PR_total_73 rfl ?_
              refine x_aload_n d_PR_total_75 rfl rfl (by first | rfl | assumption) ?_
              refine x_get 4 6 d_PR_total_76 gf_PR_33 (by repeat (first | assumption | exact hs_self (by assumption) | exact hs_self (hs_ne (by omega) (by assumption)) | exact hs_self (hs_ne (by omega) (hs_ne (by omega) (by assumption))) | refine hs_ne (by omega) ?_)) (by rfl) ?_
              refine x_iload d_PR_total_79 rfl ?_
              refine j_lald d_PR_total_81 (by repeat (first | assumption | exact hs_self (by assumption) | exact hs_self (hs_ne (by omega) (by assumption)) | exact hs_self (hs_ne (by omega) (hs_ne (by omega) (by assumption))) | refine hs_ne (by omega) ?_)) (by omega) (by omega) (by decide) ?_
              rw [Int.toNat_natCast]
              refine x_aload d_PR_total_82 rfl (by first | rfl | assumption) ?_
              refine x_get 1 5 d_PR_total_84 gf_PR_69 (by repeat (first | assumption | exact hs_self (by assumption) | exact hs_self (hs_ne (by omega) (by assumption)) | exact hs_self (hs_ne (by omega) (hs_ne (by omega) (by assumption))) | refine hs_ne (by omega) ?_)) (by rfl) ?_
              refine x_callS1 (M' := M_DC_atFullScale) d_PR_total_87 lk_PR_115 (c_atFull E h2 (U c) _ hsc) mt_DC_atFullScale st_DC_atFullScale (by decide) rfl (Nat.le_of_ble_eq_true rfl) (by decide) (by decide) ?_
              refine j_ladd d_PR_total_90 ?_
              refine x_lstore d_PR_total_91 (Nat.le_of_ble_eq_true rfl) ?_
              refine j_iinc d_PR_total_93 rfl ?_
              refine x_goto 51 d_PR_total_96 (by decide) ?_
              exact ih (c + 1) _ _ _ (by omega) (by omega) (by omega) (by omega) (by rw [hal, hhu])
      refine j_lconst 0 d_PR_total_45 (by decide) ?_
      refine x_lstore d_PR_total_46 (Nat.le_of_ble_eq_true rfl) ?_
      refine x_iload_n d_PR_total_48 rfl rfl ?_
      refine x_istore d_PR_total_49 (Nat.le_of_ble_eq_true rfl) ?_
      exact loop (j + 1 - i) i _ _ _ (by omega) (by omega) rfl (by omega) rfl
    · rw [ite10] at c37
      refine x_aload_n d_PR_total_40 rfl rfl (by first | rfl | assumption) ?_
      refine x_callVq (M' := M_PR_dataError) d_PR_total_41 lk_PR_97 (w_dataError hW2) mt_PR_dataError im_PR_dataError se_PR_dataError (by repeat (first | assumption | exact hs_self (by assumption) | exact hs_self (hs_ne (by omega) (by assumption)) | exact hs_self (hs_ne (by omega) (hs_ne (by omega) (by assumption))) | refine hs_ne (by omega) ?_)) rfl (by decide) rfl (Nat.le_of_ble_eq_true rfl) (by decide) (by decide) ?_
      rintro v h3 ⟨rfl, hW3, hf3⟩
      rw [hZ]
      refine x_ireturn d_PR_total_44 rfl ?_
      rw [fTotal_d hk0 (by rw [Int.toNat_natCast, Int.toNat_natCast]; exact Bool.eq_false_iff.mpr c37)]
      exact ⟨_, rfl, rfl, hW3, frC_trans hf2 hf3⟩
  refine x_aload_n d_PR_total_0 rfl rfl (by first | rfl | assumption) ?_
  refine x_iload_n d_PR_total_1 rfl rfl ?_
  refine x_callV1 (M' := M_PR_fieldAt) d_PR_total_2 lk_PR_59 (w_fieldAt t hO hW ht) mt_PR_fieldAt im_PR_fieldAt se_PR_fieldAt (by repeat (first | assumption | exact hs_self (by assumption) | exact hs_self (hs_ne (by omega) (by assumption)) | exact hs_self (hs_ne (by omega) (hs_ne (by omega) (by assumption))) | refine hs_ne (by omega) ?_)) rfl (by decide) rfl (Nat.le_of_ble_eq_true rfl) (by decide) (by decide) ?_
  refine x_astore d_PR_total_5 (Nat.le_of_ble_eq_true rfl) (by first | rfl | assumption) ?_
  refine x_loc (L' := [some (.ref po), some (vI f), some (vI l), some (vI t), some (vI md), some (gF S Y t), none, none, none, none]) (by unfold gF; split <;> rfl) ?_
  refine x_iload d_PR_total_7 rfl ?_
  refine x_callS1 (M' := M_PR_isMode) d_PR_total_9 lk_PR_104 (c_isMode E h md hmd) mt_PR_isMode st_PR_isMode (by decide) rfl (Nat.le_of_ble_eq_true rfl) (by decide) (by decide) ?_
  refine j_if_eq 29 d_PR_total_12 (by decide) (by unfold iR; split <;> omega) (fun c12 => ?_) (fun c12 => ?_)
  · rw [ite10] at c12
    exact bad (fun x => c12 x.1) _
  · rw [ite10] at c12
    refine x_aload d_PR_total_15 rfl (by first | rfl | assumption) ?_
    refine x_ifnull 29 d_PR_total_17 (by first | rfl | assumption) (by decide) (fun c17 => ?_) (fun c17 => ?_)
    · exact bad (fun x => gF_null.mp c17 x.2.1) _
    · refine x_aload_n d_PR_total_20 rfl rfl (by first | rfl | assumption) ?_
      refine x_iload_n d_PR_total_21 rfl rfl ?_
      refine x_iload_n d_PR_total_22 rfl rfl ?_
      refine x_callV1 (M' := M_PR_isRange) d_PR_total_23 lk_PR_131 (c_isRange E h po (lS Y) (zN S) (zL S) (zE S) (zF S) f l w0 hO.1 hf hl) mt_PR_isRange im_PR_isRange se_PR_isRange (by repeat (first | assumption | exact hs_self (by assumption) | exact hs_self (hs_ne (by omega) (by assumption)) | exact hs_self (hs_ne (by omega) (hs_ne (by omega) (by assumption))) | refine hs_ne (by omega) ?_)) rfl (by decide) rfl (Nat.le_of_ble_eq_true rfl) (by decide) (by decide) ?_
      refine j_if_ne 31 d_PR_total_26 (by decide) (by unfold iR; split <;> omega) (fun c26 => ?_) (fun c26 => ?_)
      · rw [ite10] at c26
        have hoa := th_of c17
        rw [gF_pos hoa]
        exact main ⟨Classical.not_not.mp c12, hoa, Classical.not_not.mp c26⟩
      · rw [ite10] at c26
        exact bad (fun x => c26 x.2.2) _
