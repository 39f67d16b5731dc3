theorem hset_id {h : xH} {b : Nat} {e : va_E} (hb : h[b]? = some e) : h.set b e = h := by
  apply List.ext_getElem?
  intro j
  by_cases hj : b = j
  · subst hj
    rw [hs_self hb, hb]
  · rw [List.getElem?_set_ne hj]
theorem rN_h {h h2 : xH} (e : h = h2) : rN h2 none h := ⟨rfl, e⟩
theorem hset_arr {h : xH} {b nn : Nat} {G G' : Nat → Int} (e : G = G') : h.set b (aI nn G) = h.set b (aI nn G') := by rw [e]
set_option maxHeartbeats 1000000 in
theorem c_storeDigits (E : xEnv) (h : xH) (s b e f p o n : Nat) (fm ln sc sg m : Int) (B : Nat → Int) (hs : h[s]? = some (oS b e)) (hb : h[b]? = some (aI 64 B)) (hf : h[f]? = some (oF p fm o ln n sc sg)) (hbs : b ≠ s) (hbf : b ≠ f) (ho : o + n ≤ 64) (hn : 1 ≤ n ∧ n ≤ 9) (hm : m.natAbs < 4000000000000000000) : xCt E 0 0 0 M_SG_storeDigits [.ref s, .ref f, vL m] h (rN (h.set b (aI 64 (stD B o n m)))) := by
  refine x_met rfl rfl (Nat.le_of_ble_eq_true rfl) ?_
  have loop : ∀ (k : Nat) (G : Nat → Int) (l i : Int), k ≤ n → i = (o : Int) + k - 1 → l.natAbs < 4000000000000000000 → stD G o k l = stD B o n m → X E M_SG_storeDigits 0 0 0 (xZ E 0 0 (rN (h.set b (aI 64 (stD B o n m))))) 16 [some (.ref s), some (.ref f), some (vL m), none, some (vL l), none, some (vI i)] [] (h.set b (aI 64 G)) 0 0 := by
    intro k
    induction k with
    | zero =>
      intro G l i hk hi hl hG
      refine x_iload d_SG_storeDigits_16 rfl ?_
      refine x_aload_n d_SG_storeDigits_18 rfl rfl rfl ?_
      refine x_get 1 2 d_SG_storeDigits_19 gf_SG_61 (by first | assumption | exact hs_self (by assumption) | exact hs_ne (by first | assumption | omega) (by assumption) | exact hs_ne (by first | assumption | omega) (hs_self (by assumption)) | exact hs_ne (by first | assumption | omega) (hs_ne (by first | assumption | omega) (by assumption))) (by rfl) ?_
      refine j_icmp_lt 56 d_SG_storeDigits_22 (by decide) (by unfold iR; omega) (by unfold iR; omega) (fun c22 => ?_) (fun c22 => ?_)
      · refine x_return d_SG_storeDigits_56 rfl ?_
        exact rN_h (hset_arr hG)
      · exfalso; omega
    | succ k ih =>
      intro G l i hk hi hl hG
      have h10 := tmod_abs (p := l) (q := 10) (by decide)
      have hdv := Int.natAbs_tdiv_le_natAbs l 10
      refine x_iload d_SG_storeDigits_16 rfl ?_
      refine x_aload_n d_SG_storeDigits_18 rfl rfl rfl ?_
      refine x_get 1 2 d_SG_storeDigits_19 gf_SG_61 (by first | assumption | exact hs_self (by assumption) | exact hs_ne (by first | assumption | omega) (by assumption) | exact hs_ne (by first | assumption | omega) (hs_self (by assumption)) | exact hs_ne (by first | assumption | omega) (hs_ne (by first | assumption | omega) (by assumption))) (by rfl) ?_
      refine j_icmp_lt 56 d_SG_storeDigits_22 (by decide) (by unfold iR; omega) (by unfold iR; omega) (fun c22 => ?_) (fun c22 => ?_)
      · exfalso; omega
      refine x_aload_n d_SG_storeDigits_25 rfl rfl rfl ?_
      refine x_get 3 0 d_SG_storeDigits_26 gf_SG_9 (by first | assumption | exact hs_self (by assumption) | exact hs_ne (by first | assumption | omega) (by assumption) | exact hs_ne (by first | assumption | omega) (hs_self (by assumption)) | exact hs_ne (by first | assumption | omega) (hs_ne (by first | assumption | omega) (by assumption))) (by rfl) ?_
      refine x_iload d_SG_storeDigits_29 rfl ?_
      refine j_bipush d_SG_storeDigits_31 (by decide) ?_
      refine x_lload d_SG_storeDigits_33 rfl ?_
      refine x_ldc2 d_SG_storeDigits_35 kl_SG_83 ?_
      refine j_lrem d_SG_storeDigits_38 (by unfold lR; omega) (by unfold lR; omega) (by decide) ?_
      refine j_l2i d_SG_storeDigits_39 ?_
      refine j_iadd d_SG_storeDigits_40 ?_
      refine j_iast d_SG_storeDigits_41 (by first | assumption | exact hs_self (by assumption) | exact hs_ne (by first | assumption | omega) (by assumption) | exact hs_ne (by first | assumption | omega) (hs_self (by assumption)) | exact hs_ne (by first | assumption | omega) (hs_ne (by first | assumption | omega) (by assumption))) (by omega) (by omega) (by decide) ?_
      rw [List.set_set]
      refine x_lload d_SG_storeDigits_42 rfl ?_
      refine x_ldc2 d_SG_storeDigits_44 kl_SG_83 ?_
      refine j_ldiv d_SG_storeDigits_47 (by unfold lR; omega) (by unfold lR; omega) (by decide) ?_
      refine x_lstore d_SG_storeDigits_48 (Nat.le_of_ble_eq_true rfl) ?_
      refine j_iinc d_SG_storeDigits_50 rfl ?_
      refine x_goto 16 d_SG_storeDigits_53 (by decide) ?_
      rw [show i.toNat = o + k by omega]
      exact ih _ _ _ (by omega) (by omega) (by omega) hG
  have e0 := hset_id hb
  refine x_lload_n d_SG_storeDigits_0 rfl rfl ?_
  refine x_lstore d_SG_storeDigits_1 (Nat.le_of_ble_eq_true rfl) ?_
  refine x_aload_n d_SG_storeDigits_3 rfl rfl rfl ?_
  refine x_get 1 2 d_SG_storeDigits_4 gf_SG_61 (by first | assumption | exact hs_self (by assumption) | exact hs_ne (by first | assumption | omega) (by assumption) | exact hs_ne (by first | assumption | omega) (hs_self (by assumption)) | exact hs_ne (by first | assumption | omega) (hs_ne (by first | assumption | omega) (by assumption))) (by rfl) ?_
  refine x_aload_n d_SG_storeDigits_7 rfl rfl rfl ?_
  refine x_get 1 4 d_SG_storeDigits_8 gf_SG_64 (by first | assumption | exact hs_self (by assumption) | exact hs_ne (by first | assumption | omega) (by assumption) | exact hs_ne (by first | assumption | omega) (hs_self (by assumption)) | exact hs_ne (by first | assumption | omega) (hs_ne (by first | assumption | omega) (by assumption))) (by rfl) ?_
  refine j_iadd d_SG_storeDigits_11 ?_
  refine j_iconst d_SG_storeDigits_12 ?_
  refine j_isub d_SG_storeDigits_13 ?_
  refine x_istore d_SG_storeDigits_14 (Nat.le_of_ble_eq_true rfl) ?_
  have := loop n B m ((o : Int) + n - 1) (Nat.le_refl _) rfl hm rfl
  rw [e0] at this
  exact this
set_option maxHeartbeats 1000000 in
theorem c_storePacked (E : xEnv) (h : xH) (s b e f p o n : Nat) (fm dg sc sg m : Int) (B : Nat → Int) (hs : h[s]? = some (oS b e)) (hb : h[b]? = some (aI 64 B)) (hf : h[f]? = some (oF p fm o n dg sc sg)) (hbs : b ≠ s) (hbf : b ≠ f) (ho : o + n ≤ 64) (hn : 1 ≤ n ∧ n ≤ 9) (hm : m.natAbs < 4000000000000000000) (hsg : sg = 0 ∨ sg = 1) : xCt E 1 0 0 M_SG_storePacked [.ref s, .ref f, vL m] h (rN (h.set b (aI 64 (stP B o n m.natAbs (if sg = 1 then (if m < 0 then 13 else 12) else 15))))) := by
  refine x_met rfl rfl (Nat.le_of_ble_eq_true rfl) ?_
  generalize hFIN : stP B o n m.natAbs (if sg = 1 then (if m < 0 then 13 else 12) else 15) = FIN
  have loop : ∀ (k : Nat) (G : Nat → Int) (l w i : Int), k ≤ n → i = (o : Int) + k - 1 → l.natAbs < 4000000000000000000 → stP G o k l w = FIN → X E M_SG_storePacked 1 0 0 (xZ E 0 0 (rN (h.set b (aI 64 FIN)))) 45 [some (.ref s), some (.ref f), some (vL m), none, some (vL l), none, some (vI w), some (vI i)] [] (h.set b (aI 64 G)) 0 0 := by
    intro k
    induction k with
    | zero =>
      intro G l w i hk hi hl hG
      refine x_iload d_SG_storePacked_45 rfl ?_
      refine x_aload_n d_SG_storePacked_47 rfl rfl rfl ?_
      refine x_get 1 2 d_SG_storePacked_48 gf_SG_61 (by first | assumption | exact hs_self (by assumption) | exact hs_ne (by first | assumption | omega) (by assumption) | exact hs_ne (by first | assumption | omega) (hs_self (by assumption)) | exact hs_ne (by first | assumption | omega) (hs_ne (by first | assumption | omega) (by assumption))) (by rfl) ?_
      refine j_icmp_lt 101 d_SG_storePacked_51 (by decide) (by unfold iR; omega) (by unfold iR; omega) (fun c51 => ?_) (fun c51 => ?_)
      · refine x_return d_SG_storePacked_101 rfl ?_
        exact rN_h (hset_arr hG)
      · exfalso; omega
    | succ k ih =>
      intro G l w i hk hi hl hG
      have h10 := tmod_abs (p := l) (q := 10) (by decide)
      have hdv := Int.natAbs_tdiv_le_natAbs l 10
      have hdv2 := Int.natAbs_tdiv_le_natAbs l 100
      refine x_iload d_SG_storePacked_45 rfl ?_
      refine x_aload_n d_SG_storePacked_47 rfl rfl rfl ?_
      refine x_get 1 2 d_SG_storePacked_48 gf_SG_61 (by first | assumption | exact hs_self (by assumption) | exact hs_ne (by first | assumption | omega) (by assumption) | exact hs_ne (by first | assumption | omega) (hs_self (by assumption)) | exact hs_ne (by first | assumption | omega) (hs_ne (by first | assumption | omega) (by assumption))) (by rfl) ?_
      refine j_icmp_lt 101 d_SG_storePacked_51 (by decide) (by unfold iR; omega) (by unfold iR; omega) (fun c51 => ?_) (fun c51 => ?_)
      · exfalso; omega
      refine x_aload_n d_SG_storePacked_54 rfl rfl rfl ?_
      refine x_get 3 0 d_SG_storePacked_55 gf_SG_9 (by first | assumption | exact hs_self (by assumption) | exact hs_ne (by first | assumption | omega) (by assumption) | exact hs_ne (by first | assumption | omega) (hs_self (by assumption)) | exact hs_ne (by first | assumption | omega) (hs_ne (by first | assumption | omega) (by assumption))) (by rfl) ?_
      refine x_iload d_SG_storePacked_58 rfl ?_
      refine j_bipush d_SG_storePacked_60 (by decide) ?_
      refine x_lload d_SG_storePacked_62 rfl ?_
      refine x_ldc2 d_SG_storePacked_64 kl_SG_83 ?_
      refine j_lrem d_SG_storePacked_67 (by unfold lR; omega) (by unfold lR; omega) (by decide) ?_
      refine j_l2i d_SG_storePacked_68 ?_
      refine j_imul d_SG_storePacked_69 ?_
      refine x_iload d_SG_storePacked_70 rfl ?_
      refine j_iadd d_SG_storePacked_72 ?_
      refine j_iast d_SG_storePacked_73 (by first | assumption | exact hs_self (by assumption) | exact hs_ne (by first | assumption | omega) (by assumption) | exact hs_ne (by first | assumption | omega) (hs_self (by assumption)) | exact hs_ne (by first | assumption | omega) (hs_ne (by first | assumption | omega) (by assumption))) (by omega) (by omega) (by decide) ?_
      rw [List.set_set]
      refine x_lload d_SG_storePacked_74 rfl ?_
      refine x_ldc2 d_SG_storePacked_76 kl_SG_83 ?_
      refine j_ldiv d_SG_storePacked_79 (by unfold lR; omega) (by unfold lR; omega) (by decide) ?_
      refine x_ldc2 d_SG_storePacked_80 kl_SG_83 ?_
      refine j_lrem d_SG_storePacked_83 (by unfold lR; omega) (by unfold lR; omega) (by decide) ?_
      refine j_l2i d_SG_storePacked_84 ?_
      refine x_istore d_SG_storePacked_85 (Nat.le_of_ble_eq_true rfl) ?_
      refine x_lload d_SG_storePacked_87 rfl ?_
      refine x_ldc2 d_SG_storePacked_89 kl_SG_102 ?_
      refine j_ldiv d_SG_storePacked_92 (by unfold lR; omega) (by unfold lR; omega) (by decide) ?_
      refine x_lstore d_SG_storePacked_93 (Nat.le_of_ble_eq_true rfl) ?_
      refine j_iinc d_SG_storePacked_95 rfl ?_
      refine x_goto 45 d_SG_storePacked_98 (by decide) ?_
      rw [show i.toNat = o + k by omega]
      exact ih _ _ _ _ (by omega) (by omega) (by omega) hG
  have e0 := hset_id hb
  have fin : ∀ w : Int, w = (if sg = 1 then (if m < 0 then 13 else 12) else 15) → X E M_SG_storePacked 1 0 0 (xZ E 0 0 (rN (h.set b (aI 64 FIN)))) 32 [some (.ref s), some (.ref f), some (vL m), none, some (vL m.natAbs), none, some (vI w), none] [] h 0 0 := by
    intro w hw
    refine x_aload_n d_SG_storePacked_32 rfl rfl rfl ?_
    refine x_get 1 2 d_SG_storePacked_33 gf_SG_61 (by first | assumption | exact hs_self (by assumption) | exact hs_ne (by first | assumption | omega) (by assumption) | exact hs_ne (by first | assumption | omega) (hs_self (by assumption)) | exact hs_ne (by first | assumption | omega) (hs_ne (by first | assumption | omega) (by assumption))) (by rfl) ?_
    refine x_aload_n d_SG_storePacked_36 rfl rfl rfl ?_
    refine x_get 1 3 d_SG_storePacked_37 gf_SG_89 (by first | assumption | exact hs_self (by assumption) | exact hs_ne (by first | assumption | omega) (by assumption) | exact hs_ne (by first | assumption | omega) (hs_self (by assumption)) | exact hs_ne (by first | assumption | omega) (hs_ne (by first | assumption | omega) (by assumption))) (by rfl) ?_
    refine j_iadd d_SG_storePacked_40 ?_
    refine j_iconst d_SG_storePacked_41 ?_
    refine j_isub d_SG_storePacked_42 ?_
    refine x_istore d_SG_storePacked_43 (Nat.le_of_ble_eq_true rfl) ?_
    have := loop n B m.natAbs w ((o : Int) + n - 1) (Nat.le_refl _) rfl (by omega) (by rw [hw]; exact hFIN)
    rw [e0] at this
    exact this
  refine x_lload_n d_SG_storePacked_0 rfl rfl ?_
  refine j_labs d_SG_storePacked_1 lk_SG_48w (by unfold lR; omega) (by decide) (Nat.le_of_ble_eq_true rfl) ?_
  refine x_lstore d_SG_storePacked_4 (Nat.le_of_ble_eq_true rfl) ?_
  refine j_bipush d_SG_storePacked_6 (by decide) ?_
  refine x_istore d_SG_storePacked_8 (Nat.le_of_ble_eq_true rfl) ?_
  refine x_aload_n d_SG_storePacked_10 rfl rfl rfl ?_
  refine x_get 1 6 d_SG_storePacked_11 gf_SG_44 (by first | assumption | exact hs_self (by assumption) | exact hs_ne (by first | assumption | omega) (by assumption) | exact hs_ne (by first | assumption | omega) (hs_self (by assumption)) | exact hs_ne (by first | assumption | omega) (hs_ne (by first | assumption | omega) (by assumption))) (by rfl) ?_
  refine j_if_eq 32 d_SG_storePacked_14 (by decide) (by unfold iR; omega) (fun c14 => ?_) (fun c14 => ?_)
  · exact fin _ (by rw [if_neg (by omega)])
  · refine x_lload_n d_SG_storePacked_17 rfl rfl ?_
    refine j_lconst 0 d_SG_storePacked_18 (by decide) ?_
    refine j_lcmp_ge 28 d_SG_storePacked_19 d_SG_storePacked_20 (by decide) (by unfold lR; omega) (by unfold lR; omega) (fun c19 => ?_) (fun c19 => ?_)
    · refine j_bipush d_SG_storePacked_28 (by decide) ?_
      refine x_istore d_SG_storePacked_30 (Nat.le_of_ble_eq_true rfl) ?_
      exact fin _ (by rw [if_pos (by omega), if_neg (by omega)])
    · refine j_bipush d_SG_storePacked_23 (by decide) ?_
      refine x_goto 30 d_SG_storePacked_25 (by decide) ?_
      refine x_istore d_SG_storePacked_30 (Nat.le_of_ble_eq_true rfl) ?_
      exact fin _ (by rw [if_pos (by omega), if_pos (by omega)])
set_option maxHeartbeats 1000000 in
theorem c_storeBinary (E : xEnv) (h : xH) (s b e f p o n : Nat) (fm dg sc sg m : Int) (B : Nat → Int) (hs : h[s]? = some (oS b e)) (hb : h[b]? = some (aI 64 B)) (hf : h[f]? = some (oF p fm o n dg sc sg)) (hbs : b ≠ s) (hbf : b ≠ f) (ho : o + n ≤ 64) (hn : 1 ≤ n ∧ n ≤ 9) (hm : m.natAbs < 4000000000000000000) : xCt E 0 0 0 M_SG_storeBinary [.ref s, .ref f, vL m] h (rN (h.set b (aI 64 (stB B o n m)))) := by
  refine x_met rfl rfl (Nat.le_of_ble_eq_true rfl) ?_
  generalize hFIN : stB B o n m = FIN
  have loop : ∀ (k : Nat) (G : Nat → Int) (l i : Int), k ≤ n → i = (o : Int) + k - 1 → l.natAbs < 4000000000000000000 → stB G o k l = FIN → X E M_SG_storeBinary 0 0 0 (xZ E 0 0 (rN (h.set b (aI 64 FIN)))) 16 [some (.ref s), some (.ref f), some (vL m), none, some (vL l), none, some (vI i)] [] (h.set b (aI 64 G)) 0 0 := by
    intro k
    induction k with
    | zero =>
      intro G l i hk hi hl hG
      refine x_iload d_SG_storeBinary_16 rfl ?_
      refine x_aload_n d_SG_storeBinary_18 rfl rfl rfl ?_
      refine x_get 1 2 d_SG_storeBinary_19 gf_SG_61 (by first | assumption | exact hs_self (by assumption) | exact hs_ne (by first | assumption | omega) (by assumption) | exact hs_ne (by first | assumption | omega) (hs_self (by assumption)) | exact hs_ne (by first | assumption | omega) (hs_ne (by first | assumption | omega) (by assumption))) (by rfl) ?_
      refine j_icmp_lt 52 d_SG_storeBinary_22 (by decide) (by unfold iR; omega) (by unfold iR; omega) (fun c22 => ?_) (fun c22 => ?_)
      · refine x_return d_SG_storeBinary_52 rfl ?_
        exact rN_h (hset_arr hG)
      · exfalso; omega
    | succ k ih =>
      intro G l i hk hi hl hG
      have hlr : lR l := by unfold lR; omega
      refine x_iload d_SG_storeBinary_16 rfl ?_
      refine x_aload_n d_SG_storeBinary_18 rfl rfl rfl ?_
      refine x_get 1 2 d_SG_storeBinary_19 gf_SG_61 (by first | assumption | exact hs_self (by assumption) | exact hs_ne (by first | assumption | omega) (by assumption) | exact hs_ne (by first | assumption | omega) (hs_self (by assumption)) | exact hs_ne (by first | assumption | omega) (hs_ne (by first | assumption | omega) (by assumption))) (by rfl) ?_
      refine j_icmp_lt 52 d_SG_storeBinary_22 (by decide) (by unfold iR; omega) (by unfold iR; omega) (fun c22 => ?_) (fun c22 => ?_)
      · exfalso; omega
      refine x_aload_n d_SG_storeBinary_25 rfl rfl rfl ?_
      refine x_get 3 0 d_SG_storeBinary_26 gf_SG_9 (by first | assumption | exact hs_self (by assumption) | exact hs_ne (by first | assumption | omega) (by assumption) | exact hs_ne (by first | assumption | omega) (hs_self (by assumption)) | exact hs_ne (by first | assumption | omega) (hs_ne (by first | assumption | omega) (by assumption))) (by rfl) ?_
      refine x_iload d_SG_storeBinary_29 rfl ?_
      refine x_lload d_SG_storeBinary_31 rfl ?_
      refine x_ldc2 d_SG_storeBinary_33 kl_SG_106 ?_
      refine x_land d_SG_storeBinary_36 ?_
      refine x_top (w := vL (l % 256)) (by rw [lI_and255 hlr]) ?_
      refine j_l2i d_SG_storeBinary_37 ?_
      refine j_iast d_SG_storeBinary_38 (by first | assumption | exact hs_self (by assumption) | exact hs_ne (by first | assumption | omega) (by assumption) | exact hs_ne (by first | assumption | omega) (hs_self (by assumption)) | exact hs_ne (by first | assumption | omega) (hs_ne (by first | assumption | omega) (by assumption))) (by omega) (by omega) (by decide) ?_
      rw [List.set_set]
      refine x_lload d_SG_storeBinary_39 rfl ?_
      refine j_bipush d_SG_storeBinary_41 (by decide) ?_
      refine x_lshr d_SG_storeBinary_43 ?_
      refine x_top (w := vL (l / 256)) (by rw [lI_shr8 hlr]) ?_
      refine x_lstore d_SG_storeBinary_44 (Nat.le_of_ble_eq_true rfl) ?_
      refine j_iinc d_SG_storeBinary_46 rfl ?_
      refine x_goto 16 d_SG_storeBinary_49 (by decide) ?_
      rw [show i.toNat = o + k by omega]
      exact ih _ _ _ (by omega) (by omega) (by omega) hG
  have e0 := hset_id hb
  refine x_lload_n d_SG_storeBinary_0 rfl rfl ?_
  refine x_lstore d_SG_storeBinary_1 (Nat.le_of_ble_eq_true rfl) ?_
  refine x_aload_n d_SG_storeBinary_3 rfl rfl rfl ?_
  refine x_get 1 2 d_SG_storeBinary_4 gf_SG_61 (by first | assumption | exact hs_self (by assumption) | exact hs_ne (by first | assumption | omega) (by assumption) | exact hs_ne (by first | assumption | omega) (hs_self (by assumption)) | exact hs_ne (by first | assumption | omega) (hs_ne (by first | assumption | omega) (by assumption))) (by rfl) ?_
  refine x_aload_n d_SG_storeBinary_7 rfl rfl rfl ?_
  refine x_get 1 3 d_SG_storeBinary_8 gf_SG_89 (by first | assumption | exact hs_self (by assumption) | exact hs_ne (by first | assumption | omega) (by assumption) | exact hs_ne (by first | assumption | omega) (hs_self (by assumption)) | exact hs_ne (by first | assumption | omega) (hs_ne (by first | assumption | omega) (by assumption))) (by rfl) ?_
  refine j_iadd d_SG_storeBinary_11 ?_
  refine j_iconst d_SG_storeBinary_12 ?_
  refine j_isub d_SG_storeBinary_13 ?_
  refine x_istore d_SG_storeBinary_14 (Nat.le_of_ble_eq_true rfl) ?_
  have := loop n B m ((o : Int) + n - 1) (Nat.le_refl _) rfl hm hFIN
  rw [e0] at this
  exact this
/-- the text agrees with the bytes -/
def tEq (B T : Nat → Int) (o : Nat) : Nat → Bool
  | 0 => true
  | k + 1 => decide (B o = T 0) && tEq (fun j => B j) (fun j => T (j + 1)) (o + 1) k
theorem tEq_iff (B : Nat → Int) : ∀ (k : Nat) (T : Nat → Int) (o : Nat), tEq B T o k = true ↔ ∀ j, j < k → B (o + j) = T j
  | 0, T, o => by simp [tEq]
  | k + 1, T, o => by
    unfold tEq
    rw [Bool.and_eq_true, decide_eq_true_iff, tEq_iff B k]
    constructor
    · intro ⟨h1, h2⟩ j hj
      cases j with
      | zero => exact h1
      | succ j =>
        have := h2 j (by omega)
        rw [show o + (j + 1) = o + 1 + j by omega]
        exact this
    · intro h
      refine ⟨h 0 (by omega), fun j hj => ?_⟩
      have := h (j + 1) (by omega)
      rw [show o + 1 + j = o + (j + 1) by omega]
      exact this
set_option maxHeartbeats 1000000 in
theorem c_holdsText (E : xEnv) (h : xH) (s b e f p o n t : Nat) (fm dg sc sg : Int) (B T : Nat → Int) (hs : h[s]? = some (oS b e)) (hb : h[b]? = some (aI 64 B)) (he : h[e]? = some (oE t)) (ht : h[t]? = some (aI 18 T)) (hf : h[f]? = some (oF p fm o n dg sc sg)) (ho : o + n ≤ 64) (hn : n ≤ 18) (hB : bOk B) (hT : ∀ j, j < 18 → iR (T j)) : xCt E 0 0 0 M_SG_holdsText [.ref s, .ref f] h (rV (vI (if tEq B T o n = true then 1 else 0)) h) := by
  refine x_met rfl rfl (Nat.le_of_ble_eq_true rfl) ?_
  have loop : ∀ (r k : Nat) (i : Int), k + r = n → i = (k : Int) → (∀ j, j < k → B (o + j) = T j) → X E M_SG_holdsText 0 0 0 (xZ E 0 0 (rV (vI (if tEq B T o n = true then 1 else 0)) h)) 2 [some (.ref s), some (.ref f), some (vI i)] [] h 0 0 := by
    intro r
    induction r with
    | zero =>
      intro k i hk hi hq
      refine x_iload_n d_SG_holdsText_2 rfl rfl ?_
      refine x_aload_n d_SG_holdsText_3 rfl rfl rfl ?_
      refine x_get 1 3 d_SG_holdsText_4 gf_SG_89 (by first | assumption | exact hs_self (by assumption) | exact hs_ne (by first | assumption | omega) (by assumption) | exact hs_ne (by first | assumption | omega) (hs_self (by assumption)) | exact hs_ne (by first | assumption | omega) (hs_ne (by first | assumption | omega) (by assumption))) (by rfl) ?_
      refine j_icmp_ge 41 d_SG_holdsText_7 (by decide) (by unfold iR; omega) (by unfold iR; omega) (fun c7 => ?_) (fun c7 => ?_)
      · refine j_iconst d_SG_holdsText_41 ?_
        refine j_zreturn d_SG_holdsText_42 rfl (by omega) ?_
        exact rV_i (by rw [if_pos ((tEq_iff B n T o).mpr (fun j hj => hq j (by omega)))]) rfl
      · exfalso; omega
    | succ r ih =>
      intro k i hk hi hq
      have hb1 := hB (o + k) (by omega)
      have ht1 := hT k (by omega)
      refine x_iload_n d_SG_holdsText_2 rfl rfl ?_
      refine x_aload_n d_SG_holdsText_3 rfl rfl rfl ?_
      refine x_get 1 3 d_SG_holdsText_4 gf_SG_89 (by first | assumption | exact hs_self (by assumption) | exact hs_ne (by first | assumption | omega) (by assumption) | exact hs_ne (by first | assumption | omega) (hs_self (by assumption)) | exact hs_ne (by first | assumption | omega) (hs_ne (by first | assumption | omega) (by assumption))) (by rfl) ?_
      refine j_icmp_ge 41 d_SG_holdsText_7 (by decide) (by unfold iR; omega) (by unfold iR; omega) (fun c7 => ?_) (fun c7 => ?_)
      · exfalso; omega
      refine x_aload_n d_SG_holdsText_10 rfl rfl rfl ?_
      refine x_get 3 0 d_SG_holdsText_11 gf_SG_9 (by first | assumption | exact hs_self (by assumption) | exact hs_ne (by first | assumption | omega) (by assumption) | exact hs_ne (by first | assumption | omega) (hs_self (by assumption)) | exact hs_ne (by first | assumption | omega) (hs_ne (by first | assumption | omega) (by assumption))) (by rfl) ?_
      refine x_aload_n d_SG_holdsText_14 rfl rfl rfl ?_
      refine x_get 1 2 d_SG_holdsText_15 gf_SG_61 (by first | assumption | exact hs_self (by assumption) | exact hs_ne (by first | assumption | omega) (by assumption) | exact hs_ne (by first | assumption | omega) (hs_self (by assumption)) | exact hs_ne (by first | assumption | omega) (hs_ne (by first | assumption | omega) (by assumption))) (by rfl) ?_
      refine x_iload_n d_SG_holdsText_18 rfl rfl ?_
      refine j_iadd d_SG_holdsText_19 ?_
      refine j_iald d_SG_holdsText_20 (by first | assumption | exact hs_self (by assumption) | exact hs_ne (by first | assumption | omega) (by assumption) | exact hs_ne (by first | assumption | omega) (hs_self (by assumption)) | exact hs_ne (by first | assumption | omega) (hs_ne (by first | assumption | omega) (by assumption))) (by omega) (by omega) (by decide) ?_
      refine x_top (w := vI (B (o + k))) (by rw [show ((o : Int) + i).toNat = o + k by omega]) ?_
      refine x_aload_n d_SG_holdsText_21 rfl rfl rfl ?_
      refine x_get 3 1 d_SG_holdsText_22 gf_SG_18 (by first | assumption | exact hs_self (by assumption) | exact hs_ne (by first | assumption | omega) (by assumption) | exact hs_ne (by first | assumption | omega) (hs_self (by assumption)) | exact hs_ne (by first | assumption | omega) (hs_ne (by first | assumption | omega) (by assumption))) (by rfl) ?_
      refine x_get 0 0 d_SG_holdsText_25 gf_SG_131 (by first | assumption | exact hs_self (by assumption) | exact hs_ne (by first | assumption | omega) (by assumption) | exact hs_ne (by first | assumption | omega) (hs_self (by assumption)) | exact hs_ne (by first | assumption | omega) (hs_ne (by first | assumption | omega) (by assumption))) (by rfl) ?_
      refine x_iload_n d_SG_holdsText_28 rfl rfl ?_
      refine j_iald d_SG_holdsText_29 (by first | assumption | exact hs_self (by assumption) | exact hs_ne (by first | assumption | omega) (by assumption) | exact hs_ne (by first | assumption | omega) (hs_self (by assumption)) | exact hs_ne (by first | assumption | omega) (hs_ne (by first | assumption | omega) (by assumption))) (by omega) (by omega) (by decide) ?_
      refine x_top (w := vI (T k)) (by rw [show i.toNat = k by omega]) ?_
      refine j_icmp_eq 35 d_SG_holdsText_30 (by decide) (by unfold iR; omega) ht1 (fun c30 => ?_) (fun c30 => ?_)
      · refine j_iinc d_SG_holdsText_35 rfl ?_
        refine x_goto 2 d_SG_holdsText_38 (by decide) ?_
        refine ih (k + 1) _ (by omega) (by omega) (fun j hj => ?_)
        by_cases hjk : j = k
        · subst hjk; exact c30
        · exact hq j (by omega)
      · refine j_iconst d_SG_holdsText_33 ?_
        refine j_zreturn d_SG_holdsText_34 rfl (by omega) ?_
        exact rV_i (by rw [if_neg (fun z => c30 ((tEq_iff B n T o).mp z k (by omega)))]) rfl
  refine j_iconst d_SG_holdsText_0 ?_
  refine x_istore_n d_SG_holdsText_1 rfl (Nat.le_of_ble_eq_true rfl) ?_
  exact loop n 0 _ (by omega) rfl (fun j hj => by omega)
