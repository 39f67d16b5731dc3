theorem rdP_top {B : Nat → Int} {o : Nat} : ∀ {k : Nat} {m : Int}, rdP B o (k + 1) = some m → ∃ m', m = hfB B o 0 * 10 ^ k + m' ∧ 0 ≤ m' ∧ m' < 10 ^ k
  | 0, m, h => by
    have h : (if 0 ≤ hfB B o 0 ∧ hfB B o 0 ≤ 9 then some (10 * 0 + hfB B o 0) else none) = some m := h
    split at h
    · have := Option.some.inj h
      exact ⟨0, by rw [Int.pow_zero]; omega, by decide, by decide⟩
    · cases h
  | k + 1, m, h => by
    have h : (match rdP B o (k + 1) with | some m => if 0 ≤ hfB B o (k + 1) ∧ hfB B o (k + 1) ≤ 9 then some (10 * m + hfB B o (k + 1)) else none | none => none) = some m := h
    split at h
    · rename_i q hq
      split at h
      · obtain ⟨m', h1, h2, h3⟩ := rdP_top hq
        have h := Option.some.inj h
        refine ⟨10 * m' + hfB B o (k + 1), ?_, by omega, by rw [Int.pow_succ]; omega⟩
        rw [← h, h1, Int.pow_succ, Int.mul_add, ← Int.mul_assoc, ← Int.mul_assoc, Int.mul_comm 10 (hfB B o 0), Int.mul_assoc, Int.mul_comm 10 (10 ^ k), ← Int.mul_assoc]
        omega
      · cases h
    · cases h
set_option maxHeartbeats 4000000 in
theorem c_readPacked (E : xEnv) (h : xH) (mo j : Nat) (v : Nat → Int) (tg us : Int) (A : MA) (D : FD) (B T : Nat → Int) (hm : h[mo]? = some (oM mo v 1 tg us)) (hR : mR h mo A) (hb : h[mo + 1]? = some (aI 64 B)) (ht : h[mo + 14]? = some (aI 18 T)) (hF : mF A j D) (hj : j < 12) (hD : fOk D) (hm1 : fM D = 1) (hB : bOk B) (hT : ∀ i, i < 18 → iR (T i)) : xCt E 1 0 0 M_MD_readPacked [.ref mo, vI j, vI (fN D)] h (rQ (mU h mo v tg us (uA D B))) := by
  refine x_met rfl rfl (Nat.le_of_ble_eq_true rfl) ?_
  have hR0 := hR
  have hF0 := hF
  obtain ⟨h1, h2, h3, h4', h5, h6, h7, h8, h9, h10⟩ := hR
  obtain ⟨f0, f1, -, -, fg, -, -⟩ := hF
  obtain ⟨-, hn, -, hg, ho, -⟩ := hD
  have hw : fO D + (fN D / 2 + 1) ≤ 64 := by
    unfold fW at ho
    rw [if_neg (show ¬ fM D = 4 by omega), if_pos hm1] at ho
    exact ho
  have e0 := hset_id ht
  obtain ⟨c, hc⟩ : ∃ c : Nat, c = 2 * (fN D / 2 + 1) - 1 := ⟨_, rfl⟩
  have hu : uA D B = uP B (fO D) (fN D) (fG D) := by
    unfold uA
    rw [if_neg (show ¬ fM D = 4 by omega), if_pos hm1]
  unfold uP at hu
  rw [← hc] at hu
  have hsh := hfB_le hB (o := fO D) (k := c) (by omega)
  have hh0 := hfB_le hB (o := fO D) (k := 0) (by omega)
  have e1 : (fN D : Int).tdiv 2 = ((fN D / 2 : Nat) : Int) := rfl
  have e2 : (fN D : Int).tmod 2 = ((fN D % 2 : Nat) : Int) := rfl
  have hmh : ∀ so : Int, (h.set mo (oM mo v so tg us))[mo]? = some (oM mo v so tg us) := fun so => hs_self hm
  have hRh : ∀ so : Int, mR (h.set mo (oM mo v so tg us)) mo A := fun so => mR_set hR0 (by omega)
  have hbh : ∀ so : Int, (h.set mo (oM mo v so tg us))[mo + 1]? = some (aI 64 B) := fun so => hs_ne (by omega) hb
  have fin : ∀ (so m : Int) (x6 x7 : Option Value), (so = 0 ∨ so = 1) → (so = 1 ↔ ¬ rdP B (fO D) c = none ∧ (fN D % 2 = 1 ∨ hfB B (fO D) 0 = 0)) → (∀ x, rdP B (fO D) c = some x → m = x) → m.natAbs < 1000000000000 → X E M_MD_readPacked 1 0 0 (xZ E 0 0 (rQ (mU h mo v tg us (uA D B)))) 87 [some (.ref mo), some (vI j), some (vI (fN D)), some (vI c), some (vL m), none, x6, x7] [] (h.set mo (oM mo v so tg us)) 0 0 := by
    intro so m x6 x7 hso hq hx hmb
    have hm0 := hmh so
    have hlt : ∀ x, rdP B (fO D) c = some x → (x < 10 ^ fN D ↔ (fN D % 2 = 1 ∨ hfB B (fO D) 0 = 0)) := by
      intro x hxx
      by_cases hodd : fN D % 2 = 1
      · have h1 := rdP_lt hxx
        rw [show c = fN D by omega] at h1
        exact ⟨fun _ => Or.inl hodd, fun _ => h1.2⟩
      · have hcn : c = fN D + 1 := by omega
        rw [hcn] at hxx
        obtain ⟨m', h1, h2, h3⟩ := rdP_top hxx
        constructor
        · intro hl
          right
          by_cases hz : hfB B (fO D) 0 = 0
          · exact hz
          · exfalso
            have hp := pow10_pos (fN D)
            have : 1 * 10 ^ fN D ≤ hfB B (fO D) 0 * 10 ^ fN D := Int.mul_le_mul_of_nonneg_right (by omega) (by omega)
            omega
        · rintro (z | z)
          · exact absurd z hodd
          · rw [h1, z, Int.zero_mul]
            omega
    have go : ∀ s2 : Int, (s2 = 0 ∨ s2 = 1) → (s2 = 1 ↔ so = 1 ∧ ¬ hfB B (fO D) c < (if fG D = 1 then 10 else 15)) → X E M_MD_readPacked 1 0 0 (xZ E 0 0 (rQ (mU h mo v tg us (uA D B)))) 134 [some (.ref mo), some (vI j), some (vI (fN D)), some (vI c), some (vL m), none, some (vI (hfB B (fO D) c)), x7] [vI s2, .ref mo] (h.set mo (oM mo v so tg us)) 0 0 := by
      intro s2 hs2 hq2
      have hu1 : s2 = 1 ↔ ¬ uA D B = none := by
        rw [hq2, hq, hu]
        cases hr : rdP B (fO D) c with
        | none => simp
        | some y =>
          have hy := hlt y hr
          by_cases hbad : hfB B (fO D) c < (if fG D = 1 then 10 else 15) ∨ ¬ y < 10 ^ fN D
          · simp only [if_pos hbad]
            rw [hy] at hbad
            exact ⟨fun z => by rcases hbad with q | q; exact absurd q z.2; exact absurd z.1.2 q, fun z => by first | exact absurd trivial z | exact absurd rfl z⟩
          · simp only [if_neg hbad]
            rw [hy] at hbad
            exact ⟨fun _ => by simp, fun _ => ⟨⟨by simp, by by_cases z : (fN D % 2 = 1 ∨ hfB B (fO D) 0 = 0); exact z; exact absurd (Or.inr z) hbad⟩, fun z => hbad (Or.inl z)⟩⟩
      have hu2 : ∀ x, uA D B = some x → (if fG D = 1 ∧ (hfB B (fO D) c = 11 ∨ hfB B (fO D) c = 13) then -m else m) = x := by
        intro x hxx
        rw [hu] at hxx
        cases hr : rdP B (fO D) c with
        | none => rw [hr] at hxx; cases hxx
        | some y =>
          rw [hr] at hxx
          have h1 := hx y hr
          by_cases hbad : hfB B (fO D) c < (if fG D = 1 then 10 else 15) ∨ ¬ y < 10 ^ fN D
          · simp only [if_pos hbad] at hxx; cases hxx
          · simp only [if_neg hbad] at hxx
            have h2 := Option.some.inj hxx
            have h3 : ¬ hfB B (fO D) c < (if fG D = 1 then 10 else 15) := fun z => hbad (Or.inl z)
            subst h1
            rw [← h2]
            by_cases hs : hfB B (fO D) c = 13 ∨ hfB B (fO D) c = 11
            · have hg1 : fG D = 1 := by
                by_cases q : fG D = 1
                · exact q
                · rw [if_neg q] at h3; omega
              rw [if_pos hs, if_pos ⟨hg1, by omega⟩]
            · rw [if_neg hs, if_neg (fun q => hs (by omega))]
      refine xp_MD_24 d_MD_readPacked_134 pf_MD_readPacked_158 (by repeat (first | assumption | exact hs_self (by assumption) | exact hs_self (hs_ne (by omega) (by assumption)) | exact hs_self (hs_ne (by omega) (hs_ne (by omega) (by assumption))) | refine hs_ne (by omega) ?_)) (by omega) ?_
      rw [List.set_set]
      have hm2 := hmh s2
      refine x_aload_n d_MD_readPacked_137 rfl rfl rfl ?_
      refine x_get 5 16 d_MD_readPacked_138 gf_MD_31 (by repeat (first | assumption | exact hs_self (by assumption) | exact hs_self (hs_ne (by omega) (by assumption)) | exact hs_self (hs_ne (by omega) (hs_ne (by omega) (by assumption))) | refine hs_ne (by omega) ?_)) (by rfl) ?_
      refine x_iload_n d_MD_readPacked_141 rfl rfl ?_
      refine j_zald d_MD_readPacked_142 (by repeat (first | assumption | exact hs_self (by assumption) | exact hs_self (hs_ne (by omega) (by assumption)) | exact hs_self (hs_ne (by omega) (hs_ne (by omega) (by assumption))) | refine hs_ne (by omega) ?_)) (by omega) (by omega) (by decide) ?_
      refine x_top (w := vI (fG D)) (by rw [Int.toNat_natCast, fg]) ?_
      refine j_if_eq 166 d_MD_readPacked_143 (by decide) (by unfold iR; omega) (fun c143 => ?_) (fun c143 => ?_)
      · refine x_lload d_MD_readPacked_166 rfl ?_
        refine x_lreturn d_MD_readPacked_168 rfl ?_
        exact ⟨_, rfl, m, s2, T, rfl, hmb, by rw [e0], hs2, hu1, fun x hxx => by rw [← hu2 x hxx, if_neg (by omega)], hT⟩
      · refine x_iload d_MD_readPacked_146 rfl ?_
        refine j_bipush d_MD_readPacked_148 (by decide) ?_
        refine j_icmp_eq 160 d_MD_readPacked_150 (by decide) (by unfold iR; omega) (by unfold iR; omega) (fun c150 => ?_) (fun c150 => ?_)
        · refine x_lload d_MD_readPacked_160 rfl ?_
          refine j_lneg d_MD_readPacked_162 ?_
          refine x_goto 168 d_MD_readPacked_163 (by decide) ?_
          refine x_lreturn d_MD_readPacked_168 rfl ?_
          exact ⟨_, rfl, -m, s2, T, rfl, by omega, by rw [e0], hs2, hu1, fun x hxx => by rw [← hu2 x hxx, if_pos (by omega)], hT⟩
        · refine x_iload d_MD_readPacked_153 rfl ?_
          refine j_bipush d_MD_readPacked_155 (by decide) ?_
          refine j_icmp_ne 166 d_MD_readPacked_157 (by decide) (by unfold iR; omega) (by unfold iR; omega) (fun c157 => ?_) (fun c157 => ?_)
          · refine x_lload d_MD_readPacked_166 rfl ?_
            refine x_lreturn d_MD_readPacked_168 rfl ?_
            exact ⟨_, rfl, m, s2, T, rfl, hmb, by rw [e0], hs2, hu1, fun x hxx => by rw [← hu2 x hxx, if_neg (by omega)], hT⟩
          · refine x_lload d_MD_readPacked_160 rfl ?_
            refine j_lneg d_MD_readPacked_162 ?_
            refine x_goto 168 d_MD_readPacked_163 (by decide) ?_
            refine x_lreturn d_MD_readPacked_168 rfl ?_
            exact ⟨_, rfl, -m, s2, T, rfl, by omega, by rw [e0], hs2, hu1, fun x hxx => by rw [← hu2 x hxx, if_pos (by omega)], hT⟩
    refine x_aload_n d_MD_readPacked_87 rfl rfl rfl ?_
    refine x_iload_n d_MD_readPacked_88 rfl rfl ?_
    refine x_iload_n d_MD_readPacked_89 rfl rfl ?_
    refine x_callV1 (M' := M_MD_half) d_MD_readPacked_90 lk_MD_161 (c_half E _ mo j c v so tg us A D B hm0 (hRh so |> fun _ => hbh so) (hRh so) hF0 hj hB (by omega) (by omega)) mt_MD_half im_MD_half se_MD_half (by repeat (first | assumption | exact hs_self (by assumption) | exact hs_self (hs_ne (by omega) (by assumption)) | exact hs_self (hs_ne (by omega) (hs_ne (by omega) (by assumption))) | refine hs_ne (by omega) ?_)) rfl (by decide) rfl (Nat.le_of_ble_eq_true rfl) (by decide) (by decide) ?_
    refine x_istore d_MD_readPacked_93 (Nat.le_of_ble_eq_true rfl) ?_
    refine x_aload_n d_MD_readPacked_95 rfl rfl rfl ?_
    refine x_aload_n d_MD_readPacked_96 rfl rfl rfl ?_
    refine x_get 5 24 d_MD_readPacked_97 gf_MD_158 (by repeat (first | assumption | exact hs_self (by assumption) | exact hs_self (hs_ne (by omega) (by assumption)) | exact hs_self (hs_ne (by omega) (hs_ne (by omega) (by assumption))) | refine hs_ne (by omega) ?_)) (by rfl) ?_
    refine j_if_eq 133 d_MD_readPacked_100 (by decide) (by unfold iR; omega) (fun c100 => ?_) (fun c100 => ?_)
    · refine j_iconst d_MD_readPacked_133 ?_
      exact go 0 (Or.inl rfl) ⟨fun q => by omega, fun q => by omega⟩
    · refine x_aload_n d_MD_readPacked_103 rfl rfl rfl ?_
      refine x_get 5 16 d_MD_readPacked_104 gf_MD_31 (by repeat (first | assumption | exact hs_self (by assumption) | exact hs_self (hs_ne (by omega) (by assumption)) | exact hs_self (hs_ne (by omega) (hs_ne (by omega) (by assumption))) | refine hs_ne (by omega) ?_)) (by rfl) ?_
      refine x_iload_n d_MD_readPacked_107 rfl rfl ?_
      refine j_zald d_MD_readPacked_108 (by repeat (first | assumption | exact hs_self (by assumption) | exact hs_self (hs_ne (by omega) (by assumption)) | exact hs_self (hs_ne (by omega) (hs_ne (by omega) (by assumption))) | refine hs_ne (by omega) ?_)) (by omega) (by omega) (by decide) ?_
      refine x_top (w := vI (fG D)) (by rw [Int.toNat_natCast, fg]) ?_
      refine j_if_eq 122 d_MD_readPacked_109 (by decide) (by unfold iR; omega) (fun c109 => ?_) (fun c109 => ?_)
      · refine x_iload d_MD_readPacked_122 rfl ?_
        refine j_bipush d_MD_readPacked_124 (by decide) ?_
        refine j_icmp_ne 133 d_MD_readPacked_126 (by decide) (by unfold iR; omega) (by unfold iR; omega) (fun c126 => ?_) (fun c126 => ?_)
        · refine j_iconst d_MD_readPacked_133 ?_
          exact go 0 (Or.inl rfl) ⟨fun q => by omega, fun q => by have := q.2; rw [if_neg (by omega)] at this; omega⟩
        · refine j_iconst d_MD_readPacked_129 ?_
          refine x_goto 134 d_MD_readPacked_130 (by decide) ?_
          exact go 1 (Or.inr rfl) ⟨fun _ => ⟨by omega, by rw [if_neg (by omega)]; omega⟩, fun _ => rfl⟩
      · refine x_iload d_MD_readPacked_112 rfl ?_
        refine j_bipush d_MD_readPacked_114 (by decide) ?_
        refine j_icmp_lt 133 d_MD_readPacked_116 (by decide) (by unfold iR; omega) (by unfold iR; omega) (fun c116 => ?_) (fun c116 => ?_)
        · refine j_iconst d_MD_readPacked_133 ?_
          exact go 0 (Or.inl rfl) ⟨fun q => by omega, fun q => by have := q.2; rw [if_pos (by omega)] at this; omega⟩
        · refine x_goto 129 d_MD_readPacked_119 (by decide) ?_
          refine j_iconst d_MD_readPacked_129 ?_
          refine x_goto 134 d_MD_readPacked_130 (by decide) ?_
          exact go 1 (Or.inr rfl) ⟨fun _ => ⟨by omega, by rw [if_pos (by omega)]; omega⟩, fun _ => rfl⟩
  have loop : ∀ (r k : Nat) (so m z : Int) (x7 : Option Value), k + r = c → z = (k : Int) → (so = 0 ∨ so = 1) → (so = 1 ↔ ¬ rdP B (fO D) k = none ∧ (k = 0 ∨ fN D % 2 = 1 ∨ hfB B (fO D) 0 = 0)) → (∀ x, rdP B (fO D) k = some x → m = x) → (m.natAbs : Int) ≤ 2 * 10 ^ k - 2 → X E M_MD_readPacked 1 0 0 (xZ E 0 0 (rQ (mU h mo v tg us (uA D B)))) 14 [some (.ref mo), some (vI j), some (vI (fN D)), some (vI c), some (vL m), none, some (vI z), x7] [] (h.set mo (oM mo v so tg us)) 0 0 := by
    intro r
    induction r with
    | zero =>
      intro k so m z x7 hk hz hso hq hx hmb
      have hk : k = c := by omega
      subst hk
      have hp9 := pow10_le (n := k) (m := 9) (by omega)
      refine x_iload d_MD_readPacked_14 rfl ?_
      refine x_iload_n d_MD_readPacked_16 rfl rfl ?_
      refine j_icmp_ge 87 d_MD_readPacked_17 (by decide) (by unfold iR; omega) (by unfold iR; omega) (fun c17 => ?_) (fun c17 => ?_)
      · refine fin so m _ _ hso ?_ hx (by omega)
        rw [hq]
        constructor
        · intro q; exact ⟨q.1, by omega⟩
        · intro q; exact ⟨q.1, Or.inr q.2⟩
      · exfalso; omega
    | succ r ih =>
      intro k so m z x7 hk hz hso hq hx hmb
      have hhk := hfB_le hB (o := fO D) (k := k) (by omega)
      have hp9 := pow10_le (n := k) (m := 9) (by omega)
      have hm0 := hmh so
      have hrd : rdP B (fO D) (k + 1) = match rdP B (fO D) k with | some m => if 0 ≤ hfB B (fO D) k ∧ hfB B (fO D) k ≤ 9 then some (10 * m + hfB B (fO D) k) else none | none => none := rfl
      have go : ∀ s2 : Int, (s2 = 0 ∨ s2 = 1) → (s2 = 1 ↔ so = 1 ∧ hfB B (fO D) k ≤ 9 ∧ (0 < k ∨ fN D % 2 = 1 ∨ hfB B (fO D) k = 0)) → X E M_MD_readPacked 1 0 0 (xZ E 0 0 (rQ (mU h mo v tg us (uA D B)))) 66 [some (.ref mo), some (vI j), some (vI (fN D)), some (vI c), some (vL m), none, some (vI z), some (vI (hfB B (fO D) k))] [vI s2, .ref mo] (h.set mo (oM mo v so tg us)) 0 0 := by
        intro s2 hs2 hq2
        refine xp_MD_24 d_MD_readPacked_66 pf_MD_readPacked_158 (by repeat (first | assumption | exact hs_self (by assumption) | exact hs_self (hs_ne (by omega) (by assumption)) | exact hs_self (hs_ne (by omega) (hs_ne (by omega) (by assumption))) | refine hs_ne (by omega) ?_)) (by omega) ?_
        rw [List.set_set]
        refine x_ldc2 d_MD_readPacked_69 kl_MD_129 ?_
        refine x_lload d_MD_readPacked_72 rfl ?_
        refine j_lmul d_MD_readPacked_74 ?_
        refine x_iload d_MD_readPacked_75 rfl ?_
        refine j_i2l d_MD_readPacked_77 (by unfold iR; omega) ?_
        refine j_ladd d_MD_readPacked_78 ?_
        refine x_lstore d_MD_readPacked_79 (Nat.le_of_ble_eq_true rfl) ?_
        refine j_iinc d_MD_readPacked_81 rfl ?_
        refine x_goto 14 d_MD_readPacked_84 (by decide) ?_
        refine ih (k + 1) _ _ _ _ (by omega) (by omega) hs2 ?_ ?_ (by rw [Int.pow_succ]; omega)
        · rw [hq2, hq, hrd]
          cases hr : rdP B (fO D) k with
          | none => simp
          | some y =>
            by_cases hd : 0 ≤ hfB B (fO D) k ∧ hfB B (fO D) k ≤ 9
            · simp only [if_pos hd]
              constructor
              · rintro ⟨⟨-, q1⟩, -, q2⟩
                refine ⟨by simp, ?_⟩
                by_cases hk0 : k = 0
                · subst hk0; omega
                · omega
              · rintro ⟨-, q⟩
                by_cases hk0 : k = 0
                · subst hk0; exact ⟨⟨by simp, Or.inl rfl⟩, hd.2, by omega⟩
                · exact ⟨⟨by simp, by omega⟩, hd.2, by omega⟩
            · simp only [if_neg hd]
              exact ⟨fun q => absurd ⟨hhk.1, q.2.1⟩ hd, fun q => by first | exact absurd trivial q.1 | exact absurd rfl q.1⟩
        · intro x hxx
          rw [hrd] at hxx
          cases hr : rdP B (fO D) k with
          | none => rw [hr] at hxx; cases hxx
          | some y =>
            rw [hr] at hxx
            have := hx y hr
            by_cases hd : 0 ≤ hfB B (fO D) k ∧ hfB B (fO D) k ≤ 9
            · simp only [if_pos hd] at hxx
              have := Option.some.inj hxx
              omega
            · simp only [if_neg hd] at hxx
              cases hxx
      refine x_iload d_MD_readPacked_14 rfl ?_
      refine x_iload_n d_MD_readPacked_16 rfl rfl ?_
      refine j_icmp_ge 87 d_MD_readPacked_17 (by decide) (by unfold iR; omega) (by unfold iR; omega) (fun c17 => ?_) (fun c17 => ?_)
      · exfalso; omega
      refine x_aload_n d_MD_readPacked_20 rfl rfl rfl ?_
      refine x_iload_n d_MD_readPacked_21 rfl rfl ?_
      refine x_iload d_MD_readPacked_22 rfl ?_
      refine x_top (w := vI (k : Int)) (by rw [hz]) ?_
      refine x_callV1 (M' := M_MD_half) d_MD_readPacked_24 lk_MD_161 (c_half E _ mo j k v so tg us A D B hm0 (hbh so) (hRh so) hF0 hj hB (by omega) (by omega)) mt_MD_half im_MD_half se_MD_half (by repeat (first | assumption | exact hs_self (by assumption) | exact hs_self (hs_ne (by omega) (by assumption)) | exact hs_self (hs_ne (by omega) (hs_ne (by omega) (by assumption))) | refine hs_ne (by omega) ?_)) rfl (by decide) rfl (Nat.le_of_ble_eq_true rfl) (by decide) (by decide) ?_
      refine x_istore d_MD_readPacked_27 (Nat.le_of_ble_eq_true rfl) ?_
      refine x_aload_n d_MD_readPacked_29 rfl rfl rfl ?_
      refine x_aload_n d_MD_readPacked_30 rfl rfl rfl ?_
      refine x_get 5 24 d_MD_readPacked_31 gf_MD_158 (by repeat (first | assumption | exact hs_self (by assumption) | exact hs_self (hs_ne (by omega) (by assumption)) | exact hs_self (hs_ne (by omega) (hs_ne (by omega) (by assumption))) | refine hs_ne (by omega) ?_)) (by rfl) ?_
      refine j_if_eq 65 d_MD_readPacked_34 (by decide) (by unfold iR; omega) (fun c34 => ?_) (fun c34 => ?_)
      · refine j_iconst d_MD_readPacked_65 ?_
        exact go 0 (Or.inl rfl) ⟨fun q => by omega, fun q => by omega⟩
      · refine x_iload d_MD_readPacked_37 rfl ?_
        refine j_bipush d_MD_readPacked_39 (by decide) ?_
        refine j_icmp_gt 65 d_MD_readPacked_41 (by decide) (by unfold iR; omega) (by unfold iR; omega) (fun c41 => ?_) (fun c41 => ?_)
        · refine j_iconst d_MD_readPacked_65 ?_
          exact go 0 (Or.inl rfl) ⟨fun q => by omega, fun q => by omega⟩
        · refine x_iload d_MD_readPacked_44 rfl ?_
          refine j_if_gt 61 d_MD_readPacked_46 (by decide) (by unfold iR; omega) (fun c46 => ?_) (fun c46 => ?_)
          · refine j_iconst d_MD_readPacked_61 ?_
            refine x_goto 66 d_MD_readPacked_62 (by decide) ?_
            exact go 1 (Or.inr rfl) ⟨fun _ => ⟨by omega, by omega, by omega⟩, fun _ => rfl⟩
          · refine x_iload_n d_MD_readPacked_49 rfl rfl ?_
            refine j_iconst d_MD_readPacked_50 ?_
            refine j_irem d_MD_readPacked_51 (by unfold iR; omega) (by unfold iR; omega) (by decide) ?_
            refine x_top (w := vI ((fN D % 2 : Nat) : Int)) (by rw [e2]) ?_
            refine j_iconst d_MD_readPacked_52 ?_
            refine j_icmp_eq 61 d_MD_readPacked_53 (by decide) (by unfold iR; omega) (by unfold iR; omega) (fun c53 => ?_) (fun c53 => ?_)
            · refine j_iconst d_MD_readPacked_61 ?_
              refine x_goto 66 d_MD_readPacked_62 (by decide) ?_
              exact go 1 (Or.inr rfl) ⟨fun _ => ⟨by omega, by omega, by omega⟩, fun _ => rfl⟩
            · refine x_iload d_MD_readPacked_56 rfl ?_
              refine j_if_ne 65 d_MD_readPacked_58 (by decide) (by unfold iR; omega) (fun c58 => ?_) (fun c58 => ?_)
              · refine j_iconst d_MD_readPacked_65 ?_
                exact go 0 (Or.inl rfl) ⟨fun q => by omega, fun q => by omega⟩
              · refine j_iconst d_MD_readPacked_61 ?_
                refine x_goto 66 d_MD_readPacked_62 (by decide) ?_
                exact go 1 (Or.inr rfl) ⟨fun _ => ⟨by omega, by omega, by omega⟩, fun _ => rfl⟩
  have hmain := loop c 0 1 0 0 none (by omega) rfl (Or.inr rfl) ⟨fun _ => ⟨by simp [rdP], Or.inl rfl⟩, fun _ => rfl⟩ (fun x hx => Option.some.inj hx) (by decide)
  rw [hset_id hm] at hmain
  refine j_iconst d_MD_readPacked_0 ?_
  refine x_iload_n d_MD_readPacked_1 rfl rfl ?_
  refine j_iconst d_MD_readPacked_2 ?_
  refine j_idiv d_MD_readPacked_3 (by unfold iR; omega) (by unfold iR; omega) (by decide) ?_
  refine j_imul d_MD_readPacked_4 ?_
  refine j_iconst d_MD_readPacked_5 ?_
  refine j_iadd d_MD_readPacked_6 ?_
  refine x_top (w := vI (c : Int)) (by rw [e1, show 2 * ((fN D / 2 : Nat) : Int) + 1 = (c : Int) by omega]) ?_
  refine x_istore_n d_MD_readPacked_7 rfl (Nat.le_of_ble_eq_true rfl) ?_
  refine j_lconst 0 d_MD_readPacked_8 (by decide) ?_
  refine x_lstore d_MD_readPacked_9 (Nat.le_of_ble_eq_true rfl) ?_
  refine j_iconst d_MD_readPacked_11 ?_
  refine x_istore d_MD_readPacked_12 (Nat.le_of_ble_eq_true rfl) ?_
  exact hmain
set_option maxHeartbeats 4000000 in
theorem c_readBinary (E : xEnv) (h : xH) (mo j : Nat) (v : Nat → Int) (tg us : Int) (A : MA) (D : FD) (B T : Nat → Int) (hm : h[mo]? = some (oM mo v 1 tg us)) (hR : mR h mo A) (hb : h[mo + 1]? = some (aI 64 B)) (ht : h[mo + 14]? = some (aI 18 T)) (hF : mF A j D) (hj : j < 12) (hD : fOk D) (hm3 : fM D = 3) (hB : bOk B) (hT : ∀ i, i < 18 → iR (T i)) : xCt E 1 0 0 M_MD_readBinary [.ref mo, vI j, vI (fN D)] h (rQ (mU h mo v tg us (uA D B))) := by
  refine x_met rfl rfl (Nat.le_of_ble_eq_true rfl) ?_
  have hR0 := hR
  have hF0 := hF
  obtain ⟨h1, h2, h3, h4', h5, h6, h7, h8, h9, h10⟩ := hR
  obtain ⟨f0, f1, -, -, fg, -, -⟩ := hF
  obtain ⟨-, hn, -, hg, ho, -⟩ := hD
  have hw : fO D + wB (fN D) ≤ 64 := by
    unfold fW at ho
    rw [if_neg (show ¬ fM D = 4 by omega), if_neg (show ¬ fM D = 1 by omega), if_neg (show ¬ fM D = 2 by omega), if_pos hm3] at ho
    exact ho
  have hw4 : wB (fN D) = 2 ∨ wB (fN D) = 4 := by unfold wB; split <;> omega
  have e0 := hset_id ht
  have hu : uA D B = uB B (fO D) (fN D) (fG D) := by
    unfold uA
    rw [if_neg (show ¬ fM D = 4 by omega), if_neg (show ¬ fM D = 1 by omega), if_neg (show ¬ fM D = 2 by omega), if_pos hm3]
  unfold uB at hu
  obtain ⟨w, hwe⟩ : ∃ w, w = wB (fN D) := ⟨_, rfl⟩
  rw [← hwe] at hw hw4
  have hvl := rdB_lt hB (o := fO D) (k := w) hw
  have hp4 := pow256_le (n := w) (m := 4) (by omega)
  have hpd := pow10_le (n := fN D) (m := 9) (by omega)
  have hpd0 := pow10_pos (fN D)
  have hpc := p10c (fN D)
  have htop : 256 ^ w ≤ 2 * rdB B (fO D) w ↔ 128 ≤ B (fO D) := by
    have b0 := hB (fO D) (by omega)
    have b1 := hB (fO D + 1) (by omega)
    rcases hw4 with q | q
    · rw [q]
      show (65536 : Int) ≤ 2 * (256 * (256 * 0 + B (fO D + 0)) + B (fO D + 1)) ↔ _
      rw [Nat.add_zero]
      omega
    · have b2 := hB (fO D + 2) (by omega)
      have b3 := hB (fO D + 3) (by omega)
      rw [q]
      show (4294967296 : Int) ≤ 2 * (256 * (256 * (256 * (256 * 0 + B (fO D + 0)) + B (fO D + 1)) + B (fO D + 2)) + B (fO D + 3)) ↔ _
      rw [Nat.add_zero]
      omega
  have fin : ∀ (z : Int) (x8 : Option Value), z = vB B (fO D) (fN D) (fG D) → z.natAbs < 1000000000000 → X E M_MD_readBinary 1 0 0 (xZ E 0 0 (rQ (mU h mo v tg us (uA D B)))) 95 [some (.ref mo), some (vI j), some (vI (fN D)), some (vI w), some (vL (rdB B (fO D) w)), none, some (vL (256 ^ w)), none, x8, none] [vL z] h 0 0 := by
    intro z x8 hz hzb
    rw [← hz] at hu
    have go : ∀ s2 : Int, (s2 = 0 ∨ s2 = 1) → (s2 = 1 ↔ z < 10 ^ fN D ∧ -(10 ^ fN D) < z) → X E M_MD_readBinary 1 0 0 (xZ E 0 0 (rQ (mU h mo v tg us (uA D B)))) 133 [some (.ref mo), some (vI j), some (vI (fN D)), some (vI w), some (vL z), none, some (vL (256 ^ w)), none, some (vL (10 ^ fN D)), none] [vI s2, .ref mo] h 0 0 := by
      intro s2 hs2 hq2
      refine xp_MD_24 d_MD_readBinary_133 pf_MD_readBinary_158 (by repeat (first | assumption | exact hs_self (by assumption) | exact hs_self (hs_ne (by omega) (by assumption)) | exact hs_self (hs_ne (by omega) (hs_ne (by omega) (by assumption))) | refine hs_ne (by omega) ?_)) (by omega) ?_
      refine x_lload d_MD_readBinary_136 rfl ?_
      refine x_lreturn d_MD_readBinary_138 rfl ?_
      refine ⟨_, rfl, z, s2, T, rfl, hzb, by rw [e0], hs2, ?_, fun x hxx => ?_, hT⟩
      · rw [hq2, hu]
        by_cases hl : z.natAbs < 10 ^ fN D
        · rw [if_pos hl]
          exact ⟨fun _ => by simp, fun _ => by omega⟩
        · rw [if_neg hl]
          exact ⟨fun q => absurd (by omega) hl, fun q => by first | exact absurd trivial q | exact absurd rfl q⟩
      · rw [hu] at hxx
        split at hxx
        · exact Option.some.inj hxx
        · cases hxx
    refine x_lstore d_MD_readBinary_95 (Nat.le_of_ble_eq_true rfl) ?_
    refine x_iload_n d_MD_readBinary_97 rfl rfl ?_
    refine x_callS1 (M' := M_MD_power) d_MD_readBinary_98 lk_MD_138 (c_power E h (fN D) (by omega)) mt_MD_power st_MD_power (by decide) rfl (Nat.le_of_ble_eq_true rfl) (by decide) (by decide) ?_
    refine x_lstore d_MD_readBinary_101 (Nat.le_of_ble_eq_true rfl) ?_
    refine x_aload_n d_MD_readBinary_103 rfl rfl rfl ?_
    refine x_aload_n d_MD_readBinary_104 rfl rfl rfl ?_
    refine x_get 5 24 d_MD_readBinary_105 gf_MD_158 (by repeat (first | assumption | exact hs_self (by assumption) | exact hs_self (hs_ne (by omega) (by assumption)) | exact hs_self (hs_ne (by omega) (hs_ne (by omega) (by assumption))) | refine hs_ne (by omega) ?_)) (by rfl) ?_
    refine j_if_eq 132 d_MD_readBinary_108 (by decide) (by unfold iR; omega) (fun c108 => ?_) (fun c108 => ?_)
    · exfalso; omega
    · refine x_lload d_MD_readBinary_111 rfl ?_
      refine x_lload d_MD_readBinary_113 rfl ?_
      refine j_lcmp_ge 132 d_MD_readBinary_115 d_MD_readBinary_116 (by decide) (by unfold lR; omega) (by unfold lR; omega) (fun c115 => ?_) (fun c115 => ?_)
      · refine j_iconst d_MD_readBinary_132 ?_
        exact go 0 (Or.inl rfl) ⟨fun q => by omega, fun q => by omega⟩
      · refine x_lload d_MD_readBinary_119 rfl ?_
        refine x_lload d_MD_readBinary_121 rfl ?_
        refine j_lneg d_MD_readBinary_123 ?_
        refine j_lcmp_le 132 d_MD_readBinary_124 d_MD_readBinary_125 (by decide) (by unfold lR; omega) (by unfold lR; omega) (fun c124 => ?_) (fun c124 => ?_)
        · refine j_iconst d_MD_readBinary_132 ?_
          exact go 0 (Or.inl rfl) ⟨fun q => by omega, fun q => by omega⟩
        · refine j_iconst d_MD_readBinary_128 ?_
          refine x_goto 133 d_MD_readBinary_129 (by decide) ?_
          exact go 1 (Or.inr rfl) ⟨fun _ => by omega, fun _ => rfl⟩
  have loop : ∀ (r k : Nat) (m a z : Int), k + r = w → z = (k : Int) → m = rdB B (fO D) k → a = 256 ^ k → X E M_MD_readBinary 1 0 0 (xZ E 0 0 (rQ (mU h mo v tg us (uA D B)))) 20 [some (.ref mo), some (vI j), some (vI (fN D)), some (vI w), some (vL m), none, some (vL a), none, some (vI z), none] [] h 0 0 := by
    intro r
    induction r with
    | zero =>
      intro k m a z hk hz hm1 ha
      have hk : k = w := by omega
      subst hk; subst hm1; subst ha
      refine x_iload d_MD_readBinary_20 rfl ?_
      refine x_iload_n d_MD_readBinary_22 rfl rfl ?_
      refine j_icmp_ge 64 d_MD_readBinary_23 (by decide) (by unfold iR; omega) (by unfold iR; omega) (fun c23 => ?_) (fun c23 => ?_)
      · refine x_aload_n d_MD_readBinary_64 rfl rfl rfl ?_
        refine x_get 5 16 d_MD_readBinary_65 gf_MD_31 (by repeat (first | assumption | exact hs_self (by assumption) | exact hs_self (hs_ne (by omega) (by assumption)) | exact hs_self (hs_ne (by omega) (hs_ne (by omega) (by assumption))) | refine hs_ne (by omega) ?_)) (by rfl) ?_
        refine x_iload_n d_MD_readBinary_68 rfl rfl ?_
        refine j_zald d_MD_readBinary_69 (by repeat (first | assumption | exact hs_self (by assumption) | exact hs_self (hs_ne (by omega) (by assumption)) | exact hs_self (hs_ne (by omega) (hs_ne (by omega) (by assumption))) | refine hs_ne (by omega) ?_)) (by omega) (by omega) (by decide) ?_
        refine x_top (w := vI (fG D)) (by rw [Int.toNat_natCast, fg]) ?_
        refine j_if_eq 93 d_MD_readBinary_70 (by decide) (by unfold iR; omega) (fun c70 => ?_) (fun c70 => ?_)
        · refine x_lload d_MD_readBinary_93 rfl ?_
          exact fin _ _ (by unfold vB; rw [if_neg (by omega), ← hwe]) (by omega)
        · refine x_ldc2 d_MD_readBinary_73 kl_MD_166 ?_
          refine x_lload d_MD_readBinary_76 rfl ?_
          refine j_lmul d_MD_readBinary_78 ?_
          refine x_lload d_MD_readBinary_79 rfl ?_
          refine j_lcmp_lt 93 d_MD_readBinary_81 d_MD_readBinary_82 (by decide) (by unfold lR; omega) (by unfold lR; omega) (fun c81 => ?_) (fun c81 => ?_)
          · refine x_lload d_MD_readBinary_93 rfl ?_
            exact fin _ _ (by unfold vB; rw [if_neg (fun q => absurd (htop.mpr q.2) (by omega)), ← hwe]) (by omega)
          · refine x_lload d_MD_readBinary_85 rfl ?_
            refine x_lload d_MD_readBinary_87 rfl ?_
            refine j_lsub d_MD_readBinary_89 ?_
            refine x_goto 95 d_MD_readBinary_90 (by decide) ?_
            exact fin _ _ (by unfold vB; rw [if_pos ⟨by omega, htop.mp (by omega)⟩, ← hwe]) (by omega)
      · exfalso; omega
    | succ r ih =>
      intro k m a z hk hz hm1 ha
      have hb1 := hB (fO D + k) (by omega)
      refine x_iload d_MD_readBinary_20 rfl ?_
      refine x_iload_n d_MD_readBinary_22 rfl rfl ?_
      refine j_icmp_ge 64 d_MD_readBinary_23 (by decide) (by unfold iR; omega) (by unfold iR; omega) (fun c23 => ?_) (fun c23 => ?_)
      · exfalso; omega
      refine x_ldc2 d_MD_readBinary_26 kl_MD_164 ?_
      refine x_lload d_MD_readBinary_29 rfl ?_
      refine j_lmul d_MD_readBinary_31 ?_
      refine x_aload_n d_MD_readBinary_32 rfl rfl rfl ?_
      refine x_get 5 0 d_MD_readBinary_33 gf_MD_7 (by repeat (first | assumption | exact hs_self (by assumption) | exact hs_self (hs_ne (by omega) (by assumption)) | exact hs_self (hs_ne (by omega) (hs_ne (by omega) (by assumption))) | refine hs_ne (by omega) ?_)) (by rfl) ?_
      refine x_aload_n d_MD_readBinary_36 rfl rfl rfl ?_
      refine x_get 5 12 d_MD_readBinary_37 gf_MD_19 (by repeat (first | assumption | exact hs_self (by assumption) | exact hs_self (hs_ne (by omega) (by assumption)) | exact hs_self (hs_ne (by omega) (hs_ne (by omega) (by assumption))) | refine hs_ne (by omega) ?_)) (by rfl) ?_
      refine x_iload_n d_MD_readBinary_40 rfl rfl ?_
      refine j_iald d_MD_readBinary_41 (by repeat (first | assumption | exact hs_self (by assumption) | exact hs_self (hs_ne (by omega) (by assumption)) | exact hs_self (hs_ne (by omega) (hs_ne (by omega) (by assumption))) | refine hs_ne (by omega) ?_)) (by omega) (by omega) (by decide) ?_
      refine x_top (w := vI (fO D)) (by rw [Int.toNat_natCast, f0]) ?_
      refine x_iload d_MD_readBinary_42 rfl ?_
      refine j_iadd d_MD_readBinary_44 ?_
      refine j_iald d_MD_readBinary_45 (by repeat (first | assumption | exact hs_self (by assumption) | exact hs_self (hs_ne (by omega) (by assumption)) | exact hs_self (hs_ne (by omega) (hs_ne (by omega) (by assumption))) | refine hs_ne (by omega) ?_)) (by omega) (by omega) (by decide) ?_
      refine x_top (w := vI (B (fO D + k))) (by rw [show ((fO D : Int) + z).toNat = fO D + k by omega]) ?_
      refine j_i2l d_MD_readBinary_46 (by unfold iR; omega) ?_
      refine j_ladd d_MD_readBinary_47 ?_
      refine x_lstore d_MD_readBinary_48 (Nat.le_of_ble_eq_true rfl) ?_
      refine x_ldc2 d_MD_readBinary_50 kl_MD_164 ?_
      refine x_lload d_MD_readBinary_53 rfl ?_
      refine j_lmul d_MD_readBinary_55 ?_
      refine x_lstore d_MD_readBinary_56 (Nat.le_of_ble_eq_true rfl) ?_
      refine j_iinc d_MD_readBinary_58 rfl ?_
      refine x_goto 20 d_MD_readBinary_61 (by decide) ?_
      exact ih (k + 1) _ _ _ (by omega) (by omega) (by subst hm1; rfl) (by rw [ha, Int.pow_succ, Int.mul_comm])
  refine x_iload_n d_MD_readBinary_0 rfl rfl ?_
  refine j_iconst d_MD_readBinary_1 ?_
  refine j_icmp_gt 9 d_MD_readBinary_2 (by decide) (by unfold iR; omega) (by unfold iR; omega) (fun c2 => ?_) (fun c2 => ?_)
  · refine j_iconst d_MD_readBinary_9 ?_
    refine x_istore_n d_MD_readBinary_10 rfl (Nat.le_of_ble_eq_true rfl) ?_
    refine j_lconst 0 d_MD_readBinary_11 (by decide) ?_
    refine x_lstore d_MD_readBinary_12 (Nat.le_of_ble_eq_true rfl) ?_
    refine j_lconst 1 d_MD_readBinary_14 (by decide) ?_
    refine x_lstore d_MD_readBinary_15 (Nat.le_of_ble_eq_true rfl) ?_
    refine j_iconst d_MD_readBinary_17 ?_
    refine x_istore d_MD_readBinary_18 (Nat.le_of_ble_eq_true rfl) ?_
    have hw2 : w = 4 := by rw [hwe]; unfold wB; rw [if_neg (by omega)]
    have := loop w 0 0 1 0 (by omega) rfl rfl rfl
    rw [hw2] at this
    exact this
  · refine j_iconst d_MD_readBinary_5 ?_
    refine x_goto 10 d_MD_readBinary_6 (by decide) ?_
    refine x_istore_n d_MD_readBinary_10 rfl (Nat.le_of_ble_eq_true rfl) ?_
    refine j_lconst 0 d_MD_readBinary_11 (by decide) ?_
    refine x_lstore d_MD_readBinary_12 (Nat.le_of_ble_eq_true rfl) ?_
    refine j_lconst 1 d_MD_readBinary_14 (by decide) ?_
    refine x_lstore d_MD_readBinary_15 (Nat.le_of_ble_eq_true rfl) ?_
    refine j_iconst d_MD_readBinary_17 ?_
    refine x_istore d_MD_readBinary_18 (Nat.le_of_ble_eq_true rfl) ?_
    have hw2 : w = 2 := by rw [hwe]; unfold wB; rw [if_pos (by omega)]
    have := loop w 0 0 1 0 (by omega) rfl rfl rfl
    rw [hw2] at this
    exact this
