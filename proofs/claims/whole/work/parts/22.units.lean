/-! a field: form (0 zoned, 1 packed, 2 separate, 3 binary, 4 edited), offset, digits, decimals, signed, symbols, their number, body from, body to, filler, floating -/
abbrev FD : Type := Nat × Nat × Nat × Nat × Int × (Nat → Int) × Nat × Nat × Nat × Int × Int
abbrev fM (D : FD) : Nat := D.1
abbrev fO (D : FD) : Nat := D.2.1
abbrev fN (D : FD) : Nat := D.2.2.1
abbrev fS (D : FD) : Nat := D.2.2.2.1
abbrev fG (D : FD) : Int := D.2.2.2.2.1
abbrev fY (D : FD) : Nat → Int := D.2.2.2.2.2.1
abbrev fC (D : FD) : Nat := D.2.2.2.2.2.2.1
abbrev fH (D : FD) : Nat := D.2.2.2.2.2.2.2.1
abbrev fB (D : FD) : Nat := D.2.2.2.2.2.2.2.2.1
abbrev fI (D : FD) : Int := D.2.2.2.2.2.2.2.2.2.1
abbrev fL (D : FD) : Int := D.2.2.2.2.2.2.2.2.2.2
def fW (D : FD) : Nat := if fM D = 4 then fC D else if fM D = 1 then fN D / 2 + 1 else if fM D = 2 then fN D + 1 else if fM D = 3 then wB (fN D) else fN D
def fDp (D : FD) : Nat → Bool := dp (fY D) (fI D) (fL D) (fH D)
/-- what is always so of a field -/
def fOk (D : FD) : Prop := fM D ≤ 4 ∧ (1 ≤ fN D ∧ fN D ≤ 9) ∧ fS D ≤ 4 ∧ (fG D = 0 ∨ fG D = 1) ∧ fO D + fW D ≤ 64 ∧ (fM D = 4 → sOk (fY D) ∧ fH D ≤ fB D ∧ fB D ≤ fC D ∧ (1 ≤ fC D ∧ fC D ≤ 18) ∧ (0 ≤ fI D ∧ fI D < 65536) ∧ (fL D = 0 ∨ fL D = 1) ∧ nd (fDp D) (fB D - fH D) (fH D) = fN D)
/-- its cells -/
def fAt (h : xH) (f p q : Nat) (D : FD) : Prop := h[f]? = some (oF p (fM D) (fO D) (fW D) (fN D) (fS D) (fG D)) ∧ (fM D = 4 → (∃ dg sc sg ed : Int, h[p]? = some (oP q (fC D) dg sc sg ed (fH D) (fB D) (fI D) (fL D))) ∧ h[q]? = some (aC 18 (fY D)))
def eV (D : FD) (u : Int) (j : Nat) : Int := eTx (fY D) (fI D) (fL D) (fH D) (fB D) (if u < 0 then 1 else 0) u.natAbs j
/-- the number that the digit places of a text show -/
def mgE (B : Nat → Int) (o : Nat) (d : Nat → Bool) : Nat → Nat → Int → Int
  | 0, _, a => a
  | r + 1, i, a => mgE B o d r (i + 1) (if d i = true then 10 * a + (if 0 ≤ B (o + i) - 48 ∧ B (o + i) - 48 ≤ 9 then B (o + i) - 48 else 0) else a)
def mgD (D : FD) (B : Nat → Int) : Int := mgE B (fO D) (fDp D) (fB D - fH D) (fH D) 0
def uE (D : FD) (B : Nat → Int) : Option Int := if tEq B (eV D (mgD D B)) (fO D) (fC D) = true then some (mgD D B) else if fG D = 1 ∧ tEq B (eV D (-mgD D B)) (fO D) (fC D) = true then some (-mgD D B) else none
def uA (D : FD) (B : Nat → Int) : Option Int := if fM D = 4 then uE D B else if fM D = 1 then uP B (fO D) (fN D) (fG D) else if fM D = 2 then uS B (fO D) (fN D) else if fM D = 3 then uB B (fO D) (fN D) (fG D) else uZ B (fO D) (fN D) (fG D)
theorem tEq_congr {B T T' : Nat → Int} {o n : Nat} (h : ∀ j, j < n → T j = T' j) : tEq B T o n = tEq B T' o n := by
  have h1 := tEq_iff B n T o
  have h2 := tEq_iff B n T' o
  cases ha : tEq B T o n <;> cases hb : tEq B T' o n
  · rfl
  · exfalso
    rw [ha] at h1; rw [hb] at h2
    exact absurd (h1.mpr (fun j hj => by rw [h j hj]; exact h2.mp rfl j hj)) (by decide)
  · exfalso
    rw [ha] at h1; rw [hb] at h2
    exact absurd (h2.mpr (fun j hj => by rw [← h j hj]; exact h1.mp rfl j hj)) (by decide)
  · rfl
theorem mgE_r {B : Nat → Int} {o : Nat} {d : Nat → Bool} : ∀ (r i : Nat) (a : Int) (c : Nat), 0 ≤ a → a < 10 ^ c → 0 ≤ mgE B o d r i a ∧ mgE B o d r i a < 10 ^ (c + nd d r i)
  | 0, i, a, c, h1, h2 => ⟨h1, h2⟩
  | r + 1, i, a, c, h1, h2 => by
    unfold mgE nd
    by_cases hd : d i = true
    · rw [if_pos hd, if_pos hd, ← Nat.add_assoc]
      refine mgE_r r (i + 1) _ (c + 1) (by split <;> omega) ?_
      rw [Int.pow_succ]
      split <;> omega
    · rw [if_neg hd, if_neg hd, Nat.zero_add]
      exact mgE_r r (i + 1) _ c h1 h2
theorem mgD_r {D : FD} (hD : fOk D) (h4 : fM D = 4) (B : Nat → Int) : 0 ≤ mgD D B ∧ mgD D B < 1000000000 := by
  obtain ⟨-, hn, -, -, -, h⟩ := hD
  obtain ⟨-, -, -, -, -, -, hnd⟩ := h h4
  have := mgE_r (B := B) (o := fO D) (d := fDp D) (fB D - fH D) (fH D) 0 0 (by decide) (by decide)
  rw [hnd, Nat.zero_add] at this
  have hp := pow10_le (n := fN D) (m := 9) hn.2
  unfold mgD
  omega
set_option maxHeartbeats 2000000 in
theorem c_editedUnits (E : xEnv) (h : xH) (s b e t f p q : Nat) (D : FD) (B T : Nat → Int) (hs : h[s]? = some (oS b e)) (hb : h[b]? = some (aI 64 B)) (he : h[e]? = some (oE t)) (ht : h[t]? = some (aI 18 T)) (hf : fAt h f p q D) (hD : fOk D) (h4 : fM D = 4) (hts : t ≠ s) (htb : t ≠ b) (hte : t ≠ e) (htf : t ≠ f) (htp : t ≠ p) (htq : t ≠ q) (hB : bOk B) (hT : ∀ j, j < 18 → iR (T j)) : xCt E 3 0 0 M_SG_editedUnits [.ref s, .ref f] h (rQ (fun v h' => v = vL ((uE D B).getD nonI) ∧ ∃ T' : Nat → Int, h' = h.set t (aI 18 T') ∧ ∀ j, j < 18 → iR (T' j))) := by
  refine x_met rfl rfl (Nat.le_of_ble_eq_true rfl) ?_
  obtain ⟨Z, hZ⟩ : ∃ Z, Z = (xZ E 0 0 (rQ (fun v h' => v = vL ((uE D B).getD nonI) ∧ ∃ T' : Nat → Int, h' = h.set t (aI 18 T') ∧ ∀ j, j < 18 → iR (T' j)))) := ⟨_, rfl⟩
  obtain ⟨hf1, hf2⟩ := hf
  obtain ⟨⟨dg, sc, sg, ed, hp⟩, hq⟩ := hf2 h4
  have hmr := mgD_r hD h4 B
  obtain ⟨-, hn, hsc, hg, ho, hw⟩ := hD
  obtain ⟨hsy, hhb, hbc, hc18, hfi, hfl, hnd⟩ := hw h4
  have hfw : fW D = fC D := by unfold fW; rw [if_pos h4]
  rw [hfw] at ho hf1
  have back : ∀ x4 x5, X E M_SG_editedUnits 3 0 0 Z 80 [some (.ref s), some (.ref f), some (vL (mgD D B)), none, x4, x5] [] h 0 0 := by
    intro x4 x5
    refine x_aload_n d_SG_editedUnits_80 rfl rfl rfl ?_
    refine x_get 3 1 d_SG_editedUnits_81 gf_SG_18 (by first | assumption | exact hs_self (by assumption) | exact hs_ne (by first | assumption | omega) (by assumption) | exact hs_ne (by first | assumption | omega) (hs_self (by assumption)) | exact hs_ne (by first | assumption | omega) (hs_ne (by first | assumption | omega) (by assumption))) (by rfl) ?_
    refine x_aload_n d_SG_editedUnits_84 rfl rfl rfl ?_
    refine x_get 1 0 d_SG_editedUnits_85 gf_SG_108 (by first | assumption | exact hs_self (by assumption) | exact hs_ne (by first | assumption | omega) (by assumption) | exact hs_ne (by first | assumption | omega) (hs_self (by assumption)) | exact hs_ne (by first | assumption | omega) (hs_ne (by first | assumption | omega) (by assumption))) (by rfl) ?_
    refine x_lload_n d_SG_editedUnits_88 rfl rfl ?_
    refine x_callVp (M' := M_ED_edit) d_SG_editedUnits_89 lk_SG_123 (c_edit E h e t p q (fH D) (fB D) (fC D) dg sc sg ed (fI D) (fL D) (mgD D B) (fY D) T he ht hp hq hte htp htq hsy hhb hbc hc18.2 hfi hfl (by omega) hT) mt_ED_edit im_ED_edit se_ED_edit (by first | assumption | exact hs_self (by assumption) | exact hs_ne (by first | assumption | omega) (by assumption) | exact hs_ne (by first | assumption | omega) (hs_self (by assumption)) | exact hs_ne (by first | assumption | omega) (hs_ne (by first | assumption | omega) (by assumption))) rfl (by decide) rfl (Nat.le_of_ble_eq_true rfl) (by decide) (by decide) ?_
    rintro h' ⟨T1, rfl, hA, hR⟩
    have ht1 := hs_self (e := aI 18 T1) ht
    have he1 : tEq B T1 (fO D) (fC D) = tEq B (eV D (mgD D B)) (fO D) (fC D) := tEq_congr hA
    refine x_aload_n d_SG_editedUnits_92 rfl rfl rfl ?_
    refine x_aload_n d_SG_editedUnits_93 rfl rfl rfl ?_
    refine x_callV1 (M' := M_SG_holdsText) d_SG_editedUnits_94 lk_SG_127 (c_holdsText E _ s b e f p (fO D) (fC D) t (fM D) (fN D) (fS D) (fG D) B T1 (hs_ne hts hs) (hs_ne htb hb) (hs_ne hte he) ht1 (hs_ne htf hf1) ho hc18.2 hB hR) mt_SG_holdsText im_SG_holdsText se_SG_holdsText (by first | assumption | exact hs_self (by assumption) | exact hs_ne (by first | assumption | omega) (by assumption) | exact hs_ne (by first | assumption | omega) (hs_self (by assumption)) | exact hs_ne (by first | assumption | omega) (hs_ne (by first | assumption | omega) (by assumption))) rfl (by decide) rfl (Nat.le_of_ble_eq_true rfl) (by decide) (by decide) ?_
    rw [he1]
    refine j_if_eq 102 d_SG_editedUnits_97 (by decide) (by unfold iR; split <;> omega) (fun c97 => ?_) (fun c97 => ?_)
    · have hno : ¬ tEq B (eV D (mgD D B)) (fO D) (fC D) = true := by
        intro z; rw [if_pos z] at c97; omega
      refine x_aload_n d_SG_editedUnits_102 rfl rfl rfl ?_
      refine x_get 1 6 d_SG_editedUnits_103 gf_SG_44 (by first | assumption | exact hs_self (by assumption) | exact hs_ne (by first | assumption | omega) (by assumption) | exact hs_ne (by first | assumption | omega) (hs_self (by assumption)) | exact hs_ne (by first | assumption | omega) (hs_ne (by first | assumption | omega) (by assumption))) (by rfl) ?_
      refine j_if_ne 113 d_SG_editedUnits_106 (by decide) (by unfold iR; omega) (fun c106 => ?_) (fun c106 => ?_)
      · refine x_aload_n d_SG_editedUnits_113 rfl rfl rfl ?_
        refine x_get 3 1 d_SG_editedUnits_114 gf_SG_18 (by first | assumption | exact hs_self (by assumption) | exact hs_ne (by first | assumption | omega) (by assumption) | exact hs_ne (by first | assumption | omega) (hs_self (by assumption)) | exact hs_ne (by first | assumption | omega) (hs_ne (by first | assumption | omega) (by assumption))) (by rfl) ?_
        refine x_aload_n d_SG_editedUnits_117 rfl rfl rfl ?_
        refine x_get 1 0 d_SG_editedUnits_118 gf_SG_108 (by first | assumption | exact hs_self (by assumption) | exact hs_ne (by first | assumption | omega) (by assumption) | exact hs_ne (by first | assumption | omega) (hs_self (by assumption)) | exact hs_ne (by first | assumption | omega) (hs_ne (by first | assumption | omega) (by assumption))) (by rfl) ?_
        refine x_lload_n d_SG_editedUnits_121 rfl rfl ?_
        refine j_lneg d_SG_editedUnits_122 ?_
        refine x_callVp (M' := M_ED_edit) d_SG_editedUnits_123 lk_SG_123 (c_edit E _ e t p q (fH D) (fB D) (fC D) dg sc sg ed (fI D) (fL D) (-mgD D B) (fY D) T1 (hs_ne hte he) ht1 (hs_ne htp hp) (hs_ne htq hq) hte htp htq hsy hhb hbc hc18.2 hfi hfl (by omega) hR) mt_ED_edit im_ED_edit se_ED_edit (by first | assumption | exact hs_self (by assumption) | exact hs_ne (by first | assumption | omega) (by assumption) | exact hs_ne (by first | assumption | omega) (hs_self (by assumption)) | exact hs_ne (by first | assumption | omega) (hs_ne (by first | assumption | omega) (by assumption))) rfl (by decide) rfl (Nat.le_of_ble_eq_true rfl) (by decide) (by decide) ?_
        rintro h' ⟨T2, rfl, hA2, hR2⟩
        rw [List.set_set]
        have ht2 := hs_self (e := aI 18 T2) ht
        have he2 : tEq B T2 (fO D) (fC D) = tEq B (eV D (-mgD D B)) (fO D) (fC D) := tEq_congr hA2
        refine x_aload_n d_SG_editedUnits_126 rfl rfl rfl ?_
        refine x_aload_n d_SG_editedUnits_127 rfl rfl rfl ?_
        refine x_callV1 (M' := M_SG_holdsText) d_SG_editedUnits_128 lk_SG_127 (c_holdsText E _ s b e f p (fO D) (fC D) t (fM D) (fN D) (fS D) (fG D) B T2 (hs_ne hts hs) (hs_ne htb hb) (hs_ne hte he) ht2 (hs_ne htf hf1) ho hc18.2 hB hR2) mt_SG_holdsText im_SG_holdsText se_SG_holdsText (by first | assumption | exact hs_self (by assumption) | exact hs_ne (by first | assumption | omega) (by assumption) | exact hs_ne (by first | assumption | omega) (hs_self (by assumption)) | exact hs_ne (by first | assumption | omega) (hs_ne (by first | assumption | omega) (by assumption))) rfl (by decide) rfl (Nat.le_of_ble_eq_true rfl) (by decide) (by decide) ?_
        rw [he2]
        refine j_if_eq 139 d_SG_editedUnits_131 (by decide) (by unfold iR; split <;> omega) (fun c131 => ?_) (fun c131 => ?_)
        · have hno2 : ¬ tEq B (eV D (-mgD D B)) (fO D) (fC D) = true := by
            intro z; rw [if_pos z] at c131; omega
          rw [hZ]
          refine x_ldc2 d_SG_editedUnits_139 kl_SG_81 ?_
          refine x_lreturn d_SG_editedUnits_142 rfl ?_
          exact ⟨_, rfl, by unfold uE; rw [if_neg hno, if_neg (fun z => hno2 z.2)]; rfl, T2, rfl, hR2⟩
        · have hyes : tEq B (eV D (-mgD D B)) (fO D) (fC D) = true := by
            by_cases z : tEq B (eV D (-mgD D B)) (fO D) (fC D) = true
            · exact z
            · rw [if_neg z] at c131; exact absurd rfl c131
          rw [hZ]
          refine x_lload_n d_SG_editedUnits_134 rfl rfl ?_
          refine j_lneg d_SG_editedUnits_135 ?_
          refine x_goto 142 d_SG_editedUnits_136 (by decide) ?_
          refine x_lreturn d_SG_editedUnits_142 rfl ?_
          exact ⟨_, rfl, by unfold uE; rw [if_neg hno, if_pos ⟨by omega, hyes⟩]; rfl, T2, rfl, hR2⟩
      · rw [hZ]
        refine x_ldc2 d_SG_editedUnits_109 kl_SG_81 ?_
        refine x_lreturn d_SG_editedUnits_112 rfl ?_
        exact ⟨_, rfl, by unfold uE; rw [if_neg hno, if_neg (by omega)]; rfl, T1, rfl, hR⟩
    · have hyes : tEq B (eV D (mgD D B)) (fO D) (fC D) = true := by
        by_cases z : tEq B (eV D (mgD D B)) (fO D) (fC D) = true
        · exact z
        · rw [if_neg z] at c97; exact absurd rfl c97
      rw [hZ]
      refine x_lload_n d_SG_editedUnits_100 rfl rfl ?_
      refine x_lreturn d_SG_editedUnits_101 rfl ?_
      exact ⟨_, rfl, by unfold uE; rw [if_pos hyes]; rfl, T1, rfl, hR⟩
  have loop : ∀ (r k : Nat) (m i : Int) (c : Nat) (x5 : Option Value), k + r = fB D → fH D ≤ k → i = (k : Int) → 0 ≤ m → m < 10 ^ c → c + nd (fDp D) r k = fN D → mgE B (fO D) (fDp D) r k m = mgD D B → X E M_SG_editedUnits 3 0 0 Z 11 [some (.ref s), some (.ref f), some (vL m), none, some (vI i), x5] [] h 0 0 := by
    intro r
    induction r with
    | zero =>
      intro k m i c x5 hk hhk hi hm0 hm1 hc hmg
      have hmg : m = mgD D B := hmg
      subst hmg
      refine x_iload d_SG_editedUnits_11 rfl ?_
      refine x_aload_n d_SG_editedUnits_13 rfl rfl rfl ?_
      refine x_get 1 0 d_SG_editedUnits_14 gf_SG_108 (by first | assumption | exact hs_self (by assumption) | exact hs_ne (by first | assumption | omega) (by assumption) | exact hs_ne (by first | assumption | omega) (hs_self (by assumption)) | exact hs_ne (by first | assumption | omega) (hs_ne (by first | assumption | omega) (by assumption))) (by rfl) ?_
      refine x_get 2 7 d_SG_editedUnits_17 gf_SG_117 (by first | assumption | exact hs_self (by assumption) | exact hs_ne (by first | assumption | omega) (by assumption) | exact hs_ne (by first | assumption | omega) (hs_self (by assumption)) | exact hs_ne (by first | assumption | omega) (hs_ne (by first | assumption | omega) (by assumption))) (by rfl) ?_
      refine j_icmp_ge 80 d_SG_editedUnits_20 (by decide) (by unfold iR; omega) (by unfold iR; omega) (fun c20 => ?_) (fun c20 => ?_)
      · exact back _ _
      · exfalso; omega
    | succ r ih =>
      intro k m i c x5 hk hhk hi hm0 hm1 hc hmg
      have hb1 := hB (fO D + k) (by omega)
      have hp9 := pow10_le (n := c) (m := 9) (by omega)
      unfold mgE at hmg
      unfold nd at hc
      refine x_iload d_SG_editedUnits_11 rfl ?_
      refine x_aload_n d_SG_editedUnits_13 rfl rfl rfl ?_
      refine x_get 1 0 d_SG_editedUnits_14 gf_SG_108 (by first | assumption | exact hs_self (by assumption) | exact hs_ne (by first | assumption | omega) (by assumption) | exact hs_ne (by first | assumption | omega) (hs_self (by assumption)) | exact hs_ne (by first | assumption | omega) (hs_ne (by first | assumption | omega) (by assumption))) (by rfl) ?_
      refine x_get 2 7 d_SG_editedUnits_17 gf_SG_117 (by first | assumption | exact hs_self (by assumption) | exact hs_ne (by first | assumption | omega) (by assumption) | exact hs_ne (by first | assumption | omega) (hs_self (by assumption)) | exact hs_ne (by first | assumption | omega) (hs_ne (by first | assumption | omega) (by assumption))) (by rfl) ?_
      refine j_icmp_ge 80 d_SG_editedUnits_20 (by decide) (by unfold iR; omega) (by unfold iR; omega) (fun c20 => ?_) (fun c20 => ?_)
      · exfalso; omega
      refine x_aload_n d_SG_editedUnits_23 rfl rfl rfl ?_
      refine x_get 1 0 d_SG_editedUnits_24 gf_SG_108 (by first | assumption | exact hs_self (by assumption) | exact hs_ne (by first | assumption | omega) (by assumption) | exact hs_ne (by first | assumption | omega) (hs_self (by assumption)) | exact hs_ne (by first | assumption | omega) (hs_ne (by first | assumption | omega) (by assumption))) (by rfl) ?_
      refine x_iload d_SG_editedUnits_27 rfl ?_
      refine x_top (w := vI (k : Int)) (by rw [hi]) ?_
      refine x_callV1 (M' := M_PC_isDigitPlace) d_SG_editedUnits_29 lk_SG_120 (c_isDigitPlace E h p q (fH D) k (fC D) dg sc sg ed (fB D) (fI D) (fL D) (fY D) hp hq hsy (by omega) (by omega) hfi hfl) mt_PC_isDigitPlace im_PC_isDigitPlace se_PC_isDigitPlace (by first | assumption | exact hs_self (by assumption) | exact hs_ne (by first | assumption | omega) (by assumption) | exact hs_ne (by first | assumption | omega) (hs_self (by assumption)) | exact hs_ne (by first | assumption | omega) (hs_ne (by first | assumption | omega) (by assumption))) rfl (by decide) rfl (Nat.le_of_ble_eq_true rfl) (by decide) (by decide) ?_
      refine j_if_eq 74 d_SG_editedUnits_32 (by decide) (by unfold iR; split <;> omega) (fun c32 => ?_) (fun c32 => ?_)
      · have hnd : ¬ fDp D k = true := by
          intro z
          have z2 : dp (fY D) (fI D) (fL D) (fH D) k = true := z
          rw [if_pos z2] at c32
          omega
        rw [if_neg hnd] at hmg hc
        refine j_iinc d_SG_editedUnits_74 rfl ?_
        refine x_goto 11 d_SG_editedUnits_77 (by decide) ?_
        exact ih (k + 1) _ _ c _ (by omega) (by omega) (by omega) hm0 hm1 (by omega) hmg
      · have hnd : fDp D k = true := by
          by_cases z : dp (fY D) (fI D) (fL D) (fH D) k = true
          · exact z
          · rw [if_neg z] at c32; exact absurd rfl c32
        rw [if_pos hnd] at hmg hc
        refine x_aload_n d_SG_editedUnits_35 rfl rfl rfl ?_
        refine x_get 3 0 d_SG_editedUnits_36 gf_SG_9 (by first | assumption | exact hs_self (by assumption) | exact hs_ne (by first | assumption | omega) (by assumption) | exact hs_ne (by first | assumption | omega) (hs_self (by assumption)) | exact hs_ne (by first | assumption | omega) (hs_ne (by first | assumption | omega) (by assumption))) (by rfl) ?_
        refine x_aload_n d_SG_editedUnits_39 rfl rfl rfl ?_
        refine x_get 1 2 d_SG_editedUnits_40 gf_SG_61 (by first | assumption | exact hs_self (by assumption) | exact hs_ne (by first | assumption | omega) (by assumption) | exact hs_ne (by first | assumption | omega) (hs_self (by assumption)) | exact hs_ne (by first | assumption | omega) (hs_ne (by first | assumption | omega) (by assumption))) (by rfl) ?_
        refine x_iload d_SG_editedUnits_43 rfl ?_
        refine j_iadd d_SG_editedUnits_45 ?_
        refine j_iald d_SG_editedUnits_46 (by first | assumption | exact hs_self (by assumption) | exact hs_ne (by first | assumption | omega) (by assumption) | exact hs_ne (by first | assumption | omega) (hs_self (by assumption)) | exact hs_ne (by first | assumption | omega) (hs_ne (by first | assumption | omega) (by assumption))) (by omega) (by omega) (by decide) ?_
        refine x_top (w := vI (B (fO D + k))) (by rw [show ((fO D : Int) + i).toNat = fO D + k by omega]) ?_
        refine j_bipush d_SG_editedUnits_47 (by decide) ?_
        refine j_isub d_SG_editedUnits_49 ?_
        refine x_istore d_SG_editedUnits_50 (Nat.le_of_ble_eq_true rfl) ?_
        refine x_ldc2 d_SG_editedUnits_52 kl_SG_83 ?_
        refine x_lload_n d_SG_editedUnits_55 rfl rfl ?_
        refine j_lmul d_SG_editedUnits_56 ?_
        refine x_iload d_SG_editedUnits_57 rfl ?_
        refine x_callS1 (M' := M_SG_isDigit) d_SG_editedUnits_59 lk_SG_73 (c_isDigit E h (B (fO D + k) - 48) (by unfold iR; omega)) mt_SG_isDigit st_SG_isDigit (by decide) rfl (Nat.le_of_ble_eq_true rfl) (by decide) (by decide) ?_
        refine j_if_eq 70 d_SG_editedUnits_62 (by decide) (by unfold iR; split <;> omega) (fun c62 => ?_) (fun c62 => ?_)
        · have hd : ¬ (0 ≤ B (fO D + k) - 48 ∧ B (fO D + k) - 48 ≤ 9) := by
            intro z; rw [if_pos z] at c62; omega
          rw [if_neg hd] at hmg
          refine j_iconst d_SG_editedUnits_70 ?_
          refine j_i2l d_SG_editedUnits_71 (by unfold iR; omega) ?_
          refine j_ladd d_SG_editedUnits_72 ?_
          refine x_lstore_n d_SG_editedUnits_73 rfl (Nat.le_of_ble_eq_true rfl) ?_
          refine j_iinc d_SG_editedUnits_74 rfl ?_
          refine x_goto 11 d_SG_editedUnits_77 (by decide) ?_
          exact ih (k + 1) _ _ (c + 1) _ (by omega) (by omega) (by omega) (by omega) (by rw [Int.pow_succ]; omega) (by omega) hmg
        · have hd : 0 ≤ B (fO D + k) - 48 ∧ B (fO D + k) - 48 ≤ 9 := by
            by_cases z : 0 ≤ B (fO D + k) - 48 ∧ B (fO D + k) - 48 ≤ 9
            · exact z
            · rw [if_neg z] at c62; exact absurd rfl c62
          rw [if_pos hd] at hmg
          refine x_iload d_SG_editedUnits_65 rfl ?_
          refine x_goto 71 d_SG_editedUnits_67 (by decide) ?_
          refine j_i2l d_SG_editedUnits_71 (by unfold iR; omega) ?_
          refine j_ladd d_SG_editedUnits_72 ?_
          refine x_lstore_n d_SG_editedUnits_73 rfl (Nat.le_of_ble_eq_true rfl) ?_
          refine j_iinc d_SG_editedUnits_74 rfl ?_
          refine x_goto 11 d_SG_editedUnits_77 (by decide) ?_
          exact ih (k + 1) _ _ (c + 1) _ (by omega) (by omega) (by omega) (by omega) (by rw [Int.pow_succ]; omega) (by omega) hmg
  rw [← hZ]
  refine j_lconst 0 d_SG_editedUnits_0 (by decide) ?_
  refine x_lstore_n d_SG_editedUnits_1 rfl (Nat.le_of_ble_eq_true rfl) ?_
  refine x_aload_n d_SG_editedUnits_2 rfl rfl rfl ?_
  refine x_get 1 0 d_SG_editedUnits_3 gf_SG_108 (by first | assumption | exact hs_self (by assumption) | exact hs_ne (by first | assumption | omega) (by assumption) | exact hs_ne (by first | assumption | omega) (hs_self (by assumption)) | exact hs_ne (by first | assumption | omega) (hs_ne (by first | assumption | omega) (by assumption))) (by rfl) ?_
  refine x_get 2 6 d_SG_editedUnits_6 gf_SG_112 (by first | assumption | exact hs_self (by assumption) | exact hs_ne (by first | assumption | omega) (by assumption) | exact hs_ne (by first | assumption | omega) (hs_self (by assumption)) | exact hs_ne (by first | assumption | omega) (hs_ne (by first | assumption | omega) (by assumption))) (by rfl) ?_
  refine x_istore d_SG_editedUnits_9 (Nat.le_of_ble_eq_true rfl) ?_
  exact loop (fB D - fH D) (fH D) 0 _ 0 _ (by omega) (Nat.le_refl _) rfl (by decide) (by decide) (by rw [hnd]; omega) rfl
