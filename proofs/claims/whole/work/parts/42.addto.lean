theorem shl_k {k : Nat} (h : k < 12) : (iI 1 <<< (iI (k : Int) &&& 31)) = iI (2 ^ k) := by
  have hk : k = 0 ∨ k = 1 ∨ k = 2 ∨ k = 3 ∨ k = 4 ∨ k = 5 ∨ k = 6 ∨ k = 7 ∨ k = 8 ∨ k = 9 ∨ k = 10 ∨ k = 11 := by omega
  rcases hk with rfl | rfl | rfl | rfl | rfl | rfl | rfl | rfl | rfl | rfl | rfl | rfl <;> decide
abbrev aO (x : Int) (sa : Nat) (md : Int) (H : Nat → Int) (k : Nat) (D : FD) : Option Int := sRes (H k * 10 ^ sa + x * 10 ^ fS D) (10 ^ fS D * 10 ^ sa) (fS D) (fN D) md
/-- x is added to the fields k, k + 1 .. -/
def aLp (x : Int) (sa : Nat) (md : Int) (H : Nat → Int) : Nat → Nat → ST → Int → Int × ST
  | 0, _, S, e => (e, S)
  | r + 1, k, S, e => if fM (zD S k) = 4 then aLp x sa md H r (k + 1) S e else aLp x sa md H r (k + 1) (sRs S k (aO x sa md H k (zD S k))) (e + e01 (aO x sa md H k (zD S k)) * 2 ^ k)
theorem aLp_1 {x : Int} {sa : Nat} {md : Int} {H : Nat → Int} {r k : Nat} {S : ST} {e : Int} (h : fM (zD S k) = 4) : aLp x sa md H (r + 1) k S e = aLp x sa md H r (k + 1) S e := by
  conv => lhs; unfold aLp
  rw [if_pos h]
theorem aLp_2 {x : Int} {sa : Nat} {md : Int} {H : Nat → Int} {r k : Nat} {S : ST} {e : Int} (h : ¬ fM (zD S k) = 4) : aLp x sa md H (r + 1) k S e = aLp x sa md H r (k + 1) (sRs S k (aO x sa md H k (zD S k))) (e + e01 (aO x sa md H k (zD S k)) * 2 ^ k) := by
  conv => lhs; unfold aLp
  rw [if_neg h]
abbrev rng (S : ST) (f l : Int) : Prop := 0 ≤ f ∧ f ≤ l ∧ l < zN S
abbrev okA (S : ST) (a f l md : Int) : Prop := (0 ≤ md ∧ md ≤ 7) ∧ opd S a ∧ rng S f l
def fAddTo (S : ST) (a f l md : Int) : Int × ST := if okA S a f l md then (match gU' S a with
  | none => (-2, sUn S)
  | some x => if hB S (l.toNat + 1 - f.toNat) f.toNat = true then aLp x (gS S a) md (hU S) (l.toNat + 1 - f.toNat) f.toNat S 0 else (-2, sUn S)) else (-1, S)
theorem fAddTo_d {S : ST} {a f l md : Int} (h : okA S a f l md) (hn : gU' S a = none ∨ hB S (l.toNat + 1 - f.toNat) f.toNat = false) : fAddTo S a f l md = (-2, sUn S) := by
  unfold fAddTo
  rw [if_pos h]
  rcases hn with hn | hn
  · rw [hn]
  · rw [hn]; cases gU' S a <;> rfl
theorem fAddTo_s {S : ST} {a f l md x : Int} (h : okA S a f l md) (hx : gU' S a = some x) (hb : hB S (l.toNat + 1 - f.toNat) f.toNat = true) : fAddTo S a f l md = aLp x (gS S a) md (hU S) (l.toNat + 1 - f.toNat) f.toNat S 0 := by
  unfold fAddTo
  rw [if_pos h, hx]
  show (if _ then _ else _) = _
  rw [if_pos hb]
set_option maxHeartbeats 4000000 in
theorem w_addTo {E : xEnv} {h : xH} {po : Nat} {Y : LY} {S : ST} (a f l md : Int) (hO : SO S) (hW : CW h po Y S) (ha : iR a) (hf : iR f) (hl : iR l) (hmd : iR md) : xCt E 6 0 0 M_PR_addTo [.ref po, vI a, vI f, vI l, vI md] h (rQ (pC po Y h (fAddTo S a f l md))) := by
  refine x_met rfl rfl (Nat.le_of_ble_eq_true rfl) ?_
  have w0 := hW.1
  have h12 := hO.1
  obtain ⟨T, s1, s2, s3, s4, s5, s6⟩ := hW.2.2.2.1
  have ra := gF_rf S Y a
  obtain ⟨Z, hZ⟩ : ∃ Z, Z = (xZ E 0 0 (rQ (pC po Y h (fAddTo S a f l md)))) := ⟨_, rfl⟩
  rw [← hZ]
  have bad : ¬ okA S a f l md → ∀ L : List (Option Value), X E M_PR_addTo 6 0 0 Z 32 L [] h 0 0 := by
    intro hb L
    rw [hZ]
    refine j_iconst d_PR_addTo_32 ?_
    refine x_ireturn d_PR_addTo_33 rfl ?_
    unfold fAddTo
    rw [if_neg hb]
    exact ⟨_, rfl, rfl, hW, frC_refl _ _⟩
  have main : okA S a f l md → X E M_PR_addTo 6 0 0 Z 34 [some (.ref po), some (vI a), some (vI f), some (vI l), some (vI md), some (.ref (lF' Y a.toNat)), none, none, none, none, none, none, none, none, none] [] h 0 0 := by
    intro hk
    have hk0 := hk
    obtain ⟨hmd2, ⟨ha1, ha2⟩, hr1, hr2, hr3⟩ := hk
    have hia : a.toNat < zN S := by omega
    obtain ⟨i, rfl⟩ : ∃ i : Nat, f = (i : Int) := ⟨f.toNat, by omega⟩
    obtain ⟨j, rfl⟩ : ∃ j : Nat, l = (j : Int) := ⟨l.toNat, by omega⟩
    have hDa := (hO.2.2.2.2 _ hia).1
    have hua := uA_9 hDa s6
    have hla := uA_l hDa s6
    have hsa := hDa.2.2.1
    refine x_aload_n d_PR_addTo_34 rfl rfl (by first | rfl | assumption) ?_
    refine x_get 4 5 d_PR_addTo_35 gf_PR_29 (by repeat (first | assumption | exact hs_self (by assumption) | exact hs_self (hs_ne (by omega) (by assumption)) | exact hs_self (hs_ne (by omega) (hs_ne (by omega) (by assumption))) | refine hs_ne (by omega) ?_)) (by rfl) ?_
    refine x_aload d_PR_addTo_38 rfl (by first | rfl | assumption) ?_
    refine x_callVq (M' := M_SG_unitsOf) d_PR_addTo_40 lk_PR_89 (w_unitsOf a.toNat hO hW hia) mt_SG_unitsOf im_SG_unitsOf se_SG_unitsOf (by repeat (first | assumption | exact hs_self (by assumption) | exact hs_self (hs_ne (by omega) (by assumption)) | exact hs_self (hs_ne (by omega) (hs_ne (by omega) (by assumption))) | refine hs_ne (by omega) ?_)) rfl (by decide) rfl (Nat.le_of_ble_eq_true rfl) (by decide) (by decide) ?_
    rintro v h1 ⟨rfl, hW1, hf1, -⟩
    have w01 := hW1.1
    have dErr : (gU' S a = none ∨ hB S (((j : Nat) : Int).toNat + 1 - ((i : Nat) : Int).toNat) ((i : Nat) : Int).toNat = false) → ∀ (L : List (Option Value)) (h2 : xH), L[0]? = some (some (.ref po)) → CW h2 po Y S → frC po h h2 → X E M_PR_addTo 6 0 0 Z 63 L [] h2 0 0 := by
      intro hn L h2 hL hW2 hf2
      have w02 := hW2.1
      refine x_aload_n d_PR_addTo_63 rfl hL rfl ?_
      refine x_callVq (M' := M_PR_dataError) d_PR_addTo_64 lk_PR_97 (w_dataError hW2) mt_PR_dataError im_PR_dataError se_PR_dataError (by repeat (first | assumption | exact hs_self (by assumption) | exact hs_self (hs_ne (by omega) (by assumption)) | exact hs_self (hs_ne (by omega) (hs_ne (by omega) (by assumption))) | refine hs_ne (by omega) ?_)) rfl (by decide) rfl (Nat.le_of_ble_eq_true rfl) (by decide) (by decide) ?_
      rintro v h3 ⟨rfl, hW3, hf3⟩
      rw [hZ]
      refine x_ireturn d_PR_addTo_67 rfl ?_
      rw [fAddTo_d hk0 hn]
      exact ⟨_, rfl, rfl, hW3, frC_trans hf2 hf3⟩
    refine x_lstore d_PR_addTo_43 (Nat.le_of_ble_eq_true rfl) ?_
    refine x_lload d_PR_addTo_45 rfl ?_
    refine x_ldc2 d_PR_addTo_47 kl_PR_87 ?_
    refine j_lcmp_eq 63 d_PR_addTo_50 d_PR_addTo_51 (by decide) hla.1 nonI_lR (fun c50 => ?_) (fun c50 => ?_)
    · exact dErr (Or.inl (hla.2.mp c50)) _ _ rfl hW1 hf1
    · obtain ⟨x, hx⟩ : ∃ x, gU' S a = some x := Option.ne_none_iff_exists'.mp (fun q => c50 (hla.2.mpr q))
      have hxb := hua x hx
      refine x_aload_n d_PR_addTo_54 rfl rfl (by first | rfl | assumption) ?_
      refine x_iload_n d_PR_addTo_55 rfl rfl ?_
      refine x_iload_n d_PR_addTo_56 rfl rfl ?_
      refine x_callVq (M' := M_PR_readRange) d_PR_addTo_57 lk_PR_135 (w_readRange i j hO hW1 (by omega) (by omega)) mt_PR_readRange im_PR_readRange se_PR_readRange (by repeat (first | assumption | exact hs_self (by assumption) | exact hs_self (hs_ne (by omega) (by assumption)) | exact hs_self (hs_ne (by omega) (hs_ne (by omega) (by assumption))) | refine hs_ne (by omega) ?_)) rfl (by decide) rfl (Nat.le_of_ble_eq_true rfl) (by decide) (by decide) ?_
      rintro v h2 ⟨hW2, hf2, U, hU2, rfl, hUU⟩
      have hf' := frC_trans hf1 hf2
      refine j_if_ne 68 d_PR_addTo_60 (by decide) (by unfold iR; split <;> omega) (fun c60 => ?_) (fun c60 => ?_)
      · rw [ite10] at c60
        have hb := Classical.not_not.mp c60
        have hUk := hUU hb
        rw [fAddTo_s hk0 hx (by rw [Int.toNat_natCast, Int.toNat_natCast]; exact hb)] at hZ
        rw [Int.toNat_natCast, Int.toNat_natCast] at hZ
        rw [show uA (zD S a.toNat) (zB S) = some x from hx]
        refine x_loc (L' := [some (.ref po), some (vI a), some (vI i), some (vI j), some (vI md), some (.ref (lF' Y a.toNat)), some (vL x), none, none, none, none, none, none, none, none]) rfl ?_
        have a2 := (hW2.2.2.2.2.2.2 a.toNat hia).1.1
        have hpa := pow10_le (n := 4 - fS (zD S a.toNat)) (m := 4) (by omega)
        have hpa0 := pow10_pos (4 - fS (zD S a.toNat))
        have hm1 := mul_abs_lt (a := x) (b := 10 ^ (4 - fS (zD S a.toNat))) (x := 1000000000) (y := 10000) hxb (by omega) (by decide)
        have loop : ∀ (r c : Nat) (h3 : xH) (S3 : ST) (x12 x13 : Option Value) (z e : Int), c + r = j + 1 → i ≤ c → z = (c : Int) → zN S3 = zN S → zD S3 = zD S → SO S3 → CW h3 po Y S3 → frC po h h3 → h3[po + 9]? = some (aL 12 U) → aLp x (gS S a) md (hU S) (j + 1 - i) i S 0 = aLp x (gS S a) md (hU S) r c S3 e → X E M_PR_addTo 6 0 0 Z 86 [some (.ref po), some (vI a), some (vI i), some (vI j), some (vI md), some (.ref (lF' Y a.toNat)), some (vL x), none, some (vL (x * 10 ^ (4 - fS (zD S a.toNat)))), none, some (vI e), some (vI z), x12, x13, none] [] h3 0 0 := by
          intro r
          induction r with
          | zero =>
            intro c h3 S3 x12 x13 z e hc hic hz hN3 hD3 hO3 hW3 hf3 hU3 hal
            subst hz
            refine x_iload d_PR_addTo_86 rfl ?_
            refine x_iload_n d_PR_addTo_88 rfl rfl ?_
            refine j_icmp_gt 158 d_PR_addTo_89 (by decide) (by unfold iR; omega) (by unfold iR; omega) (fun c89 => ?_) (fun c89 => ?_)
            · rw [hZ, hal]
              refine x_iload d_PR_addTo_158 rfl ?_
              refine x_ireturn d_PR_addTo_160 rfl ?_
              exact ⟨_, rfl, rfl, hW3, hf3⟩
            · exfalso; omega
          | succ r ih =>
            intro c h3 S3 x12 x13 z e hc hic hz hN3 hD3 hO3 hW3 hf3 hU3 hal
            subst hz
            have hcn : c < zN S3 := by omega
            have w03 := hW3.1
            refine x_iload d_PR_addTo_86 rfl ?_
            refine x_iload_n d_PR_addTo_88 rfl rfl ?_
            refine j_icmp_gt 158 d_PR_addTo_89 (by decide) (by unfold iR; omega) (by unfold iR; omega) (fun c89 => ?_) (fun c89 => ?_)
            · exfalso; omega
            · refine x_aload_n d_PR_addTo_92 rfl rfl (by first | rfl | assumption) ?_
              refine x_iload d_PR_addTo_93 rfl ?_
              refine x_callV1 (M' := M_PR_fieldAt) d_PR_addTo_95 lk_PR_59 (w_fieldAt' c hO3 hW3 hcn) mt_PR_fieldAt im_PR_fieldAt se_PR_fieldAt (by repeat (first | assumption | exact hs_self (by assumption) | exact hs_self (hs_ne (by omega) (by assumption)) | exact hs_self (hs_ne (by omega) (hs_ne (by omega) (by assumption))) | refine hs_ne (by omega) ?_)) rfl (by decide) rfl (Nat.le_of_ble_eq_true rfl) (by decide) (by decide) ?_
              refine x_astore d_PR_addTo_98 (Nat.le_of_ble_eq_true rfl) (by first | rfl | assumption) ?_
              refine x_aload d_PR_addTo_100 rfl (by first | rfl | assumption) ?_
              refine x_callS1 (M' := M_PR_isOperand) d_PR_addTo_102 lk_PR_107 (w_isOperand' c hO3 hW3 hcn) mt_PR_isOperand st_PR_isOperand (by decide) rfl (Nat.le_of_ble_eq_true rfl) (by decide) (by decide) ?_
              refine j_if_eq 152 d_PR_addTo_105 (by decide) (by unfold iR; split <;> omega) (fun c105 => ?_) (fun c105 => ?_)
              · rw [ite01] at c105
                refine j_iinc d_PR_addTo_152 rfl ?_
                refine x_goto 86 d_PR_addTo_155 (by decide) ?_
                exact ih (c + 1) h3 S3 _ _ _ e (by omega) (by omega) (by omega) hN3 hD3 hO3 hW3 hf3 hU3 (by rw [hal, aLp_1 c105])
              · rw [ite01] at c105
                rw [aLp_2 c105] at hal
                have hcu := hUk c hic (by omega) (by rw [← hD3]; exact c105)
                have hhu : hU S c = U c := by unfold hU; rw [hcu]; rfl
                have hDc := (hO.2.2.2.2 c (by omega)).1
                have hub := uA_9 hDc s6 _ hcu
                have hDc3 := (hO3.2.2.2.2 c hcn).1
                have hsc := hDc3.2.2.1
                have hnc := hDc3.2.1
                have f3 := (hW3.2.2.2.2.2.2 c hcn).1.1
                generalize hDg : zD S3 c = D at *
                have hpc := pow10_le (n := 4 - fS D) (m := 4) (by omega)
                have hpc0 := pow10_pos (4 - fS D)
                have hm2 := mul_abs_lt (a := U c) (b := 10 ^ (4 - fS D)) (x := 1000000000) (y := 10000) hub (by omega) (by decide)
                obtain ⟨o, ho⟩ : ∃ o, o = aO x (gS S a) md (hU S) c D := ⟨_, rfl⟩
                rw [← ho] at hal
                have hce : cRes (U c * 10 ^ (4 - fS D) + x * 10 ^ (4 - fS (zD S a.toNat))) ((4 : Nat) : Int) 1 (fS (zD S3 c)) (fN (zD S3 c)) md = o := by
                  rw [ho, hDg, cRes1 hnc.2, sRes4 hsc hsa]
                  show _ = sRes (hU S c * _ + _) _ _ _ _
                  rw [hhu]
                refine x_aload_n d_PR_addTo_108 rfl rfl (by first | rfl | assumption) ?_
                refine x_get 4 6 d_PR_addTo_109 gf_PR_33 (by repeat (first | assumption | exact hs_self (by assumption) | exact hs_self (hs_ne (by omega) (by assumption)) | exact hs_self (hs_ne (by omega) (hs_ne (by omega) (by assumption))) | refine hs_ne (by omega) ?_)) (by rfl) ?_
                refine x_iload d_PR_addTo_112 rfl ?_
                refine j_lald d_PR_addTo_114 (by repeat (first | assumption | exact hs_self (by assumption) | exact hs_self (hs_ne (by omega) (by assumption)) | exact hs_self (hs_ne (by omega) (hs_ne (by omega) (by assumption))) | refine hs_ne (by omega) ?_)) (by omega) (by omega) (by decide) ?_
                rw [Int.toNat_natCast]
                refine x_aload d_PR_addTo_115 rfl (by first | rfl | assumption) ?_
                refine x_get 1 5 d_PR_addTo_117 gf_PR_69 (by repeat (first | assumption | exact hs_self (by assumption) | exact hs_self (hs_ne (by omega) (by assumption)) | exact hs_self (hs_ne (by omega) (hs_ne (by omega) (by assumption))) | refine hs_ne (by omega) ?_)) (by rfl) ?_
                refine x_callS1 (M' := M_DC_atFullScale) d_PR_addTo_120 lk_PR_115 (c_atFull E h3 (U c) (fS D) hsc) mt_DC_atFullScale st_DC_atFullScale (by decide) rfl (Nat.le_of_ble_eq_true rfl) (by decide) (by decide) ?_
                refine x_lload d_PR_addTo_123 rfl ?_
                refine j_ladd d_PR_addTo_125 ?_
                refine x_lstore d_PR_addTo_126 (Nat.le_of_ble_eq_true rfl) ?_
                refine x_aload_n d_PR_addTo_128 rfl rfl (by first | rfl | assumption) ?_
                refine x_aload d_PR_addTo_129 rfl (by first | rfl | assumption) ?_
                refine x_lload d_PR_addTo_131 rfl ?_
                refine j_iconst d_PR_addTo_133 ?_
                refine j_lconst 1 d_PR_addTo_134 (by decide) ?_
                refine x_iload d_PR_addTo_135 rfl ?_
                refine x_callVq (M' := M_PR_storeResult) d_PR_addTo_137 lk_PR_111 (w_storeResult c _ 4 1 md o hO3 hW3 hcn (by omega) (by rw [hDg]; omega) (by decide) hmd2 hce) mt_PR_storeResult im_PR_storeResult se_PR_storeResult (by repeat (first | assumption | exact hs_self (by assumption) | exact hs_self (hs_ne (by omega) (by assumption)) | exact hs_self (hs_ne (by omega) (hs_ne (by omega) (by assumption))) | refine hs_ne (by omega) ?_)) rfl (by decide) rfl (Nat.le_of_ble_eq_true rfl) (by decide) (by decide) ?_
                rintro v h4 ⟨rfl, hW4, hf4, hu4⟩
                have he := e01_r o
                have hO4 := SO_sRs (j := c) o hO3 hcn
                refine j_if_ne 152 d_PR_addTo_140 (by decide) (by unfold iR; omega) (fun c140 => ?_) (fun c140 => ?_)
                · refine j_iinc d_PR_addTo_152 rfl ?_
                  refine x_goto 86 d_PR_addTo_155 (by decide) ?_
                  refine ih (c + 1) h4 (sRs S3 c o) _ _ _ e (by omega) (by omega) (by omega) hN3 hD3 hO4 hW4 (frC_trans hf3 hf4) (by rw [hu4]; exact hU3) ?_
                  rw [hal, show e01 o = 0 by omega, Int.zero_mul, Int.add_zero]
                · refine x_iload d_PR_addTo_143 rfl ?_
                  refine j_iconst d_PR_addTo_145 ?_
                  refine x_iload d_PR_addTo_146 rfl ?_
                  refine x_ishl d_PR_addTo_148 ?_
                  refine x_top (w := vI (2 ^ c)) (by rw [shl_k (by omega)]) ?_
                  refine j_iadd d_PR_addTo_149 ?_
                  refine x_istore d_PR_addTo_150 (Nat.le_of_ble_eq_true rfl) ?_
                  refine j_iinc d_PR_addTo_152 rfl ?_
                  refine x_goto 86 d_PR_addTo_155 (by decide) ?_
                  refine ih (c + 1) h4 (sRs S3 c o) _ _ _ _ (by omega) (by omega) (by omega) hN3 hD3 hO4 hW4 (frC_trans hf3 hf4) (by rw [hu4]; exact hU3) ?_
                  rw [hal, show e01 o = 1 by omega, Int.one_mul]
        refine x_lload d_PR_addTo_68 rfl ?_
        refine x_aload d_PR_addTo_70 rfl (by first | rfl | assumption) ?_
        refine x_get 1 5 d_PR_addTo_72 gf_PR_69 (by repeat (first | assumption | exact hs_self (by assumption) | exact hs_self (hs_ne (by omega) (by assumption)) | exact hs_self (hs_ne (by omega) (hs_ne (by omega) (by assumption))) | refine hs_ne (by omega) ?_)) (by rfl) ?_
        refine x_callS1 (M' := M_DC_atFullScale) d_PR_addTo_75 lk_PR_115 (c_atFull E h2 x _ hsa) mt_DC_atFullScale st_DC_atFullScale (by decide) rfl (Nat.le_of_ble_eq_true rfl) (by decide) (by decide) ?_
        refine x_lstore d_PR_addTo_78 (Nat.le_of_ble_eq_true rfl) ?_
        refine j_iconst d_PR_addTo_80 ?_
        refine x_istore d_PR_addTo_81 (Nat.le_of_ble_eq_true rfl) ?_
        refine x_iload_n d_PR_addTo_83 rfl rfl ?_
        refine x_istore d_PR_addTo_84 (Nat.le_of_ble_eq_true rfl) ?_
        exact loop (j + 1 - i) i h2 S _ _ _ _ (by omega) (by omega) rfl rfl rfl hO hW2 hf' hU2 rfl
      · rw [ite10] at c60
        exact dErr (Or.inr (by rw [Int.toNat_natCast, Int.toNat_natCast]; exact Bool.eq_false_iff.mpr c60)) _ _ rfl hW2 hf'
  refine x_aload_n d_PR_addTo_0 rfl rfl (by first | rfl | assumption) ?_
  refine x_iload_n d_PR_addTo_1 rfl rfl ?_
  refine x_callV1 (M' := M_PR_fieldAt) d_PR_addTo_2 lk_PR_59 (w_fieldAt a hO hW ha) mt_PR_fieldAt im_PR_fieldAt se_PR_fieldAt (by repeat (first | assumption | exact hs_self (by assumption) | exact hs_self (hs_ne (by omega) (by assumption)) | exact hs_self (hs_ne (by omega) (hs_ne (by omega) (by assumption))) | refine hs_ne (by omega) ?_)) rfl (by decide) rfl (Nat.le_of_ble_eq_true rfl) (by decide) (by decide) ?_
  refine x_astore d_PR_addTo_5 (Nat.le_of_ble_eq_true rfl) (by first | rfl | assumption) ?_
  refine x_loc (L' := [some (.ref po), some (vI a), some (vI f), some (vI l), some (vI md), some (gF S Y a), none, none, none, none, none, none, none, none, none]) (by unfold gF; split <;> rfl) ?_
  refine x_iload d_PR_addTo_7 rfl ?_
  refine x_callS1 (M' := M_PR_isMode) d_PR_addTo_9 lk_PR_104 (c_isMode E h md hmd) mt_PR_isMode st_PR_isMode (by decide) rfl (Nat.le_of_ble_eq_true rfl) (by decide) (by decide) ?_
  refine j_if_eq 32 d_PR_addTo_12 (by decide) (by unfold iR; split <;> omega) (fun c12 => ?_) (fun c12 => ?_)
  · rw [ite10] at c12
    exact bad (fun x => c12 x.1) _
  · rw [ite10] at c12
    refine x_aload d_PR_addTo_15 rfl (by first | rfl | assumption) ?_
    refine x_callS1 (M' := M_PR_isOperand) d_PR_addTo_17 lk_PR_107 (w_isOperand a hO hW) mt_PR_isOperand st_PR_isOperand (by decide) rfl (Nat.le_of_ble_eq_true rfl) (by decide) (by decide) ?_
    refine j_if_eq 32 d_PR_addTo_20 (by decide) (op01_i S a) (fun c20 => ?_) (fun c20 => ?_)
    · exact bad (fun x => op01_0.mp c20 x.2.1) _
    · refine x_aload_n d_PR_addTo_23 rfl rfl (by first | rfl | assumption) ?_
      refine x_iload_n d_PR_addTo_24 rfl rfl ?_
      refine x_iload_n d_PR_addTo_25 rfl rfl ?_
      refine x_callV1 (M' := M_PR_isRange) d_PR_addTo_26 lk_PR_131 (c_isRange E h po (lS Y) (zN S) (zL S) (zE S) (zF S) f l w0 hO.1 hf hl) mt_PR_isRange im_PR_isRange se_PR_isRange (by repeat (first | assumption | exact hs_self (by assumption) | exact hs_self (hs_ne (by omega) (by assumption)) | exact hs_self (hs_ne (by omega) (hs_ne (by omega) (by assumption))) | refine hs_ne (by omega) ?_)) rfl (by decide) rfl (Nat.le_of_ble_eq_true rfl) (by decide) (by decide) ?_
      refine j_if_ne 34 d_PR_addTo_29 (by decide) (by unfold iR; split <;> omega) (fun c29 => ?_) (fun c29 => ?_)
      · rw [ite10] at c29
        have hoa := opd_of c20
        rw [gF_pos hoa.1]
        exact main ⟨Classical.not_not.mp c12, hoa, Classical.not_not.mp c29⟩
      · rw [ite10] at c29
        exact bad (fun x => c29 x.2.2) _
