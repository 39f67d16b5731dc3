/-! edited pictures -/
abbrev bodOk (pt sc fc : Nat) (fi : Int) : Prop := pt ≤ 1 ∧ ¬ (pt = 1 ∧ sc = 0) ∧ (flo fi → 2 ≤ fc)
abbrev bodR (G : Nat → Int) (bs be : Nat) : Option BS := bL G (be - bs) bs (0, 0, 0, 32, 0)
def bodNo (G : Nat → Int) (bs be : Nat) : Prop := bs < be → ¬ ins (G bs) → ∀ nn pt sc fc fi, bodR G bs be = some (nn, pt, sc, fi, fc) → ¬ bodOk pt sc fc fi
def bodYes (G : Nat → Int) (bs be : Nat) (dg sc fi fl : Int) : Prop := (bs < be ∧ ¬ ins (G bs)) ∧ ∃ nn pt sc' fc : Nat, bodR G bs be = some (nn, pt, sc', fi, fc) ∧ bodOk pt sc' fc fi ∧ sc = sc' ∧ dg = eDg nn fc fi ∧ (fl = if flo fi then 1 else 0) ∧ eDg nn fc fi ≤ 36 ∧ sc' ≤ 18 ∧ 0 ≤ fi ∧ fi ≤ 126
section PCB
variable {E : xEnv} {h : xH} {p q : Nat} {G : Nat → Int}
set_option maxHeartbeats 2000000 in
theorem c_readBody {bs be : Nat} {ct dg0 sc0 sg ed fi0 fl0 : Int} (hp : h[p]? = some (oP q ct dg0 sc0 sg ed bs be fi0 fl0)) (hq : h[q]? = some (aC 18 G)) (hpq : p ≠ q) (hbe : be ≤ 18) (hbs : bs ≤ 18) (hG : ∀ j, j < 18 → 0 ≤ G j ∧ G j ≤ 126) : xCt E 6 0 0 M_PC_readBody [.ref p] h (rQ (fun w h' => ∃ dg sc fi fl : Int, h' = h.set p (oP q ct dg sc sg ed bs be fi fl) ∧ ((w = vI 0 ∧ bodNo G bs be) ∨ (w = vI 1 ∧ bodYes G bs be dg sc fi fl)))) := by
  refine x_met rfl rfl (Nat.le_of_ble_eq_true rfl) ?_
  obtain ⟨Z, hZ⟩ : ∃ Z, Z = (xZ E 0 0 (rQ (fun w h' => ∃ dg sc fi fl : Int, h' = h.set p (oP q ct dg sc sg ed bs be fi fl) ∧ ((w = vI 0 ∧ bodNo G bs be) ∨ (w = vI 1 ∧ bodYes G bs be dg sc fi fl))))) := ⟨_, rfl⟩
  rw [← hZ]
  refine x_aload_n d_PC_readBody_0 rfl rfl (by first | rfl | assumption) ?_
  refine x_get 2 6 d_PC_readBody_1 gf_PC_87 (by repeat (first | assumption | exact hs_self (by assumption) | exact hs_self (hs_ne (by omega) (by assumption)) | exact hs_self (hs_ne (by omega) (hs_ne (by omega) (by assumption))) | refine hs_ne (by omega) ?_)) (by rfl) ?_
  refine x_aload_n d_PC_readBody_4 rfl rfl (by first | rfl | assumption) ?_
  refine x_get 2 7 d_PC_readBody_5 gf_PC_90 (by repeat (first | assumption | exact hs_self (by assumption) | exact hs_self (hs_ne (by omega) (by assumption)) | exact hs_self (hs_ne (by omega) (hs_ne (by omega) (by assumption))) | refine hs_ne (by omega) ?_)) (by rfl) ?_
  refine j_icmp_ge 28 d_PC_readBody_8 (by decide) (by unfold iR; omega) (by unfold iR; omega) (fun c8 => ?_) (fun c8 => ?_)
  · rw [hZ]
    refine j_iconst d_PC_readBody_28 ?_
    refine j_zreturn d_PC_readBody_29 rfl (by omega) ?_
    exact ⟨_, rfl, dg0, sc0, fi0, fl0, (hset_id hp).symm, Or.inl ⟨rfl, fun x => by omega⟩⟩
  have hGb := hG bs (by omega)
  refine x_ldcS d_PC_readBody_11 (List.mem_of_getElem? (i := 2) rfl) ?_
  refine x_aload_n d_PC_readBody_13 rfl rfl (by first | rfl | assumption) ?_
  refine x_get 2 0 d_PC_readBody_14 gf_PC_9 (by repeat (first | assumption | exact hs_self (by assumption) | exact hs_self (hs_ne (by omega) (by assumption)) | exact hs_self (hs_ne (by omega) (hs_ne (by omega) (by assumption))) | refine hs_ne (by omega) ?_)) (by rfl) ?_
  refine x_aload_n d_PC_readBody_17 rfl rfl (by first | rfl | assumption) ?_
  refine x_get 2 6 d_PC_readBody_18 gf_PC_87 (by repeat (first | assumption | exact hs_self (by assumption) | exact hs_self (hs_ne (by omega) (by assumption)) | exact hs_self (hs_ne (by omega) (hs_ne (by omega) (by assumption))) | refine hs_ne (by omega) ?_)) (by rfl) ?_
  refine j_cald d_PC_readBody_21 (by repeat (first | assumption | exact hs_self (by assumption) | exact hs_self (hs_ne (by omega) (by assumption)) | exact hs_self (hs_ne (by omega) (hs_ne (by omega) (by assumption))) | refine hs_ne (by omega) ?_)) (by omega) (by omega) (by decide) ?_
  refine x_top (w := vI (G bs)) rfl ?_
  refine x_callS1 (M' := M_PC_isOneOf) d_PC_readBody_22 lk_PC_63 (c_ins E h (G bs) hGb) mt_PC_isOneOf st_PC_isOneOf (by decide) rfl (Nat.le_of_ble_eq_true rfl) (by decide) (by decide) ?_
  refine j_if_eq 30 d_PC_readBody_25 (by decide) iteR (fun c25 => ?_) (fun c25 => ?_)
  rotate_left
  · rw [ite11] at c25
    rw [hZ]
    refine j_iconst d_PC_readBody_28 ?_
    refine j_zreturn d_PC_readBody_29 rfl (by omega) ?_
    exact ⟨_, rfl, dg0, sc0, fi0, fl0, (hset_id hp).symm, Or.inl ⟨rfl, fun _ x => absurd c25 x⟩⟩
  rw [ite10] at c25
  have loop : ∀ (r i nn pt sc fc : Nat) (fi z y1 y2 b ys : Int) (x5 : Option Value), i + r = be → bs ≤ i → z = i → y1 = fc → y2 = nn → b = pt → ys = sc → pt ≤ 1 → nn + fc ≤ i → sc ≤ i → (0 ≤ fi ∧ fi ≤ 126) → (fi = 32 ∧ fc = 0 ∨ fil fi ∧ 0 < fc) → bL G r i (nn, pt, sc, fi, fc) = bodR G bs be → X E M_PC_readBody 6 0 0 Z 53 [some (.ref p), some (vI y1), some (vI y2), some (vI b), some (vI z), x5] [] (h.set p (oP q ct dg0 ys sg ed bs be fi fl0)) 0 0 := by
    intro r
    induction r with
    | zero =>
      intro i nn pt sc fc fi z y1 y2 b ys x5 hi hbi hz hy1 hy2 hb hys hpt h1 h2 hfi hff hn
      have hn : some (nn, pt, sc, fi, fc) = bodR G bs be := hn
      obtain ⟨v, hv, hv01⟩ : ∃ v : Int, v = (if flo fi then 1 else 0) ∧ (v = 0 ∨ v = 1) := ⟨_, rfl, ite01'⟩
      have hv1 : v = 1 ↔ flo fi := by rw [hv]; split <;> simp_all
      have hfl1 : v = 1 → 0 < fc := by
        intro x
        have := hv1.1 x
        rcases hff with ⟨y, -⟩ | y
        · exfalso; omega
        · exact y.2
      have hdg : (eDg nn fc fi : Int) = (nn : Int) + fc - v := by
        unfold eDg
        by_cases x : flo fi
        · have := hfl1 (hv1.2 x)
          rw [if_pos x, hv1.2 x]; omega
        · rw [if_neg x, show v = 0 by rw [hv, if_neg x]]; omega
      refine x_iload d_PC_readBody_53 rfl ?_
      refine x_aload_n d_PC_readBody_55 rfl rfl (by first | rfl | assumption) ?_
      refine x_get 2 7 d_PC_readBody_56 gf_PC_90 (by repeat (first | assumption | exact hs_self (by assumption) | exact hs_self (hs_ne (by omega) (by assumption)) | exact hs_self (hs_ne (by omega) (hs_ne (by omega) (by assumption))) | refine hs_ne (by omega) ?_)) (by rfl) ?_
      refine j_icmp_ge 166 d_PC_readBody_59 (by decide) (by unfold iR; omega) (by unfold iR; omega) (fun c59 => ?_) (fun c59 => ?_)
      rotate_left
      · exfalso; omega
      refine x_aload_n d_PC_readBody_166 rfl rfl (by first | rfl | assumption) ?_
      refine x_ldcS d_PC_readBody_167 (List.mem_of_getElem? (i := 4) rfl) ?_
      refine x_aload_n d_PC_readBody_169 rfl rfl (by first | rfl | assumption) ?_
      refine x_get 2 8 d_PC_readBody_170 gf_PC_15 (by repeat (first | assumption | exact hs_self (by assumption) | exact hs_self (hs_ne (by omega) (by assumption)) | exact hs_self (hs_ne (by omega) (hs_ne (by omega) (by assumption))) | refine hs_ne (by omega) ?_)) (by rfl) ?_
      refine x_callS1 (M' := M_PC_isOneOf) d_PC_readBody_173 lk_PC_63 (c_flo E _ fi hfi) mt_PC_isOneOf st_PC_isOneOf (by decide) rfl (Nat.le_of_ble_eq_true rfl) (by decide) (by decide) ?_
      refine x_top (w := vI v) (by rw [hv]) ?_
      refine xp_PC_9 d_PC_readBody_176 pf_PC_readBody_103 (by repeat (first | assumption | exact hs_self (by assumption) | exact hs_self (hs_ne (by omega) (by assumption)) | exact hs_self (hs_ne (by omega) (hs_ne (by omega) (by assumption))) | refine hs_ne (by omega) ?_)) (by omega) ?_
      rw [List.set_set]
      have fin : ∀ dgv : Int, dgv = eDg nn fc fi → X E M_PC_readBody 6 0 0 Z 196 [some (.ref p), some (vI y1), some (vI y2), some (vI b), some (vI z), x5] [vI dgv, .ref p] (h.set p (oP q ct dg0 ys sg ed bs be fi v)) 0 0 := by
        intro dgv hdv
        have yes : pt ≤ 1 ∧ ¬ (pt = 1 ∧ sc = 0) ∧ (v = 1 → 2 ≤ fc) → (rQ (fun w h' => ∃ dg sc fi fl : Int, h' = h.set p (oP q ct dg sc sg ed bs be fi fl) ∧ ((w = vI 0 ∧ bodNo G bs be) ∨ (w = vI 1 ∧ bodYes G bs be dg sc fi fl)))) (some (vI 1)) (h.set p (oP q ct dgv ys sg ed bs be fi v)) := fun x => ⟨_, rfl, dgv, ys, fi, v, rfl, Or.inr ⟨rfl, ⟨by omega, c25⟩, nn, pt, sc, fc, hn.symm, ⟨x.1, x.2.1, fun y => x.2.2 (hv1.2 y)⟩, hys, hdv, hv, by omega, by omega, hfi⟩⟩
        have no : ¬ (pt ≤ 1 ∧ ¬ (pt = 1 ∧ sc = 0) ∧ (v = 1 → 2 ≤ fc)) → (rQ (fun w h' => ∃ dg sc fi fl : Int, h' = h.set p (oP q ct dg sc sg ed bs be fi fl) ∧ ((w = vI 0 ∧ bodNo G bs be) ∨ (w = vI 1 ∧ bodYes G bs be dg sc fi fl)))) (some (vI 0)) (h.set p (oP q ct dgv ys sg ed bs be fi v)) := fun x => ⟨_, rfl, dgv, ys, fi, v, rfl, Or.inl ⟨rfl, fun _ _ a1 a2 a3 a4 a5 e o => by rw [← hn] at e; cases e; exact x ⟨o.1, o.2.1, fun y => o.2.2 (hv1.1 y)⟩⟩⟩
        refine xp_PC_2 d_PC_readBody_196 pf_PC_readBody_41 (by repeat (first | assumption | exact hs_self (by assumption) | exact hs_self (hs_ne (by omega) (by assumption)) | exact hs_self (hs_ne (by omega) (hs_ne (by omega) (by assumption))) | refine hs_ne (by omega) ?_)) ?_
        rw [List.set_set, hZ]
        clear hn hdg hfl1 hff hv1
        refine x_iload_n d_PC_readBody_199 rfl rfl ?_
        refine j_if_eq 210 d_PC_readBody_200 (by decide) (by unfold iR; omega) (fun c200 => ?_) (fun c200 => ?_)
        · refine x_aload_n d_PC_readBody_210 rfl rfl (by first | rfl | assumption) ?_
          refine x_get 2 9 d_PC_readBody_211 gf_PC_103 (by repeat (first | assumption | exact hs_self (by assumption) | exact hs_self (hs_ne (by omega) (by assumption)) | exact hs_self (hs_ne (by omega) (hs_ne (by omega) (by assumption))) | refine hs_ne (by omega) ?_)) (by rfl) ?_
          refine j_if_eq 222 d_PC_readBody_214 (by decide) (by unfold iR; omega) (fun c214 => ?_) (fun c214 => ?_)
          · refine j_iconst d_PC_readBody_222 ?_
            refine x_goto 227 d_PC_readBody_223 (by decide) ?_
            refine j_zreturn d_PC_readBody_227 rfl (by omega) ?_
            first | exact yes (by omega) | exact no (by omega)
          · refine x_iload_n d_PC_readBody_217 rfl rfl ?_
            refine j_iconst d_PC_readBody_218 ?_
            refine j_icmp_lt 226 d_PC_readBody_219 (by decide) (by unfold iR; omega) (by unfold iR; omega) (fun c219 => ?_) (fun c219 => ?_)
            · refine j_iconst d_PC_readBody_226 ?_
              refine j_zreturn d_PC_readBody_227 rfl (by omega) ?_
              first | exact yes (by omega) | exact no (by omega)
            · refine j_iconst d_PC_readBody_222 ?_
              refine x_goto 227 d_PC_readBody_223 (by decide) ?_
              refine j_zreturn d_PC_readBody_227 rfl (by omega) ?_
              first | exact yes (by omega) | exact no (by omega)
        · refine x_aload_n d_PC_readBody_203 rfl rfl (by first | rfl | assumption) ?_
          refine x_get 2 3 d_PC_readBody_204 gf_PC_71 (by repeat (first | assumption | exact hs_self (by assumption) | exact hs_self (hs_ne (by omega) (by assumption)) | exact hs_self (hs_ne (by omega) (hs_ne (by omega) (by assumption))) | refine hs_ne (by omega) ?_)) (by rfl) ?_
          refine j_if_le 226 d_PC_readBody_207 (by decide) (by unfold iR; omega) (fun c207 => ?_) (fun c207 => ?_)
          · refine j_iconst d_PC_readBody_226 ?_
            refine j_zreturn d_PC_readBody_227 rfl (by omega) ?_
            first | exact yes (by omega) | exact no (by omega)
          · refine x_aload_n d_PC_readBody_210 rfl rfl (by first | rfl | assumption) ?_
            refine x_get 2 9 d_PC_readBody_211 gf_PC_103 (by repeat (first | assumption | exact hs_self (by assumption) | exact hs_self (hs_ne (by omega) (by assumption)) | exact hs_self (hs_ne (by omega) (hs_ne (by omega) (by assumption))) | refine hs_ne (by omega) ?_)) (by rfl) ?_
            refine j_if_eq 222 d_PC_readBody_214 (by decide) (by unfold iR; omega) (fun c214 => ?_) (fun c214 => ?_)
            · refine j_iconst d_PC_readBody_222 ?_
              refine x_goto 227 d_PC_readBody_223 (by decide) ?_
              refine j_zreturn d_PC_readBody_227 rfl (by omega) ?_
              first | exact yes (by omega) | exact no (by omega)
            · refine x_iload_n d_PC_readBody_217 rfl rfl ?_
              refine j_iconst d_PC_readBody_218 ?_
              refine j_icmp_lt 226 d_PC_readBody_219 (by decide) (by unfold iR; omega) (by unfold iR; omega) (fun c219 => ?_) (fun c219 => ?_)
              · refine j_iconst d_PC_readBody_226 ?_
                refine j_zreturn d_PC_readBody_227 rfl (by omega) ?_
                first | exact yes (by omega) | exact no (by omega)
              · refine j_iconst d_PC_readBody_222 ?_
                refine x_goto 227 d_PC_readBody_223 (by decide) ?_
                refine j_zreturn d_PC_readBody_227 rfl (by omega) ?_
                first | exact yes (by omega) | exact no (by omega)
      refine x_aload_n d_PC_readBody_179 rfl rfl (by first | rfl | assumption) ?_
      refine x_iload_n d_PC_readBody_180 rfl rfl ?_
      refine x_iload_n d_PC_readBody_181 rfl rfl ?_
      refine j_iadd d_PC_readBody_182 ?_
      refine x_aload_n d_PC_readBody_183 rfl rfl (by first | rfl | assumption) ?_
      refine x_get 2 9 d_PC_readBody_184 gf_PC_103 (by repeat (first | assumption | exact hs_self (by assumption) | exact hs_self (hs_ne (by omega) (by assumption)) | exact hs_self (hs_ne (by omega) (hs_ne (by omega) (by assumption))) | refine hs_ne (by omega) ?_)) (by rfl) ?_
      refine j_if_eq 194 d_PC_readBody_187 (by decide) (by unfold iR; omega) (fun c187 => ?_) (fun c187 => ?_)
      · refine j_iconst d_PC_readBody_194 ?_
        refine j_isub d_PC_readBody_195 ?_
        exact fin _ (by omega)
      · refine j_iconst d_PC_readBody_190 ?_
        refine x_goto 195 d_PC_readBody_191 (by decide) ?_
        refine j_isub d_PC_readBody_195 ?_
        exact fin _ (by omega)
    | succ r ih =>
      intro i nn pt sc fc fi z y1 y2 b ys x5 hi hbi hz hy1 hy2 hb hys hpt h1 h2 hfi hff hn
      subst hz; subst hy1
      have hGi := hG i (by omega)
      refine x_iload d_PC_readBody_53 rfl ?_
      refine x_aload_n d_PC_readBody_55 rfl rfl (by first | rfl | assumption) ?_
      refine x_get 2 7 d_PC_readBody_56 gf_PC_90 (by repeat (first | assumption | exact hs_self (by assumption) | exact hs_self (hs_ne (by omega) (by assumption)) | exact hs_self (hs_ne (by omega) (hs_ne (by omega) (by assumption))) | refine hs_ne (by omega) ?_)) (by rfl) ?_
      refine j_icmp_ge 166 d_PC_readBody_59 (by decide) (by unfold iR; omega) (by unfold iR; omega) (fun c59 => ?_) (fun c59 => ?_)
      · exfalso; omega
      refine x_aload_n d_PC_readBody_62 rfl rfl (by first | rfl | assumption) ?_
      refine x_get 2 0 d_PC_readBody_63 gf_PC_9 (by repeat (first | assumption | exact hs_self (by assumption) | exact hs_self (hs_ne (by omega) (by assumption)) | exact hs_self (hs_ne (by omega) (hs_ne (by omega) (by assumption))) | refine hs_ne (by omega) ?_)) (by rfl) ?_
      refine x_iload d_PC_readBody_66 rfl ?_
      refine j_cald d_PC_readBody_68 (by repeat (first | assumption | exact hs_self (by assumption) | exact hs_self (hs_ne (by omega) (by assumption)) | exact hs_self (hs_ne (by omega) (hs_ne (by omega) (by assumption))) | refine hs_ne (by omega) ?_)) (by omega) (by omega) (by decide) ?_
      refine x_top (w := vI (G i)) rfl ?_
      have at148 : ¬ G i = 57 → (G i = 46 → pt = 1) → ¬ (fil (G i) ∧ nn = 0 ∧ pt = 0 ∧ (fc = 0 ∨ G i = fi)) → X E M_PC_readBody 6 0 0 Z 148 [some (.ref p), some (vI (fc : Int)), some (vI y2), some (vI b), some (vI (i : Int)), some (vI (G i))] [] (h.set p (oP q ct dg0 ys sg ed bs be fi fl0)) 0 0 := by
        intro k1 k2 k3
        refine x_ldcS d_PC_readBody_148 (List.mem_of_getElem? (i := 2) rfl) ?_
        refine x_iload d_PC_readBody_150 rfl ?_
        refine x_callS1 (M' := M_PC_isOneOf) d_PC_readBody_152 lk_PC_63 (c_ins E _ (G i) hGi) mt_PC_isOneOf st_PC_isOneOf (by decide) rfl (Nat.le_of_ble_eq_true rfl) (by decide) (by decide) ?_
        refine j_if_ne 160 d_PC_readBody_155 (by decide) iteR (fun c155 => ?_) (fun c155 => ?_)
        · rw [ite11] at c155
          rw [bL_i c155] at hn
          refine j_iinc d_PC_readBody_160 rfl ?_
          refine x_goto 53 d_PC_readBody_163 (by decide) ?_
          exact ih (i + 1) nn pt sc fc fi _ _ _ _ _ _ (by omega) (by omega) (by omega) rfl hy2 hb hys hpt (by omega) (by omega) hfi hff hn
        · rw [ite10] at c155
          rw [hZ]
          refine j_iconst d_PC_readBody_158 ?_
          refine j_zreturn d_PC_readBody_159 rfl (by omega) ?_
          refine ⟨_, rfl, dg0, ys, fi, fl0, rfl, Or.inl ⟨rfl, fun _ _ a1 a2 a3 a4 a5 e o => ?_⟩⟩
          rw [← hn] at e
          by_cases k4 : G i = 46
          · rw [bL_p k4] at e
            have := bL_pt e
            have := k2 k4
            have := o.1
            simp only at *
            omega
          · rw [bL_n k1 k4 c155 k3] at e; cases e
      have at118 : ¬ G i = 57 → (G i = 46 → pt = 1) → X E M_PC_readBody 6 0 0 Z 118 [some (.ref p), some (vI (fc : Int)), some (vI y2), some (vI b), some (vI (i : Int)), some (vI (G i))] [] (h.set p (oP q ct dg0 ys sg ed bs be fi fl0)) 0 0 := by
        intro k1 k2
        refine x_aload_n d_PC_readBody_118 rfl rfl (by first | rfl | assumption) ?_
        refine x_iload d_PC_readBody_119 rfl ?_
        refine x_iload_n d_PC_readBody_121 rfl rfl ?_
        refine x_callV1 (M' := M_PC_isNextFiller) d_PC_readBody_122 lk_PC_98 (c_isNextFiller (G i) fc (hs_self hp) hGi hfi (by omega)) mt_PC_isNextFiller im_PC_isNextFiller se_PC_isNextFiller (by repeat (first | assumption | exact hs_self (by assumption) | exact hs_self (hs_ne (by omega) (by assumption)) | exact hs_self (hs_ne (by omega) (hs_ne (by omega) (by assumption))) | refine hs_ne (by omega) ?_)) rfl (by decide) rfl (Nat.le_of_ble_eq_true rfl) (by decide) (by decide) ?_
        refine j_if_eq 148 d_PC_readBody_125 (by decide) iteR (fun c125 => ?_) (fun c125 => ?_)
        · rw [ite10] at c125
          exact at148 k1 k2 (fun x => c125 ⟨x.1, x.2.2.2⟩)
        rw [ite11] at c125
        refine x_iload_n d_PC_readBody_128 rfl rfl ?_
        refine j_if_ne 148 d_PC_readBody_129 (by decide) (by unfold iR; omega) (fun c129 => ?_) (fun c129 => ?_)
        · exact at148 k1 k2 (fun x => by have := x.2.1; omega)
        refine x_iload_n d_PC_readBody_132 rfl rfl ?_
        refine j_if_ne 148 d_PC_readBody_133 (by decide) (by unfold iR; omega) (fun c133 => ?_) (fun c133 => ?_)
        · exact at148 k1 k2 (fun x => by have := x.2.2.1; omega)
        rw [bL_f c125.1 ⟨by omega, by omega, c125.2⟩] at hn
        refine x_aload_n d_PC_readBody_136 rfl rfl (by first | rfl | assumption) ?_
        refine x_iload d_PC_readBody_137 rfl ?_
        refine xp_PC_8 d_PC_readBody_139 pf_PC_readBody_15 (by repeat (first | assumption | exact hs_self (by assumption) | exact hs_self (hs_ne (by omega) (by assumption)) | exact hs_self (hs_ne (by omega) (hs_ne (by omega) (by assumption))) | refine hs_ne (by omega) ?_)) (by omega) ?_
        refine j_iinc d_PC_readBody_142 rfl ?_
        refine x_goto 160 d_PC_readBody_145 (by decide) ?_
        refine j_iinc d_PC_readBody_160 rfl ?_
        refine x_goto 53 d_PC_readBody_163 (by decide) ?_
        rw [List.set_set]
        exact ih (i + 1) nn pt sc (fc + 1) (G i) _ _ _ _ _ _ (by omega) (by omega) (by omega) (by omega) hy2 hb hys hpt (by omega) (by omega) hGi (Or.inr ⟨c125.1, by omega⟩) hn
      refine x_istore d_PC_readBody_69 (Nat.le_of_ble_eq_true rfl) ?_
      refine x_iload d_PC_readBody_71 rfl ?_
      refine j_bipush d_PC_readBody_73 (by decide) ?_
      refine j_icmp_ne 102 d_PC_readBody_75 (by decide) (by unfold iR; omega) (by unfold iR; omega) (fun c75 => ?_) (fun c75 => ?_)
      · refine x_iload d_PC_readBody_102 rfl ?_
        refine j_bipush d_PC_readBody_104 (by decide) ?_
        refine j_icmp_ne 118 d_PC_readBody_106 (by decide) (by unfold iR; omega) (by unfold iR; omega) (fun c106 => ?_) (fun c106 => ?_)
        · exact at118 c75 (fun x => absurd x c106)
        · refine x_iload_n d_PC_readBody_109 rfl rfl ?_
          refine j_if_ne 118 d_PC_readBody_110 (by decide) (by unfold iR; omega) (fun c110 => ?_) (fun c110 => ?_)
          · exact at118 c75 (fun _ => by omega)
          · rw [bL_p c106] at hn
            refine j_iconst d_PC_readBody_113 ?_
            refine x_istore_n d_PC_readBody_114 rfl (Nat.le_of_ble_eq_true rfl) ?_
            refine x_goto 160 d_PC_readBody_115 (by decide) ?_
            refine j_iinc d_PC_readBody_160 rfl ?_
            refine x_goto 53 d_PC_readBody_163 (by decide) ?_
            exact ih (i + 1) nn 1 sc fc fi _ _ _ _ _ _ (by omega) (by omega) (by omega) rfl hy2 (by omega) hys (by omega) (by omega) (by omega) hfi hff (by rw [show pt + 1 = 1 by omega] at hn; exact hn)
      · rw [bL_9 c75] at hn
        refine j_iinc d_PC_readBody_78 rfl ?_
        refine x_aload_n d_PC_readBody_81 rfl rfl (by first | rfl | assumption) ?_
        refine x_dup d_PC_readBody_82 rfl ?_
        refine x_get 2 3 d_PC_readBody_83 gf_PC_71 (by repeat (first | assumption | exact hs_self (by assumption) | exact hs_self (hs_ne (by omega) (by assumption)) | exact hs_self (hs_ne (by omega) (hs_ne (by omega) (by assumption))) | refine hs_ne (by omega) ?_)) (by rfl) ?_
        refine x_iload_n d_PC_readBody_86 rfl rfl ?_
        refine j_if_eq 94 d_PC_readBody_87 (by decide) (by unfold iR; omega) (fun c87 => ?_) (fun c87 => ?_)
        · rw [if_pos (show pt = 0 by omega)] at hn
          refine j_iconst d_PC_readBody_94 ?_
          refine j_iadd d_PC_readBody_95 ?_
          refine xp_PC_3 d_PC_readBody_96 pf_PC_readBody_71 (by repeat (first | assumption | exact hs_self (by assumption) | exact hs_self (hs_ne (by omega) (by assumption)) | exact hs_self (hs_ne (by omega) (hs_ne (by omega) (by assumption))) | refine hs_ne (by omega) ?_)) ?_
          refine x_goto 160 d_PC_readBody_99 (by decide) ?_
          refine j_iinc d_PC_readBody_160 rfl ?_
          refine x_goto 53 d_PC_readBody_163 (by decide) ?_
          rw [List.set_set]
          exact ih (i + 1) (nn + 1) pt sc fc fi _ _ _ _ _ _ (by omega) (by omega) (by omega) rfl (by omega) hb (by omega) hpt (by omega) (by omega) hfi hff hn
        · rw [if_neg (show ¬ pt = 0 by omega)] at hn
          refine j_iconst d_PC_readBody_90 ?_
          refine x_goto 95 d_PC_readBody_91 (by decide) ?_
          refine j_iadd d_PC_readBody_95 ?_
          refine xp_PC_3 d_PC_readBody_96 pf_PC_readBody_71 (by repeat (first | assumption | exact hs_self (by assumption) | exact hs_self (hs_ne (by omega) (by assumption)) | exact hs_self (hs_ne (by omega) (hs_ne (by omega) (by assumption))) | refine hs_ne (by omega) ?_)) ?_
          refine x_goto 160 d_PC_readBody_99 (by decide) ?_
          refine j_iinc d_PC_readBody_160 rfl ?_
          refine x_goto 53 d_PC_readBody_163 (by decide) ?_
          rw [List.set_set]
          exact ih (i + 1) (nn + 1) pt (sc + 1) fc fi _ _ _ _ _ _ (by omega) (by omega) (by omega) rfl (by omega) hb (by omega) hpt (by omega) (by omega) hfi hff hn
  refine x_aload_n d_PC_readBody_30 rfl rfl (by first | rfl | assumption) ?_
  refine j_bipush d_PC_readBody_31 (by decide) ?_
  refine xp_PC_8 d_PC_readBody_33 pf_PC_readBody_15 (by repeat (first | assumption | exact hs_self (by assumption) | exact hs_self (hs_ne (by omega) (by assumption)) | exact hs_self (hs_ne (by omega) (hs_ne (by omega) (by assumption))) | refine hs_ne (by omega) ?_)) (by omega) ?_
  refine x_aload_n d_PC_readBody_36 rfl rfl (by first | rfl | assumption) ?_
  refine j_iconst d_PC_readBody_37 ?_
  refine xp_PC_3 d_PC_readBody_38 pf_PC_readBody_71 (by repeat (first | assumption | exact hs_self (by assumption) | exact hs_self (hs_ne (by omega) (by assumption)) | exact hs_self (hs_ne (by omega) (hs_ne (by omega) (by assumption))) | refine hs_ne (by omega) ?_)) ?_
  rw [List.set_set]
  refine j_iconst d_PC_readBody_41 ?_
  refine x_istore_n d_PC_readBody_42 rfl (Nat.le_of_ble_eq_true rfl) ?_
  refine j_iconst d_PC_readBody_43 ?_
  refine x_istore_n d_PC_readBody_44 rfl (Nat.le_of_ble_eq_true rfl) ?_
  refine j_iconst d_PC_readBody_45 ?_
  refine x_istore_n d_PC_readBody_46 rfl (Nat.le_of_ble_eq_true rfl) ?_
  refine x_aload_n d_PC_readBody_47 rfl rfl (by first | rfl | assumption) ?_
  refine x_get 2 6 d_PC_readBody_48 gf_PC_87 (by repeat (first | assumption | exact hs_self (by assumption) | exact hs_self (hs_ne (by omega) (by assumption)) | exact hs_self (hs_ne (by omega) (hs_ne (by omega) (by assumption))) | refine hs_ne (by omega) ?_)) (by rfl) ?_
  refine x_istore d_PC_readBody_51 (Nat.le_of_ble_eq_true rfl) ?_
  exact loop (be - bs) bs 0 0 0 0 32 _ _ _ _ _ _ (by omega) (by omega) rfl rfl rfl rfl rfl (by omega) (by omega) (by omega) (by omega) (Or.inl ⟨rfl, rfl⟩) rfl
end PCB
theorem eRes_no {G : Nat → Int} {ct : Nat} (h : bodNo G (hdS G ct) (ct - tlS G ct)) : eRes G ct = none := by
  cases hr : eRes G ct with
  | none => rfl
  | some x =>
    obtain ⟨nn, pt, sc, fc, fi, hb, hl, hf, -⟩ := eRes_ok hr
    exact absurd ⟨hf.1, hf.2.1, hf.2.2.1⟩ (h hb.1 hb.2 nn pt sc fc fi hl)
theorem eRes_yes {G : Nat → Int} {ct nn pt sc fc : Nat} {fi : Int} (hb : bBeg G ct) (hr : bodR G (hdS G ct) (ct - tlS G ct) = some (nn, pt, sc, fi, fc)) (ho : bodOk pt sc fc fi) : eRes G ct = if lim (eDg nn fc fi) sc then some (ct, eDg nn fc fi, sc, eSg G ct fi, 1, hdS G ct, ct - tlS G ct, fi, if flo fi then 1 else 0) else none := by
  unfold eRes
  rw [if_pos hb, show bL G (ct - tlS G ct - hdS G ct) (hdS G ct) (0, 0, 0, 32, 0) = _ from hr, eEnd_s]
  by_cases hl : lim (eDg nn fc fi) sc
  · rw [if_pos hl, if_pos ⟨ho.1, ho.2.1, ho.2.2, hl⟩]
  · rw [if_neg hl, if_neg (fun x => hl x.2.2.2)]
theorem hdS_le {G : Nat → Int} {ct : Nat} (h : 1 ≤ ct) : hdS G ct ≤ ct := by
  have := hd0_le G ct
  unfold hdS; split <;> omega
