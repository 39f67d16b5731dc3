/-! the class reads a draft, the whole of it -/
def isI (P : Prop) [Decidable P] (v : Int) : Prop := v = if P then 1 else 0
def eqv (P Q : Prop) : Prop := P ↔ Q
theorem isI_b {P : Prop} [Decidable P] {v : Int} (h : isI P v) : 0 ≤ v ∧ v ≤ 1 := by unfold isI at h; split at h <;> omega
theorem isI_n {P : Prop} [Decidable P] {v : Int} (h : isI P v) : eqv (v = 0) (¬ P) := by unfold isI at h; unfold eqv; rw [h]; exact ite10
theorem isI_y {P : Prop} [Decidable P] {v : Int} (h : isI P v) : eqv (¬ v = 0) P := by unfold isI at h; unfold eqv; rw [h]; exact ite11
theorem isI_0 {P : Prop} [Decidable P] {v : Int} (h : isI P v) (p : ¬ P) : 0 = v := by unfold isI at h; rw [h, if_neg p]
theorem isI_1 {P : Prop} [Decidable P] {v : Int} (h : isI P v) (p : P) : 1 = v := by unfold isI at h; rw [h, if_pos p]
section PCE
variable {E : xEnv} {h : xH} {p q : Nat} {G : Nat → Int}
set_option maxHeartbeats 2000000 in
theorem c_readEd2 {ct : Nat} {dg0 sc0 sg0 ed0 bs0 be0 fi0 fl0 : Int} (hp : h[p]? = some (oP q ct dg0 sc0 sg0 ed0 bs0 be0 fi0 fl0)) (hq : h[q]? = some (aC 18 G)) (hpq : p ≠ q) (hct : 1 ≤ ct ∧ ct ≤ 18) (hG : ∀ j, j < 18 → 0 ≤ G j ∧ G j ≤ 126) : xCt E 7 0 0 M_PC_readEdited [.ref p] h (rQ (fun w h' => ∃ dg sc sg bs be fi fl : Int, h' = h.set p (oP q ct dg sc sg 1 bs be fi fl) ∧ ((w = vI 0 ∧ eRes G ct = none) ∨ (w = vI 1 ∧ ∃ dgn scn hdn ben : Nat, eRes G ct = some (ct, dgn, scn, sg, 1, hdn, ben, fi, fl) ∧ dg = dgn ∧ sc = scn ∧ bs = hdn ∧ be = ben)))) := by
  refine x_met rfl rfl (Nat.le_of_ble_eq_true rfl) ?_
  obtain ⟨Z, hZ⟩ : ∃ Z, Z = (xZ E 0 0 (rQ (fun w h' => ∃ dg sc sg bs be fi fl : Int, h' = h.set p (oP q ct dg sc sg 1 bs be fi fl) ∧ ((w = vI 0 ∧ eRes G ct = none) ∨ (w = vI 1 ∧ ∃ dgn scn hdn ben : Nat, eRes G ct = some (ct, dgn, scn, sg, 1, hdn, ben, fi, fl) ∧ dg = dgn ∧ sc = scn ∧ bs = hdn ∧ be = ben))))) := ⟨_, rfl⟩
  rw [← hZ]
  obtain ⟨v2, hv2, hv2'⟩ : ∃ v : Int, isI (inH G ct) v ∧ (0 ≤ v ∧ v ≤ 1) := ⟨_, rfl, isI_b rfl⟩
  obtain ⟨v3, hv3, hv3'⟩ : ∃ v : Int, isI (inT G ct) v ∧ (0 ≤ v ∧ v ≤ 1) := ⟨_, rfl, isI_b rfl⟩
  obtain ⟨v4, hv4, hv4'⟩ : ∃ v : Int, isI (wrd G ct) v ∧ (0 ≤ v ∧ v ≤ 1) := ⟨_, rfl, isI_b rfl⟩
  have n2 := isI_n hv2
  have n3 := isI_n hv3
  have n4 := isI_n hv4
  have y2 := isI_y hv2
  have y3 := isI_y hv3
  have y4 := isI_y hv4
  have hs18 : sgn G ct ≤ 18 := Nat.le_trans (nd_le_r _ _ _) hct.2
  have hhd := hdS_le (G := G) hct.1
  have hh0 := hd0_le G ct
  have htl := tl_le G ct
  have k209 : ∀ bv : Int, bv = ((ct - tlS G ct : Nat) : Int) → X E M_PC_readEdited 7 0 0 Z 209 [some (.ref p), some (vI (sgn G ct : Int)), some (vI v2), some (vI v3), some (vI v4)] [] (h.set p (oP q ct dg0 sc0 sg0 1 (hdS G ct : Int) bv fi0 fl0)) 0 0 := by
    intro bv hbv
    subst hbv
    refine x_aload_n d_PC_readEdited_209 rfl rfl (by first | rfl | assumption) ?_
    refine x_callVq (M' := M_PC_readBody) d_PC_readEdited_210 lk_PC_93 (c_readBody (hs_self hp) (hs_ne hpq hq) hpq (by omega) (by omega) hG) mt_PC_readBody im_PC_readBody se_PC_readBody (by repeat (first | assumption | exact hs_self (by assumption) | exact hs_self (hs_ne (by omega) (by assumption)) | exact hs_self (hs_ne (by omega) (hs_ne (by omega) (by assumption))) | refine hs_ne (by omega) ?_)) rfl (by decide) rfl (Nat.le_of_ble_eq_true rfl) (by decide) (by decide) ?_
    rintro v h' ⟨dg, sc, fi, fl, rfl, hcase⟩
    rw [List.set_set]
    rcases hcase with ⟨rfl, hno⟩ | ⟨rfl, hb, nn, pt, sc', fc, hr, ho, rfl, rfl, rfl, e1, e2, e3⟩
    · refine j_if_ne 218 d_PC_readEdited_213 (by decide) (by unfold iR; omega) (fun c213 => ?_) (fun c213 => ?_)
      · exact absurd rfl c213
      · rw [hZ]
        refine j_iconst d_PC_readEdited_216 ?_
        refine j_zreturn d_PC_readEdited_217 rfl (by omega) ?_
        exact ⟨_, rfl, dg, sc, sg0, _, _, fi, fl, rfl, Or.inl ⟨rfl, eRes_no hno⟩⟩
    · have hE := eRes_yes hb hr ho
      have fin : ∀ v : Int, v = eSg G ct fi → X E M_PC_readEdited 7 0 0 Z 249 [some (.ref p), some (vI (sgn G ct : Int)), some (vI v2), some (vI v3), some (vI v4)] [vI v, .ref p] (h.set p (oP q ct (eDg nn fc fi : Int) (sc' : Int) sg0 1 (hdS G ct : Int) ((ct - tlS G ct : Nat) : Int) fi (if flo fi then 1 else 0))) 0 0 := by
        intro v hv
        refine xp_PC_4 d_PC_readEdited_249 pf_PC_readEdited_34 (by repeat (first | assumption | exact hs_self (by assumption) | exact hs_self (hs_ne (by omega) (by assumption)) | exact hs_self (hs_ne (by omega) (hs_ne (by omega) (by assumption))) | refine hs_ne (by omega) ?_)) (by rw [hv]; unfold eSg; exact ite01') ?_
        rw [List.set_set]
        refine x_aload_n d_PC_readEdited_252 rfl rfl (by first | rfl | assumption) ?_
        refine x_callV1 (M' := M_PC_isWithinLimits) d_PC_readEdited_253 lk_PC_74 (c_within (hs_self hp) (Nat.le_trans e1 (by decide)) (Nat.le_trans e2 (by decide))) mt_PC_isWithinLimits im_PC_isWithinLimits se_PC_isWithinLimits (by repeat (first | assumption | exact hs_self (by assumption) | exact hs_self (hs_ne (by omega) (by assumption)) | exact hs_self (hs_ne (by omega) (hs_ne (by omega) (by assumption))) | refine hs_ne (by omega) ?_)) rfl (by decide) rfl (Nat.le_of_ble_eq_true rfl) (by decide) (by decide) ?_
        rw [hZ]
        refine j_zreturn d_PC_readEdited_256 rfl ite01' ?_
        by_cases hl : lim (eDg nn fc fi) sc'
        · rw [if_pos hl] at hE
          rw [if_pos hl]
          exact ⟨_, rfl, _, _, v, _, _, fi, _, rfl, Or.inr ⟨rfl, _, _, _, _, by rw [hE, hv], rfl, rfl, rfl, rfl⟩⟩
        · rw [if_neg hl] at hE
          rw [if_neg hl]
          exact ⟨_, rfl, _, _, v, _, _, fi, _, rfl, Or.inl ⟨rfl, hE⟩⟩
      clear hE ho hr hb
      refine j_if_ne 218 d_PC_readEdited_213 (by decide) (by unfold iR; omega) (fun c213 => ?_) (fun c213 => ?_)
      · refine x_aload_n d_PC_readEdited_218 rfl rfl (by first | rfl | assumption) ?_
        refine x_iload_n d_PC_readEdited_219 rfl rfl ?_
        refine j_if_ne 244 d_PC_readEdited_220 (by decide) (by unfold iR; omega) (fun c220 => ?_) (fun c220 => ?_)
        · refine j_iconst d_PC_readEdited_244 ?_
          refine x_goto 249 d_PC_readEdited_245 (by decide) ?_
          exact fin _ (by unfold eSg; rw [if_pos (Or.inl (y2.1 c220))])
        refine x_iload_n d_PC_readEdited_223 rfl rfl ?_
        refine j_if_ne 244 d_PC_readEdited_224 (by decide) (by unfold iR; omega) (fun c224 => ?_) (fun c224 => ?_)
        · refine j_iconst d_PC_readEdited_244 ?_
          refine x_goto 249 d_PC_readEdited_245 (by decide) ?_
          exact fin _ (by unfold eSg; rw [if_pos (Or.inr (Or.inl (y3.1 c224)))])
        refine x_iload d_PC_readEdited_227 rfl ?_
        refine j_if_ne 244 d_PC_readEdited_229 (by decide) (by unfold iR; omega) (fun c229 => ?_) (fun c229 => ?_)
        · refine j_iconst d_PC_readEdited_244 ?_
          refine x_goto 249 d_PC_readEdited_245 (by decide) ?_
          exact fin _ (by unfold eSg; rw [if_pos (Or.inr (Or.inr (Or.inl (y4.1 c229))))])
        refine x_ldcS d_PC_readEdited_232 (List.mem_of_getElem? (i := 1) rfl) ?_
        refine x_aload_n d_PC_readEdited_234 rfl rfl (by first | rfl | assumption) ?_
        refine x_get 2 8 d_PC_readEdited_235 gf_PC_15 (by repeat (first | assumption | exact hs_self (by assumption) | exact hs_self (hs_ne (by omega) (by assumption)) | exact hs_self (hs_ne (by omega) (hs_ne (by omega) (by assumption))) | refine hs_ne (by omega) ?_)) (by rfl) ?_
        refine x_callS1 (M' := M_PC_isOneOf) d_PC_readEdited_238 lk_PC_63 (c_pmn E _ fi e3) mt_PC_isOneOf st_PC_isOneOf (by decide) rfl (Nat.le_of_ble_eq_true rfl) (by decide) (by decide) ?_
        refine j_if_eq 248 d_PC_readEdited_241 (by decide) iteR (fun c241 => ?_) (fun c241 => ?_)
        · rw [ite10] at c241
          refine j_iconst d_PC_readEdited_248 ?_
          exact fin _ (by unfold eSg; rw [if_neg (fun z => by rcases z with x | x | x | x; exact n2.1 c220 x; exact n3.1 c224 x; exact n4.1 c229 x; exact c241 x)])
        · rw [ite11] at c241
          refine j_iconst d_PC_readEdited_244 ?_
          refine x_goto 249 d_PC_readEdited_245 (by decide) ?_
          exact fin _ (by unfold eSg; rw [if_pos (Or.inr (Or.inr (Or.inr c241)))])
      · exact absurd c213 (by decide)
  have k169 : ∀ hv : Int, hv = (hdS G ct : Int) → X E M_PC_readEdited 7 0 0 Z 169 [some (.ref p), some (vI (sgn G ct : Int)), some (vI v2), some (vI v3), some (vI v4)] [] (h.set p (oP q ct dg0 sc0 sg0 1 hv be0 fi0 fl0)) 0 0 := by
    intro hv e
    subst e
    refine x_aload_n d_PC_readEdited_169 rfl rfl (by first | rfl | assumption) ?_
    refine x_aload_n d_PC_readEdited_170 rfl rfl (by first | rfl | assumption) ?_
    refine x_get 2 1 d_PC_readEdited_171 gf_PC_37 (by repeat (first | assumption | exact hs_self (by assumption) | exact hs_self (hs_ne (by omega) (by assumption)) | exact hs_self (hs_ne (by omega) (hs_ne (by omega) (by assumption))) | refine hs_ne (by omega) ?_)) (by rfl) ?_
    refine xp_PC_7 d_PC_readEdited_174 pf_PC_readEdited_90 (by repeat (first | assumption | exact hs_self (by assumption) | exact hs_self (hs_ne (by omega) (by assumption)) | exact hs_self (hs_ne (by omega) (hs_ne (by omega) (by assumption))) | refine hs_ne (by omega) ?_)) ?_
    rw [List.set_set]
    refine x_iload_n d_PC_readEdited_177 rfl rfl ?_
    refine j_if_eq 194 d_PC_readEdited_178 (by decide) (by unfold iR; omega) (fun c178 => ?_) (fun c178 => ?_)
    · have a3 := n3.1 c178
      refine x_iload d_PC_readEdited_194 rfl ?_
      refine j_if_eq 209 d_PC_readEdited_196 (by decide) (by unfold iR; omega) (fun c196 => ?_) (fun c196 => ?_)
      · have a4 := n4.1 c196
        exact k209 _ (by rw [show tlS G ct = 0 by unfold tlS; rw [if_neg a3, if_neg a4]]; rfl)
      · have a4 := y4.1 c196
        refine x_aload_n d_PC_readEdited_199 rfl rfl (by first | rfl | assumption) ?_
        refine x_aload_n d_PC_readEdited_200 rfl rfl (by first | rfl | assumption) ?_
        refine x_get 2 1 d_PC_readEdited_201 gf_PC_37 (by repeat (first | assumption | exact hs_self (by assumption) | exact hs_self (hs_ne (by omega) (by assumption)) | exact hs_self (hs_ne (by omega) (hs_ne (by omega) (by assumption))) | refine hs_ne (by omega) ?_)) (by rfl) ?_
        refine j_iconst d_PC_readEdited_204 ?_
        refine j_isub d_PC_readEdited_205 ?_
        refine xp_PC_7 d_PC_readEdited_206 pf_PC_readEdited_90 (by repeat (first | assumption | exact hs_self (by assumption) | exact hs_self (hs_ne (by omega) (by assumption)) | exact hs_self (hs_ne (by omega) (hs_ne (by omega) (by assumption))) | refine hs_ne (by omega) ?_)) ?_
        rw [List.set_set]
        exact k209 _ (by rw [show tlS G ct = 2 by unfold tlS; rw [if_neg a3, if_pos a4]]; have := a4.2.1; omega)
    · have a3 := y3.1 c178
      refine x_aload_n d_PC_readEdited_181 rfl rfl (by first | rfl | assumption) ?_
      refine x_aload_n d_PC_readEdited_182 rfl rfl (by first | rfl | assumption) ?_
      refine x_get 2 1 d_PC_readEdited_183 gf_PC_37 (by repeat (first | assumption | exact hs_self (by assumption) | exact hs_self (hs_ne (by omega) (by assumption)) | exact hs_self (hs_ne (by omega) (hs_ne (by omega) (by assumption))) | refine hs_ne (by omega) ?_)) (by rfl) ?_
      refine j_iconst d_PC_readEdited_186 ?_
      refine j_isub d_PC_readEdited_187 ?_
      refine xp_PC_7 d_PC_readEdited_188 pf_PC_readEdited_90 (by repeat (first | assumption | exact hs_self (by assumption) | exact hs_self (hs_ne (by omega) (by assumption)) | exact hs_self (hs_ne (by omega) (hs_ne (by omega) (by assumption))) | refine hs_ne (by omega) ?_)) ?_
      refine x_goto 209 d_PC_readEdited_191 (by decide) ?_
      rw [List.set_set]
      exact k209 _ (by rw [show tlS G ct = 1 by unfold tlS; rw [if_pos a3]]; omega)
  have hS0 := hs_self (e := oP q ct dg0 sc0 sg0 1 bs0 be0 fi0 fl0) hp
  have hQ0 : (h.set p (oP q ct dg0 sc0 sg0 1 bs0 be0 fi0 fl0))[q]? = some (aC 18 G) := hs_ne hpq hq
  have k121 : ∀ v : Int, v = (hd0 G ct : Int) → X E M_PC_readEdited 7 0 0 Z 121 [some (.ref p), some (vI (sgn G ct : Int)), some (vI v2), some (vI v3), some (vI v4)] [vI v, .ref p] (h.set p (oP q ct dg0 sc0 sg0 1 bs0 be0 fi0 fl0)) 0 0 := by
    intro v e
    subst e
    refine xp_PC_6 d_PC_readEdited_121 pf_PC_readEdited_87 (by repeat (first | assumption | exact hs_self (by assumption) | exact hs_self (hs_ne (by omega) (by assumption)) | exact hs_self (hs_ne (by omega) (hs_ne (by omega) (by assumption))) | refine hs_ne (by omega) ?_)) ?_
    rw [List.set_set]
    refine x_aload_n d_PC_readEdited_124 rfl rfl (by first | rfl | assumption) ?_
    refine x_get 2 6 d_PC_readEdited_125 gf_PC_87 (by repeat (first | assumption | exact hs_self (by assumption) | exact hs_self (hs_ne (by omega) (by assumption)) | exact hs_self (hs_ne (by omega) (hs_ne (by omega) (by assumption))) | refine hs_ne (by omega) ?_)) (by rfl) ?_
    refine x_aload_n d_PC_readEdited_128 rfl rfl (by first | rfl | assumption) ?_
    refine x_get 2 1 d_PC_readEdited_129 gf_PC_37 (by repeat (first | assumption | exact hs_self (by assumption) | exact hs_self (hs_ne (by omega) (by assumption)) | exact hs_self (hs_ne (by omega) (hs_ne (by omega) (by assumption))) | refine hs_ne (by omega) ?_)) (by rfl) ?_
    refine j_icmp_ge 169 d_PC_readEdited_132 (by decide) (by unfold iR; omega) (by unfold iR; omega) (fun c132 => ?_) (fun c132 => ?_)
    · exact k169 _ (by unfold hdS; rw [if_neg (fun x => by have := x.1; omega)])
    have hGh := hG (hd0 G ct) (by omega)
    refine x_aload_n d_PC_readEdited_135 rfl rfl (by first | rfl | assumption) ?_
    refine x_get 2 0 d_PC_readEdited_136 gf_PC_9 (by repeat (first | assumption | exact hs_self (by assumption) | exact hs_self (hs_ne (by omega) (by assumption)) | exact hs_self (hs_ne (by omega) (hs_ne (by omega) (by assumption))) | refine hs_ne (by omega) ?_)) (by rfl) ?_
    refine x_aload_n d_PC_readEdited_139 rfl rfl (by first | rfl | assumption) ?_
    refine x_get 2 6 d_PC_readEdited_140 gf_PC_87 (by repeat (first | assumption | exact hs_self (by assumption) | exact hs_self (hs_ne (by omega) (by assumption)) | exact hs_self (hs_ne (by omega) (hs_ne (by omega) (by assumption))) | refine hs_ne (by omega) ?_)) (by rfl) ?_
    refine j_cald d_PC_readEdited_143 (by repeat (first | assumption | exact hs_self (by assumption) | exact hs_self (hs_ne (by omega) (by assumption)) | exact hs_self (hs_ne (by omega) (hs_ne (by omega) (by assumption))) | refine hs_ne (by omega) ?_)) (by omega) (by omega) (by decide) ?_
    refine x_top (w := vI (G (hd0 G ct))) rfl ?_
    refine j_bipush d_PC_readEdited_144 (by decide) ?_
    refine j_icmp_ne 169 d_PC_readEdited_146 (by decide) (by unfold iR; omega) (by unfold iR; omega) (fun c146 => ?_) (fun c146 => ?_)
    · exact k169 _ (by unfold hdS; rw [if_neg (fun x => c146 x.2.1)])
    have hdl : dol G ct ≤ 18 := Nat.le_trans (nd_le_r _ _ _) hct.2
    refine x_aload_n d_PC_readEdited_149 rfl rfl (by first | rfl | assumption) ?_
    refine j_bipush d_PC_readEdited_150 (by decide) ?_
    refine x_callV1 (M' := M_PC_countOf) d_PC_readEdited_152 lk_PC_77 (c_countOf 36 (hs_self hp) (hs_ne hpq hq) hct.2 hG (by decide)) mt_PC_countOf im_PC_countOf se_PC_countOf (by repeat (first | assumption | exact hs_self (by assumption) | exact hs_self (hs_ne (by omega) (by assumption)) | exact hs_self (hs_ne (by omega) (hs_ne (by omega) (by assumption))) | refine hs_ne (by omega) ?_)) rfl (by decide) rfl (Nat.le_of_ble_eq_true rfl) (by decide) (by decide) ?_
    refine x_top (w := vI (dol G ct : Int)) rfl ?_
    refine j_iconst d_PC_readEdited_155 ?_
    refine j_icmp_ne 169 d_PC_readEdited_156 (by decide) (by unfold iR; omega) (by unfold iR; omega) (fun c156 => ?_) (fun c156 => ?_)
    · exact k169 _ (by unfold hdS; rw [if_neg (fun x => by have := x.2.2; omega)])
    · refine x_aload_n d_PC_readEdited_159 rfl rfl (by first | rfl | assumption) ?_
      refine x_dup d_PC_readEdited_160 rfl ?_
      refine x_get 2 6 d_PC_readEdited_161 gf_PC_87 (by repeat (first | assumption | exact hs_self (by assumption) | exact hs_self (hs_ne (by omega) (by assumption)) | exact hs_self (hs_ne (by omega) (hs_ne (by omega) (by assumption))) | refine hs_ne (by omega) ?_)) (by rfl) ?_
      refine j_iconst d_PC_readEdited_164 ?_
      refine j_iadd d_PC_readEdited_165 ?_
      refine xp_PC_6 d_PC_readEdited_166 pf_PC_readEdited_87 (by repeat (first | assumption | exact hs_self (by assumption) | exact hs_self (hs_ne (by omega) (by assumption)) | exact hs_self (hs_ne (by omega) (hs_ne (by omega) (by assumption))) | refine hs_ne (by omega) ?_)) ?_
      rw [List.set_set]
      exact k169 _ (by unfold hdS; rw [if_pos ⟨by omega, c146, by omega⟩]; omega)
  have k109 : ∀ v : Int, v = v4 → X E M_PC_readEdited 7 0 0 Z 109 [some (.ref p), some (vI (sgn G ct : Int)), some (vI v2), some (vI v3), none] [vI v] (h.set p (oP q ct dg0 sc0 sg0 1 bs0 be0 fi0 fl0)) 0 0 := by
    intro v e
    subst e
    refine x_istore d_PC_readEdited_109 (Nat.le_of_ble_eq_true rfl) ?_
    refine x_aload_n d_PC_readEdited_111 rfl rfl (by first | rfl | assumption) ?_
    refine x_iload_n d_PC_readEdited_112 rfl rfl ?_
    refine j_if_eq 120 d_PC_readEdited_113 (by decide) (by unfold iR; omega) (fun c113 => ?_) (fun c113 => ?_)
    · refine j_iconst d_PC_readEdited_120 ?_
      exact k121 _ (by unfold hd0; rw [if_neg (n2.1 c113)]; rfl)
    · refine j_iconst d_PC_readEdited_116 ?_
      refine x_goto 121 d_PC_readEdited_117 (by decide) ?_
      exact k121 _ (by unfold hd0; rw [if_pos (y2.1 c113)]; rfl)
  have k77 : ∀ v : Int, v = v3 → X E M_PC_readEdited 7 0 0 Z 77 [some (.ref p), some (vI (sgn G ct : Int)), some (vI v2), none, none] [vI v] (h.set p (oP q ct dg0 sc0 sg0 1 bs0 be0 fi0 fl0)) 0 0 := by
    intro v e
    subst e
    refine x_istore_n d_PC_readEdited_77 rfl (Nat.le_of_ble_eq_true rfl) ?_
    refine x_iload_n d_PC_readEdited_78 rfl rfl ?_
    refine j_if_ne 108 d_PC_readEdited_79 (by decide) (by unfold iR; omega) (fun c79 => ?_) (fun c79 => ?_)
    · refine j_iconst d_PC_readEdited_108 ?_
      exact k109 _ (isI_0 hv4 (fun x => by have := x.1; omega))
    refine x_aload_n d_PC_readEdited_82 rfl rfl (by first | rfl | assumption) ?_
    refine j_bipush d_PC_readEdited_83 (by decide) ?_
    refine j_bipush d_PC_readEdited_85 (by decide) ?_
    refine x_callV1 (M' := M_PC_endsWith) d_PC_readEdited_87 lk_PC_83 (c_endsWith 67 82 hS0 hQ0 hct.2 hG (by decide) (by decide)) mt_PC_endsWith im_PC_endsWith se_PC_endsWith (by repeat (first | assumption | exact hs_self (by assumption) | exact hs_self (hs_ne (by omega) (by assumption)) | exact hs_self (hs_ne (by omega) (hs_ne (by omega) (by assumption))) | refine hs_ne (by omega) ?_)) rfl (by decide) rfl (Nat.le_of_ble_eq_true rfl) (by decide) (by decide) ?_
    refine j_if_ne 104 d_PC_readEdited_90 (by decide) iteR (fun c90 => ?_) (fun c90 => ?_)
    · rw [ite11] at c90
      refine j_iconst d_PC_readEdited_104 ?_
      refine x_goto 109 d_PC_readEdited_105 (by decide) ?_
      exact k109 _ (isI_1 hv4 ⟨by omega, c90.1, Or.inl c90.2⟩)
    rw [ite10] at c90
    refine x_aload_n d_PC_readEdited_93 rfl rfl (by first | rfl | assumption) ?_
    refine j_bipush d_PC_readEdited_94 (by decide) ?_
    refine j_bipush d_PC_readEdited_96 (by decide) ?_
    refine x_callV1 (M' := M_PC_endsWith) d_PC_readEdited_98 lk_PC_83 (c_endsWith 68 66 hS0 hQ0 hct.2 hG (by decide) (by decide)) mt_PC_endsWith im_PC_endsWith se_PC_endsWith (by repeat (first | assumption | exact hs_self (by assumption) | exact hs_self (hs_ne (by omega) (by assumption)) | exact hs_self (hs_ne (by omega) (hs_ne (by omega) (by assumption))) | refine hs_ne (by omega) ?_)) rfl (by decide) rfl (Nat.le_of_ble_eq_true rfl) (by decide) (by decide) ?_
    refine j_if_eq 108 d_PC_readEdited_101 (by decide) iteR (fun c101 => ?_) (fun c101 => ?_)
    · rw [ite10] at c101
      refine j_iconst d_PC_readEdited_108 ?_
      exact k109 _ (isI_0 hv4 (fun x => by rcases x.2.2 with y | y; exact c90 ⟨x.2.1, y⟩; exact c101 ⟨x.2.1, y⟩))
    · rw [ite11] at c101
      refine j_iconst d_PC_readEdited_104 ?_
      refine x_goto 109 d_PC_readEdited_105 (by decide) ?_
      exact k109 _ (isI_1 hv4 ⟨by omega, c101.1, Or.inr c101.2⟩)
  have k43 : ∀ v : Int, v = v2 → X E M_PC_readEdited 7 0 0 Z 43 [some (.ref p), some (vI (sgn G ct : Int)), none, none, none] [vI v] (h.set p (oP q ct dg0 sc0 sg0 1 bs0 be0 fi0 fl0)) 0 0 := by
    intro v e
    subst e
    refine x_istore_n d_PC_readEdited_43 rfl (Nat.le_of_ble_eq_true rfl) ?_
    refine x_iload_n d_PC_readEdited_44 rfl rfl ?_
    refine j_iconst d_PC_readEdited_45 ?_
    refine j_icmp_ne 76 d_PC_readEdited_46 (by decide) (by unfold iR; omega) (by unfold iR; omega) (fun c46 => ?_) (fun c46 => ?_)
    · refine j_iconst d_PC_readEdited_76 ?_
      exact k77 _ (isI_0 hv3 (fun x => by have := x.1; omega))
    refine x_iload_n d_PC_readEdited_49 rfl rfl ?_
    refine j_if_ne 76 d_PC_readEdited_50 (by decide) (by unfold iR; omega) (fun c50 => ?_) (fun c50 => ?_)
    · refine j_iconst d_PC_readEdited_76 ?_
      exact k77 _ (isI_0 hv3 (fun x => x.2.1 (y2.1 c50).2))
    have h1 := hG (ct - 1) (by omega)
    refine x_ldcS d_PC_readEdited_53 (List.mem_of_getElem? (i := 1) rfl) ?_
    refine x_aload_n d_PC_readEdited_55 rfl rfl (by first | rfl | assumption) ?_
    refine x_get 2 0 d_PC_readEdited_56 gf_PC_9 (by repeat (first | assumption | exact hs_self (by assumption) | exact hs_self (hs_ne (by omega) (by assumption)) | exact hs_self (hs_ne (by omega) (hs_ne (by omega) (by assumption))) | refine hs_ne (by omega) ?_)) (by rfl) ?_
    refine x_aload_n d_PC_readEdited_59 rfl rfl (by first | rfl | assumption) ?_
    refine x_get 2 1 d_PC_readEdited_60 gf_PC_37 (by repeat (first | assumption | exact hs_self (by assumption) | exact hs_self (hs_ne (by omega) (by assumption)) | exact hs_self (hs_ne (by omega) (hs_ne (by omega) (by assumption))) | refine hs_ne (by omega) ?_)) (by rfl) ?_
    refine j_iconst d_PC_readEdited_63 ?_
    refine j_isub d_PC_readEdited_64 ?_
    refine j_cald d_PC_readEdited_65 (by repeat (first | assumption | exact hs_self (by assumption) | exact hs_self (hs_ne (by omega) (by assumption)) | exact hs_self (hs_ne (by omega) (hs_ne (by omega) (by assumption))) | refine hs_ne (by omega) ?_)) (by omega) (by omega) (by decide) ?_
    refine x_top (w := vI (G (ct - 1))) (by rw [show ((ct : Int) - 1).toNat = ct - 1 by omega]) ?_
    refine x_callS1 (M' := M_PC_isOneOf) d_PC_readEdited_66 lk_PC_63 (c_pmn E _ (G (ct - 1)) h1) mt_PC_isOneOf st_PC_isOneOf (by decide) rfl (Nat.le_of_ble_eq_true rfl) (by decide) (by decide) ?_
    refine j_if_eq 76 d_PC_readEdited_69 (by decide) iteR (fun c69 => ?_) (fun c69 => ?_)
    · rw [ite10] at c69
      refine j_iconst d_PC_readEdited_76 ?_
      exact k77 _ (isI_0 hv3 (fun x => c69 x.2.2))
    · rw [ite11] at c69
      refine j_iconst d_PC_readEdited_72 ?_
      refine x_goto 77 d_PC_readEdited_73 (by decide) ?_
      exact k77 _ (isI_1 hv3 ⟨by omega, fun x => n2.1 c50 ⟨by omega, x⟩, c69⟩)
  have hG0 := hG 0 (by omega)
  refine x_aload_n d_PC_readEdited_0 rfl rfl (by first | rfl | assumption) ?_
  refine j_iconst d_PC_readEdited_1 ?_
  refine xp_PC_5 d_PC_readEdited_2 pf_PC_readEdited_30 (by repeat (first | assumption | exact hs_self (by assumption) | exact hs_self (hs_ne (by omega) (by assumption)) | exact hs_self (hs_ne (by omega) (hs_ne (by omega) (by assumption))) | refine hs_ne (by omega) ?_)) (by omega) ?_
  refine x_aload_n d_PC_readEdited_5 rfl rfl (by first | rfl | assumption) ?_
  refine j_bipush d_PC_readEdited_6 (by decide) ?_
  refine x_callV1 (M' := M_PC_countOf) d_PC_readEdited_8 lk_PC_77 (c_countOf 43 hS0 hQ0 hct.2 hG (by decide)) mt_PC_countOf im_PC_countOf se_PC_countOf (by repeat (first | assumption | exact hs_self (by assumption) | exact hs_self (hs_ne (by omega) (by assumption)) | exact hs_self (hs_ne (by omega) (hs_ne (by omega) (by assumption))) | refine hs_ne (by omega) ?_)) rfl (by decide) rfl (Nat.le_of_ble_eq_true rfl) (by decide) (by decide) ?_
  refine x_aload_n d_PC_readEdited_11 rfl rfl (by first | rfl | assumption) ?_
  refine j_bipush d_PC_readEdited_12 (by decide) ?_
  refine x_callV1 (M' := M_PC_countOf) d_PC_readEdited_14 lk_PC_77 (c_countOf 45 hS0 hQ0 hct.2 hG (by decide)) mt_PC_countOf im_PC_countOf se_PC_countOf (by repeat (first | assumption | exact hs_self (by assumption) | exact hs_self (hs_ne (by omega) (by assumption)) | exact hs_self (hs_ne (by omega) (hs_ne (by omega) (by assumption))) | refine hs_ne (by omega) ?_)) rfl (by decide) rfl (Nat.le_of_ble_eq_true rfl) (by decide) (by decide) ?_
  refine j_iadd d_PC_readEdited_17 ?_
  refine x_top (w := vI (sgn G ct : Int)) (by unfold sgn; rw [sgn_2]; rfl) ?_
  refine x_istore_n d_PC_readEdited_18 rfl (Nat.le_of_ble_eq_true rfl) ?_
  refine x_iload_n d_PC_readEdited_19 rfl rfl ?_
  refine j_iconst d_PC_readEdited_20 ?_
  refine j_icmp_ne 42 d_PC_readEdited_21 (by decide) (by unfold iR; omega) (by unfold iR; omega) (fun c21 => ?_) (fun c21 => ?_)
  · refine j_iconst d_PC_readEdited_42 ?_
    exact k43 _ (isI_0 hv2 (fun x => by have := x.1; omega))
  refine x_ldcS d_PC_readEdited_24 (List.mem_of_getElem? (i := 1) rfl) ?_
  refine x_aload_n d_PC_readEdited_26 rfl rfl (by first | rfl | assumption) ?_
  refine x_get 2 0 d_PC_readEdited_27 gf_PC_9 (by repeat (first | assumption | exact hs_self (by assumption) | exact hs_self (hs_ne (by omega) (by assumption)) | exact hs_self (hs_ne (by omega) (hs_ne (by omega) (by assumption))) | refine hs_ne (by omega) ?_)) (by rfl) ?_
  refine j_iconst d_PC_readEdited_30 ?_
  refine j_cald d_PC_readEdited_31 (by repeat (first | assumption | exact hs_self (by assumption) | exact hs_self (hs_ne (by omega) (by assumption)) | exact hs_self (hs_ne (by omega) (hs_ne (by omega) (by assumption))) | refine hs_ne (by omega) ?_)) (by omega) (by omega) (by decide) ?_
  refine x_top (w := vI (G 0)) rfl ?_
  refine x_callS1 (M' := M_PC_isOneOf) d_PC_readEdited_32 lk_PC_63 (c_pmn E _ (G 0) hG0) mt_PC_isOneOf st_PC_isOneOf (by decide) rfl (Nat.le_of_ble_eq_true rfl) (by decide) (by decide) ?_
  refine j_if_eq 42 d_PC_readEdited_35 (by decide) iteR (fun c35 => ?_) (fun c35 => ?_)
  · rw [ite10] at c35
    refine j_iconst d_PC_readEdited_42 ?_
    exact k43 _ (isI_0 hv2 (fun x => c35 x.2))
  · rw [ite11] at c35
    refine j_iconst d_PC_readEdited_38 ?_
    refine x_goto 43 d_PC_readEdited_39 (by decide) ?_
    exact k43 _ (isI_1 hv2 ⟨by omega, c35⟩)
/-- a picture's object says what the picture is -/
def pcIs (x : PS) (ct : Nat) (dg sc sg ed bs be fi fl : Int) : Prop := x.1 = ct ∧ dg = (x.2.1 : Int) ∧ sc = (x.2.2.1 : Int) ∧ sg = qG x ∧ ed = qE x ∧ (qE x = 1 → bs = (x.2.2.2.2.2.1 : Int) ∧ be = (x.2.2.2.2.2.2.1 : Int) ∧ fi = x.2.2.2.2.2.2.2.1 ∧ fl = x.2.2.2.2.2.2.2.2)
set_option maxHeartbeats 1000000 in
theorem c_readDraft {u n : Nat} {ct0 dg0 sc0 sg0 ed0 bs0 be0 fi0 fl0 : Int} {G0 d : Nat → Int} (hp : h[p]? = some (oP q ct0 dg0 sc0 sg0 ed0 bs0 be0 fi0 fl0)) (hq : h[q]? = some (aC 18 G0)) (hu : h[u]? = some (aC 24 d)) (hpq : p ≠ q) (hpu : p ≠ u) (hqu : q ≠ u) (hG0 : ∀ j, j < 18 → 0 ≤ G0 j ∧ G0 j ≤ 126) (hd : ∀ i, i < 24 → 0 ≤ d i ∧ d i ≤ 126) (hn : n ≤ 24) : xCt E 8 0 0 M_PC_readDraft [.ref p, .ref u, vI n] h (rQ (fun w h' => ∃ (G : Nat → Int) (ct : Nat) (dg sc sg ed bs be fi fl : Int), h' = (h.set q (aC 18 G)).set p (oP q ct dg sc sg ed bs be fi fl) ∧ (∀ j, j < 18 → 0 ≤ G j ∧ G j ≤ 126) ∧ ((w = vI 0 ∧ rd2 d n = none) ∨ (w = vI 1 ∧ ∃ (G1 : Nat → Int) (x : PS), rd2 d n = some (G1, ct, x) ∧ (∀ j, j < ct → G j = G1 j) ∧ pcIs x ct dg sc sg ed bs be fi fl)))) := by
  refine x_met rfl rfl (Nat.le_of_ble_eq_true rfl) ?_
  refine x_aload_n d_PC_readDraft_0 rfl rfl (by first | rfl | assumption) ?_
  refine x_aload_n d_PC_readDraft_1 rfl rfl (by first | rfl | assumption) ?_
  refine x_iload_n d_PC_readDraft_2 rfl rfl ?_
  refine x_callVq (M' := M_PC_writeOut) d_PC_readDraft_3 lk_PC_19 (c_writeOut E h p q u n ct0 dg0 sc0 sg0 ed0 bs0 be0 fi0 fl0 G0 d hp hq hu hpq hpu hqu hG0 hd hn) mt_PC_writeOut im_PC_writeOut se_PC_writeOut (by repeat (first | assumption | exact hs_self (by assumption) | exact hs_self (hs_ne (by omega) (by assumption)) | exact hs_self (hs_ne (by omega) (hs_ne (by omega) (by assumption))) | refine hs_ne (by omega) ?_)) rfl (by decide) rfl (Nat.le_of_ble_eq_true rfl) (by decide) (by decide) ?_
  rintro v h' ⟨G, ct, rfl, hG, hct, hc⟩
  rcases hc with ⟨rfl, hno⟩ | ⟨rfl, G1, hr, hag⟩
  · refine j_if_eq 27 d_PC_readDraft_6 (by decide) (by unfold iR; omega) (fun c6 => ?_) (fun c6 => ?_)
    · refine j_iconst d_PC_readDraft_27 ?_
      refine j_zreturn d_PC_readDraft_28 rfl (by omega) ?_
      exact ⟨_, rfl, G, ct, _, _, _, _, _, _, _, _, rfl, hG, Or.inl ⟨rfl, by unfold rd2; rw [hno]⟩⟩
    · exact absurd rfl c6
  obtain ⟨-, hc0, -⟩ := dRd_ok hr
  have hcg := pRes_cg hc0 hag
  refine j_if_eq 27 d_PC_readDraft_6 (by decide) (by unfold iR; omega) (fun c6 => ?_) (fun c6 => ?_)
  · exact absurd c6 (by decide)
  refine x_aload_n d_PC_readDraft_9 rfl rfl (by first | rfl | assumption) ?_
  refine x_callVq (M' := M_PC_readNumeric) d_PC_readDraft_10 lk_PC_23 (c_readNumeric (hs_self (hs_ne (Ne.symm hpq) hp)) (hs_ne hpq (hs_self hq)) hpq ⟨hc0, hct⟩ hG) mt_PC_readNumeric im_PC_readNumeric se_PC_readNumeric (by repeat (first | assumption | exact hs_self (by assumption) | exact hs_self (hs_ne (by omega) (by assumption)) | exact hs_self (hs_ne (by omega) (hs_ne (by omega) (by assumption))) | refine hs_ne (by omega) ?_)) rfl (by decide) rfl (Nat.le_of_ble_eq_true rfl) (by decide) (by decide) ?_
  rintro v h' ⟨dg, sc, sg, rfl, hc⟩
  rw [List.set_set]
  rcases hc with ⟨rfl, hno⟩ | ⟨rfl, hN, hsg⟩
  · have hpe : pRes G ct = eRes G ct := by unfold pRes; rw [hno]
    refine j_if_ne 23 d_PC_readDraft_13 (by decide) (by unfold iR; omega) (fun c13 => ?_) (fun c13 => ?_)
    · exact absurd rfl c13
    refine x_aload_n d_PC_readDraft_16 rfl rfl (by first | rfl | assumption) ?_
    refine x_callVq (M' := M_PC_readEdited) d_PC_readDraft_17 lk_PC_27 (c_readEd2 (hs_self (hs_ne (Ne.symm hpq) hp)) (hs_ne hpq (hs_self hq)) hpq ⟨hc0, hct⟩ hG) mt_PC_readEdited im_PC_readEdited se_PC_readEdited (by repeat (first | assumption | exact hs_self (by assumption) | exact hs_self (hs_ne (by omega) (by assumption)) | exact hs_self (hs_ne (by omega) (hs_ne (by omega) (by assumption))) | refine hs_ne (by omega) ?_)) rfl (by decide) rfl (Nat.le_of_ble_eq_true rfl) (by decide) (by decide) ?_
    rintro v h' ⟨dg, sc, sg, bs, be, fi, fl, rfl, hc⟩
    rw [List.set_set]
    rcases hc with ⟨rfl, hno2⟩ | ⟨rfl, dgn, scn, hdn, ben, he, rfl, rfl, rfl, rfl⟩
    · refine j_if_eq 27 d_PC_readDraft_20 (by decide) (by unfold iR; omega) (fun c20 => ?_) (fun c20 => ?_)
      · refine j_iconst d_PC_readDraft_27 ?_
        refine j_zreturn d_PC_readDraft_28 rfl (by omega) ?_
        exact ⟨_, rfl, G, ct, _, _, _, _, _, _, _, _, rfl, hG, Or.inl ⟨rfl, by unfold rd2; rw [hr]; show (match pRes G1 ct with | none => none | some p => some (G1, ct, p)) = none; rw [← hcg, hpe, hno2]⟩⟩
      · exact absurd rfl c20
    · refine j_if_eq 27 d_PC_readDraft_20 (by decide) (by unfold iR; omega) (fun c20 => ?_) (fun c20 => ?_)
      · exact absurd c20 (by decide)
      · refine j_iconst d_PC_readDraft_23 ?_
        refine x_goto 28 d_PC_readDraft_24 (by decide) ?_
        refine j_zreturn d_PC_readDraft_28 rfl (by omega) ?_
        exact ⟨_, rfl, G, ct, _, _, _, _, _, _, _, _, rfl, hG, Or.inr ⟨rfl, G1, _, by unfold rd2; rw [hr]; show (match pRes G1 ct with | none => none | some p => some (G1, ct, p)) = _; rw [← hcg, hpe, he], hag, rfl, rfl, rfl, rfl, rfl, fun _ => ⟨rfl, rfl, rfl, rfl⟩⟩⟩
  · have hpe : pRes G ct = some (ct, dg, sc, if G 0 = 83 then 1 else 0, 0, 0, 0, 32, 0) := by unfold pRes; rw [hN]
    refine j_if_ne 23 d_PC_readDraft_13 (by decide) (by unfold iR; omega) (fun c13 => ?_) (fun c13 => ?_)
    · refine j_iconst d_PC_readDraft_23 ?_
      refine x_goto 28 d_PC_readDraft_24 (by decide) ?_
      refine j_zreturn d_PC_readDraft_28 rfl (by omega) ?_
      exact ⟨_, rfl, G, ct, _, _, _, _, _, _, _, _, rfl, hG, Or.inr ⟨rfl, G1, _, by unfold rd2; rw [hr]; show (match pRes G1 ct with | none => none | some p => some (G1, ct, p)) = _; rw [← hcg, hpe], hag, rfl, rfl, rfl, hsg, rfl, fun x => absurd (show (0 : Int) = 1 from x) (by decide)⟩⟩
    · exact absurd c13 (by decide)
set_option maxHeartbeats 1000000 in
theorem c_goesWith {ct dg sc sg ed bs be fi fl us : Int} (hp : h[p]? = some (oP q ct dg sc sg ed bs be fi fl)) (hsg : sg = 0 ∨ sg = 1) (hed : ed = 0 ∨ ed = 1) (hus : iR us) : xCt E 0 0 0 M_PC_goesWith [.ref p, vI us] h (rV (vI (if us < 0 ∨ 3 < us ∨ (ed = 1 ∧ ¬ us = 0) ∨ (us = 2 ∧ sg = 0) then 0 else 1)) h) := by
  refine x_met rfl rfl (Nat.le_of_ble_eq_true rfl) ?_
  unfold iR at hus
  refine x_iload_n d_PC_goesWith_0 rfl rfl ?_
  refine j_if_lt 20 d_PC_goesWith_1 (by decide) (by unfold iR; omega) (fun c1 => ?_) (fun c1 => ?_)
  · refine j_iconst d_PC_goesWith_20 ?_
    refine j_zreturn d_PC_goesWith_21 rfl (by omega) ?_
    exact rV_i (by split <;> omega) rfl
  · refine x_iload_n d_PC_goesWith_4 rfl rfl ?_
    refine j_iconst d_PC_goesWith_5 ?_
    refine j_icmp_gt 20 d_PC_goesWith_6 (by decide) (by unfold iR; omega) (by unfold iR; omega) (fun c6 => ?_) (fun c6 => ?_)
    · refine j_iconst d_PC_goesWith_20 ?_
      refine j_zreturn d_PC_goesWith_21 rfl (by omega) ?_
      exact rV_i (by split <;> omega) rfl
    · refine x_aload_n d_PC_goesWith_9 rfl rfl (by first | rfl | assumption) ?_
      refine x_get 2 5 d_PC_goesWith_10 gf_PC_30 (by repeat (first | assumption | exact hs_self (by assumption) | exact hs_self (hs_ne (by omega) (by assumption)) | exact hs_self (hs_ne (by omega) (hs_ne (by omega) (by assumption))) | refine hs_ne (by omega) ?_)) (by rfl) ?_
      refine j_if_eq 22 d_PC_goesWith_13 (by decide) (by unfold iR; omega) (fun c13 => ?_) (fun c13 => ?_)
      · refine x_aload_n d_PC_goesWith_22 rfl rfl (by first | rfl | assumption) ?_
        refine x_get 2 4 d_PC_goesWith_23 gf_PC_34 (by repeat (first | assumption | exact hs_self (by assumption) | exact hs_self (hs_ne (by omega) (by assumption)) | exact hs_self (hs_ne (by omega) (hs_ne (by omega) (by assumption))) | refine hs_ne (by omega) ?_)) (by rfl) ?_
        refine j_if_ne 34 d_PC_goesWith_26 (by decide) (by unfold iR; omega) (fun c26 => ?_) (fun c26 => ?_)
        · refine j_iconst d_PC_goesWith_34 ?_
          refine x_goto 39 d_PC_goesWith_35 (by decide) ?_
          refine j_zreturn d_PC_goesWith_39 rfl (by omega) ?_
          exact rV_i (by split <;> omega) rfl
        · refine x_iload_n d_PC_goesWith_29 rfl rfl ?_
          refine j_iconst d_PC_goesWith_30 ?_
          refine j_icmp_eq 38 d_PC_goesWith_31 (by decide) (by unfold iR; omega) (by unfold iR; omega) (fun c31 => ?_) (fun c31 => ?_)
          · refine j_iconst d_PC_goesWith_38 ?_
            refine j_zreturn d_PC_goesWith_39 rfl (by omega) ?_
            exact rV_i (by split <;> omega) rfl
          · refine j_iconst d_PC_goesWith_34 ?_
            refine x_goto 39 d_PC_goesWith_35 (by decide) ?_
            refine j_zreturn d_PC_goesWith_39 rfl (by omega) ?_
            exact rV_i (by split <;> omega) rfl
      · refine x_iload_n d_PC_goesWith_16 rfl rfl ?_
        refine j_if_eq 22 d_PC_goesWith_17 (by decide) (by unfold iR; omega) (fun c17 => ?_) (fun c17 => ?_)
        · refine x_aload_n d_PC_goesWith_22 rfl rfl (by first | rfl | assumption) ?_
          refine x_get 2 4 d_PC_goesWith_23 gf_PC_34 (by repeat (first | assumption | exact hs_self (by assumption) | exact hs_self (hs_ne (by omega) (by assumption)) | exact hs_self (hs_ne (by omega) (hs_ne (by omega) (by assumption))) | refine hs_ne (by omega) ?_)) (by rfl) ?_
          refine j_if_ne 34 d_PC_goesWith_26 (by decide) (by unfold iR; omega) (fun c26 => ?_) (fun c26 => ?_)
          · refine j_iconst d_PC_goesWith_34 ?_
            refine x_goto 39 d_PC_goesWith_35 (by decide) ?_
            refine j_zreturn d_PC_goesWith_39 rfl (by omega) ?_
            exact rV_i (by split <;> omega) rfl
          · refine x_iload_n d_PC_goesWith_29 rfl rfl ?_
            refine j_iconst d_PC_goesWith_30 ?_
            refine j_icmp_eq 38 d_PC_goesWith_31 (by decide) (by unfold iR; omega) (by unfold iR; omega) (fun c31 => ?_) (fun c31 => ?_)
            · refine j_iconst d_PC_goesWith_38 ?_
              refine j_zreturn d_PC_goesWith_39 rfl (by omega) ?_
              exact rV_i (by split <;> omega) rfl
            · refine j_iconst d_PC_goesWith_34 ?_
              refine x_goto 39 d_PC_goesWith_35 (by decide) ?_
              refine j_zreturn d_PC_goesWith_39 rfl (by omega) ?_
              exact rV_i (by split <;> omega) rfl
        · refine j_iconst d_PC_goesWith_20 ?_
          refine j_zreturn d_PC_goesWith_21 rfl (by omega) ?_
          exact rV_i (by split <;> omega) rfl
set_option maxHeartbeats 1000000 in
theorem c_lengthAs {sc sg ed bs be fi fl us : Int} {ct dg : Nat} (hp : h[p]? = some (oP q ct dg sc sg ed bs be fi fl)) (hed : ed = 0 ∨ ed = 1) (hus : 0 ≤ us ∧ us ≤ 3) (hdg : dg ≤ 9) : xCt E 0 0 0 M_PC_lengthAs [.ref p, vI us] h (rV (vI (if ed = 1 then (ct : Int) else if us = 1 then ((dg / 2 + 1 : Nat) : Int) else if us = 2 then (dg : Int) + 1 else if us = 3 then (if dg ≤ 4 then 2 else 4) else (dg : Int))) h) := by
  refine x_met rfl rfl (Nat.le_of_ble_eq_true rfl) ?_
  refine x_aload_n d_PC_lengthAs_0 rfl rfl (by first | rfl | assumption) ?_
  refine x_get 2 5 d_PC_lengthAs_1 gf_PC_30 (by repeat (first | assumption | exact hs_self (by assumption) | exact hs_self (hs_ne (by omega) (by assumption)) | exact hs_self (hs_ne (by omega) (hs_ne (by omega) (by assumption))) | refine hs_ne (by omega) ?_)) (by rfl) ?_
  refine j_if_eq 12 d_PC_lengthAs_4 (by decide) (by unfold iR; omega) (fun c4 => ?_) (fun c4 => ?_)
  · refine x_iload_n d_PC_lengthAs_12 rfl rfl ?_
    rcases (show us = 0 ∨ us = 1 ∨ us = 2 ∨ us = 3 by omega) with rfl | rfl | rfl | rfl
    · refine j_table_out 70 d_PC_lengthAs_13 (by unfold iR; decide) (Or.inl (by decide)) (by decide) ?_
      refine x_aload_n d_PC_lengthAs_70 rfl rfl (by first | rfl | assumption) ?_
      refine x_get 2 2 d_PC_lengthAs_71 gf_PC_41 (by repeat (first | assumption | exact hs_self (by assumption) | exact hs_self (hs_ne (by omega) (by assumption)) | exact hs_self (hs_ne (by omega) (hs_ne (by omega) (by assumption))) | refine hs_ne (by omega) ?_)) (by rfl) ?_
      refine x_ireturn d_PC_lengthAs_74 rfl ?_
      exact rV_i (by rw [if_neg (by omega)]; rfl) rfl
    · refine j_table_in 40 d_PC_lengthAs_13 (by unfold iR; decide) (by decide) (by decide) rfl (by decide) ?_
      refine x_aload_n d_PC_lengthAs_40 rfl rfl (by first | rfl | assumption) ?_
      refine x_get 2 2 d_PC_lengthAs_41 gf_PC_41 (by repeat (first | assumption | exact hs_self (by assumption) | exact hs_self (hs_ne (by omega) (by assumption)) | exact hs_self (hs_ne (by omega) (hs_ne (by omega) (by assumption))) | refine hs_ne (by omega) ?_)) (by rfl) ?_
      refine j_iconst d_PC_lengthAs_44 ?_
      refine j_idiv d_PC_lengthAs_45 (by unfold iR; omega) (by unfold iR; omega) (by first | decide | omega) ?_
      refine j_iconst d_PC_lengthAs_46 ?_
      refine j_iadd d_PC_lengthAs_47 ?_
      refine x_ireturn d_PC_lengthAs_48 rfl ?_
      exact rV_i (by rw [if_neg (by omega)]; rfl) rfl
    · refine j_table_in 49 d_PC_lengthAs_13 (by unfold iR; decide) (by decide) (by decide) rfl (by decide) ?_
      refine x_aload_n d_PC_lengthAs_49 rfl rfl (by first | rfl | assumption) ?_
      refine x_get 2 2 d_PC_lengthAs_50 gf_PC_41 (by repeat (first | assumption | exact hs_self (by assumption) | exact hs_self (hs_ne (by omega) (by assumption)) | exact hs_self (hs_ne (by omega) (hs_ne (by omega) (by assumption))) | refine hs_ne (by omega) ?_)) (by rfl) ?_
      refine j_iconst d_PC_lengthAs_53 ?_
      refine j_iadd d_PC_lengthAs_54 ?_
      refine x_ireturn d_PC_lengthAs_55 rfl ?_
      exact rV_i (by rw [if_neg (by omega)]; rfl) rfl
    · refine j_table_in 56 d_PC_lengthAs_13 (by unfold iR; decide) (by decide) (by decide) rfl (by decide) ?_
      refine x_aload_n d_PC_lengthAs_56 rfl rfl (by first | rfl | assumption) ?_
      refine x_get 2 2 d_PC_lengthAs_57 gf_PC_41 (by repeat (first | assumption | exact hs_self (by assumption) | exact hs_self (hs_ne (by omega) (by assumption)) | exact hs_self (hs_ne (by omega) (hs_ne (by omega) (by assumption))) | refine hs_ne (by omega) ?_)) (by rfl) ?_
      refine j_iconst d_PC_lengthAs_60 ?_
      refine j_icmp_gt 68 d_PC_lengthAs_61 (by decide) (by unfold iR; omega) (by unfold iR; omega) (fun c61 => ?_) (fun c61 => ?_)
      · refine j_iconst d_PC_lengthAs_68 ?_
        refine x_ireturn d_PC_lengthAs_69 rfl ?_
        exact rV_i (by rw [if_neg (by omega)]; show (4 : Int) = if dg ≤ 4 then 2 else 4; rw [if_neg (by omega)]) rfl
      · refine j_iconst d_PC_lengthAs_64 ?_
        refine x_goto 69 d_PC_lengthAs_65 (by decide) ?_
        refine x_ireturn d_PC_lengthAs_69 rfl ?_
        exact rV_i (by rw [if_neg (by omega)]; show (2 : Int) = if dg ≤ 4 then 2 else 4; rw [if_pos (by omega)]) rfl
  · refine x_aload_n d_PC_lengthAs_7 rfl rfl (by first | rfl | assumption) ?_
    refine x_get 2 1 d_PC_lengthAs_8 gf_PC_37 (by repeat (first | assumption | exact hs_self (by assumption) | exact hs_self (hs_ne (by omega) (by assumption)) | exact hs_self (hs_ne (by omega) (hs_ne (by omega) (by assumption))) | refine hs_ne (by omega) ?_)) (by rfl) ?_
    refine x_ireturn d_PC_lengthAs_11 rfl ?_
    exact rV_i (by rw [if_pos (by omega)]) rfl
end PCE
