/-! the model's edited pictures: the end of it -/
theorem isI_q {P Q : Prop} [Decidable P] [Decidable Q] {v : Int} (h : isI P v) (e : eqv Q P) : (if Q then (1 : Int) else 0) = v := by
  by_cases x : P
  · rw [← isI_1 h x, if_pos (e.2 x)]
  · rw [← isI_0 h x, if_neg (fun y => x (e.1 y))]
theorem vf_1 {fi v : Int} (h : isI (flo fi) v) : eqv (v = 1) (flo fi) := by
  unfold isI at h; unfold eqv; rw [h]; split <;> simp_all
section YF
variable {fi yf : Int} {fc : Nat}
theorem yf_flo (hyf : yf = (if fc = 0 then 0 else fi)) (hff : fi = 32 ∧ fc = 0 ∨ fil fi ∧ 0 < fc) : eqv (yf = 36 ∨ yf = 43 ∨ yf = 45) (flo fi) := by
  unfold eqv
  rw [hyf]
  by_cases x : fc = 0
  · rw [if_pos x]; constructor <;> intro y <;> omega
  · rw [if_neg x]
theorem yf_pmn (hyf : yf = (if fc = 0 then 0 else fi)) (hff : fi = 32 ∧ fc = 0 ∨ fil fi ∧ 0 < fc) : eqv (yf = 43 ∨ yf = 45) (pmn fi) := by
  unfold eqv
  rw [hyf]
  by_cases x : fc = 0
  · rw [if_pos x]; constructor <;> intro y <;> omega
  · rw [if_neg x]
theorem yf_R (hyf : yf = (if fc = 0 then 0 else fi)) (hff : fi = 32 ∧ fc = 0 ∨ fil fi ∧ 0 < fc) : iR yf := by
  rw [hyf]; unfold iR; split <;> omega
theorem eDg_v {nn : Nat} {v : Int} (h : isI (flo fi) v) (hff : fi = 32 ∧ fc = 0 ∨ fil fi ∧ 0 < fc) : (eDg nn fc fi : Int) = (nn : Int) + fc - v := by
  unfold eDg
  by_cases x : flo fi
  · have : 0 < fc := by
      rcases hff with ⟨y, -⟩ | y
      · exfalso; omega
      · exact y.2
    rw [if_pos x, ← isI_1 h x]; omega
  · rw [if_neg x, ← isI_0 h x]; omega
end YF
def edW (G : Nat → Int) (ct : Nat) (v w : Nat → Int) : Prop := (w 2 = v 2 ∧ w 4 = v 4 ∧ w 11 = v 11) ∧ w 5 = (hdS G ct : Int) ∧ w 6 = (tlS G ct : Int) ∧ w 10 = 1
theorem edW_g {G : Nat → Int} {ct : Nat} {v w : Nat → Int} {k : Nat} {x : Int} (h : edW G ct v w) (hk : k = 7 ∨ k = 8 ∨ k = 9) : edW G ct v (gU w k x) := by
  obtain ⟨⟨a, b, c⟩, d, e, f⟩ := h
  exact ⟨⟨by rw [gU_ne _ _ (by omega)]; exact a, by rw [gU_ne _ _ (by omega)]; exact b, by rw [gU_ne _ _ (by omega)]; exact c⟩, by rw [gU_ne _ _ (by omega)]; exact d, by rw [gU_ne _ _ (by omega)]; exact e, by rw [gU_ne _ _ (by omega)]; exact f⟩
theorem tl_ct {G : Nat → Int} {ct : Nat} (h : 1 ≤ ct) : tlS G ct ≤ ct := by
  unfold tlS
  split
  · omega
  · split
    · rename_i x; exact x.2.1
    · omega
section MPE2
variable {E : xEnv} {h : xH} {mo : Nat} {v : Nat → Int} {so tg us : Int}
def eM (G : Nat → Int) (ct : Nat) (v v' : Nat → Int) (w : Value) : Prop := (v' 2 = v 2 ∧ v' 4 = v 4 ∧ v' 11 = v 11) ∧ ((w = vI 0 ∧ eRes G ct = none) ∨ (w = vI 1 ∧ ∃ x : PS, eRes G ct = some x ∧ v' 7 = (x.2.1 : Int) ∧ v' 8 = (x.2.2.1 : Int) ∧ v' 9 = qG x ∧ v' 10 = 1 ∧ v' 5 = (x.2.2.2.2.2.1 : Int) ∧ v' 6 = (ct : Int) - (x.2.2.2.2.2.2.1 : Int)))
set_option maxHeartbeats 1000000 in
theorem ed_297 {ct dgn sc : Nat} {G w : Nat → Int} {s fi : Int} {L : List (Option Value)} (hm : h[mo]? = some (oM mo v so tg us)) (hw : edW G ct v w) (h7 : w 7 = dgn) (h8 : w 8 = sc) (hd : dgn ≤ 40) (hsc : sc ≤ 40) (hs : s = eSg G ct fi) (htl : tlS G ct ≤ ct) (hE : eRes G ct = if lim dgn sc then some (ct, dgn, sc, eSg G ct fi, 1, hdS G ct, ct - tlS G ct, fi, if flo fi then 1 else 0) else none) : X E M_MD_editing 2 0 0 (xZ E 0 0 (rQ (fun w h' => ∃ v' : Nat → Int, h' = h.set mo (oM mo v' so tg us) ∧ eM G ct v v' w))) 297 (some (.ref mo) :: L) [vI s, .ref mo] (h.set mo (oM mo w so tg us)) 0 0 := by
  refine xp_MD_9 d_MD_editing_297 pf_MD_editing_84 (by repeat (first | assumption | exact hs_self (by assumption) | exact hs_self (hs_ne (by omega) (by assumption)) | exact hs_self (hs_ne (by omega) (hs_ne (by omega) (by assumption))) | refine hs_ne (by omega) ?_)) (by rw [hs]; unfold eSg; exact ite01') ?_
  rw [List.set_set]
  obtain ⟨w2, hw2⟩ : ∃ w2, w2 = gU w 9 s := ⟨_, rfl⟩
  have e7 : w2 7 = (dgn : Int) := by rw [hw2, gU_ne _ _ (by decide), h7]
  have e8 : w2 8 = (sc : Int) := by rw [hw2, gU_ne _ _ (by decide), h8]
  have e9 : w2 9 = s := by rw [hw2, gU_self]
  have ew : edW G ct v w2 := by rw [hw2]; exact edW_g hw (by decide)
  rw [← hw2]
  clear hw2
  have yes : lim dgn sc → (rQ (fun w h' => ∃ v' : Nat → Int, h' = h.set mo (oM mo v' so tg us) ∧ eM G ct v v' w)) (some (vI 1)) (h.set mo (oM mo w2 so tg us)) := fun y => ⟨_, rfl, w2, rfl, ew.1, Or.inr ⟨rfl, _, by rw [hE, if_pos y], e7, e8, by rw [e9, hs], ew.2.2.2, ew.2.1, by rw [ew.2.2.1]; show (tlS G ct : Int) = (ct : Int) - ((ct - tlS G ct : Nat) : Int); omega⟩⟩
  have no : ¬ lim dgn sc → (rQ (fun w h' => ∃ v' : Nat → Int, h' = h.set mo (oM mo v' so tg us) ∧ eM G ct v v' w)) (some (vI 0)) (h.set mo (oM mo w2 so tg us)) := fun y => ⟨_, rfl, w2, rfl, ew.1, Or.inl ⟨rfl, by rw [hE, if_neg y]⟩⟩
  clear hE
  refine x_aload_n d_MD_editing_300 rfl rfl (by first | rfl | assumption) ?_
  refine x_get 5 7 d_MD_editing_301 gf_MD_97 (by repeat (first | assumption | exact hs_self (by assumption) | exact hs_self (hs_ne (by omega) (by assumption)) | exact hs_self (hs_ne (by omega) (hs_ne (by omega) (by assumption))) | refine hs_ne (by omega) ?_)) (by rfl) ?_
  refine j_iconst d_MD_editing_304 ?_
  refine j_icmp_lt 329 d_MD_editing_305 (by decide) (by unfold iR; omega) (by unfold iR; omega) (fun c305 => ?_) (fun c305 => ?_)
  · refine j_iconst d_MD_editing_329 ?_
    refine j_zreturn d_MD_editing_330 rfl (by omega) ?_
    first | exact yes (by omega) | exact no (by omega)
  · refine x_aload_n d_MD_editing_308 rfl rfl (by first | rfl | assumption) ?_
    refine x_get 5 7 d_MD_editing_309 gf_MD_97 (by repeat (first | assumption | exact hs_self (by assumption) | exact hs_self (hs_ne (by omega) (by assumption)) | exact hs_self (hs_ne (by omega) (hs_ne (by omega) (by assumption))) | refine hs_ne (by omega) ?_)) (by rfl) ?_
    refine j_bipush d_MD_editing_312 (by decide) ?_
    refine j_icmp_gt 329 d_MD_editing_314 (by decide) (by unfold iR; omega) (by unfold iR; omega) (fun c314 => ?_) (fun c314 => ?_)
    · refine j_iconst d_MD_editing_329 ?_
      refine j_zreturn d_MD_editing_330 rfl (by omega) ?_
      first | exact yes (by omega) | exact no (by omega)
    · refine x_aload_n d_MD_editing_317 rfl rfl (by first | rfl | assumption) ?_
      refine x_get 5 8 d_MD_editing_318 gf_MD_100 (by repeat (first | assumption | exact hs_self (by assumption) | exact hs_self (hs_ne (by omega) (by assumption)) | exact hs_self (hs_ne (by omega) (hs_ne (by omega) (by assumption))) | refine hs_ne (by omega) ?_)) (by rfl) ?_
      refine j_iconst d_MD_editing_321 ?_
      refine j_icmp_gt 329 d_MD_editing_322 (by decide) (by unfold iR; omega) (by unfold iR; omega) (fun c322 => ?_) (fun c322 => ?_)
      · refine j_iconst d_MD_editing_329 ?_
        refine j_zreturn d_MD_editing_330 rfl (by omega) ?_
        first | exact yes (by omega) | exact no (by omega)
      · refine j_iconst d_MD_editing_325 ?_
        refine x_goto 330 d_MD_editing_326 (by decide) ?_
        refine j_zreturn d_MD_editing_330 rfl (by omega) ?_
        first | exact yes (by omega) | exact no (by omega)
set_option maxHeartbeats 1000000 in
theorem ed_237 {ct dgn nn sc fc : Nat} {G w : Nat → Int} {fi y1 yf b v' : Int} {x5 : Option Value} (hm : h[mo]? = some (oM mo v so tg us)) (hsy : h[mo + 3]? = some (aI 18 G)) (hG0 : 0 ≤ G 0 ∧ G 0 ≤ 126) (hw : edW G ct v w) (h7 : w 7 = nn) (h8 : w 8 = sc) (hnn : nn ≤ 18) (hfc : fc ≤ 18) (hsc : sc ≤ 18) (hy1 : y1 = fc) (hyR : iR yf) (hypm : eqv (yf = 43 ∨ yf = 45) (pmn fi)) (hv01 : 0 ≤ v' ∧ v' ≤ 1) (hdg : (dgn : Int) = (nn : Int) + fc - v') (hct : 1 ≤ ct ∧ ct ≤ 18) (htl : tlS G ct ≤ ct) (hE : eRes G ct = if lim dgn sc then some (ct, dgn, sc, eSg G ct fi, 1, hdS G ct, ct - tlS G ct, fi, if flo fi then 1 else 0) else none) : X E M_MD_editing 2 0 0 (xZ E 0 0 (rQ (fun w h' => ∃ v' : Nat → Int, h' = h.set mo (oM mo v' so tg us) ∧ eM G ct v v' w))) 237 [some (.ref mo), some (vI y1), some (vI yf), some (vI b), some (vI v'), x5] [] (h.set mo (oM mo w so tg us)) 0 0 := by
  have hhd := hdS_le (G := G) hct.1
  have k254 : ∀ x : Int, x = (fc : Int) - v' → X E M_MD_editing 2 0 0 (xZ E 0 0 (rQ (fun w h' => ∃ v' : Nat → Int, h' = h.set mo (oM mo v' so tg us) ∧ eM G ct v v' w))) 254 [some (.ref mo), some (vI y1), some (vI yf), some (vI b), some (vI v'), x5] [vI x, vI (w 7), .ref mo] (h.set mo (oM mo w so tg us)) 0 0 := by
    intro x hx
    refine j_iadd d_MD_editing_254 ?_
    refine xp_MD_7 d_MD_editing_255 pf_MD_editing_97 (by repeat (first | assumption | exact hs_self (by assumption) | exact hs_self (hs_ne (by omega) (by assumption)) | exact hs_self (hs_ne (by omega) (hs_ne (by omega) (by assumption))) | refine hs_ne (by omega) ?_)) ?_
    rw [List.set_set]
    obtain ⟨w1, hw1⟩ : ∃ w1, w1 = gU w 7 (w 7 + x) := ⟨_, rfl⟩
    have f7 : w1 7 = (dgn : Int) := by rw [hw1, gU_self]; omega
    have f8 : w1 8 = (sc : Int) := by rw [hw1, gU_ne _ _ (by decide), h8]
    have ew : edW G ct v w1 := by rw [hw1]; exact edW_g hw (by decide)
    have f5 := ew.2.1
    have f6 := ew.2.2.1
    rw [← hw1]
    clear hw1
    have k297 : ∀ (s : Int) (L : List (Option Value)), s = eSg G ct fi → X E M_MD_editing 2 0 0 (xZ E 0 0 (rQ (fun w h' => ∃ v' : Nat → Int, h' = h.set mo (oM mo v' so tg us) ∧ eM G ct v v' w))) 297 (some (.ref mo) :: L) [vI s, .ref mo] (h.set mo (oM mo w1 so tg us)) 0 0 := fun s L hs => ed_297 hm ew f7 f8 (by omega) (by omega) hs htl hE
    clear hE
    have k278 : ¬ inH G ct → X E M_MD_editing 2 0 0 (xZ E 0 0 (rQ (fun w h' => ∃ v' : Nat → Int, h' = h.set mo (oM mo v' so tg us) ∧ eM G ct v v' w))) 278 [some (.ref mo), some (vI y1), some (vI yf), some (vI b), some (vI v'), x5] [.ref mo] (h.set mo (oM mo w1 so tg us)) 0 0 := by
      intro hnh
      refine x_aload_n d_MD_editing_278 rfl rfl (by first | rfl | assumption) ?_
      refine x_get 5 6 d_MD_editing_279 gf_MD_94 (by repeat (first | assumption | exact hs_self (by assumption) | exact hs_self (hs_ne (by omega) (by assumption)) | exact hs_self (hs_ne (by omega) (hs_ne (by omega) (by assumption))) | refine hs_ne (by omega) ?_)) (by rfl) ?_
      refine j_if_gt 292 d_MD_editing_282 (by decide) (by unfold iR; omega) (fun c282 => ?_) (fun c282 => ?_)
      · have ht0 : 0 < tlS G ct := by clear hnh; omega
        refine j_iconst d_MD_editing_292 ?_
        refine x_goto 297 d_MD_editing_293 (by decide) ?_
        exact k297 _ _ (by unfold eSg; rcases tl_iff.1 ht0 with y | y; rw [if_pos (Or.inr (Or.inl y))]; rw [if_pos (Or.inr (Or.inr (Or.inl y)))])
      have ht0 : ¬ 0 < tlS G ct := by clear hnh; omega
      have hnt : ¬ (inT G ct ∨ wrd G ct) := fun y => ht0 (tl_iff.2 y)
      refine x_iload_n d_MD_editing_285 rfl rfl ?_
      refine x_callS1 (M' := M_MD_plusMinus) d_MD_editing_286 lk_MD_61 (c_plusMinus E _ yf hyR) mt_MD_plusMinus st_MD_plusMinus (by decide) rfl (Nat.le_of_ble_eq_true rfl) (by decide) (by decide) ?_
      refine j_if_eq 296 d_MD_editing_289 (by decide) iteR (fun c289 => ?_) (fun c289 => ?_)
      · rw [ite10] at c289
        refine j_iconst d_MD_editing_296 ?_
        exact k297 _ _ (by unfold eSg; rw [if_neg (fun z => by rcases z with z | z | z | z; exact hnh z; exact hnt (Or.inl z); exact hnt (Or.inr z); exact c289 (hypm.2 z))])
      · rw [ite11] at c289
        refine j_iconst d_MD_editing_292 ?_
        refine x_goto 297 d_MD_editing_293 (by decide) ?_
        exact k297 _ _ (by unfold eSg; rw [if_pos (Or.inr (Or.inr (Or.inr (hypm.1 c289))))])
    refine x_aload_n d_MD_editing_258 rfl rfl (by first | rfl | assumption) ?_
    refine x_aload_n d_MD_editing_259 rfl rfl (by first | rfl | assumption) ?_
    refine x_get 5 5 d_MD_editing_260 gf_MD_91 (by repeat (first | assumption | exact hs_self (by assumption) | exact hs_self (hs_ne (by omega) (by assumption)) | exact hs_self (hs_ne (by omega) (hs_ne (by omega) (by assumption))) | refine hs_ne (by omega) ?_)) (by rfl) ?_
    refine j_if_le 278 d_MD_editing_263 (by decide) (by unfold iR; omega) (fun c263 => ?_) (fun c263 => ?_)
    · exact k278 (fun y => by have := (inH_iff.2 y).1; clear y; omega)
    refine x_aload_n d_MD_editing_266 rfl rfl (by first | rfl | assumption) ?_
    refine x_get 5 3 d_MD_editing_267 gf_MD_16 (by repeat (first | assumption | exact hs_self (by assumption) | exact hs_self (hs_ne (by omega) (by assumption)) | exact hs_self (hs_ne (by omega) (hs_ne (by omega) (by assumption))) | refine hs_ne (by omega) ?_)) (by rfl) ?_
    refine j_iconst d_MD_editing_270 ?_
    refine j_iald d_MD_editing_271 (by repeat (first | assumption | exact hs_self (by assumption) | exact hs_self (hs_ne (by omega) (by assumption)) | exact hs_self (hs_ne (by omega) (hs_ne (by omega) (by assumption))) | refine hs_ne (by omega) ?_)) (by omega) (by omega) (by decide) ?_
    refine x_top (w := vI (G 0)) rfl ?_
    refine x_callS1 (M' := M_MD_plusMinus) d_MD_editing_272 lk_MD_61 (c_plusMinus E _ (G 0) (by unfold iR; omega)) mt_MD_plusMinus st_MD_plusMinus (by decide) rfl (Nat.le_of_ble_eq_true rfl) (by decide) (by decide) ?_
    refine j_if_ne 292 d_MD_editing_275 (by decide) iteR (fun c275 => ?_) (fun c275 => ?_)
    · rw [ite11] at c275
      have ht0 : 0 < hdS G ct := by clear c275; omega
      refine j_iconst d_MD_editing_292 ?_
      refine x_goto 297 d_MD_editing_293 (by decide) ?_
      exact k297 _ _ (by unfold eSg; rw [if_pos (Or.inl (inH_iff.1 ⟨ht0, c275⟩))])
    · rw [ite10] at c275
      exact k278 (fun y => c275 y.2)
  clear hE
  refine x_aload_n d_MD_editing_237 rfl rfl (by first | rfl | assumption) ?_
  refine x_aload_n d_MD_editing_238 rfl rfl (by first | rfl | assumption) ?_
  refine x_get 5 7 d_MD_editing_239 gf_MD_97 (by repeat (first | assumption | exact hs_self (by assumption) | exact hs_self (hs_ne (by omega) (by assumption)) | exact hs_self (hs_ne (by omega) (hs_ne (by omega) (by assumption))) | refine hs_ne (by omega) ?_)) (by rfl) ?_
  refine x_iload d_MD_editing_242 rfl ?_
  refine j_if_eq 253 d_MD_editing_244 (by decide) (by unfold iR; omega) (fun c244 => ?_) (fun c244 => ?_)
  · refine x_iload_n d_MD_editing_253 rfl rfl ?_
    exact k254 _ (by omega)
  · refine x_iload_n d_MD_editing_247 rfl rfl ?_
    refine j_iconst d_MD_editing_248 ?_
    refine j_isub d_MD_editing_249 ?_
    refine x_goto 254 d_MD_editing_250 (by decide) ?_
    exact k254 _ (by omega)
set_option maxHeartbeats 2000000 in
theorem c_editing {ct : Nat} {G : Nat → Int} (hm : h[mo]? = some (oM mo v so tg us)) (hv4 : v 4 = ct) (hct : 1 ≤ ct ∧ ct ≤ 18) (hsy : h[mo + 3]? = some (aI 18 G)) (hG : ∀ j, j < ct → 0 ≤ G j ∧ G j ≤ 126) : xCt E 2 0 0 M_MD_editing [.ref mo] h (rQ (fun w h' => ∃ v' : Nat → Int, h' = h.set mo (oM mo v' so tg us) ∧ eM G ct v v' w)) := by
  refine x_met rfl rfl (Nat.le_of_ble_eq_true rfl) ?_
  obtain ⟨Z, hZ⟩ : ∃ Z, Z = (xZ E 0 0 (rQ (fun w h' => ∃ v' : Nat → Int, h' = h.set mo (oM mo v' so tg us) ∧ eM G ct v v' w))) := ⟨_, rfl⟩
  rw [← hZ]
  have htl := tl_le G ct
  have hhd := hdS_le (G := G) hct.1
  have htlc := tl_ct (G := G) hct.1
  have hG0 := hG 0 (by omega)
  obtain ⟨hd, hhdE⟩ : ∃ hd, hd = hdS G ct := ⟨_, rfl⟩
  obtain ⟨be, hbeE⟩ : ∃ be, be = ct - tlS G ct := ⟨_, rfl⟩
  have hbl : (ct : Int) - (tlS G ct : Int) ≤ be := by omega
  have ret0 : ∀ (w : Nat → Int) (pc : Nat) (L : List (Option Value)), (pc = 122 ∨ pc = 167 ∨ pc = 178 ∨ pc = 235) → (w 2 = v 2 ∧ w 4 = v 4 ∧ w 11 = v 11) → eRes G ct = none → X E M_MD_editing 2 0 0 Z pc L [] (h.set mo (oM mo w so tg us)) 0 0 := by
    intro w pc L hpc hw hno
    rw [hZ]
    rcases hpc with rfl | rfl | rfl | rfl
    · refine j_iconst d_MD_editing_122 ?_
      refine j_zreturn d_MD_editing_123 rfl (by omega) ?_
      exact ⟨_, rfl, w, rfl, hw, Or.inl ⟨rfl, hno⟩⟩
    · refine j_iconst d_MD_editing_167 ?_
      refine j_zreturn d_MD_editing_168 rfl (by omega) ?_
      exact ⟨_, rfl, w, rfl, hw, Or.inl ⟨rfl, hno⟩⟩
    · refine j_iconst d_MD_editing_178 ?_
      refine j_zreturn d_MD_editing_179 rfl (by omega) ?_
      exact ⟨_, rfl, w, rfl, hw, Or.inl ⟨rfl, hno⟩⟩
    · refine j_iconst d_MD_editing_235 ?_
      refine j_zreturn d_MD_editing_236 rfl (by omega) ?_
      exact ⟨_, rfl, w, rfl, hw, Or.inl ⟨rfl, hno⟩⟩
  refine x_aload_n d_MD_editing_0 rfl rfl (by first | rfl | assumption) ?_
  refine x_callVp (M' := M_MD_ends) d_MD_editing_1 lk_MD_107 (c_ends hm hv4 hct hsy hG) mt_MD_ends im_MD_ends se_MD_ends (by repeat (first | assumption | exact hs_self (by assumption) | exact hs_self (hs_ne (by omega) (by assumption)) | exact hs_self (hs_ne (by omega) (hs_ne (by omega) (by assumption))) | refine hs_ne (by omega) ?_)) rfl (by decide) rfl (Nat.le_of_ble_eq_true rfl) (by decide) (by decide) ?_
  rintro h' ⟨v1, rfl, a5, a6, ak⟩
  refine x_aload_n d_MD_editing_4 rfl rfl (by first | rfl | assumption) ?_
  refine j_iconst d_MD_editing_5 ?_
  refine xp_MD_10 d_MD_editing_6 pf_MD_editing_88 (by repeat (first | assumption | exact hs_self (by assumption) | exact hs_self (hs_ne (by omega) (by assumption)) | exact hs_self (hs_ne (by omega) (hs_ne (by omega) (by assumption))) | refine hs_ne (by omega) ?_)) (by omega) ?_
  rw [List.set_set]
  refine x_aload_n d_MD_editing_9 rfl rfl (by first | rfl | assumption) ?_
  refine j_iconst d_MD_editing_10 ?_
  refine xp_MD_7 d_MD_editing_11 pf_MD_editing_97 (by repeat (first | assumption | exact hs_self (by assumption) | exact hs_self (hs_ne (by omega) (by assumption)) | exact hs_self (hs_ne (by omega) (hs_ne (by omega) (by assumption))) | refine hs_ne (by omega) ?_)) ?_
  rw [List.set_set]
  refine x_aload_n d_MD_editing_14 rfl rfl (by first | rfl | assumption) ?_
  refine j_iconst d_MD_editing_15 ?_
  refine xp_MD_8 d_MD_editing_16 pf_MD_editing_100 (by repeat (first | assumption | exact hs_self (by assumption) | exact hs_self (hs_ne (by omega) (by assumption)) | exact hs_self (hs_ne (by omega) (hs_ne (by omega) (by assumption))) | refine hs_ne (by omega) ?_)) ?_
  rw [List.set_set]
  obtain ⟨w0, hw0⟩ : ∃ w0, w0 = gU (gU (gU v1 10 1) 7 0) 8 0 := ⟨_, rfl⟩
  have c0 : (w0 2 = v 2 ∧ w0 4 = v 4 ∧ w0 11 = v 11) ∧ w0 5 = (hd : Int) ∧ w0 6 = (tlS G ct : Int) ∧ w0 10 = 1 := by
    subst hhdE
    rw [hw0]
    exact ⟨⟨ak 2 (by decide) (by decide), ak 4 (by decide) (by decide), ak 11 (by decide) (by decide)⟩, a5, a6, rfl⟩
  have c7 : w0 7 = 0 := by rw [hw0]; rfl
  have c8 : w0 8 = 0 := by rw [hw0]; rfl
  rw [← hw0]
  clear hw0 ak a5 a6
  refine j_iconst d_MD_editing_19 ?_
  refine x_istore_n d_MD_editing_20 rfl (Nat.le_of_ble_eq_true rfl) ?_
  refine j_iconst d_MD_editing_21 ?_
  refine x_istore_n d_MD_editing_22 rfl (Nat.le_of_ble_eq_true rfl) ?_
  refine j_iconst d_MD_editing_23 ?_
  refine x_istore_n d_MD_editing_24 rfl (Nat.le_of_ble_eq_true rfl) ?_
  refine x_aload_n d_MD_editing_25 rfl rfl (by first | rfl | assumption) ?_
  refine x_get 5 5 d_MD_editing_26 gf_MD_91 (by repeat (first | assumption | exact hs_self (by assumption) | exact hs_self (hs_ne (by omega) (by assumption)) | exact hs_self (hs_ne (by omega) (hs_ne (by omega) (by assumption))) | refine hs_ne (by omega) ?_)) (by rfl) ?_
  refine x_top (w := vI (hd : Int)) (by rw [c0.2.1]) ?_
  refine x_istore d_MD_editing_29 (Nat.le_of_ble_eq_true rfl) ?_
  by_cases hlt : hd < be
  rotate_left
  · have hno : eRes G ct = none := by unfold eRes; rw [if_neg (fun x => hlt (by rw [hhdE, hbeE]; exact x.1))]
    obtain ⟨⟨d2, d4, d11⟩, d5, d6, d10⟩ := c0
    refine x_iload d_MD_editing_31 rfl ?_
    refine x_aload_n d_MD_editing_33 rfl rfl (by first | rfl | assumption) ?_
    refine x_get 5 4 d_MD_editing_34 gf_MD_71 (by repeat (first | assumption | exact hs_self (by assumption) | exact hs_self (hs_ne (by omega) (by assumption)) | exact hs_self (hs_ne (by omega) (hs_ne (by omega) (by assumption))) | refine hs_ne (by omega) ?_)) (by rfl) ?_
    refine x_aload_n d_MD_editing_37 rfl rfl (by first | rfl | assumption) ?_
    refine x_get 5 6 d_MD_editing_38 gf_MD_94 (by repeat (first | assumption | exact hs_self (by assumption) | exact hs_self (hs_ne (by omega) (by assumption)) | exact hs_self (hs_ne (by omega) (hs_ne (by omega) (by assumption))) | refine hs_ne (by omega) ?_)) (by rfl) ?_
    refine j_isub d_MD_editing_41 ?_
    refine j_icmp_ge 186 d_MD_editing_42 (by decide) (by unfold iR; omega) (by unfold iR; omega) (fun c42 => ?_) (fun c42 => ?_)
    · refine x_iload_n d_MD_editing_186 rfl rfl ?_
      refine x_callS1 (M' := M_MD_floating) d_MD_editing_187 lk_MD_65 (c_floating E _ 0 (by unfold iR; decide)) mt_MD_floating st_MD_floating (by decide) rfl (Nat.le_of_ble_eq_true rfl) (by decide) (by decide) ?_
      refine x_istore d_MD_editing_190 (Nat.le_of_ble_eq_true rfl) ?_
      refine x_aload_n d_MD_editing_192 rfl rfl (by first | rfl | assumption) ?_
      refine x_get 5 4 d_MD_editing_193 gf_MD_71 (by repeat (first | assumption | exact hs_self (by assumption) | exact hs_self (hs_ne (by omega) (by assumption)) | exact hs_self (hs_ne (by omega) (hs_ne (by omega) (by assumption))) | refine hs_ne (by omega) ?_)) (by rfl) ?_
      refine x_aload_n d_MD_editing_196 rfl rfl (by first | rfl | assumption) ?_
      refine x_get 5 6 d_MD_editing_197 gf_MD_94 (by repeat (first | assumption | exact hs_self (by assumption) | exact hs_self (hs_ne (by omega) (by assumption)) | exact hs_self (hs_ne (by omega) (hs_ne (by omega) (by assumption))) | refine hs_ne (by omega) ?_)) (by rfl) ?_
      refine j_isub d_MD_editing_200 ?_
      refine x_aload_n d_MD_editing_201 rfl rfl (by first | rfl | assumption) ?_
      refine x_get 5 5 d_MD_editing_202 gf_MD_91 (by repeat (first | assumption | exact hs_self (by assumption) | exact hs_self (hs_ne (by omega) (by assumption)) | exact hs_self (hs_ne (by omega) (hs_ne (by omega) (by assumption))) | refine hs_ne (by omega) ?_)) (by rfl) ?_
      refine j_icmp_le 235 d_MD_editing_205 (by decide) (by unfold iR; omega) (by unfold iR; omega) (fun c205 => ?_) (fun c205 => ?_)
      · exact ret0 w0 _ _ (Or.inr (Or.inr (Or.inr rfl))) ⟨d2, d4, d11⟩ hno
      · exfalso; omega
    · exfalso; omega
  have loop : ∀ (r i nn pt sc fc : Nat) (fi z y1 yf b : Int) (x5 : Option Value) (w : Nat → Int), i + r = be → hd ≤ i → z = i → y1 = fc → yf = (if fc = 0 then 0 else fi) → b = pt → w 7 = nn → w 8 = sc → (pt = 0 → sc = 0) → nn + fc ≤ i → sc ≤ i → pt ≤ i → (fi = 32 ∧ fc = 0 ∨ fil fi ∧ 0 < fc) → ((w 2 = v 2 ∧ w 4 = v 4 ∧ w 11 = v 11) ∧ w 5 = (hd : Int) ∧ w 6 = (tlS G ct : Int) ∧ w 10 = 1) → (hd < i → ¬ ins (G hd)) → bL G r i (nn, pt, sc, fi, fc) = bodR G hd be → X E M_MD_editing 2 0 0 Z 31 [some (.ref mo), some (vI y1), some (vI yf), some (vI b), some (vI z), x5] [] (h.set mo (oM mo w so tg us)) 0 0 := by
    intro r
    induction r with
    | zero =>
      intro i nn pt sc fc fi z y1 yf b x5 w hi hhi hz hy1 hyf hb h7 h8 hps g1 g2 g3 hff hw hin hn
      obtain ⟨⟨d2, d4, d11⟩, d5, d6, d10⟩ := hw
      have hn : some (nn, pt, sc, fi, fc) = bodR G hd be := hn
      have hbeg : bBeg G ct := by
        have := hin (by omega)
        unfold bBeg
        rw [← hhdE, ← hbeE]
        exact ⟨hlt, this⟩
      obtain ⟨v', hv, hv01⟩ : ∃ v' : Int, isI (flo fi) v' ∧ (0 ≤ v' ∧ v' ≤ 1) := ⟨_, rfl, isI_b rfl⟩
      have hv1 := vf_1 hv
      have hyR := yf_R hyf hff
      have hyfl := yf_flo hyf hff
      have hypm := yf_pmn hyf hff
      have hdg := eDg_v (nn := nn) hv hff
      have hr : bodR G (hdS G ct) (ct - tlS G ct) = some (nn, pt, sc, fi, fc) := by rw [← hhdE, ← hbeE]; exact hn.symm
      refine x_iload d_MD_editing_31 rfl ?_
      refine x_aload_n d_MD_editing_33 rfl rfl (by first | rfl | assumption) ?_
      refine x_get 5 4 d_MD_editing_34 gf_MD_71 (by repeat (first | assumption | exact hs_self (by assumption) | exact hs_self (hs_ne (by omega) (by assumption)) | exact hs_self (hs_ne (by omega) (hs_ne (by omega) (by assumption))) | refine hs_ne (by omega) ?_)) (by rfl) ?_
      refine x_aload_n d_MD_editing_37 rfl rfl (by first | rfl | assumption) ?_
      refine x_get 5 6 d_MD_editing_38 gf_MD_94 (by repeat (first | assumption | exact hs_self (by assumption) | exact hs_self (hs_ne (by omega) (by assumption)) | exact hs_self (hs_ne (by omega) (hs_ne (by omega) (by assumption))) | refine hs_ne (by omega) ?_)) (by rfl) ?_
      refine j_isub d_MD_editing_41 ?_
      refine j_icmp_ge 186 d_MD_editing_42 (by decide) (by unfold iR; omega) (by unfold iR; omega) (fun c42 => ?_) (fun c42 => ?_)
      rotate_left
      · exfalso; omega
      refine x_iload_n d_MD_editing_186 rfl rfl ?_
      refine x_callS1 (M' := M_MD_floating) d_MD_editing_187 lk_MD_65 (c_floating E _ yf hyR) mt_MD_floating st_MD_floating (by decide) rfl (Nat.le_of_ble_eq_true rfl) (by decide) (by decide) ?_
      refine x_top (w := vI v') (by rw [isI_q hv hyfl]) ?_
      have k235 : ∀ L : List (Option Value), ¬ (pt ≤ 1 ∧ ¬ (pt = 1 ∧ sc = 0) ∧ (v' = 1 → 2 ≤ fc)) → X E M_MD_editing 2 0 0 Z 235 L [] (h.set mo (oM mo w so tg us)) 0 0 := by
        intro L hno
        refine ret0 w _ _ (Or.inr (Or.inr (Or.inr rfl))) ⟨d2, d4, d11⟩ (eRes_no (fun _ _ a1 a2 a3 a4 a5 e o => ?_))
        rw [hr] at e
        cases e
        exact hno ⟨o.1, o.2.1, fun y => o.2.2 (hv1.1 y)⟩
      have k237 : (pt ≤ 1 ∧ ¬ (pt = 1 ∧ sc = 0) ∧ (v' = 1 → 2 ≤ fc)) → X E M_MD_editing 2 0 0 Z 237 [some (.ref mo), some (vI y1), some (vI yf), some (vI b), some (vI v'), x5] [] (h.set mo (oM mo w so tg us)) 0 0 := by
        intro hok
        have hE := eRes_yes hbeg hr ⟨hok.1, hok.2.1, fun y => hok.2.2 (hv1.2 y)⟩
        rw [hZ]
        exact ed_237 hm hsy hG0 ⟨⟨d2, d4, d11⟩, by rw [d5, hhdE], d6, d10⟩ h7 h8 (by clear hok; omega) (by clear hok; omega) (by clear hok; omega) hy1 hyR hypm hv01 hdg hct htlc hE
      clear hn hr hdg hyfl hypm hv1 hff hbeg hin hv hps hyf
      refine x_istore d_MD_editing_190 (Nat.le_of_ble_eq_true rfl) ?_
      refine x_aload_n d_MD_editing_192 rfl rfl (by first | rfl | assumption) ?_
      refine x_get 5 4 d_MD_editing_193 gf_MD_71 (by repeat (first | assumption | exact hs_self (by assumption) | exact hs_self (hs_ne (by omega) (by assumption)) | exact hs_self (hs_ne (by omega) (hs_ne (by omega) (by assumption))) | refine hs_ne (by omega) ?_)) (by rfl) ?_
      refine x_aload_n d_MD_editing_196 rfl rfl (by first | rfl | assumption) ?_
      refine x_get 5 6 d_MD_editing_197 gf_MD_94 (by repeat (first | assumption | exact hs_self (by assumption) | exact hs_self (hs_ne (by omega) (by assumption)) | exact hs_self (hs_ne (by omega) (hs_ne (by omega) (by assumption))) | refine hs_ne (by omega) ?_)) (by rfl) ?_
      refine j_isub d_MD_editing_200 ?_
      refine x_aload_n d_MD_editing_201 rfl rfl (by first | rfl | assumption) ?_
      refine x_get 5 5 d_MD_editing_202 gf_MD_91 (by repeat (first | assumption | exact hs_self (by assumption) | exact hs_self (hs_ne (by omega) (by assumption)) | exact hs_self (hs_ne (by omega) (hs_ne (by omega) (by assumption))) | refine hs_ne (by omega) ?_)) (by rfl) ?_
      refine j_icmp_le 235 d_MD_editing_205 (by decide) (by unfold iR; omega) (by unfold iR; omega) (fun c205 => ?_) (fun c205 => ?_)
      · exact k235 _ (by omega)
      · refine x_iload_n d_MD_editing_208 rfl rfl ?_
        refine j_iconst d_MD_editing_209 ?_
        refine j_icmp_gt 235 d_MD_editing_210 (by decide) (by unfold iR; omega) (by unfold iR; omega) (fun c210 => ?_) (fun c210 => ?_)
        · exact k235 _ (by omega)
        · refine x_iload_n d_MD_editing_213 rfl rfl ?_
          refine j_iconst d_MD_editing_214 ?_
          refine j_icmp_ne 225 d_MD_editing_215 (by decide) (by unfold iR; omega) (by unfold iR; omega) (fun c215 => ?_) (fun c215 => ?_)
          · refine x_iload d_MD_editing_225 rfl ?_
            refine j_if_eq 237 d_MD_editing_227 (by decide) (by unfold iR; omega) (fun c227 => ?_) (fun c227 => ?_)
            · exact k237 (by omega)
            · refine x_iload_n d_MD_editing_230 rfl rfl ?_
              refine j_iconst d_MD_editing_231 ?_
              refine j_icmp_ge 237 d_MD_editing_232 (by decide) (by unfold iR; omega) (by unfold iR; omega) (fun c232 => ?_) (fun c232 => ?_)
              · exact k237 (by omega)
              · exact k235 _ (by omega)
          · refine x_aload_n d_MD_editing_218 rfl rfl (by first | rfl | assumption) ?_
            refine x_get 5 8 d_MD_editing_219 gf_MD_100 (by repeat (first | assumption | exact hs_self (by assumption) | exact hs_self (hs_ne (by omega) (by assumption)) | exact hs_self (hs_ne (by omega) (hs_ne (by omega) (by assumption))) | refine hs_ne (by omega) ?_)) (by rfl) ?_
            refine j_if_eq 235 d_MD_editing_222 (by decide) (by unfold iR; omega) (fun c222 => ?_) (fun c222 => ?_)
            · exact k235 _ (by omega)
            · refine x_iload d_MD_editing_225 rfl ?_
              refine j_if_eq 237 d_MD_editing_227 (by decide) (by unfold iR; omega) (fun c227 => ?_) (fun c227 => ?_)
              · exact k237 (by omega)
              · refine x_iload_n d_MD_editing_230 rfl rfl ?_
                refine j_iconst d_MD_editing_231 ?_
                refine j_icmp_ge 237 d_MD_editing_232 (by decide) (by unfold iR; omega) (by unfold iR; omega) (fun c232 => ?_) (fun c232 => ?_)
                · exact k237 (by omega)
                · exact k235 _ (by omega)
    | succ r ih =>
      intro i nn pt sc fc fi z y1 yf b x5 w hi hhi hz hy1 hyf hb h7 h8 hps g1 g2 g3 hff hw hin hn
      have hw' := hw
      obtain ⟨⟨d2, d4, d11⟩, d5, d6, d10⟩ := hw'
      subst hz; subst hy1
      have hGi := hG i (by omega)
      have hnone : bodR G hd be = none → eRes G ct = none := by
        intro x
        refine eRes_no (fun _ _ a1 a2 a3 a4 a5 e o => ?_)
        rw [← hhdE, ← hbeE, x] at e
        cases e
      have hni : ¬ ins (G i) → hd < i + 1 → ¬ ins (G hd) := by
        intro x _
        by_cases y : hd < i
        · exact hin y
        · rw [show hd = i by omega]; exact x
      refine x_iload d_MD_editing_31 rfl ?_
      refine x_aload_n d_MD_editing_33 rfl rfl (by first | rfl | assumption) ?_
      refine x_get 5 4 d_MD_editing_34 gf_MD_71 (by repeat (first | assumption | exact hs_self (by assumption) | exact hs_self (hs_ne (by omega) (by assumption)) | exact hs_self (hs_ne (by omega) (hs_ne (by omega) (by assumption))) | refine hs_ne (by omega) ?_)) (by rfl) ?_
      refine x_aload_n d_MD_editing_37 rfl rfl (by first | rfl | assumption) ?_
      refine x_get 5 6 d_MD_editing_38 gf_MD_94 (by repeat (first | assumption | exact hs_self (by assumption) | exact hs_self (hs_ne (by omega) (by assumption)) | exact hs_self (hs_ne (by omega) (hs_ne (by omega) (by assumption))) | refine hs_ne (by omega) ?_)) (by rfl) ?_
      refine j_isub d_MD_editing_41 ?_
      refine j_icmp_ge 186 d_MD_editing_42 (by decide) (by unfold iR; omega) (by unfold iR; omega) (fun c42 => ?_) (fun c42 => ?_)
      · exfalso; omega
      refine x_aload_n d_MD_editing_45 rfl rfl (by first | rfl | assumption) ?_
      refine x_get 5 3 d_MD_editing_46 gf_MD_16 (by repeat (first | assumption | exact hs_self (by assumption) | exact hs_self (hs_ne (by omega) (by assumption)) | exact hs_self (hs_ne (by omega) (hs_ne (by omega) (by assumption))) | refine hs_ne (by omega) ?_)) (by rfl) ?_
      refine x_iload d_MD_editing_49 rfl ?_
      refine j_iald d_MD_editing_51 (by repeat (first | assumption | exact hs_self (by assumption) | exact hs_self (hs_ne (by omega) (by assumption)) | exact hs_self (hs_ne (by omega) (hs_ne (by omega) (by assumption))) | refine hs_ne (by omega) ?_)) (by omega) (by omega) (by decide) ?_
      refine x_top (w := vI (G i)) rfl ?_
      refine x_istore d_MD_editing_52 (Nat.le_of_ble_eq_true rfl) ?_
      refine x_iload d_MD_editing_54 rfl ?_
      refine j_bipush d_MD_editing_56 (by decide) ?_
      refine j_icmp_ne 92 d_MD_editing_58 (by decide) (by unfold iR; omega) (by unfold iR; omega) (fun c58 => ?_) (fun c58 => ?_)
      · refine x_iload d_MD_editing_92 rfl ?_
        refine j_bipush d_MD_editing_94 (by decide) ?_
        refine j_icmp_ne 105 d_MD_editing_96 (by decide) (by unfold iR; omega) (by unfold iR; omega) (fun c96 => ?_) (fun c96 => ?_)
        · refine x_iload d_MD_editing_105 rfl ?_
          refine x_callS1 (M' := M_MD_insertion) d_MD_editing_107 lk_MD_68 (c_insertion E _ (G i) (by unfold iR; omega)) mt_MD_insertion st_MD_insertion (by decide) rfl (Nat.le_of_ble_eq_true rfl) (by decide) (by decide) ?_
          refine j_if_eq 124 d_MD_editing_110 (by decide) iteR (fun c110 => ?_) (fun c110 => ?_)
          · rw [ite10] at c110
            have at146 : fil (G i) → X E M_MD_editing 2 0 0 Z 146 [some (.ref mo), some (vI (fc : Int)), some (vI yf), some (vI b), some (vI (i : Int)), some (vI (G i))] [] (h.set mo (oM mo w so tg us)) 0 0 := by
              intro hfil
              have a167 : ¬ (fil (G i) ∧ nn = 0 ∧ pt = 0 ∧ (fc = 0 ∨ G i = fi)) → X E M_MD_editing 2 0 0 Z 167 [some (.ref mo), some (vI (fc : Int)), some (vI yf), some (vI b), some (vI (i : Int)), some (vI (G i))] [] (h.set mo (oM mo w so tg us)) 0 0 := by
                intro hq
                rw [bL_n c58 c96 c110 hq] at hn
                exact ret0 w _ _ (Or.inr (Or.inl rfl)) ⟨d2, d4, d11⟩ (hnone hn.symm)
              have a169 : nn = 0 → pt = 0 → (fc = 0 ∨ G i = fi) → X E M_MD_editing 2 0 0 Z 169 [some (.ref mo), some (vI (fc : Int)), some (vI yf), some (vI b), some (vI (i : Int)), some (vI (G i))] [] (h.set mo (oM mo w so tg us)) 0 0 := by
                intro q1 q2 q3
                rw [bL_f hfil ⟨q1, q2, q3⟩] at hn
                refine x_iload d_MD_editing_169 rfl ?_
                refine x_istore_n d_MD_editing_171 rfl (Nat.le_of_ble_eq_true rfl) ?_
                refine j_iinc d_MD_editing_172 rfl ?_
                refine x_goto 180 d_MD_editing_175 (by decide) ?_
                refine j_iinc d_MD_editing_180 rfl ?_
                refine x_goto 31 d_MD_editing_183 (by decide) ?_
                exact ih (i + 1) nn pt sc (fc + 1) (G i) _ _ _ _ _ w (by omega) (by omega) (by omega) (by omega) (by rw [if_neg (by omega)]) hb h7 h8 hps (by omega) (by omega) (by omega) (Or.inr ⟨hfil, by omega⟩) hw (hni c110) hn
              refine x_aload_n d_MD_editing_146 rfl rfl (by first | rfl | assumption) ?_
              refine x_get 5 7 d_MD_editing_147 gf_MD_97 (by repeat (first | assumption | exact hs_self (by assumption) | exact hs_self (hs_ne (by omega) (by assumption)) | exact hs_self (hs_ne (by omega) (hs_ne (by omega) (by assumption))) | refine hs_ne (by omega) ?_)) (by rfl) ?_
              refine j_if_gt 167 d_MD_editing_150 (by decide) (by unfold iR; omega) (fun c150 => ?_) (fun c150 => ?_)
              · exact a167 (fun x => by have := x.2.1; omega)
              refine x_iload_n d_MD_editing_153 rfl rfl ?_
              refine j_if_gt 167 d_MD_editing_154 (by decide) (by unfold iR; omega) (fun c154 => ?_) (fun c154 => ?_)
              · exact a167 (fun x => by have := x.2.2.1; omega)
              refine x_iload_n d_MD_editing_157 rfl rfl ?_
              refine j_if_le 169 d_MD_editing_158 (by decide) (by unfold iR; omega) (fun c158 => ?_) (fun c158 => ?_)
              · exact a169 (by omega) (by omega) (Or.inl (by omega))
              have hyfi : yf = fi := by rw [hyf, if_neg (by omega)]
              subst hyfi
              have hfiR : iR yf := by unfold iR; omega
              refine x_iload d_MD_editing_161 rfl ?_
              refine x_iload_n d_MD_editing_163 rfl rfl ?_
              refine j_icmp_eq 169 d_MD_editing_164 (by decide) (by unfold iR; omega) (by unfold iR; omega) (fun c164 => ?_) (fun c164 => ?_)
              · exact a169 (by omega) (by omega) (Or.inr c164)
              · exact a167 (fun x => by rcases x.2.2.2 with y | y; omega; exact c164 y)
            refine x_iload d_MD_editing_124 rfl ?_
            refine j_bipush d_MD_editing_126 (by decide) ?_
            refine j_icmp_eq 146 d_MD_editing_128 (by decide) (by unfold iR; omega) (by unfold iR; omega) (fun c128 => ?_) (fun c128 => ?_)
            · exact at146 (Or.inl c128)
            refine x_iload d_MD_editing_131 rfl ?_
            refine j_bipush d_MD_editing_133 (by decide) ?_
            refine j_icmp_eq 146 d_MD_editing_135 (by decide) (by unfold iR; omega) (by unfold iR; omega) (fun c135 => ?_) (fun c135 => ?_)
            · exact at146 (Or.inr (Or.inl c135))
            refine x_iload d_MD_editing_138 rfl ?_
            refine x_callS1 (M' := M_MD_floating) d_MD_editing_140 lk_MD_65 (c_floating E _ (G i) (by unfold iR; omega)) mt_MD_floating st_MD_floating (by decide) rfl (Nat.le_of_ble_eq_true rfl) (by decide) (by decide) ?_
            refine j_if_eq 178 d_MD_editing_143 (by decide) iteR (fun c143 => ?_) (fun c143 => ?_)
            · rw [ite10] at c143
              rw [bL_n c58 c96 c110 (fun x => by rcases x.1 with y | y | y; exact c128 y; exact c135 y; exact c143 y)] at hn
              exact ret0 w _ _ (Or.inr (Or.inr (Or.inl rfl))) ⟨d2, d4, d11⟩ (hnone hn.symm)
            · rw [ite11] at c143
              exact at146 (Or.inr (Or.inr c143))
          · rw [ite11] at c110
            rw [bL_i c110] at hn
            refine x_iload d_MD_editing_113 rfl ?_
            refine x_aload_n d_MD_editing_115 rfl rfl (by first | rfl | assumption) ?_
            refine x_get 5 5 d_MD_editing_116 gf_MD_91 (by repeat (first | assumption | exact hs_self (by assumption) | exact hs_self (hs_ne (by omega) (by assumption)) | exact hs_self (hs_ne (by omega) (hs_ne (by omega) (by assumption))) | refine hs_ne (by omega) ?_)) (by rfl) ?_
            refine j_icmp_ne 180 d_MD_editing_119 (by decide) (by unfold iR; omega) (by unfold iR; omega) (fun c119 => ?_) (fun c119 => ?_)
            · refine j_iinc d_MD_editing_180 rfl ?_
              refine x_goto 31 d_MD_editing_183 (by decide) ?_
              exact ih (i + 1) nn pt sc fc fi _ _ _ _ _ w (by omega) (by omega) (by omega) rfl hyf hb h7 h8 hps (by omega) (by omega) (by omega) hff hw (fun _ => hin (by omega)) hn
            · refine ret0 w _ _ (Or.inl rfl) ⟨d2, d4, d11⟩ ?_
              unfold eRes
              rw [if_neg (fun x => x.2 (by rw [← hhdE, show hd = i by omega]; exact c110))]
        · rw [bL_p c96] at hn
          refine j_iinc d_MD_editing_99 rfl ?_
          refine x_goto 180 d_MD_editing_102 (by decide) ?_
          refine j_iinc d_MD_editing_180 rfl ?_
          refine x_goto 31 d_MD_editing_183 (by decide) ?_
          exact ih (i + 1) nn (pt + 1) sc fc fi _ _ _ _ _ w (by omega) (by omega) (by omega) rfl hyf (by omega) h7 h8 (fun x => by omega) (by omega) (by omega) (by omega) hff hw (hni (by omega)) hn
      · rw [bL_9 c58] at hn
        refine x_aload_n d_MD_editing_61 rfl rfl (by first | rfl | assumption) ?_
        refine x_dup d_MD_editing_62 rfl ?_
        refine x_get 5 7 d_MD_editing_63 gf_MD_97 (by repeat (first | assumption | exact hs_self (by assumption) | exact hs_self (hs_ne (by omega) (by assumption)) | exact hs_self (hs_ne (by omega) (hs_ne (by omega) (by assumption))) | refine hs_ne (by omega) ?_)) (by rfl) ?_
        refine j_iconst d_MD_editing_66 ?_
        refine j_iadd d_MD_editing_67 ?_
        refine xp_MD_7 d_MD_editing_68 pf_MD_editing_97 (by repeat (first | assumption | exact hs_self (by assumption) | exact hs_self (hs_ne (by omega) (by assumption)) | exact hs_self (hs_ne (by omega) (hs_ne (by omega) (by assumption))) | refine hs_ne (by omega) ?_)) ?_
        rw [List.set_set]
        refine x_aload_n d_MD_editing_71 rfl rfl (by first | rfl | assumption) ?_
        refine x_iload_n d_MD_editing_72 rfl rfl ?_
        refine j_if_le 85 d_MD_editing_73 (by decide) (by unfold iR; omega) (fun c73 => ?_) (fun c73 => ?_)
        · rw [if_pos (show pt = 0 by omega)] at hn
          refine j_iconst d_MD_editing_85 ?_
          refine xp_MD_8 d_MD_editing_86 pf_MD_editing_100 (by repeat (first | assumption | exact hs_self (by assumption) | exact hs_self (hs_ne (by omega) (by assumption)) | exact hs_self (hs_ne (by omega) (hs_ne (by omega) (by assumption))) | refine hs_ne (by omega) ?_)) ?_
          refine x_goto 180 d_MD_editing_89 (by decide) ?_
          refine j_iinc d_MD_editing_180 rfl ?_
          refine x_goto 31 d_MD_editing_183 (by decide) ?_
          rw [List.set_set]
          exact ih (i + 1) (nn + 1) pt sc fc fi _ _ _ _ _ _ (by omega) (by omega) (by omega) rfl hyf hb (by show w 7 + 1 = _; omega) (by show (0 : Int) = _; have := hps (by omega); omega) hps (by omega) (by omega) (by omega) hff hw (hni (by omega)) hn
        · rw [if_neg (show ¬ pt = 0 by omega)] at hn
          refine x_aload_n d_MD_editing_76 rfl rfl (by first | rfl | assumption) ?_
          refine x_get 5 8 d_MD_editing_77 gf_MD_100 (by repeat (first | assumption | exact hs_self (by assumption) | exact hs_self (hs_ne (by omega) (by assumption)) | exact hs_self (hs_ne (by omega) (hs_ne (by omega) (by assumption))) | refine hs_ne (by omega) ?_)) (by rfl) ?_
          refine j_iconst d_MD_editing_80 ?_
          refine j_iadd d_MD_editing_81 ?_
          refine x_goto 86 d_MD_editing_82 (by decide) ?_
          refine xp_MD_8 d_MD_editing_86 pf_MD_editing_100 (by repeat (first | assumption | exact hs_self (by assumption) | exact hs_self (hs_ne (by omega) (by assumption)) | exact hs_self (hs_ne (by omega) (hs_ne (by omega) (by assumption))) | refine hs_ne (by omega) ?_)) ?_
          refine x_goto 180 d_MD_editing_89 (by decide) ?_
          refine j_iinc d_MD_editing_180 rfl ?_
          refine x_goto 31 d_MD_editing_183 (by decide) ?_
          rw [List.set_set]
          exact ih (i + 1) (nn + 1) pt (sc + 1) fc fi _ _ _ _ _ _ (by omega) (by omega) (by omega) rfl hyf hb (by show w 7 + 1 = _; omega) (by show w 8 + 1 = _; omega) (fun x => by omega) (by omega) (by omega) (by omega) hff hw (hni (by omega)) hn
  exact loop (be - hd) hd 0 0 0 0 32 _ _ _ _ _ w0 (by omega) (by omega) rfl rfl (by rw [if_pos rfl]) rfl c7 c8 (fun _ => rfl) (by omega) (by omega) (by omega) (Or.inl ⟨rfl, rfl⟩) c0 (fun x => by omega) rfl
end MPE2
