theorem gU_same (g : Nat → Int) (k : Nat) (x : Int) (h : x = g k) : gU g k x = g := by
  funext j
  unfold gU
  split
  · rename_i hj; rw [hj]; exact h
  · rfl
theorem div100 (m : Nat) : m / 10 / 10 = m / 100 := by rw [Nat.div_div_eq_div_mul]
set_option maxHeartbeats 8000000 in
theorem c_mstore (E : xEnv) (h : xH) (mo j : Nat) (v : Nat → Int) (so tg us u : Int) (A : MA) (D : FD) (B T : Nat → Int) (hm : h[mo]? = some (oM mo v so tg us)) (hR : mR h mo A) (hb : h[mo + 1]? = some (aI 64 B)) (ht : h[mo + 14]? = some (aI 18 T)) (hF : mF A j D) (hj : j < 12) (hD : fOk D) (hG : gOk D) (hu : u.natAbs < 1000000000000) (hT : ∀ i, i < 18 → iR (T i)) : xCt E 5 0 0 M_MD_store [.ref mo, vI j, vL u] h (rP (fun h' => ∃ T' : Nat → Int, h' = (h.set (mo + 14) (aI 18 T')).set (mo + 1) (aI 64 (stA D B u)) ∧ ∀ i, i < 18 → iR (T' i))) := by
  refine x_met rfl rfl (Nat.le_of_ble_eq_true rfl) ?_
  obtain ⟨Z, hZ⟩ : ∃ Z, Z = (xZ E 0 0 (rP (fun h' => ∃ T' : Nat → Int, h' = (h.set (mo + 14) (aI 18 T')).set (mo + 1) (aI 64 (stA D B u)) ∧ ∀ i, i < 18 → iR (T' i)))) := ⟨_, rfl⟩
  have hR0 := hR
  have hF0 := hF
  have hD0 := hD
  obtain ⟨h1, h2, h3, h4', h5, h6, h7, h8, h9, h10⟩ := hR
  obtain ⟨f0, f1, fn, -, fg, fe, hF4⟩ := hF
  obtain ⟨hm4, hn, -, hg, ho, hw4⟩ := hD
  have e0 := hset_id ht
  have eb := hset_id hb
  have he01 : aEd A j = 0 ∨ aEd A j = 1 := by rw [fe]; split <;> omega
  obtain ⟨m, hmm⟩ : ∃ m : Nat, m = u.natAbs := ⟨_, rfl⟩
  obtain ⟨ng, hng⟩ : ∃ ng : Int, ng = if u < 0 then 1 else 0 := ⟨_, rfl⟩
  have hng1 : ng = 0 ∨ ng = 1 := by subst hng; split <;> omega
  have hngu : ng = 1 ↔ u < 0 := by subst hng; split <;> omega
  have done : ∀ (L : List (Option Value)) (G : Nat → Int), G = stA D B u → X E M_MD_store 5 0 0 Z 379 L [] (h.set (mo + 1) (aI 64 G)) 0 0 := by
    intro L G hGe
    rw [hZ]
    refine x_return d_MD_store_379 rfl ?_
    exact ⟨rfl, T, by rw [e0, hGe], hT⟩
  have main : X E M_MD_store 5 0 0 Z 40 [some (.ref mo), some (vI j), some (vL u), none, some (vI (fN D)), some (vI (fO D)), some (vI ng), none, none, none, none, none] [vL m] h 0 0 := by
    refine x_lstore d_MD_store_40 (Nat.le_of_ble_eq_true rfl) ?_
    refine x_aload_n d_MD_store_42 rfl rfl rfl ?_
    refine x_get 5 17 d_MD_store_43 gf_MD_35 (by repeat (first | assumption | exact hs_self (by assumption) | exact hs_self (hs_ne (by omega) (by assumption)) | exact hs_self (hs_ne (by omega) (hs_ne (by omega) (by assumption))) | refine hs_ne (by omega) ?_)) (by rfl) ?_
    refine x_iload_n d_MD_store_46 rfl rfl ?_
    refine j_zald d_MD_store_47 (by repeat (first | assumption | exact hs_self (by assumption) | exact hs_self (hs_ne (by omega) (by assumption)) | exact hs_self (hs_ne (by omega) (hs_ne (by omega) (by assumption))) | refine hs_ne (by omega) ?_)) (by omega) (by omega) (by decide) ?_
    refine x_top (w := vI (aEd A j)) (by rw [Int.toNat_natCast]) ?_
    refine j_if_eq 97 d_MD_store_48 (by decide) (by unfold iR; omega) (fun c48 => ?_) (fun c48 => ?_)
    · -- not edited
      have h4 : ¬ fM D = 4 := by intro q; rw [fe, if_pos q] at c48; omega
      rw [if_neg h4] at f1
      refine x_aload_n d_MD_store_97 rfl rfl rfl ?_
      refine x_get 5 13 d_MD_store_98 gf_MD_22 (by repeat (first | assumption | exact hs_self (by assumption) | exact hs_self (hs_ne (by omega) (by assumption)) | exact hs_self (hs_ne (by omega) (hs_ne (by omega) (by assumption))) | refine hs_ne (by omega) ?_)) (by rfl) ?_
      refine x_iload_n d_MD_store_101 rfl rfl ?_
      refine j_iald d_MD_store_102 (by repeat (first | assumption | exact hs_self (by assumption) | exact hs_self (hs_ne (by omega) (by assumption)) | exact hs_self (hs_ne (by omega) (hs_ne (by omega) (by assumption))) | refine hs_ne (by omega) ?_)) (by omega) (by omega) (by decide) ?_
      refine x_top (w := vI (fM D)) (by rw [Int.toNat_natCast, f1]) ?_
      refine j_iconst d_MD_store_103 ?_
      refine j_icmp_ne 203 d_MD_store_104 (by decide) (by unfold iR; omega) (by unfold iR; omega) (fun c104 => ?_) (fun c104 => ?_)
      · refine x_aload_n d_MD_store_203 rfl rfl rfl ?_
        refine x_get 5 13 d_MD_store_204 gf_MD_22 (by repeat (first | assumption | exact hs_self (by assumption) | exact hs_self (hs_ne (by omega) (by assumption)) | exact hs_self (hs_ne (by omega) (hs_ne (by omega) (by assumption))) | refine hs_ne (by omega) ?_)) (by rfl) ?_
        refine x_iload_n d_MD_store_207 rfl rfl ?_
        refine j_iald d_MD_store_208 (by repeat (first | assumption | exact hs_self (by assumption) | exact hs_self (hs_ne (by omega) (by assumption)) | exact hs_self (hs_ne (by omega) (hs_ne (by omega) (by assumption))) | refine hs_ne (by omega) ?_)) (by omega) (by omega) (by decide) ?_
        refine x_top (w := vI (fM D)) (by rw [Int.toNat_natCast, f1]) ?_
        refine j_iconst d_MD_store_209 ?_
        refine j_icmp_ne 267 d_MD_store_210 (by decide) (by unfold iR; omega) (by unfold iR; omega) (fun c210 => ?_) (fun c210 => ?_)
        · -- zoned, separate
          have hw1 : fO D + fN D + (if fM D = 2 then 1 else 0) ≤ 64 := by
            unfold fW at ho
            rw [if_neg h4, if_neg (show ¬ fM D = 1 by omega)] at ho
            by_cases q : fM D = 2
            · rw [if_pos q] at ho ⊢; omega
            · rw [if_neg q, if_neg (show ¬ fM D = 3 by omega)] at ho
              rw [if_neg q]; omega
          have hw2 : fO D + fN D ≤ 64 := by omega
          have after : ∀ x7 x9 x10 x11, X E M_MD_store 5 0 0 Z 312 [some (.ref mo), some (vI j), some (vL u), none, some (vI (fN D)), some (vI (fO D)), some (vI ng), x7, none, x9, x10, x11] [] (h.set (mo + 1) (aI 64 (stD B (fO D) (fN D) m))) 0 0 := by
            intro x7 x9 x10 x11
            refine x_aload_n d_MD_store_312 rfl rfl rfl ?_
            refine x_get 5 13 d_MD_store_313 gf_MD_22 (by repeat (first | assumption | exact hs_self (by assumption) | exact hs_self (hs_ne (by omega) (by assumption)) | exact hs_self (hs_ne (by omega) (hs_ne (by omega) (by assumption))) | refine hs_ne (by omega) ?_)) (by rfl) ?_
            refine x_iload_n d_MD_store_316 rfl rfl ?_
            refine j_iald d_MD_store_317 (by repeat (first | assumption | exact hs_self (by assumption) | exact hs_self (hs_ne (by omega) (by assumption)) | exact hs_self (hs_ne (by omega) (hs_ne (by omega) (by assumption))) | refine hs_ne (by omega) ?_)) (by omega) (by omega) (by decide) ?_
            refine x_top (w := vI (fM D)) (by rw [Int.toNat_natCast, f1]) ?_
            refine j_iconst d_MD_store_318 ?_
            refine j_icmp_ne 347 d_MD_store_319 (by decide) (by unfold iR; omega) (by unfold iR; omega) (fun c319 => ?_) (fun c319 => ?_)
            · have h0 : fM D = 0 := by omega
              refine x_iload d_MD_store_347 rfl ?_
              refine j_if_eq 379 d_MD_store_349 (by decide) (by unfold iR; omega) (fun c349 => ?_) (fun c349 => ?_)
              · refine done _ _ ?_
                rw [stA_0 h0, ← hmm]
                exact (gU_same _ _ _ (by rw [if_neg (by omega)]; omega)).symm
              · refine x_aload_n d_MD_store_352 rfl rfl rfl ?_
                refine x_get 5 0 d_MD_store_353 gf_MD_7 (by repeat (first | assumption | exact hs_self (by assumption) | exact hs_self (hs_ne (by omega) (by assumption)) | exact hs_self (hs_ne (by omega) (hs_ne (by omega) (by assumption))) | refine hs_ne (by omega) ?_)) (by rfl) ?_
                refine x_iload d_MD_store_356 rfl ?_
                refine x_iload d_MD_store_358 rfl ?_
                refine j_iadd d_MD_store_360 ?_
                refine j_iconst d_MD_store_361 ?_
                refine j_isub d_MD_store_362 ?_
                refine x_aload_n d_MD_store_363 rfl rfl rfl ?_
                refine x_get 5 0 d_MD_store_364 gf_MD_7 (by repeat (first | assumption | exact hs_self (by assumption) | exact hs_self (hs_ne (by omega) (by assumption)) | exact hs_self (hs_ne (by omega) (hs_ne (by omega) (by assumption))) | refine hs_ne (by omega) ?_)) (by rfl) ?_
                refine x_iload d_MD_store_367 rfl ?_
                refine x_iload d_MD_store_369 rfl ?_
                refine j_iadd d_MD_store_371 ?_
                refine j_iconst d_MD_store_372 ?_
                refine j_isub d_MD_store_373 ?_
                refine j_iald d_MD_store_374 (by repeat (first | assumption | exact hs_self (by assumption) | exact hs_self (hs_ne (by omega) (by assumption)) | exact hs_self (hs_ne (by omega) (hs_ne (by omega) (by assumption))) | refine hs_ne (by omega) ?_)) (by omega) (by omega) (by decide) ?_
                rw [show ((fO D : Int) + fN D - 1).toNat = fO D + fN D - 1 by omega]
                refine j_bipush d_MD_store_375 (by decide) ?_
                refine j_iadd d_MD_store_377 ?_
                refine j_iast d_MD_store_378 (by repeat (first | assumption | exact hs_self (by assumption) | exact hs_self (hs_ne (by omega) (by assumption)) | exact hs_self (hs_ne (by omega) (hs_ne (by omega) (by assumption))) | refine hs_ne (by omega) ?_)) (by omega) (by omega) (by decide) ?_
                rw [List.set_set]
                refine done _ _ ?_
                rw [show ((fO D : Int) + fN D - 1).toNat = fO D + fN D - 1 by omega, stA_0 h0, ← hmm, if_pos (by omega)]
            · have h2 : fM D = 2 := by omega
              rw [if_pos h2] at hw1
              refine x_aload_n d_MD_store_322 rfl rfl rfl ?_
              refine x_get 5 0 d_MD_store_323 gf_MD_7 (by repeat (first | assumption | exact hs_self (by assumption) | exact hs_self (hs_ne (by omega) (by assumption)) | exact hs_self (hs_ne (by omega) (hs_ne (by omega) (by assumption))) | refine hs_ne (by omega) ?_)) (by rfl) ?_
              refine x_iload d_MD_store_326 rfl ?_
              refine x_iload d_MD_store_328 rfl ?_
              refine j_iadd d_MD_store_330 ?_
              refine x_iload d_MD_store_331 rfl ?_
              refine j_if_eq 341 d_MD_store_333 (by decide) (by unfold iR; omega) (fun c333 => ?_) (fun c333 => ?_)
              · refine j_bipush d_MD_store_341 (by decide) ?_
                refine j_iast d_MD_store_343 (by repeat (first | assumption | exact hs_self (by assumption) | exact hs_self (hs_ne (by omega) (by assumption)) | exact hs_self (hs_ne (by omega) (hs_ne (by omega) (by assumption))) | refine hs_ne (by omega) ?_)) (by omega) (by omega) (by decide) ?_
                refine x_goto 379 d_MD_store_344 (by decide) ?_
                rw [List.set_set]
                refine done _ _ ?_
                rw [show ((fO D : Int) + fN D).toNat = fO D + fN D by omega, stA_2 h2, ← hmm, if_neg (by omega)]
              · refine j_bipush d_MD_store_336 (by decide) ?_
                refine x_goto 343 d_MD_store_338 (by decide) ?_
                refine j_iast d_MD_store_343 (by repeat (first | assumption | exact hs_self (by assumption) | exact hs_self (hs_ne (by omega) (by assumption)) | exact hs_self (hs_ne (by omega) (hs_ne (by omega) (by assumption))) | refine hs_ne (by omega) ?_)) (by omega) (by omega) (by decide) ?_
                refine x_goto 379 d_MD_store_344 (by decide) ?_
                rw [List.set_set]
                refine done _ _ ?_
                rw [show ((fO D : Int) + fN D).toNat = fO D + fN D by omega, stA_2 h2, ← hmm, if_pos (by omega)]
          have loop : ∀ (k : Nat) (G : Nat → Int) (l i : Int) (x10 x11 : Option Value), k ≤ fN D → i = (k : Int) - 1 → l.natAbs < 1000000000000 → stD G (fO D) k l = stD B (fO D) (fN D) m → X E M_MD_store 5 0 0 Z 273 [some (.ref mo), some (vI j), some (vL u), none, some (vI (fN D)), some (vI (fO D)), some (vI ng), some (vL l), none, some (vI i), x10, x11] [] (h.set (mo + 1) (aI 64 G)) 0 0 := by
            intro k
            induction k with
            | zero =>
              intro G l i x10 x11 hk hi hl hGe
              have hGe : G = stD B (fO D) (fN D) m := hGe
              subst hGe
              refine x_iload d_MD_store_273 rfl ?_
              refine j_if_lt 312 d_MD_store_275 (by decide) (by unfold iR; omega) (fun c275 => ?_) (fun c275 => ?_)
              · exact after _ _ _ _
              · exfalso; omega
            | succ k ih =>
              intro G l i x10 x11 hk hi hl hGe
              have h10 := tmod_abs (p := l) (q := 10) (by decide)
              have hdv := Int.natAbs_tdiv_le_natAbs l 10
              refine x_iload d_MD_store_273 rfl ?_
              refine j_if_lt 312 d_MD_store_275 (by decide) (by unfold iR; omega) (fun c275 => ?_) (fun c275 => ?_)
              · exfalso; omega
              refine x_aload_n d_MD_store_278 rfl rfl rfl ?_
              refine x_get 5 0 d_MD_store_279 gf_MD_7 (by repeat (first | assumption | exact hs_self (by assumption) | exact hs_self (hs_ne (by omega) (by assumption)) | exact hs_self (hs_ne (by omega) (hs_ne (by omega) (by assumption))) | refine hs_ne (by omega) ?_)) (by rfl) ?_
              refine x_iload d_MD_store_282 rfl ?_
              refine x_iload d_MD_store_284 rfl ?_
              refine j_iadd d_MD_store_286 ?_
              refine j_bipush d_MD_store_287 (by decide) ?_
              refine x_lload d_MD_store_289 rfl ?_
              refine x_ldc2 d_MD_store_291 kl_MD_129 ?_
              refine j_lrem d_MD_store_294 (by unfold lR; omega) (by unfold lR; omega) (by decide) ?_
              refine j_l2i d_MD_store_295 ?_
              refine j_iadd d_MD_store_296 ?_
              refine j_iast d_MD_store_297 (by repeat (first | assumption | exact hs_self (by assumption) | exact hs_self (hs_ne (by omega) (by assumption)) | exact hs_self (hs_ne (by omega) (hs_ne (by omega) (by assumption))) | refine hs_ne (by omega) ?_)) (by omega) (by omega) (by decide) ?_
              rw [List.set_set]
              refine x_lload d_MD_store_298 rfl ?_
              refine x_ldc2 d_MD_store_300 kl_MD_129 ?_
              refine j_ldiv d_MD_store_303 (by unfold lR; omega) (by unfold lR; omega) (by decide) ?_
              refine x_lstore d_MD_store_304 (Nat.le_of_ble_eq_true rfl) ?_
              refine j_iinc d_MD_store_306 rfl ?_
              refine x_goto 273 d_MD_store_309 (by decide) ?_
              rw [show ((fO D : Int) + i).toNat = fO D + k by omega]
              exact ih _ _ _ _ _ (by omega) (by omega) (by omega) hGe
          refine x_iload d_MD_store_267 rfl ?_
          refine j_iconst d_MD_store_269 ?_
          refine j_isub d_MD_store_270 ?_
          refine x_istore d_MD_store_271 (Nat.le_of_ble_eq_true rfl) ?_
          have := loop (fN D) B m ((fN D : Int) - 1) none none (Nat.le_refl _) rfl (by omega) rfl
          rw [eb] at this
          exact this
        · -- binary
          have h3' : fM D = 3 := by omega
          have hw1 : fO D + wB (fN D) ≤ 64 := by
            unfold fW at ho
            rw [if_neg h4, if_neg (show ¬ fM D = 1 by omega), if_neg (show ¬ fM D = 2 by omega), if_pos h3'] at ho
            exact ho
          have loop : ∀ (k : Nat) (G : Nat → Int) (l i : Int), k ≤ wB (fN D) → i = (k : Int) - 1 → l.natAbs < 1000000000000 → stB G (fO D) k l = stB B (fO D) (wB (fN D)) u → X E M_MD_store 5 0 0 Z 229 [some (.ref mo), some (vI j), some (vL u), none, some (vI (fN D)), some (vI (fO D)), some (vI ng), some (vL m), none, some (vL l), none, some (vI i)] [] (h.set (mo + 1) (aI 64 G)) 0 0 := by
            intro k
            induction k with
            | zero =>
              intro G l i hk hi hl hGe
              have hGe : G = stB B (fO D) (wB (fN D)) u := hGe
              refine x_iload d_MD_store_229 rfl ?_
              refine j_if_lt 264 d_MD_store_231 (by decide) (by unfold iR; omega) (fun c231 => ?_) (fun c231 => ?_)
              · refine x_goto 379 d_MD_store_264 (by decide) ?_
                exact done _ _ (by rw [hGe, stA_3 h3'])
              · exfalso; omega
            | succ k ih =>
              intro G l i hk hi hl hGe
              have hlr : lR l := by unfold lR; omega
              have hw4b : wB (fN D) ≤ 4 := by unfold wB; split <;> omega
              refine x_iload d_MD_store_229 rfl ?_
              refine j_if_lt 264 d_MD_store_231 (by decide) (by unfold iR; omega) (fun c231 => ?_) (fun c231 => ?_)
              · exfalso; omega
              refine x_aload_n d_MD_store_234 rfl rfl rfl ?_
              refine x_get 5 0 d_MD_store_235 gf_MD_7 (by repeat (first | assumption | exact hs_self (by assumption) | exact hs_self (hs_ne (by omega) (by assumption)) | exact hs_self (hs_ne (by omega) (hs_ne (by omega) (by assumption))) | refine hs_ne (by omega) ?_)) (by rfl) ?_
              refine x_iload d_MD_store_238 rfl ?_
              refine x_iload d_MD_store_240 rfl ?_
              refine j_iadd d_MD_store_242 ?_
              refine x_lload d_MD_store_243 rfl ?_
              refine x_ldc2 d_MD_store_245 kl_MD_186 ?_
              refine x_land d_MD_store_248 ?_
              refine x_top (w := vL (l % 256)) (by rw [lI_and255 hlr]) ?_
              refine j_l2i d_MD_store_249 ?_
              refine j_iast d_MD_store_250 (by repeat (first | assumption | exact hs_self (by assumption) | exact hs_self (hs_ne (by omega) (by assumption)) | exact hs_self (hs_ne (by omega) (hs_ne (by omega) (by assumption))) | refine hs_ne (by omega) ?_)) (by omega) (by omega) (by decide) ?_
              rw [List.set_set]
              refine x_lload d_MD_store_251 rfl ?_
              refine j_bipush d_MD_store_253 (by decide) ?_
              refine x_lshr d_MD_store_255 ?_
              refine x_top (w := vL (l / 256)) (by rw [lI_shr8 hlr]) ?_
              refine x_lstore d_MD_store_256 (Nat.le_of_ble_eq_true rfl) ?_
              refine j_iinc d_MD_store_258 rfl ?_
              refine x_goto 229 d_MD_store_261 (by decide) ?_
              rw [show ((fO D : Int) + i).toNat = fO D + k by omega]
              exact ih _ _ _ (by omega) (by omega) (by omega) hGe
          refine x_lload_n d_MD_store_213 rfl rfl ?_
          refine x_lstore d_MD_store_214 (Nat.le_of_ble_eq_true rfl) ?_
          refine x_iload d_MD_store_216 rfl ?_
          refine j_iconst d_MD_store_218 ?_
          refine j_icmp_gt 226 d_MD_store_219 (by decide) (by unfold iR; omega) (by unfold iR; omega) (fun c219 => ?_) (fun c219 => ?_)
          · refine j_iconst d_MD_store_226 ?_
            refine x_istore d_MD_store_227 (Nat.le_of_ble_eq_true rfl) ?_
            have hw2 : wB (fN D) = 4 := by unfold wB; rw [if_neg (by omega)]
            have := loop (wB (fN D)) B u 3 (Nat.le_refl _) (by omega) hu rfl
            rw [eb] at this
            exact this
          · refine j_iconst d_MD_store_222 ?_
            refine x_goto 227 d_MD_store_223 (by decide) ?_
            refine x_istore d_MD_store_227 (Nat.le_of_ble_eq_true rfl) ?_
            have hw2 : wB (fN D) = 2 := by unfold wB; rw [if_pos (by omega)]
            have := loop (wB (fN D)) B u 1 (Nat.le_refl _) (by omega) hu rfl
            rw [eb] at this
            exact this
      · -- packed
        have h1' : fM D = 1 := by omega
        have hw1 : fO D + (fN D / 2 + 1) ≤ 64 := by
          unfold fW at ho
          rw [if_neg h4, if_pos h1'] at ho
          exact ho
        have e1 : (fN D : Int).tdiv 2 = ((fN D / 2 : Nat) : Int) := rfl
        have loop : ∀ (k : Nat) (G : Nat → Int) (l : Nat) (w i : Int) (x11 : Option Value), k ≤ fN D / 2 + 1 → i = (k : Int) - 1 → l < 1000000000000 → stP G (fO D) k l w = stA D B u → X E M_MD_store 5 0 0 Z 141 [some (.ref mo), some (vI j), some (vL u), none, some (vI (fN D)), some (vI (fO D)), some (vI ng), some (vL l), none, some (vI w), some (vI i), x11] [] (h.set (mo + 1) (aI 64 G)) 0 0 := by
          intro k
          induction k with
          | zero =>
            intro G l w i x11 hk hi hl hGe
            refine x_iload d_MD_store_141 rfl ?_
            refine j_if_lt 200 d_MD_store_143 (by decide) (by unfold iR; omega) (fun c143 => ?_) (fun c143 => ?_)
            · refine x_goto 379 d_MD_store_200 (by decide) ?_
              exact done _ _ hGe
            · exfalso; omega
          | succ k ih =>
            intro G l w i x11 hk hi hl hGe
            have hd1 : l / 10 ≤ l := Nat.div_le_self _ _
            have hd2 : l / 100 ≤ l := Nat.div_le_self _ _
            refine x_iload d_MD_store_141 rfl ?_
            refine j_if_lt 200 d_MD_store_143 (by decide) (by unfold iR; omega) (fun c143 => ?_) (fun c143 => ?_)
            · exfalso; omega
            refine x_aload_n d_MD_store_146 rfl rfl rfl ?_
            refine x_get 5 0 d_MD_store_147 gf_MD_7 (by repeat (first | assumption | exact hs_self (by assumption) | exact hs_self (hs_ne (by omega) (by assumption)) | exact hs_self (hs_ne (by omega) (hs_ne (by omega) (by assumption))) | refine hs_ne (by omega) ?_)) (by rfl) ?_
            refine x_iload d_MD_store_150 rfl ?_
            refine x_iload d_MD_store_152 rfl ?_
            refine j_iadd d_MD_store_154 ?_
            refine x_lload d_MD_store_155 rfl ?_
            refine x_ldc2 d_MD_store_157 kl_MD_129 ?_
            refine j_lrem d_MD_store_160 (by unfold lR; omega) (by unfold lR; omega) (by decide) ?_
            refine j_l2i d_MD_store_161 ?_
            refine j_bipush d_MD_store_162 (by decide) ?_
            refine j_imul d_MD_store_164 ?_
            refine x_iload d_MD_store_165 rfl ?_
            refine j_iadd d_MD_store_167 ?_
            refine j_iast d_MD_store_168 (by repeat (first | assumption | exact hs_self (by assumption) | exact hs_self (hs_ne (by omega) (by assumption)) | exact hs_self (hs_ne (by omega) (hs_ne (by omega) (by assumption))) | refine hs_ne (by omega) ?_)) (by omega) (by omega) (by decide) ?_
            rw [List.set_set]
            refine x_lload d_MD_store_169 rfl ?_
            refine x_ldc2 d_MD_store_171 kl_MD_129 ?_
            refine j_ldiv d_MD_store_174 (by unfold lR; omega) (by unfold lR; omega) (by decide) ?_
            refine x_top (w := vL ((l / 10 : Nat) : Int)) rfl ?_
            refine x_lstore d_MD_store_175 (Nat.le_of_ble_eq_true rfl) ?_
            refine x_lload d_MD_store_177 rfl ?_
            refine x_ldc2 d_MD_store_179 kl_MD_129 ?_
            refine j_lrem d_MD_store_182 (by unfold lR; omega) (by unfold lR; omega) (by decide) ?_
            refine x_top (w := vL ((l / 10 % 10 : Nat) : Int)) rfl ?_
            refine j_l2i d_MD_store_183 ?_
            refine x_istore d_MD_store_184 (Nat.le_of_ble_eq_true rfl) ?_
            refine x_lload d_MD_store_186 rfl ?_
            refine x_ldc2 d_MD_store_188 kl_MD_129 ?_
            refine j_ldiv d_MD_store_191 (by unfold lR; omega) (by unfold lR; omega) (by decide) ?_
            refine x_top (w := vL ((l / 100 : Nat) : Int)) (by rw [← div100]; rfl) ?_
            refine x_lstore d_MD_store_192 (Nat.le_of_ble_eq_true rfl) ?_
            refine j_iinc d_MD_store_194 rfl ?_
            refine x_goto 141 d_MD_store_197 (by decide) ?_
            rw [show ((fO D : Int) + i).toNat = fO D + k by omega]
            refine ih _ _ _ _ _ (by omega) (by omega) (by omega) ?_
            rw [← hGe]
            show stP (gU G (fO D + k) ((l : Int).tmod 10 * 16 + w)) (fO D) k _ _ = stP (gU G (fO D + k) (16 * (l : Int).tmod 10 + w)) (fO D) k _ _
            rw [Int.mul_comm]
            rfl
        have start : ∀ w : Int, w = (if fG D = 1 then (if u < 0 then 13 else 12) else 15) → X E M_MD_store 5 0 0 Z 133 [some (.ref mo), some (vI j), some (vL u), none, some (vI (fN D)), some (vI (fO D)), some (vI ng), some (vL m), none, none, none, none] [vI w] h 0 0 := by
          intro w hwe
          refine x_istore d_MD_store_133 (Nat.le_of_ble_eq_true rfl) ?_
          refine x_iload d_MD_store_135 rfl ?_
          refine j_iconst d_MD_store_137 ?_
          refine j_idiv d_MD_store_138 (by unfold iR; omega) (by unfold iR; omega) (by decide) ?_
          rw [e1]
          refine x_istore d_MD_store_139 (Nat.le_of_ble_eq_true rfl) ?_
          have := loop (fN D / 2 + 1) B m w ((fN D / 2 : Nat) : Int) none (Nat.le_refl _) (by omega) (by omega) (by rw [stA_1 h1', ← hmm, hwe])
          rw [eb] at this
          exact this
        refine x_aload_n d_MD_store_107 rfl rfl rfl ?_
        refine x_get 5 16 d_MD_store_108 gf_MD_31 (by repeat (first | assumption | exact hs_self (by assumption) | exact hs_self (hs_ne (by omega) (by assumption)) | exact hs_self (hs_ne (by omega) (hs_ne (by omega) (by assumption))) | refine hs_ne (by omega) ?_)) (by rfl) ?_
        refine x_iload_n d_MD_store_111 rfl rfl ?_
        refine j_zald d_MD_store_112 (by repeat (first | assumption | exact hs_self (by assumption) | exact hs_self (hs_ne (by omega) (by assumption)) | exact hs_self (hs_ne (by omega) (hs_ne (by omega) (by assumption))) | refine hs_ne (by omega) ?_)) (by omega) (by omega) (by decide) ?_
        refine x_top (w := vI (fG D)) (by rw [Int.toNat_natCast, fg]) ?_
        refine j_if_eq 131 d_MD_store_113 (by decide) (by unfold iR; omega) (fun c113 => ?_) (fun c113 => ?_)
        · refine j_bipush d_MD_store_131 (by decide) ?_
          exact start _ (by rw [if_neg (by omega)])
        · refine x_iload d_MD_store_116 rfl ?_
          refine j_if_eq 126 d_MD_store_118 (by decide) (by unfold iR; omega) (fun c118 => ?_) (fun c118 => ?_)
          · refine j_bipush d_MD_store_126 (by decide) ?_
            refine x_goto 133 d_MD_store_128 (by decide) ?_
            exact start _ (by rw [if_pos (by omega), if_neg (by omega)])
          · refine j_bipush d_MD_store_121 (by decide) ?_
            refine x_goto 133 d_MD_store_123 (by decide) ?_
            exact start _ (by rw [if_pos (by omega), if_pos (by omega)])
    · -- edited
      have h4 : fM D = 4 := by
        by_cases q : fM D = 4
        · exact q
        · rw [fe, if_neg q] at c48; omega
      obtain ⟨g1, g2, g3, g4⟩ := hF4 h4
      obtain ⟨hsy, hhb, hbc, hc18, hfi, hfl, hnd⟩ := hw4 h4
      have hfw : fW D = fC D := by unfold fW; rw [if_pos h4]
      rw [hfw] at ho
      refine x_aload_n d_MD_store_51 rfl rfl rfl ?_
      refine x_iload_n d_MD_store_52 rfl rfl ?_
      refine x_lload_n d_MD_store_53 rfl rfl ?_
      refine x_callVp (M' := M_MD_show) d_MD_store_54 lk_MD_150 (c_show E h mo j v so tg us u A D T hm hR0 ht hF0 hj hD0 hG h4 hu hT) mt_MD_show im_MD_show se_MD_show (by repeat (first | assumption | exact hs_self (by assumption) | exact hs_self (hs_ne (by omega) (by assumption)) | exact hs_self (hs_ne (by omega) (hs_ne (by omega) (by assumption))) | refine hs_ne (by omega) ?_)) rfl (by decide) rfl (Nat.le_of_ble_eq_true rfl) (by decide) (by decide) ?_
      rintro h' ⟨T1, rfl, hA, hT1⟩
      have hm1 : (h.set (mo + 14) (aI 18 T1))[mo]? = some (oM mo v so tg us) := hs_ne (by omega) hm
      have hb1 : (h.set (mo + 14) (aI 18 T1))[mo + 1]? = some (aI 64 B) := hs_ne (by omega) hb
      have ht1 : (h.set (mo + 14) (aI 18 T1))[mo + 14]? = some (aI 18 T1) := hs_self ht
      have hl1 : (h.set (mo + 14) (aI 18 T1))[mo + 11]? = some (aI 12 (aLn A)) := hs_ne (by omega) h8
      have loop : ∀ (r k : Nat) (G : Nat → Int) (i : Int) (x10 x11 : Option Value), k + r = fC D → i = (k : Int) → (∀ q, G q = if fO D ≤ q ∧ q < fO D + k then eV D u (q - fO D) else B q) → X E M_MD_store 5 0 0 Z 60 [some (.ref mo), some (vI j), some (vL u), none, some (vI (fN D)), some (vI (fO D)), some (vI ng), some (vL m), none, some (vI i), x10, x11] [] ((h.set (mo + 14) (aI 18 T1)).set (mo + 1) (aI 64 G)) 0 0 := by
        intro r
        induction r with
        | zero =>
          intro k G i x10 x11 hk hi hGq
          refine x_iload d_MD_store_60 rfl ?_
          refine x_aload_n d_MD_store_62 rfl rfl rfl ?_
          refine x_get 5 19 d_MD_store_63 gf_MD_41 (by repeat (first | assumption | exact hs_self (by assumption) | exact hs_self (hs_ne (by omega) (by assumption)) | exact hs_self (hs_ne (by omega) (hs_ne (by omega) (by assumption))) | refine hs_ne (by omega) ?_)) (by rfl) ?_
          refine x_iload_n d_MD_store_66 rfl rfl ?_
          refine j_iald d_MD_store_67 (by repeat (first | assumption | exact hs_self (by assumption) | exact hs_self (hs_ne (by omega) (by assumption)) | exact hs_self (hs_ne (by omega) (hs_ne (by omega) (by assumption))) | refine hs_ne (by omega) ?_)) (by omega) (by omega) (by decide) ?_
          refine x_top (w := vI (fC D)) (by rw [Int.toNat_natCast, g1]) ?_
          refine j_icmp_ge 94 d_MD_store_68 (by decide) (by unfold iR; omega) (by unfold iR; omega) (fun c68 => ?_) (fun c68 => ?_)
          · rw [hZ]
            refine x_goto 379 d_MD_store_94 (by decide) ?_
            refine x_return d_MD_store_379 rfl ?_
            refine ⟨rfl, T1, ?_, hT1⟩
            rw [stA_4 h4]
            have : G = cpyI (eV D u) B 0 (fO D) (fC D) := by
              funext q
              rw [hGq q]
              unfold cpyI
              rw [show k = fC D by omega, Nat.zero_add]
            rw [this]
          · exfalso; omega
        | succ r ih =>
          intro k G i x10 x11 hk hi hGq
          have htk := hT1 k (by omega)
          refine x_iload d_MD_store_60 rfl ?_
          refine x_aload_n d_MD_store_62 rfl rfl rfl ?_
          refine x_get 5 19 d_MD_store_63 gf_MD_41 (by repeat (first | assumption | exact hs_self (by assumption) | exact hs_self (hs_ne (by omega) (by assumption)) | exact hs_self (hs_ne (by omega) (hs_ne (by omega) (by assumption))) | refine hs_ne (by omega) ?_)) (by rfl) ?_
          refine x_iload_n d_MD_store_66 rfl rfl ?_
          refine j_iald d_MD_store_67 (by repeat (first | assumption | exact hs_self (by assumption) | exact hs_self (hs_ne (by omega) (by assumption)) | exact hs_self (hs_ne (by omega) (hs_ne (by omega) (by assumption))) | refine hs_ne (by omega) ?_)) (by omega) (by omega) (by decide) ?_
          refine x_top (w := vI (fC D)) (by rw [Int.toNat_natCast, g1]) ?_
          refine j_icmp_ge 94 d_MD_store_68 (by decide) (by unfold iR; omega) (by unfold iR; omega) (fun c68 => ?_) (fun c68 => ?_)
          · exfalso; omega
          refine x_aload_n d_MD_store_71 rfl rfl rfl ?_
          refine x_get 5 0 d_MD_store_72 gf_MD_7 (by repeat (first | assumption | exact hs_self (by assumption) | exact hs_self (hs_ne (by omega) (by assumption)) | exact hs_self (hs_ne (by omega) (hs_ne (by omega) (by assumption))) | refine hs_ne (by omega) ?_)) (by rfl) ?_
          refine x_iload d_MD_store_75 rfl ?_
          refine x_iload d_MD_store_77 rfl ?_
          refine j_iadd d_MD_store_79 ?_
          refine x_aload_n d_MD_store_80 rfl rfl rfl ?_
          refine x_get 5 22 d_MD_store_81 gf_MD_50 (by repeat (first | assumption | exact hs_self (by assumption) | exact hs_self (hs_ne (by omega) (by assumption)) | exact hs_self (hs_ne (by omega) (hs_ne (by omega) (by assumption))) | refine hs_ne (by omega) ?_)) (by rfl) ?_
          refine x_iload d_MD_store_84 rfl ?_
          refine j_iald d_MD_store_86 (by repeat (first | assumption | exact hs_self (by assumption) | exact hs_self (hs_ne (by omega) (by assumption)) | exact hs_self (hs_ne (by omega) (hs_ne (by omega) (by assumption))) | refine hs_ne (by omega) ?_)) (by omega) (by omega) (by decide) ?_
          refine j_iast d_MD_store_87 (by repeat (first | assumption | exact hs_self (by assumption) | exact hs_self (hs_ne (by omega) (by assumption)) | exact hs_self (hs_ne (by omega) (hs_ne (by omega) (by assumption))) | refine hs_ne (by omega) ?_)) (by omega) (by omega) (by decide) ?_
          rw [List.set_set]
          refine j_iinc d_MD_store_88 rfl ?_
          refine x_goto 60 d_MD_store_91 (by decide) ?_
          refine ih (k + 1) _ _ _ _ (by omega) (by omega) (fun q => ?_)
          rw [show ((fO D : Int) + i).toNat = fO D + k by omega, show i.toNat = k by omega]
          by_cases hq : q = fO D + k
          · subst hq
            rw [gU_self, if_pos (by omega), show fO D + k - fO D = k by omega]
            exact hA k (by omega)
          · rw [gU_ne _ _ hq, hGq q]
            by_cases hq2 : fO D ≤ q ∧ q < fO D + k
            · rw [if_pos hq2, if_pos (by omega)]
            · rw [if_neg hq2, if_neg (by omega)]
      refine j_iconst d_MD_store_57 ?_
      refine x_istore d_MD_store_58 (Nat.le_of_ble_eq_true rfl) ?_
      have := loop (fC D) 0 B 0 none none (by omega) rfl (fun q => by rw [if_neg (by omega)])
      rw [hset_id hb1] at this
      exact this
  rw [← hZ]
  refine x_aload_n d_MD_store_0 rfl rfl rfl ?_
  refine x_get 5 14 d_MD_store_1 gf_MD_25 (by repeat (first | assumption | exact hs_self (by assumption) | exact hs_self (hs_ne (by omega) (by assumption)) | exact hs_self (hs_ne (by omega) (hs_ne (by omega) (by assumption))) | refine hs_ne (by omega) ?_)) (by rfl) ?_
  refine x_iload_n d_MD_store_4 rfl rfl ?_
  refine j_iald d_MD_store_5 (by repeat (first | assumption | exact hs_self (by assumption) | exact hs_self (hs_ne (by omega) (by assumption)) | exact hs_self (hs_ne (by omega) (hs_ne (by omega) (by assumption))) | refine hs_ne (by omega) ?_)) (by omega) (by omega) (by decide) ?_
  refine x_top (w := vI (fN D)) (by rw [Int.toNat_natCast, fn]) ?_
  refine x_istore d_MD_store_6 (Nat.le_of_ble_eq_true rfl) ?_
  refine x_aload_n d_MD_store_8 rfl rfl rfl ?_
  refine x_get 5 12 d_MD_store_9 gf_MD_19 (by repeat (first | assumption | exact hs_self (by assumption) | exact hs_self (hs_ne (by omega) (by assumption)) | exact hs_self (hs_ne (by omega) (hs_ne (by omega) (by assumption))) | refine hs_ne (by omega) ?_)) (by rfl) ?_
  refine x_iload_n d_MD_store_12 rfl rfl ?_
  refine j_iald d_MD_store_13 (by repeat (first | assumption | exact hs_self (by assumption) | exact hs_self (hs_ne (by omega) (by assumption)) | exact hs_self (hs_ne (by omega) (hs_ne (by omega) (by assumption))) | refine hs_ne (by omega) ?_)) (by omega) (by omega) (by decide) ?_
  refine x_top (w := vI (fO D)) (by rw [Int.toNat_natCast, f0]) ?_
  refine x_istore d_MD_store_14 (Nat.le_of_ble_eq_true rfl) ?_
  refine x_lload_n d_MD_store_16 rfl rfl ?_
  refine j_lconst 0 d_MD_store_17 (by decide) ?_
  refine j_lcmp_ge 26 d_MD_store_18 d_MD_store_19 (by decide) (by unfold lR; omega) (by unfold lR; omega) (fun c18 => ?_) (fun c18 => ?_)
  · refine j_iconst d_MD_store_26 ?_
    refine x_istore d_MD_store_27 (Nat.le_of_ble_eq_true rfl) ?_
    have hn0 : ng = 0 := by omega
    refine x_iload d_MD_store_29 rfl ?_
    refine j_if_eq 39 d_MD_store_31 (by decide) (by unfold iR; omega) (fun c31 => ?_) (fun c31 => ?_)
    · refine x_lload_n d_MD_store_39 rfl rfl ?_
      rw [hn0, ← show u = ((m : Nat) : Int) by omega] at main
      exact main
    · exfalso; omega
  · refine j_iconst d_MD_store_22 ?_
    refine x_goto 27 d_MD_store_23 (by decide) ?_
    refine x_istore d_MD_store_27 (Nat.le_of_ble_eq_true rfl) ?_
    have hn0 : ng = 1 := by omega
    refine x_iload d_MD_store_29 rfl ?_
    refine j_if_eq 39 d_MD_store_31 (by decide) (by unfold iR; omega) (fun c31 => ?_) (fun c31 => ?_)
    · exfalso; omega
    · refine x_lload_n d_MD_store_34 rfl rfl ?_
      refine j_lneg d_MD_store_35 ?_
      refine x_goto 40 d_MD_store_36 (by decide) ?_
      rw [hn0, ← show -u = ((m : Nat) : Int) by omega] at main
      exact main
