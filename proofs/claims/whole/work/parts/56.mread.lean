/-! the model reads a draft -/
theorem wO_rg {d : Nat → Int} {n : Nat} (hd : ∀ i, i < 24 → 0 ≤ d i ∧ d i ≤ 126) (hn : n ≤ 24) : ∀ {f a ct : Nat} {G G' : Nat → Int} {ct' : Nat}, wO d n f a G ct = some (G', ct') → (∀ j, 0 ≤ G j ∧ G j ≤ 126) → ∀ j, 0 ≤ G' j ∧ G' j ≤ 126
  | 0, _, _, _, _, _, h, _ => by cases h
  | f + 1, a, ct, G, G', ct', h, hG => by
    by_cases ha : a < n
    · by_cases hb : wbad d n a ct
      · rw [wO_bad ha hb] at h; cases h
      · rw [wO_go ha hb] at h
        refine wO_rg hd hn h (fun j => ?_)
        unfold apS; split
        · exact hd a (by omega)
        · exact hG j
    · rw [wO_end ha] at h; cases h; exact hG
theorem dRd_rg {d : Nat → Int} {n : Nat} (hd : ∀ i, i < 24 → 0 ≤ d i ∧ d i ≤ 126) (hn : n ≤ 24) {G : Nat → Int} {ct : Nat} (h : dRd d n = some (G, ct)) : ∀ j, 0 ≤ G j ∧ G j ≤ 126 := wO_rg hd hn (dRd_ok h).1 (fun _ => ⟨by decide, by decide⟩)
def drw (d : Nat → Int) (n i : Nat) : Int := if i < n then d i else 0
theorem drw_1 {d : Nat → Int} {n i : Nat} {x : Int} (h : drw d n i = x) (hx : ¬ x = 0) : i < n ∧ d i = x := by
  unfold drw at h
  by_cases hi : i < n
  · rw [if_pos hi] at h; exact ⟨hi, h⟩
  · rw [if_neg hi] at h; exact absurd h.symm hx
theorem drw_dg {d : Nat → Int} {n i : Nat} (h : 0 ≤ drw d n i - 48 ∧ drw d n i - 48 ≤ 9) : i < n ∧ dig (d i) := by
  unfold drw at h
  by_cases hi : i < n
  · rw [if_pos hi] at h; exact ⟨hi, by omega⟩
  · rw [if_neg hi] at h; omega
theorem drw_in {d : Nat → Int} {n i : Nat} (h : i < n) : drw d n i = d i := by unfold drw; rw [if_pos h]
theorem drw_r {d : Nat → Int} {n i : Nat} (hd : ∀ i, i < 24 → 0 ≤ d i ∧ d i ≤ 126) (hn : n ≤ 24) : 0 ≤ drw d n i ∧ drw d n i ≤ 126 := by
  unfold drw
  by_cases hi : i < n
  · rw [if_pos hi]; exact hd i (by omega)
  · rw [if_neg hi]; omega
section RM
variable {d : Nat → Int} {n a : Nat}
/-- no repetition begins here -/
theorem rl_A (h : ¬ (rpt (d a) ∧ drw d n (a + 1) = 40)) : rl d n a = 0 := by
  have := rl_no (d := d) (n := n) (a := a) (fun x => h ⟨x.1.2.1, by rw [drw_in (by omega)]; exact x.1.2.2⟩)
  omega
theorem rl_B0 (h : ¬ (0 ≤ drw d n (a + 2) - 48 ∧ drw d n (a + 2) - 48 ≤ 9)) : rl d n a = 0 := by
  have := rl_no (d := d) (n := n) (a := a) (fun x => h (by rw [drw_in (by omega)]; have := x.2; omega))
  omega
theorem rl_B2 (h1 : rpt (d a)) (h2 : d (a + 1) = 40) (h3 : dig (d (a + 2))) (h4 : a + 3 < n ∧ dig (d (a + 3))) : rl d n a = if drw d n (a + 4) = 41 then 5 else 0 := by
  have n3 : ¬ d (a + 3) = 41 := by have := h4.2; omega
  by_cases e : drw d n (a + 4) = 41
  · rw [if_pos e]
    obtain ⟨y1, y2⟩ := drw_1 e (by decide)
    have := rl_y5 (d := d) (n := n) (a := a) ⟨⟨h4.1, h1, h2⟩, h3⟩ n3 ⟨y1, h4.2, y2⟩
    omega
  · rw [if_neg e]
    have := rl_y0 (d := d) (n := n) (a := a) n3 (fun x => e (by rw [drw_in x.1]; exact x.2.2))
    omega
theorem rl_B1 (h1 : rpt (d a)) (h2 : d (a + 1) = 40) (h3 : dig (d (a + 2))) (h4 : ¬ (0 ≤ drw d n (a + 3) - 48 ∧ drw d n (a + 3) - 48 ≤ 9)) : rl d n a = if drw d n (a + 3) = 41 then 4 else 0 := by
  by_cases e : drw d n (a + 3) = 41
  · rw [if_pos e]
    obtain ⟨y1, y2⟩ := drw_1 e (by decide)
    have := rl_y4 (d := d) (n := n) (a := a) ⟨⟨y1, h1, h2⟩, h3⟩ y2
    omega
  · rw [if_neg e]
    by_cases y : a + 3 < n
    · rw [drw_in y] at e h4
      have := rl_y0 (d := d) (n := n) (a := a) e (fun x => h4 (by have := x.2.1; omega))
      omega
    · have := rl_no (d := d) (n := n) (a := a) (fun x => y x.1.1)
      omega
theorem tm_0 (h : rl d n a = 0) : tm d n a = 1 := by unfold tm; rw [if_pos h]
theorem tm_4 (h : rl d n a = 4) : tm d n a = d (a + 2) - 48 := by unfold tm rt; rw [if_neg (by omega), if_pos h]
theorem tm_5 (h : rl d n a = 5) : tm d n a = 10 * (d (a + 2) - 48) + d (a + 3) - 48 := by unfold tm rt; rw [if_neg (by omega), if_neg (by omega)]
end RM
theorem dRd_no {d : Nat → Int} {n : Nat} (h : wO d n 25 0 (fun _ => 0) 0 = none) : dRd d n = none := by unfold dRd; rw [h]
theorem dol_2 (G : Nat → Int) (ct : Nat) : nd (fun j => decide (G j = 36 ∨ G j = 36)) ct 0 = dol G ct := nd_cg (fun j _ _ => by simp)
theorem inH_iff {G : Nat → Int} {ct : Nat} : (0 < hdS G ct ∧ pmn (G 0)) ↔ inH G ct := by
  constructor
  · intro ⟨h1, h2⟩
    unfold hdS at h1
    by_cases x : inH G ct
    · exact x
    · have e : hd0 G ct = 0 := by unfold hd0; rw [if_neg x]
      rw [e] at h1
      by_cases y : 0 < ct ∧ G 0 = 36 ∧ dol G ct = 1
      · have := y.2.1; exfalso; omega
      · rw [if_neg y] at h1; omega
  · intro x
    have e : hd0 G ct = 1 := by unfold hd0; rw [if_pos x]
    refine ⟨?_, x.2⟩
    unfold hdS; rw [e]; split <;> omega
theorem tl_iff {G : Nat → Int} {ct : Nat} : 0 < tlS G ct ↔ (inT G ct ∨ wrd G ct) := by
  unfold tlS
  by_cases x : inT G ct
  · rw [if_pos x]; exact ⟨fun _ => Or.inl x, fun _ => by omega⟩
  · rw [if_neg x]
    by_cases y : wrd G ct
    · rw [if_pos y]; exact ⟨fun _ => Or.inr y, fun _ => by omega⟩
    · rw [if_neg y]; exact ⟨fun z => by omega, fun z => by rcases z with z | z; exact absurd z x; exact absurd z y⟩
/-- the model's tail -/
theorem tl_m {G : Nat → Int} {ct : Nat} (h1 : 1 ≤ ct) : tlS G ct = if 2 ≤ ct then (if sgn G ct = 1 ∧ pmn (G (ct - 1)) then 1 else if sgn G ct = 0 ∧ ((G (ct - 2) = 67 ∧ G (ct - 1) = 82) ∨ (G (ct - 2) = 68 ∧ G (ct - 1) = 66)) then 2 else 0) else 0 := by
  unfold tlS
  by_cases h2 : 2 ≤ ct
  · rw [if_pos h2]
    by_cases a : sgn G ct = 1 ∧ pmn (G (ct - 1))
    · rw [if_pos a, if_pos ⟨a.1, fun x => by have := sgn_ge2 h2 x a.2; omega, a.2⟩]
    · rw [if_neg a, if_neg (fun x => a ⟨x.1, x.2.2⟩)]
      by_cases b : sgn G ct = 0 ∧ ((G (ct - 2) = 67 ∧ G (ct - 1) = 82) ∨ (G (ct - 2) = 68 ∧ G (ct - 1) = 66))
      · rw [if_pos b, if_pos ⟨b.1, h2, b.2⟩]
      · rw [if_neg b, if_neg (fun x => b ⟨x.1, x.2.2⟩)]
  · rw [if_neg h2, if_neg (fun x => by have e : ct - 1 = 0 := by omega
                                       have y := x.2.2
                                       rw [e] at y; exact x.2.1 y), if_neg (fun x => h2 x.2.1)]
section MPC
variable {E : xEnv} {h : xH} {mo : Nat} {v : Nat → Int} {so tg us : Int}
set_option maxHeartbeats 1000000 in
theorem c_insertion (E : xEnv) (h : xH) (z : Int) (hz : iR z) : xCt E 0 0 0 M_MD_insertion [vI z] h (rV (vI (if ins z then 1 else 0)) h) := by
  refine x_met rfl rfl (Nat.le_of_ble_eq_true rfl) ?_
  unfold iR at hz
  refine x_iload_n d_MD_insertion_0 rfl rfl ?_
  refine j_bipush d_MD_insertion_1 (by decide) ?_
  refine j_icmp_eq 24 d_MD_insertion_3 (by decide) (by unfold iR; omega) (by unfold iR; omega) (fun c3 => ?_) (fun c3 => ?_)
  · refine j_iconst d_MD_insertion_24 ?_
    refine x_goto 29 d_MD_insertion_25 (by decide) ?_
    refine j_zreturn d_MD_insertion_29 rfl (by omega) ?_
    exact rV_i (by split <;> omega) rfl
  · refine x_iload_n d_MD_insertion_6 rfl rfl ?_
    refine j_bipush d_MD_insertion_7 (by decide) ?_
    refine j_icmp_eq 24 d_MD_insertion_9 (by decide) (by unfold iR; omega) (by unfold iR; omega) (fun c9 => ?_) (fun c9 => ?_)
    · refine j_iconst d_MD_insertion_24 ?_
      refine x_goto 29 d_MD_insertion_25 (by decide) ?_
      refine j_zreturn d_MD_insertion_29 rfl (by omega) ?_
      exact rV_i (by split <;> omega) rfl
    · refine x_iload_n d_MD_insertion_12 rfl rfl ?_
      refine j_bipush d_MD_insertion_13 (by decide) ?_
      refine j_icmp_eq 24 d_MD_insertion_15 (by decide) (by unfold iR; omega) (by unfold iR; omega) (fun c15 => ?_) (fun c15 => ?_)
      · refine j_iconst d_MD_insertion_24 ?_
        refine x_goto 29 d_MD_insertion_25 (by decide) ?_
        refine j_zreturn d_MD_insertion_29 rfl (by omega) ?_
        exact rV_i (by split <;> omega) rfl
      · refine x_iload_n d_MD_insertion_18 rfl rfl ?_
        refine j_bipush d_MD_insertion_19 (by decide) ?_
        refine j_icmp_ne 28 d_MD_insertion_21 (by decide) (by unfold iR; omega) (by unfold iR; omega) (fun c21 => ?_) (fun c21 => ?_)
        · refine j_iconst d_MD_insertion_28 ?_
          refine j_zreturn d_MD_insertion_29 rfl (by omega) ?_
          exact rV_i (by split <;> omega) rfl
        · refine j_iconst d_MD_insertion_24 ?_
          refine x_goto 29 d_MD_insertion_25 (by decide) ?_
          refine j_zreturn d_MD_insertion_29 rfl (by omega) ?_
          exact rV_i (by split <;> omega) rfl
set_option maxHeartbeats 1000000 in
theorem c_repeats (E : xEnv) (h : xH) (z : Int) (hz : iR z) : xCt E 2 0 0 M_MD_repeats [vI z] h (rV (vI (if rpt z then 1 else 0)) h) := by
  refine x_met rfl rfl (Nat.le_of_ble_eq_true rfl) ?_
  have hz' := hz
  unfold iR at hz
  refine x_iload_n d_MD_repeats_0 rfl rfl ?_
  refine j_bipush d_MD_repeats_1 (by decide) ?_
  refine j_icmp_eq 32 d_MD_repeats_3 (by decide) (by unfold iR; omega) (by unfold iR; omega) (fun c3 => ?_) (fun c3 => ?_)
  · refine j_iconst d_MD_repeats_32 ?_
    refine x_goto 37 d_MD_repeats_33 (by decide) ?_
    refine j_zreturn d_MD_repeats_37 rfl (by omega) ?_
    exact rV_i (by clear hz'; (repeat' split at *) <;> omega) rfl
  · refine x_iload_n d_MD_repeats_6 rfl rfl ?_
    refine j_bipush d_MD_repeats_7 (by decide) ?_
    refine j_icmp_eq 32 d_MD_repeats_9 (by decide) (by unfold iR; omega) (by unfold iR; omega) (fun c9 => ?_) (fun c9 => ?_)
    · refine j_iconst d_MD_repeats_32 ?_
      refine x_goto 37 d_MD_repeats_33 (by decide) ?_
      refine j_zreturn d_MD_repeats_37 rfl (by omega) ?_
      exact rV_i (by clear hz'; (repeat' split at *) <;> omega) rfl
    · refine x_iload_n d_MD_repeats_12 rfl rfl ?_
      refine j_bipush d_MD_repeats_13 (by decide) ?_
      refine j_icmp_eq 32 d_MD_repeats_15 (by decide) (by unfold iR; omega) (by unfold iR; omega) (fun c15 => ?_) (fun c15 => ?_)
      · refine j_iconst d_MD_repeats_32 ?_
        refine x_goto 37 d_MD_repeats_33 (by decide) ?_
        refine j_zreturn d_MD_repeats_37 rfl (by omega) ?_
        exact rV_i (by clear hz'; (repeat' split at *) <;> omega) rfl
      · refine x_iload_n d_MD_repeats_18 rfl rfl ?_
        refine x_callS1 (M' := M_MD_floating) d_MD_repeats_19 lk_MD_65 (c_floating E h z hz') mt_MD_floating st_MD_floating (by decide) rfl (Nat.le_of_ble_eq_true rfl) (by decide) (by decide) ?_
        refine j_if_ne 32 d_MD_repeats_22 (by decide) iteR (fun c22 => ?_) (fun c22 => ?_)
        · refine j_iconst d_MD_repeats_32 ?_
          refine x_goto 37 d_MD_repeats_33 (by decide) ?_
          refine j_zreturn d_MD_repeats_37 rfl (by omega) ?_
          exact rV_i (by clear hz'; (repeat' split at *) <;> omega) rfl
        · refine x_iload_n d_MD_repeats_25 rfl rfl ?_
          refine x_callS1 (M' := M_MD_insertion) d_MD_repeats_26 lk_MD_68 (c_insertion E h z hz') mt_MD_insertion st_MD_insertion (by decide) rfl (Nat.le_of_ble_eq_true rfl) (by decide) (by decide) ?_
          refine j_if_eq 36 d_MD_repeats_29 (by decide) iteR (fun c29 => ?_) (fun c29 => ?_)
          · refine j_iconst d_MD_repeats_36 ?_
            refine j_zreturn d_MD_repeats_37 rfl (by omega) ?_
            exact rV_i (by clear hz'; (repeat' split at *) <;> omega) rfl
          · refine j_iconst d_MD_repeats_32 ?_
            refine x_goto 37 d_MD_repeats_33 (by decide) ?_
            refine j_zreturn d_MD_repeats_37 rfl (by omega) ?_
            exact rV_i (by clear hz'; (repeat' split at *) <;> omega) rfl
set_option maxHeartbeats 1000000 in
theorem c_drawn {n : Nat} {d : Nat → Int} (i : Nat) (z : Int) (hz : z = i) (hm : h[mo]? = some (oM mo v so tg us)) (hv2 : v 2 = n) (hn : n ≤ 24) (hdr : h[mo + 2]? = some (aI 24 d)) (hi : i ≤ 40) : xCt E 0 0 0 M_MD_drawn [.ref mo, vI z] h (rV (vI (drw d n i)) h) := by
  subst hz
  refine x_met rfl rfl (Nat.le_of_ble_eq_true rfl) ?_
  refine x_iload_n d_MD_drawn_0 rfl rfl ?_
  refine x_aload_n d_MD_drawn_1 rfl rfl (by first | rfl | assumption) ?_
  refine x_get 5 2 d_MD_drawn_2 gf_MD_57 (by repeat (first | assumption | exact hs_self (by assumption) | exact hs_self (hs_ne (by omega) (by assumption)) | exact hs_self (hs_ne (by omega) (hs_ne (by omega) (by assumption))) | refine hs_ne (by omega) ?_)) (by rfl) ?_
  refine j_icmp_ge 17 d_MD_drawn_5 (by decide) (by unfold iR; omega) (by unfold iR; omega) (fun c5 => ?_) (fun c5 => ?_)
  · refine j_iconst d_MD_drawn_17 ?_
    refine x_ireturn d_MD_drawn_18 rfl ?_
    exact rV_i (by unfold drw; rw [if_neg (by omega)]) rfl
  · refine x_aload_n d_MD_drawn_8 rfl rfl (by first | rfl | assumption) ?_
    refine x_get 5 1 d_MD_drawn_9 gf_MD_13 (by repeat (first | assumption | exact hs_self (by assumption) | exact hs_self (hs_ne (by omega) (by assumption)) | exact hs_self (hs_ne (by omega) (hs_ne (by omega) (by assumption))) | refine hs_ne (by omega) ?_)) (by rfl) ?_
    refine x_iload_n d_MD_drawn_12 rfl rfl ?_
    refine j_iald d_MD_drawn_13 (by repeat (first | assumption | exact hs_self (by assumption) | exact hs_self (hs_ne (by omega) (by assumption)) | exact hs_self (hs_ne (by omega) (hs_ne (by omega) (by assumption))) | refine hs_ne (by omega) ?_)) (by omega) (by omega) (by decide) ?_
    refine x_goto 18 d_MD_drawn_14 (by decide) ?_
    refine x_ireturn d_MD_drawn_18 rfl ?_
    exact rV_i (by unfold drw; rw [if_pos (by omega)]; rfl) rfl
set_option maxHeartbeats 2000000 in
theorem c_mWriteOut {n : Nat} {d G0 : Nat → Int} (hm : h[mo]? = some (oM mo v so tg us)) (hv2 : v 2 = n) (hn : n ≤ 24) (hdr : h[mo + 2]? = some (aI 24 d)) (hd : ∀ i, i < 24 → 0 ≤ d i ∧ d i ≤ 126) (hsy : h[mo + 3]? = some (aI 18 G0)) : xCt E 3 0 0 M_MD_writeOut [.ref mo] h (rQ (fun w h' => ∃ G v' : Nat → Int, h' = (h.set (mo + 3) (aI 18 G)).set mo (oM mo v' so tg us) ∧ (∀ k, k ≠ 4 → v' k = v k) ∧ ((w = vI 0 ∧ dRd d n = none) ∨ (w = vI 1 ∧ ∃ (G1 : Nat → Int) (ct : Nat), dRd d n = some (G1, ct) ∧ v' 4 = ct ∧ ∀ j, j < ct → G j = G1 j)))) := by
  refine x_met rfl rfl (Nat.le_of_ble_eq_true rfl) ?_
  obtain ⟨Z, hZ⟩ : ∃ Z, Z = (xZ E 0 0 (rQ (fun w h' => ∃ G v' : Nat → Int, h' = (h.set (mo + 3) (aI 18 G)).set mo (oM mo v' so tg us) ∧ (∀ k, k ≠ 4 → v' k = v k) ∧ ((w = vI 0 ∧ dRd d n = none) ∨ (w = vI 1 ∧ ∃ (G1 : Nat → Int) (ct : Nat), dRd d n = some (G1, ct) ∧ v' 4 = ct ∧ ∀ j, j < ct → G j = G1 j))))) := ⟨_, rfl⟩
  rw [← hZ]
  have loop : ∀ (f a : Nat) (z : Int) (x2 x3 x4 : Option Value) (ct : Nat) (G G1 w : Nat → Int), n < a + f → a ≤ n → z = a → w 4 = ct → (∀ k, k ≠ 4 → w k = v k) → ct ≤ 18 → (∀ j, j < ct → G j = G1 j) → wO d n f a G1 ct = wO d n 25 0 (fun _ => 0) 0 → X E M_MD_writeOut 3 0 0 Z 7 [some (.ref mo), some (vI z), x2, x3, x4] [] ((h.set (mo + 3) (aI 18 G)).set mo (oM mo w so tg us)) 0 0 := by
    intro f
    induction f with
    | zero => intro a z x2 x3 x4 ct G G1 w h1 h2; exfalso; omega
    | succ f ih =>
      intro a z x2 x3 x4 ct G G1 w h1 h2 hz hw4 hwk hct hGG hw
      subst hz
      have hw2 : w 2 = n := by rw [hwk 2 (by decide), hv2]
      have M0 : ((h.set (mo + 3) (aI 18 G)).set mo (oM mo w so tg us))[mo]? = some (oM mo w so tg us) := hs_self (hs_ne (by omega) hm)
      have M2 : ((h.set (mo + 3) (aI 18 G)).set mo (oM mo w so tg us))[mo + 2]? = some (aI 24 d) := hs_ne (by omega) (hs_ne (by omega) hdr)
      have bad : dRd d n = none → ∀ (pc : Nat) (L : List (Option Value)), pc = 101 ∨ pc = 184 → X E M_MD_writeOut 3 0 0 Z pc L [] ((h.set (mo + 3) (aI 18 G)).set mo (oM mo w so tg us)) 0 0 := by
        intro hno pc L hpc
        rw [hZ]
        rcases hpc with rfl | rfl
        · refine j_iconst d_MD_writeOut_101 ?_
          refine j_zreturn d_MD_writeOut_102 rfl (by omega) ?_
          exact ⟨_, rfl, G, w, rfl, hwk, Or.inl ⟨rfl, hno⟩⟩
        · refine j_iconst d_MD_writeOut_184 ?_
          refine j_zreturn d_MD_writeOut_185 rfl (by omega) ?_
          exact ⟨_, rfl, G, w, rfl, hwk, Or.inl ⟨rfl, hno⟩⟩
      refine x_iload_n d_MD_writeOut_7 rfl rfl ?_
      refine x_aload_n d_MD_writeOut_8 rfl rfl (by first | rfl | assumption) ?_
      refine x_get 5 2 d_MD_writeOut_9 gf_MD_57 (by repeat (first | assumption | exact hs_self (by assumption) | exact hs_self (hs_ne (by omega) (by assumption)) | exact hs_self (hs_ne (by omega) (hs_ne (by omega) (by assumption))) | refine hs_ne (by omega) ?_)) (by rfl) ?_
      refine j_icmp_ge 224 d_MD_writeOut_12 (by decide) (by unfold iR; omega) (by unfold iR; omega) (fun c12 => ?_) (fun c12 => ?_)
      · rw [wO_end (by omega)] at hw
        rw [hZ]
        refine x_aload_n d_MD_writeOut_224 rfl rfl (by first | rfl | assumption) ?_
        refine x_get 5 4 d_MD_writeOut_225 gf_MD_71 (by repeat (first | assumption | exact hs_self (by assumption) | exact hs_self (hs_ne (by omega) (by assumption)) | exact hs_self (hs_ne (by omega) (hs_ne (by omega) (by assumption))) | refine hs_ne (by omega) ?_)) (by rfl) ?_
        refine j_if_le 235 d_MD_writeOut_228 (by decide) (by unfold iR; omega) (fun c228 => ?_) (fun c228 => ?_)
        · refine j_iconst d_MD_writeOut_235 ?_
          refine j_zreturn d_MD_writeOut_236 rfl (by omega) ?_
          refine ⟨_, rfl, G, w, rfl, hwk, Or.inl ⟨rfl, ?_⟩⟩
          unfold dRd; rw [← hw]; exact if_neg (by omega)
        · refine j_iconst d_MD_writeOut_231 ?_
          refine x_goto 236 d_MD_writeOut_232 (by decide) ?_
          refine j_zreturn d_MD_writeOut_236 rfl (by omega) ?_
          refine ⟨_, rfl, G, w, rfl, hwk, Or.inr ⟨rfl, G1, ct, ?_, hw4, hGG⟩⟩
          unfold dRd; rw [← hw]; exact if_pos (by omega)
      have ha : a < n := by omega
      have hrl := rl_c d n a
      have htm := tm_r d n a
      have hda := hd a (by omega)
      have hdr1 := fun i => drw_r (n := n) (i := i) hd hn
      have mal : a + 1 < n → d (a + 1) = 40 → rl d n a = 0 → dRd d n = none := by
        intro y1 y2 y3
        obtain ⟨f', rfl⟩ : ∃ f', f = f' + 1 := ⟨f - 1, by omega⟩
        rw [wO_mal y1 y2 y3] at hw
        exact dRd_no hw.symm
      have k157 : ∀ (z t : Int) (x4 : Option Value), z = ((a + max 1 (rl d n a) : Nat) : Int) → t = tm d n a → a + max 1 (rl d n a) ≤ n → X E M_MD_writeOut 3 0 0 Z 157 [some (.ref mo), some (vI z), some (vI (d a)), some (vI t), x4] [] ((h.set (mo + 3) (aI 18 G)).set mo (oM mo w so tg us)) 0 0 := by
        intro z t x4 hz ht hle
        by_cases hb : wbad d n a ct
        · rw [wO_bad ha hb] at hw
          have hno := dRd_no hw.symm
          have hb' : d a = 40 ∨ d a = 41 ∨ t = 0 ∨ 18 < (ct : Int) + t := by rw [ht]; exact hb
          refine x_iload_n d_MD_writeOut_157 rfl rfl ?_
          refine j_bipush d_MD_writeOut_158 (by decide) ?_
          refine j_icmp_eq 184 d_MD_writeOut_160 (by decide) (by unfold iR; omega) (by unfold iR; omega) (fun c160 => ?_) (fun c160 => ?_)
          · exact bad hno _ _ (Or.inr rfl)
          · refine x_iload_n d_MD_writeOut_163 rfl rfl ?_
            refine j_bipush d_MD_writeOut_164 (by decide) ?_
            refine j_icmp_eq 184 d_MD_writeOut_166 (by decide) (by unfold iR; omega) (by unfold iR; omega) (fun c166 => ?_) (fun c166 => ?_)
            · exact bad hno _ _ (Or.inr rfl)
            · refine x_iload_n d_MD_writeOut_169 rfl rfl ?_
              refine j_if_eq 184 d_MD_writeOut_170 (by decide) (by unfold iR; omega) (fun c170 => ?_) (fun c170 => ?_)
              · exact bad hno _ _ (Or.inr rfl)
              · refine x_aload_n d_MD_writeOut_173 rfl rfl (by first | rfl | assumption) ?_
                refine x_get 5 4 d_MD_writeOut_174 gf_MD_71 (by repeat (first | assumption | exact hs_self (by assumption) | exact hs_self (hs_ne (by omega) (by assumption)) | exact hs_self (hs_ne (by omega) (hs_ne (by omega) (by assumption))) | refine hs_ne (by omega) ?_)) (by rfl) ?_
                refine x_iload_n d_MD_writeOut_177 rfl rfl ?_
                refine j_iadd d_MD_writeOut_178 ?_
                refine j_bipush d_MD_writeOut_179 (by decide) ?_
                refine j_icmp_le 186 d_MD_writeOut_181 (by decide) (by unfold iR; omega) (by unfold iR; omega) (fun c181 => ?_) (fun c181 => ?_)
                · exfalso; omega
                · exact bad hno _ _ (Or.inr rfl)
        · rw [wO_go ha hb] at hw
          have hb' : ¬ (d a = 40 ∨ d a = 41 ∨ t = 0 ∨ 18 < (ct : Int) + t) := by rw [ht]; exact hb
          have inner : ∀ (r i : Nat) (y : Int) (w' : Nat → Int), i + r = t.toNat → y = i → w' 4 = ((ct + i : Nat) : Int) → (∀ k, k ≠ 4 → w' k = v k) → X E M_MD_writeOut 3 0 0 Z 189 [some (.ref mo), some (vI z), some (vI (d a)), some (vI t), some (vI y)] [] ((h.set (mo + 3) (aI 18 (apS G ct (d a) i))).set mo (oM mo w' so tg us)) 0 0 := by
            intro r
            induction r with
            | zero =>
              intro i y w' hi hy h4 hk
              refine x_iload d_MD_writeOut_189 rfl ?_
              refine x_iload_n d_MD_writeOut_191 rfl rfl ?_
              refine j_icmp_ge 221 d_MD_writeOut_192 (by decide) (by unfold iR; omega) (by unfold iR; omega) (fun c192 => ?_) (fun c192 => ?_)
              · refine x_goto 7 d_MD_writeOut_221 (by decide) ?_
                have e : i = (tm d n a).toNat := by omega
                refine ih (a + max 1 (rl d n a)) _ _ _ _ (ct + (tm d n a).toNat) _ (apS G1 ct (d a) (tm d n a).toNat) w' (by omega) hle hz (by rw [h4, e]) hk (by omega) (fun j hj => by rw [e]; exact apS_ag hGG hj) hw
              · exfalso; omega
            | succ r ihr =>
              intro i y w' hi hy h4 hk
              refine x_iload d_MD_writeOut_189 rfl ?_
              refine x_iload_n d_MD_writeOut_191 rfl rfl ?_
              refine j_icmp_ge 221 d_MD_writeOut_192 (by decide) (by unfold iR; omega) (by unfold iR; omega) (fun c192 => ?_) (fun c192 => ?_)
              · exfalso; omega
              refine x_aload_n d_MD_writeOut_195 rfl rfl (by first | rfl | assumption) ?_
              refine x_get 5 3 d_MD_writeOut_196 gf_MD_16 (by repeat (first | assumption | exact hs_self (by assumption) | exact hs_self (hs_ne (by omega) (by assumption)) | exact hs_self (hs_ne (by omega) (hs_ne (by omega) (by assumption))) | refine hs_ne (by omega) ?_)) (by rfl) ?_
              refine x_aload_n d_MD_writeOut_199 rfl rfl (by first | rfl | assumption) ?_
              refine x_get 5 4 d_MD_writeOut_200 gf_MD_71 (by repeat (first | assumption | exact hs_self (by assumption) | exact hs_self (hs_ne (by omega) (by assumption)) | exact hs_self (hs_ne (by omega) (hs_ne (by omega) (by assumption))) | refine hs_ne (by omega) ?_)) (by rfl) ?_
              refine x_top (w := vI ((ct + i : Nat) : Int)) (by rw [h4]) ?_
              refine x_iload_n d_MD_writeOut_203 rfl rfl ?_
              refine j_iast d_MD_writeOut_204 (by repeat (first | assumption | exact hs_self (by assumption) | exact hs_self (hs_ne (by omega) (by assumption)) | exact hs_self (hs_ne (by omega) (hs_ne (by omega) (by assumption))) | refine hs_ne (by omega) ?_)) (by omega) (by omega) (by decide) ?_
              rw [hs_sw (show mo ≠ mo + 3 by omega), show (((ct + i : Nat) : Int)).toNat = ct + i from rfl, apS_s]
              refine x_aload_n d_MD_writeOut_205 rfl rfl (by first | rfl | assumption) ?_
              refine x_dup d_MD_writeOut_206 rfl ?_
              refine x_get 5 4 d_MD_writeOut_207 gf_MD_71 (by repeat (first | assumption | exact hs_self (by assumption) | exact hs_self (hs_ne (by omega) (by assumption)) | exact hs_self (hs_ne (by omega) (hs_ne (by omega) (by assumption))) | refine hs_ne (by omega) ?_)) (by rfl) ?_
              refine j_iconst d_MD_writeOut_210 ?_
              refine j_iadd d_MD_writeOut_211 ?_
              refine xp_MD_4 d_MD_writeOut_212 pf_MD_writeOut_71 (by repeat (first | assumption | exact hs_self (by assumption) | exact hs_self (hs_ne (by omega) (by assumption)) | exact hs_self (hs_ne (by omega) (hs_ne (by omega) (by assumption))) | refine hs_ne (by omega) ?_)) ?_
              refine j_iinc d_MD_writeOut_215 rfl ?_
              refine x_goto 189 d_MD_writeOut_218 (by decide) ?_
              rw [List.set_set]
              exact ihr (i + 1) _ _ (by omega) (by omega) (by show w' 4 + 1 = _; omega) (fun k hk' => by rw [gU_ne _ _ hk']; exact hk k hk')
          refine x_iload_n d_MD_writeOut_157 rfl rfl ?_
          refine j_bipush d_MD_writeOut_158 (by decide) ?_
          refine j_icmp_eq 184 d_MD_writeOut_160 (by decide) (by unfold iR; omega) (by unfold iR; omega) (fun c160 => ?_) (fun c160 => ?_)
          · exfalso; omega
          refine x_iload_n d_MD_writeOut_163 rfl rfl ?_
          refine j_bipush d_MD_writeOut_164 (by decide) ?_
          refine j_icmp_eq 184 d_MD_writeOut_166 (by decide) (by unfold iR; omega) (by unfold iR; omega) (fun c166 => ?_) (fun c166 => ?_)
          · exfalso; omega
          refine x_iload_n d_MD_writeOut_169 rfl rfl ?_
          refine j_if_eq 184 d_MD_writeOut_170 (by decide) (by unfold iR; omega) (fun c170 => ?_) (fun c170 => ?_)
          · exfalso; omega
          refine x_aload_n d_MD_writeOut_173 rfl rfl (by first | rfl | assumption) ?_
          refine x_get 5 4 d_MD_writeOut_174 gf_MD_71 (by repeat (first | assumption | exact hs_self (by assumption) | exact hs_self (hs_ne (by omega) (by assumption)) | exact hs_self (hs_ne (by omega) (hs_ne (by omega) (by assumption))) | refine hs_ne (by omega) ?_)) (by rfl) ?_
          refine x_iload_n d_MD_writeOut_177 rfl rfl ?_
          refine j_iadd d_MD_writeOut_178 ?_
          refine j_bipush d_MD_writeOut_179 (by decide) ?_
          refine j_icmp_le 186 d_MD_writeOut_181 (by decide) (by unfold iR; omega) (by unfold iR; omega) (fun c181 => ?_) (fun c181 => ?_)
          · refine j_iconst d_MD_writeOut_186 ?_
            refine x_istore d_MD_writeOut_187 (Nat.le_of_ble_eq_true rfl) ?_
            have := inner t.toNat 0 0 w (by omega) rfl (by rw [hw4]; rfl) hwk
            rw [apS_0] at this
            exact this
          · exfalso; omega
      refine x_aload_n d_MD_writeOut_15 rfl rfl (by first | rfl | assumption) ?_
      refine x_get 5 1 d_MD_writeOut_16 gf_MD_13 (by repeat (first | assumption | exact hs_self (by assumption) | exact hs_self (hs_ne (by omega) (by assumption)) | exact hs_self (hs_ne (by omega) (hs_ne (by omega) (by assumption))) | refine hs_ne (by omega) ?_)) (by rfl) ?_
      refine x_iload_n d_MD_writeOut_19 rfl rfl ?_
      refine j_iald d_MD_writeOut_20 (by repeat (first | assumption | exact hs_self (by assumption) | exact hs_self (hs_ne (by omega) (by assumption)) | exact hs_self (hs_ne (by omega) (hs_ne (by omega) (by assumption))) | refine hs_ne (by omega) ?_)) (by omega) (by omega) (by decide) ?_
      refine x_top (w := vI (d a)) rfl ?_
      have kA : ¬ (rpt (d a) ∧ drw d n (a + 1) = 40) → X E M_MD_writeOut 3 0 0 Z 157 [some (.ref mo), some (vI ((a : Int) + 1)), some (vI (d a)), some (vI 1), x4] [] ((h.set (mo + 3) (aI 18 G)).set mo (oM mo w so tg us)) 0 0 := by
        intro hno
        have e := rl_A hno
        exact k157 _ _ _ (by rw [e]; omega) (tm_0 e).symm (by omega)
      refine x_istore_n d_MD_writeOut_21 rfl (Nat.le_of_ble_eq_true rfl) ?_
      refine j_iconst d_MD_writeOut_22 ?_
      refine x_istore_n d_MD_writeOut_23 rfl (Nat.le_of_ble_eq_true rfl) ?_
      refine j_iinc d_MD_writeOut_24 rfl ?_
      refine x_iload_n d_MD_writeOut_27 rfl rfl ?_
      refine x_callS1 (M' := M_MD_repeats) d_MD_writeOut_28 lk_MD_74 (c_repeats E _ (d a) (by unfold iR; omega)) mt_MD_repeats st_MD_repeats (by decide) rfl (Nat.le_of_ble_eq_true rfl) (by decide) (by decide) ?_
      refine j_if_eq 157 d_MD_writeOut_31 (by decide) iteR (fun c31 => ?_) (fun c31 => ?_)
      · rw [ite10] at c31
        exact kA (fun x => c31 x.1)
      rw [ite11] at c31
      have b1 := hdr1 (a + 1)
      refine x_aload_n d_MD_writeOut_34 rfl rfl (by first | rfl | assumption) ?_
      refine x_iload_n d_MD_writeOut_35 rfl rfl ?_
      refine x_callV1 (M' := M_MD_drawn) d_MD_writeOut_36 lk_MD_77 (c_drawn (n := n) (d := d) (a + 1) _ (by omega) M0 hw2 hn M2 (by omega)) mt_MD_drawn im_MD_drawn se_MD_drawn (by repeat (first | assumption | exact hs_self (by assumption) | exact hs_self (hs_ne (by omega) (by assumption)) | exact hs_self (hs_ne (by omega) (hs_ne (by omega) (by assumption))) | refine hs_ne (by omega) ?_)) rfl (by decide) rfl (Nat.le_of_ble_eq_true rfl) (by decide) (by decide) ?_
      refine j_bipush d_MD_writeOut_39 (by decide) ?_
      refine j_icmp_ne 157 d_MD_writeOut_41 (by decide) (by unfold iR; omega) (by unfold iR; omega) (fun c41 => ?_) (fun c41 => ?_)
      · exact kA (fun x => c41 x.2)
      obtain ⟨e1, e2⟩ := drw_1 c41 (by decide)
      have b2 := hdr1 (a + 2)
      have b3 := hdr1 (a + 3)
      have b4 := hdr1 (a + 4)
      refine x_aload_n d_MD_writeOut_44 rfl rfl (by first | rfl | assumption) ?_
      refine x_iload_n d_MD_writeOut_45 rfl rfl ?_
      refine j_iconst d_MD_writeOut_46 ?_
      refine j_iadd d_MD_writeOut_47 ?_
      refine x_callV1 (M' := M_MD_drawn) d_MD_writeOut_48 lk_MD_77 (c_drawn (n := n) (d := d) (a + 2) _ (by omega) M0 hw2 hn M2 (by omega)) mt_MD_drawn im_MD_drawn se_MD_drawn (by repeat (first | assumption | exact hs_self (by assumption) | exact hs_self (hs_ne (by omega) (by assumption)) | exact hs_self (hs_ne (by omega) (hs_ne (by omega) (by assumption))) | refine hs_ne (by omega) ?_)) rfl (by decide) rfl (Nat.le_of_ble_eq_true rfl) (by decide) (by decide) ?_
      refine x_callS1 (M' := M_MD_figure) d_MD_writeOut_51 lk_MD_81 (c_figure E _ (drw d n (a + 2)) (by unfold iR; omega)) mt_MD_figure st_MD_figure (by decide) rfl (Nat.le_of_ble_eq_true rfl) (by decide) (by decide) ?_
      refine j_if_eq 78 d_MD_writeOut_54 (by decide) iteR (fun c54 => ?_) (fun c54 => ?_)
      · rw [ite10] at c54
        have hno := mal e1 e2 (rl_B0 c54)
        refine j_iconst d_MD_writeOut_78 ?_
        refine x_istore d_MD_writeOut_79 (Nat.le_of_ble_eq_true rfl) ?_
        refine x_iload d_MD_writeOut_81 rfl ?_
        refine j_if_eq 101 d_MD_writeOut_83 (by decide) (by unfold iR; omega) (fun c83 => ?_) (fun c83 => ?_)
        · exact bad hno _ _ (Or.inl rfl)
        · exact absurd rfl c83
      rw [ite11] at c54
      obtain ⟨e3, e4⟩ := drw_dg c54
      refine x_aload_n d_MD_writeOut_57 rfl rfl (by first | rfl | assumption) ?_
      refine x_iload_n d_MD_writeOut_58 rfl rfl ?_
      refine j_iconst d_MD_writeOut_59 ?_
      refine j_iadd d_MD_writeOut_60 ?_
      refine x_callV1 (M' := M_MD_drawn) d_MD_writeOut_61 lk_MD_77 (c_drawn (n := n) (d := d) (a + 3) _ (by omega) M0 hw2 hn M2 (by omega)) mt_MD_drawn im_MD_drawn se_MD_drawn (by repeat (first | assumption | exact hs_self (by assumption) | exact hs_self (hs_ne (by omega) (by assumption)) | exact hs_self (hs_ne (by omega) (hs_ne (by omega) (by assumption))) | refine hs_ne (by omega) ?_)) rfl (by decide) rfl (Nat.le_of_ble_eq_true rfl) (by decide) (by decide) ?_
      refine x_callS1 (M' := M_MD_figure) d_MD_writeOut_64 lk_MD_81 (c_figure E _ (drw d n (a + 3)) (by unfold iR; omega)) mt_MD_figure st_MD_figure (by decide) rfl (Nat.le_of_ble_eq_true rfl) (by decide) (by decide) ?_
      refine j_if_eq 74 d_MD_writeOut_67 (by decide) iteR (fun c67 => ?_) (fun c67 => ?_)
      · rw [ite10] at c67
        have hrB := rl_B1 c31 e2 e4 c67
        refine j_iconst d_MD_writeOut_74 ?_
        refine x_goto 79 d_MD_writeOut_75 (by decide) ?_
        refine x_istore d_MD_writeOut_79 (Nat.le_of_ble_eq_true rfl) ?_
        refine x_iload d_MD_writeOut_81 rfl ?_
        refine j_if_eq 101 d_MD_writeOut_83 (by decide) (by unfold iR; omega) (fun c83 => ?_) (fun c83 => ?_)
        · exact absurd c83 (by decide)
        refine x_aload_n d_MD_writeOut_86 rfl rfl (by first | rfl | assumption) ?_
        refine x_iload_n d_MD_writeOut_87 rfl rfl ?_
        refine j_iconst d_MD_writeOut_88 ?_
        refine j_iadd d_MD_writeOut_89 ?_
        refine x_iload d_MD_writeOut_90 rfl ?_
        refine j_iadd d_MD_writeOut_92 ?_
        refine x_callV1 (M' := M_MD_drawn) d_MD_writeOut_93 lk_MD_77 (c_drawn (n := n) (d := d) (a + 3) _ (by omega) M0 hw2 hn M2 (by omega)) mt_MD_drawn im_MD_drawn se_MD_drawn (by repeat (first | assumption | exact hs_self (by assumption) | exact hs_self (hs_ne (by omega) (by assumption)) | exact hs_self (hs_ne (by omega) (hs_ne (by omega) (by assumption))) | refine hs_ne (by omega) ?_)) rfl (by decide) rfl (Nat.le_of_ble_eq_true rfl) (by decide) (by decide) ?_
        refine j_bipush d_MD_writeOut_96 (by decide) ?_
        refine j_icmp_eq 103 d_MD_writeOut_98 (by decide) (by unfold iR; omega) (by unfold iR; omega) (fun c98 => ?_) (fun c98 => ?_)
        · rw [if_pos c98] at hrB
          obtain ⟨e5, e6⟩ := drw_1 c98 (by decide)
          refine x_iload d_MD_writeOut_103 rfl ?_
          refine j_iconst d_MD_writeOut_105 ?_
          refine j_icmp_ne 123 d_MD_writeOut_106 (by decide) (by unfold iR; omega) (by unfold iR; omega) (fun c106 => ?_) (fun c106 => ?_)
          · exact absurd rfl c106
          refine x_aload_n d_MD_writeOut_109 rfl rfl (by first | rfl | assumption) ?_
          refine x_get 5 1 d_MD_writeOut_110 gf_MD_13 (by repeat (first | assumption | exact hs_self (by assumption) | exact hs_self (hs_ne (by omega) (by assumption)) | exact hs_self (hs_ne (by omega) (hs_ne (by omega) (by assumption))) | refine hs_ne (by omega) ?_)) (by rfl) ?_
          refine x_iload_n d_MD_writeOut_113 rfl rfl ?_
          refine j_iconst d_MD_writeOut_114 ?_
          refine j_iadd d_MD_writeOut_115 ?_
          refine j_iald d_MD_writeOut_116 (by repeat (first | assumption | exact hs_self (by assumption) | exact hs_self (hs_ne (by omega) (by assumption)) | exact hs_self (hs_ne (by omega) (hs_ne (by omega) (by assumption))) | refine hs_ne (by omega) ?_)) (by omega) (by omega) (by decide) ?_
          refine x_top (w := vI (d (a + 2))) (by rw [show ((a : Int) + 1 + 1).toNat = a + 2 by omega]) ?_
          refine j_bipush d_MD_writeOut_117 (by decide) ?_
          refine j_isub d_MD_writeOut_119 ?_
          refine x_goto 149 d_MD_writeOut_120 (by decide) ?_
          refine x_istore_n d_MD_writeOut_149 rfl (Nat.le_of_ble_eq_true rfl) ?_
          refine x_iload_n d_MD_writeOut_150 rfl rfl ?_
          refine x_iload d_MD_writeOut_151 rfl ?_
          refine j_iadd d_MD_writeOut_153 ?_
          refine j_iconst d_MD_writeOut_154 ?_
          refine j_iadd d_MD_writeOut_155 ?_
          refine x_istore_n d_MD_writeOut_156 rfl (Nat.le_of_ble_eq_true rfl) ?_
          exact k157 _ _ _ (by rw [hrB]; omega) (by rw [tm_4 hrB]) (by rw [hrB]; omega)
        · rw [if_neg c98] at hrB
          exact bad (mal e1 e2 hrB) _ _ (Or.inl rfl)
      · rw [ite11] at c67
        have e5 := drw_dg c67
        have hrB := rl_B2 c31 e2 e4 e5
        refine j_iconst d_MD_writeOut_70 ?_
        refine x_goto 79 d_MD_writeOut_71 (by decide) ?_
        refine x_istore d_MD_writeOut_79 (Nat.le_of_ble_eq_true rfl) ?_
        refine x_iload d_MD_writeOut_81 rfl ?_
        refine j_if_eq 101 d_MD_writeOut_83 (by decide) (by unfold iR; omega) (fun c83 => ?_) (fun c83 => ?_)
        · exact absurd c83 (by decide)
        refine x_aload_n d_MD_writeOut_86 rfl rfl (by first | rfl | assumption) ?_
        refine x_iload_n d_MD_writeOut_87 rfl rfl ?_
        refine j_iconst d_MD_writeOut_88 ?_
        refine j_iadd d_MD_writeOut_89 ?_
        refine x_iload d_MD_writeOut_90 rfl ?_
        refine j_iadd d_MD_writeOut_92 ?_
        refine x_callV1 (M' := M_MD_drawn) d_MD_writeOut_93 lk_MD_77 (c_drawn (n := n) (d := d) (a + 4) _ (by omega) M0 hw2 hn M2 (by omega)) mt_MD_drawn im_MD_drawn se_MD_drawn (by repeat (first | assumption | exact hs_self (by assumption) | exact hs_self (hs_ne (by omega) (by assumption)) | exact hs_self (hs_ne (by omega) (hs_ne (by omega) (by assumption))) | refine hs_ne (by omega) ?_)) rfl (by decide) rfl (Nat.le_of_ble_eq_true rfl) (by decide) (by decide) ?_
        refine j_bipush d_MD_writeOut_96 (by decide) ?_
        refine j_icmp_eq 103 d_MD_writeOut_98 (by decide) (by unfold iR; omega) (by unfold iR; omega) (fun c98 => ?_) (fun c98 => ?_)
        · rw [if_pos c98] at hrB
          obtain ⟨e6, e7⟩ := drw_1 c98 (by decide)
          refine x_iload d_MD_writeOut_103 rfl ?_
          refine j_iconst d_MD_writeOut_105 ?_
          refine j_icmp_ne 123 d_MD_writeOut_106 (by decide) (by unfold iR; omega) (by unfold iR; omega) (fun c106 => ?_) (fun c106 => ?_)
          · refine j_bipush d_MD_writeOut_123 (by decide) ?_
            refine x_aload_n d_MD_writeOut_125 rfl rfl (by first | rfl | assumption) ?_
            refine x_get 5 1 d_MD_writeOut_126 gf_MD_13 (by repeat (first | assumption | exact hs_self (by assumption) | exact hs_self (hs_ne (by omega) (by assumption)) | exact hs_self (hs_ne (by omega) (hs_ne (by omega) (by assumption))) | refine hs_ne (by omega) ?_)) (by rfl) ?_
            refine x_iload_n d_MD_writeOut_129 rfl rfl ?_
            refine j_iconst d_MD_writeOut_130 ?_
            refine j_iadd d_MD_writeOut_131 ?_
            refine j_iald d_MD_writeOut_132 (by repeat (first | assumption | exact hs_self (by assumption) | exact hs_self (hs_ne (by omega) (by assumption)) | exact hs_self (hs_ne (by omega) (hs_ne (by omega) (by assumption))) | refine hs_ne (by omega) ?_)) (by omega) (by omega) (by decide) ?_
            refine x_top (w := vI (d (a + 2))) (by rw [show ((a : Int) + 1 + 1).toNat = a + 2 by omega]) ?_
            refine j_bipush d_MD_writeOut_133 (by decide) ?_
            refine j_isub d_MD_writeOut_135 ?_
            refine j_imul d_MD_writeOut_136 ?_
            refine x_aload_n d_MD_writeOut_137 rfl rfl (by first | rfl | assumption) ?_
            refine x_get 5 1 d_MD_writeOut_138 gf_MD_13 (by repeat (first | assumption | exact hs_self (by assumption) | exact hs_self (hs_ne (by omega) (by assumption)) | exact hs_self (hs_ne (by omega) (hs_ne (by omega) (by assumption))) | refine hs_ne (by omega) ?_)) (by rfl) ?_
            refine x_iload_n d_MD_writeOut_141 rfl rfl ?_
            refine j_iconst d_MD_writeOut_142 ?_
            refine j_iadd d_MD_writeOut_143 ?_
            refine j_iald d_MD_writeOut_144 (by repeat (first | assumption | exact hs_self (by assumption) | exact hs_self (hs_ne (by omega) (by assumption)) | exact hs_self (hs_ne (by omega) (hs_ne (by omega) (by assumption))) | refine hs_ne (by omega) ?_)) (by omega) (by omega) (by decide) ?_
            refine x_top (w := vI (d (a + 3))) (by rw [show ((a : Int) + 1 + 2).toNat = a + 3 by omega]) ?_
            refine j_iadd d_MD_writeOut_145 ?_
            refine j_bipush d_MD_writeOut_146 (by decide) ?_
            refine j_isub d_MD_writeOut_148 ?_
            refine x_istore_n d_MD_writeOut_149 rfl (Nat.le_of_ble_eq_true rfl) ?_
            refine x_iload_n d_MD_writeOut_150 rfl rfl ?_
            refine x_iload d_MD_writeOut_151 rfl ?_
            refine j_iadd d_MD_writeOut_153 ?_
            refine j_iconst d_MD_writeOut_154 ?_
            refine j_iadd d_MD_writeOut_155 ?_
            refine x_istore_n d_MD_writeOut_156 rfl (Nat.le_of_ble_eq_true rfl) ?_
            exact k157 _ _ _ (by rw [hrB]; omega) (by rw [tm_5 hrB]) (by rw [hrB]; omega)
          · exact absurd c106 (by decide)
        · rw [if_neg c98] at hrB
          exact bad (mal e1 e2 hrB) _ _ (Or.inl rfl)
  have e := loop 25 0 0 none none none 0 G0 (fun _ => 0) (gU v 4 0) (by omega) (by omega) rfl rfl (fun k hk => gU_ne _ _ hk) (by omega) (fun j hj => by omega) rfl
  rw [hset_id hsy] at e
  refine x_aload_n d_MD_writeOut_0 rfl rfl (by first | rfl | assumption) ?_
  refine j_iconst d_MD_writeOut_1 ?_
  refine xp_MD_4 d_MD_writeOut_2 pf_MD_writeOut_71 (by repeat (first | assumption | exact hs_self (by assumption) | exact hs_self (hs_ne (by omega) (by assumption)) | exact hs_self (hs_ne (by omega) (hs_ne (by omega) (by assumption))) | refine hs_ne (by omega) ?_)) ?_
  refine j_iconst d_MD_writeOut_5 ?_
  refine x_istore_n d_MD_writeOut_6 rfl (Nat.le_of_ble_eq_true rfl) ?_
  exact e
set_option maxHeartbeats 1000000 in
theorem c_mNumeric {ct : Nat} {G : Nat → Int} (hm : h[mo]? = some (oM mo v so tg us)) (hv4 : v 4 = ct) (hct : 1 ≤ ct ∧ ct ≤ 18) (hsy : h[mo + 3]? = some (aI 18 G)) (hG : ∀ j, j < ct → 0 ≤ G j ∧ G j ≤ 126) : xCt E 0 0 0 M_MD_numeric [.ref mo] h (rQ (fun w h' => ∃ v' : Nat → Int, h' = h.set mo (oM mo v' so tg us) ∧ (v' 2 = v 2 ∧ v' 4 = v 4 ∧ v' 11 = v 11) ∧ ((w = vI 0 ∧ nRes G ct = none) ∨ (w = vI 1 ∧ ∃ dg sc : Nat, nRes G ct = some (dg, sc) ∧ v' 7 = dg ∧ v' 8 = sc ∧ v' 9 = (if G 0 = 83 then 1 else 0) ∧ v' 10 = 0)))) := by
  refine x_met rfl rfl (Nat.le_of_ble_eq_true rfl) ?_
  obtain ⟨Z, hZ⟩ : ∃ Z, Z = (xZ E 0 0 (rQ (fun w h' => ∃ v' : Nat → Int, h' = h.set mo (oM mo v' so tg us) ∧ (v' 2 = v 2 ∧ v' 4 = v 4 ∧ v' 11 = v 11) ∧ ((w = vI 0 ∧ nRes G ct = none) ∨ (w = vI 1 ∧ ∃ dg sc : Nat, nRes G ct = some (dg, sc) ∧ v' 7 = dg ∧ v' 8 = sc ∧ v' 9 = (if G 0 = 83 then 1 else 0) ∧ v' 10 = 0))))) := ⟨_, rfl⟩
  rw [← hZ]
  obtain ⟨R, hR⟩ : ∃ R, R = nL G (ct - if G 0 = 83 then 1 else 0) (if G 0 = 83 then 1 else 0) 0 0 0 := ⟨_, rfl⟩
  have fin : ∀ sg : Int, sg = (if G 0 = 83 then 1 else 0) → (sg = 0 ∨ sg = 1) → X E M_MD_numeric 0 0 0 Z 17 [some (.ref mo), none, none] [vI sg, .ref mo] h 0 0 := by
    intro sg hsg hs01
    have loop : ∀ (r i dg sc pt : Nat) (b z : Int) (w : Nat → Int), i + r = ct → z = i → w 7 = dg → w 8 = sc → b = pt → (pt = 0 → sc = 0) → dg ≤ i → sc ≤ i → pt ≤ i → ((w 2 = v 2 ∧ w 4 = v 4 ∧ w 11 = v 11) ∧ w 9 = sg ∧ w 10 = 0) → nL G r i dg sc pt = R → X E M_MD_numeric 0 0 0 Z 60 [some (.ref mo), some (vI b), some (vI z)] [] (h.set mo (oM mo w so tg us)) 0 0 := by
      intro r
      induction r with
      | zero =>
        intro i dg sc pt b z w hi hz h7 h8 hb hps h1 h2 h3 hw hn
        have hw4 := hw.1.2.1
        have hn : some (dg, sc, pt) = R := hn
        rw [hR] at hn
        have e := nRes_s hn.symm
        have yes : pt ≤ 1 ∧ lim dg sc → (rQ (fun w h' => ∃ v' : Nat → Int, h' = h.set mo (oM mo v' so tg us) ∧ (v' 2 = v 2 ∧ v' 4 = v 4 ∧ v' 11 = v 11) ∧ ((w = vI 0 ∧ nRes G ct = none) ∨ (w = vI 1 ∧ ∃ dg sc : Nat, nRes G ct = some (dg, sc) ∧ v' 7 = dg ∧ v' 8 = sc ∧ v' 9 = (if G 0 = 83 then 1 else 0) ∧ v' 10 = 0)))) (some (vI 1)) (h.set mo (oM mo w so tg us)) := fun x => ⟨_, rfl, w, rfl, hw.1, Or.inr ⟨rfl, dg, sc, by rw [e, if_pos x], h7, h8, by rw [hw.2.1, hsg], hw.2.2⟩⟩
        have no : ¬ (pt ≤ 1 ∧ lim dg sc) → (rQ (fun w h' => ∃ v' : Nat → Int, h' = h.set mo (oM mo v' so tg us) ∧ (v' 2 = v 2 ∧ v' 4 = v 4 ∧ v' 11 = v 11) ∧ ((w = vI 0 ∧ nRes G ct = none) ∨ (w = vI 1 ∧ ∃ dg sc : Nat, nRes G ct = some (dg, sc) ∧ v' 7 = dg ∧ v' 8 = sc ∧ v' 9 = (if G 0 = 83 then 1 else 0) ∧ v' 10 = 0)))) (some (vI 0)) (h.set mo (oM mo w so tg us)) := fun x => ⟨_, rfl, w, rfl, hw.1, Or.inl ⟨rfl, by rw [e, if_neg x]⟩⟩
        refine x_iload_n d_MD_numeric_60 rfl rfl ?_
        refine x_aload_n d_MD_numeric_61 rfl rfl (by first | rfl | assumption) ?_
        refine x_get 5 4 d_MD_numeric_62 gf_MD_71 (by repeat (first | assumption | exact hs_self (by assumption) | exact hs_self (hs_ne (by omega) (by assumption)) | exact hs_self (hs_ne (by omega) (hs_ne (by omega) (by assumption))) | refine hs_ne (by omega) ?_)) (by rfl) ?_
        refine j_icmp_ge 135 d_MD_numeric_65 (by decide) (by unfold iR; omega) (by unfold iR; omega) (fun c65 => ?_) (fun c65 => ?_)
        · rw [hZ]
          clear hn e hw hps
          refine x_iload_n d_MD_numeric_135 rfl rfl ?_
          refine j_iconst d_MD_numeric_136 ?_
          refine j_icmp_gt 169 d_MD_numeric_137 (by decide) (by unfold iR; omega) (by unfold iR; omega) (fun c137 => ?_) (fun c137 => ?_)
          · refine j_iconst d_MD_numeric_169 ?_
            refine j_zreturn d_MD_numeric_170 rfl (by omega) ?_
            first | exact yes (by omega) | exact no (by omega)
          · refine x_aload_n d_MD_numeric_140 rfl rfl (by first | rfl | assumption) ?_
            refine x_get 5 7 d_MD_numeric_141 gf_MD_97 (by repeat (first | assumption | exact hs_self (by assumption) | exact hs_self (hs_ne (by omega) (by assumption)) | exact hs_self (hs_ne (by omega) (hs_ne (by omega) (by assumption))) | refine hs_ne (by omega) ?_)) (by rfl) ?_
            refine j_iconst d_MD_numeric_144 ?_
            refine j_icmp_lt 169 d_MD_numeric_145 (by decide) (by unfold iR; omega) (by unfold iR; omega) (fun c145 => ?_) (fun c145 => ?_)
            · refine j_iconst d_MD_numeric_169 ?_
              refine j_zreturn d_MD_numeric_170 rfl (by omega) ?_
              first | exact yes (by omega) | exact no (by omega)
            · refine x_aload_n d_MD_numeric_148 rfl rfl (by first | rfl | assumption) ?_
              refine x_get 5 7 d_MD_numeric_149 gf_MD_97 (by repeat (first | assumption | exact hs_self (by assumption) | exact hs_self (hs_ne (by omega) (by assumption)) | exact hs_self (hs_ne (by omega) (hs_ne (by omega) (by assumption))) | refine hs_ne (by omega) ?_)) (by rfl) ?_
              refine j_bipush d_MD_numeric_152 (by decide) ?_
              refine j_icmp_gt 169 d_MD_numeric_154 (by decide) (by unfold iR; omega) (by unfold iR; omega) (fun c154 => ?_) (fun c154 => ?_)
              · refine j_iconst d_MD_numeric_169 ?_
                refine j_zreturn d_MD_numeric_170 rfl (by omega) ?_
                first | exact yes (by omega) | exact no (by omega)
              · refine x_aload_n d_MD_numeric_157 rfl rfl (by first | rfl | assumption) ?_
                refine x_get 5 8 d_MD_numeric_158 gf_MD_100 (by repeat (first | assumption | exact hs_self (by assumption) | exact hs_self (hs_ne (by omega) (by assumption)) | exact hs_self (hs_ne (by omega) (hs_ne (by omega) (by assumption))) | refine hs_ne (by omega) ?_)) (by rfl) ?_
                refine j_iconst d_MD_numeric_161 ?_
                refine j_icmp_gt 169 d_MD_numeric_162 (by decide) (by unfold iR; omega) (by unfold iR; omega) (fun c162 => ?_) (fun c162 => ?_)
                · refine j_iconst d_MD_numeric_169 ?_
                  refine j_zreturn d_MD_numeric_170 rfl (by omega) ?_
                  first | exact yes (by omega) | exact no (by omega)
                · refine j_iconst d_MD_numeric_165 ?_
                  refine x_goto 170 d_MD_numeric_166 (by decide) ?_
                  refine j_zreturn d_MD_numeric_170 rfl (by omega) ?_
                  first | exact yes (by omega) | exact no (by omega)
        · exfalso; omega
      | succ r ih =>
        intro i dg sc pt b z w hi hz h7 h8 hb hps h1 h2 h3 hw hn
        have hw4 := hw.1.2.1
        subst hz
        have hGi := hG i (by omega)
        refine x_iload_n d_MD_numeric_60 rfl rfl ?_
        refine x_aload_n d_MD_numeric_61 rfl rfl (by first | rfl | assumption) ?_
        refine x_get 5 4 d_MD_numeric_62 gf_MD_71 (by repeat (first | assumption | exact hs_self (by assumption) | exact hs_self (hs_ne (by omega) (by assumption)) | exact hs_self (hs_ne (by omega) (hs_ne (by omega) (by assumption))) | refine hs_ne (by omega) ?_)) (by rfl) ?_
        refine j_icmp_ge 135 d_MD_numeric_65 (by decide) (by unfold iR; omega) (by unfold iR; omega) (fun c65 => ?_) (fun c65 => ?_)
        · exfalso; omega
        refine x_aload_n d_MD_numeric_68 rfl rfl (by first | rfl | assumption) ?_
        refine x_get 5 3 d_MD_numeric_69 gf_MD_16 (by repeat (first | assumption | exact hs_self (by assumption) | exact hs_self (hs_ne (by omega) (by assumption)) | exact hs_self (hs_ne (by omega) (hs_ne (by omega) (by assumption))) | refine hs_ne (by omega) ?_)) (by rfl) ?_
        refine x_iload_n d_MD_numeric_72 rfl rfl ?_
        refine j_iald d_MD_numeric_73 (by repeat (first | assumption | exact hs_self (by assumption) | exact hs_self (hs_ne (by omega) (by assumption)) | exact hs_self (hs_ne (by omega) (hs_ne (by omega) (by assumption))) | refine hs_ne (by omega) ?_)) (by omega) (by omega) (by decide) ?_
        refine x_top (w := vI (G i)) rfl ?_
        refine j_bipush d_MD_numeric_74 (by decide) ?_
        refine j_icmp_ne 110 d_MD_numeric_76 (by decide) (by unfold iR; omega) (by unfold iR; omega) (fun c76 => ?_) (fun c76 => ?_)
        · refine x_aload_n d_MD_numeric_110 rfl rfl (by first | rfl | assumption) ?_
          refine x_get 5 3 d_MD_numeric_111 gf_MD_16 (by repeat (first | assumption | exact hs_self (by assumption) | exact hs_self (hs_ne (by omega) (by assumption)) | exact hs_self (hs_ne (by omega) (hs_ne (by omega) (by assumption))) | refine hs_ne (by omega) ?_)) (by rfl) ?_
          refine x_iload_n d_MD_numeric_114 rfl rfl ?_
          refine j_iald d_MD_numeric_115 (by repeat (first | assumption | exact hs_self (by assumption) | exact hs_self (hs_ne (by omega) (by assumption)) | exact hs_self (hs_ne (by omega) (hs_ne (by omega) (by assumption))) | refine hs_ne (by omega) ?_)) (by omega) (by omega) (by decide) ?_
          refine x_top (w := vI (G i)) rfl ?_
          refine j_bipush d_MD_numeric_116 (by decide) ?_
          refine j_icmp_ne 127 d_MD_numeric_118 (by decide) (by unfold iR; omega) (by unfold iR; omega) (fun c118 => ?_) (fun c118 => ?_)
          · rw [nL_n c76 c118, hR] at hn
            rw [hZ]
            refine j_iconst d_MD_numeric_127 ?_
            refine j_zreturn d_MD_numeric_128 rfl (by omega) ?_
            exact ⟨_, rfl, w, rfl, hw.1, Or.inl ⟨rfl, nRes_n hn.symm⟩⟩
          · rw [nL_V c118] at hn
            refine j_iinc d_MD_numeric_121 rfl ?_
            refine x_goto 129 d_MD_numeric_124 (by decide) ?_
            refine j_iinc d_MD_numeric_129 rfl ?_
            refine x_goto 60 d_MD_numeric_132 (by decide) ?_
            exact ih (i + 1) dg sc (pt + 1) _ _ w (by omega) (by omega) h7 h8 (by omega) (fun x => by omega) (by omega) (by omega) (by omega) hw hn
        · rw [nL_9 c76] at hn
          refine x_aload_n d_MD_numeric_79 rfl rfl (by first | rfl | assumption) ?_
          refine x_dup d_MD_numeric_80 rfl ?_
          refine x_get 5 7 d_MD_numeric_81 gf_MD_97 (by repeat (first | assumption | exact hs_self (by assumption) | exact hs_self (hs_ne (by omega) (by assumption)) | exact hs_self (hs_ne (by omega) (hs_ne (by omega) (by assumption))) | refine hs_ne (by omega) ?_)) (by rfl) ?_
          refine j_iconst d_MD_numeric_84 ?_
          refine j_iadd d_MD_numeric_85 ?_
          refine xp_MD_7 d_MD_numeric_86 pf_MD_numeric_97 (by repeat (first | assumption | exact hs_self (by assumption) | exact hs_self (hs_ne (by omega) (by assumption)) | exact hs_self (hs_ne (by omega) (hs_ne (by omega) (by assumption))) | refine hs_ne (by omega) ?_)) ?_
          rw [List.set_set]
          refine x_aload_n d_MD_numeric_89 rfl rfl (by first | rfl | assumption) ?_
          refine x_iload_n d_MD_numeric_90 rfl rfl ?_
          refine j_if_le 103 d_MD_numeric_91 (by decide) (by unfold iR; omega) (fun c91 => ?_) (fun c91 => ?_)
          · rw [if_pos (show pt = 0 by omega)] at hn
            refine j_iconst d_MD_numeric_103 ?_
            refine xp_MD_8 d_MD_numeric_104 pf_MD_numeric_100 (by repeat (first | assumption | exact hs_self (by assumption) | exact hs_self (hs_ne (by omega) (by assumption)) | exact hs_self (hs_ne (by omega) (hs_ne (by omega) (by assumption))) | refine hs_ne (by omega) ?_)) ?_
            refine x_goto 129 d_MD_numeric_107 (by decide) ?_
            refine j_iinc d_MD_numeric_129 rfl ?_
            refine x_goto 60 d_MD_numeric_132 (by decide) ?_
            rw [List.set_set]
            exact ih (i + 1) (dg + 1) sc pt _ _ _ (by omega) (by omega) (by show w 7 + 1 = _; omega) (by show (0 : Int) = _; have := hps (by omega); omega) hb hps (by omega) (by omega) (by omega) hw hn
          · rw [if_neg (show ¬ pt = 0 by omega)] at hn
            refine x_aload_n d_MD_numeric_94 rfl rfl (by first | rfl | assumption) ?_
            refine x_get 5 8 d_MD_numeric_95 gf_MD_100 (by repeat (first | assumption | exact hs_self (by assumption) | exact hs_self (hs_ne (by omega) (by assumption)) | exact hs_self (hs_ne (by omega) (hs_ne (by omega) (by assumption))) | refine hs_ne (by omega) ?_)) (by rfl) ?_
            refine j_iconst d_MD_numeric_98 ?_
            refine j_iadd d_MD_numeric_99 ?_
            refine x_goto 104 d_MD_numeric_100 (by decide) ?_
            refine xp_MD_8 d_MD_numeric_104 pf_MD_numeric_100 (by repeat (first | assumption | exact hs_self (by assumption) | exact hs_self (hs_ne (by omega) (by assumption)) | exact hs_self (hs_ne (by omega) (hs_ne (by omega) (by assumption))) | refine hs_ne (by omega) ?_)) ?_
            refine x_goto 129 d_MD_numeric_107 (by decide) ?_
            refine j_iinc d_MD_numeric_129 rfl ?_
            refine x_goto 60 d_MD_numeric_132 (by decide) ?_
            rw [List.set_set]
            exact ih (i + 1) (dg + 1) (sc + 1) pt _ _ _ (by omega) (by omega) (by show w 7 + 1 = _; omega) (by show w 8 + 1 = _; omega) hb (fun x => by omega) (by omega) (by omega) (by omega) hw hn
    refine xp_MD_9 d_MD_numeric_17 pf_MD_numeric_84 (by repeat (first | assumption | exact hs_self (by assumption) | exact hs_self (hs_ne (by omega) (by assumption)) | exact hs_self (hs_ne (by omega) (hs_ne (by omega) (by assumption))) | refine hs_ne (by omega) ?_)) (by omega) ?_
    refine x_aload_n d_MD_numeric_20 rfl rfl (by first | rfl | assumption) ?_
    refine j_iconst d_MD_numeric_21 ?_
    refine xp_MD_10 d_MD_numeric_22 pf_MD_numeric_88 (by repeat (first | assumption | exact hs_self (by assumption) | exact hs_self (hs_ne (by omega) (by assumption)) | exact hs_self (hs_ne (by omega) (hs_ne (by omega) (by assumption))) | refine hs_ne (by omega) ?_)) (by omega) ?_
    rw [List.set_set]
    refine x_aload_n d_MD_numeric_25 rfl rfl (by first | rfl | assumption) ?_
    refine j_iconst d_MD_numeric_26 ?_
    refine xp_MD_5 d_MD_numeric_27 pf_MD_numeric_91 (by repeat (first | assumption | exact hs_self (by assumption) | exact hs_self (hs_ne (by omega) (by assumption)) | exact hs_self (hs_ne (by omega) (hs_ne (by omega) (by assumption))) | refine hs_ne (by omega) ?_)) ?_
    rw [List.set_set]
    refine x_aload_n d_MD_numeric_30 rfl rfl (by first | rfl | assumption) ?_
    refine j_iconst d_MD_numeric_31 ?_
    refine xp_MD_6 d_MD_numeric_32 pf_MD_numeric_94 (by repeat (first | assumption | exact hs_self (by assumption) | exact hs_self (hs_ne (by omega) (by assumption)) | exact hs_self (hs_ne (by omega) (hs_ne (by omega) (by assumption))) | refine hs_ne (by omega) ?_)) ?_
    rw [List.set_set]
    refine x_aload_n d_MD_numeric_35 rfl rfl (by first | rfl | assumption) ?_
    refine j_iconst d_MD_numeric_36 ?_
    refine xp_MD_7 d_MD_numeric_37 pf_MD_numeric_97 (by repeat (first | assumption | exact hs_self (by assumption) | exact hs_self (hs_ne (by omega) (by assumption)) | exact hs_self (hs_ne (by omega) (hs_ne (by omega) (by assumption))) | refine hs_ne (by omega) ?_)) ?_
    rw [List.set_set]
    refine x_aload_n d_MD_numeric_40 rfl rfl (by first | rfl | assumption) ?_
    refine j_iconst d_MD_numeric_41 ?_
    refine xp_MD_8 d_MD_numeric_42 pf_MD_numeric_100 (by repeat (first | assumption | exact hs_self (by assumption) | exact hs_self (hs_ne (by omega) (by assumption)) | exact hs_self (hs_ne (by omega) (hs_ne (by omega) (by assumption))) | refine hs_ne (by omega) ?_)) ?_
    rw [List.set_set]
    refine j_iconst d_MD_numeric_45 ?_
    refine x_istore_n d_MD_numeric_46 rfl (Nat.le_of_ble_eq_true rfl) ?_
    refine x_aload_n d_MD_numeric_47 rfl rfl (by first | rfl | assumption) ?_
    refine x_get 5 9 d_MD_numeric_48 gf_MD_84 (by repeat (first | assumption | exact hs_self (by assumption) | exact hs_self (hs_ne (by omega) (by assumption)) | exact hs_self (hs_ne (by omega) (hs_ne (by omega) (by assumption))) | refine hs_ne (by omega) ?_)) (by rfl) ?_
    refine x_top (w := vI sg) rfl ?_
    refine j_if_eq 58 d_MD_numeric_51 (by decide) (by unfold iR; omega) (fun c51 => ?_) (fun c51 => ?_)
    · refine j_iconst d_MD_numeric_58 ?_
      refine x_istore_n d_MD_numeric_59 rfl (Nat.le_of_ble_eq_true rfl) ?_
      refine loop ct 0 0 0 0 _ _ _ (by omega) rfl rfl rfl rfl (fun _ => rfl) (by omega) (by omega) (by omega) ⟨⟨rfl, rfl, rfl⟩, rfl, rfl⟩ ?_
      have h0 : ¬ G 0 = 83 := by intro x; rw [if_pos x] at hsg; omega
      rw [hR, if_neg h0]; rfl
    · refine j_iconst d_MD_numeric_54 ?_
      refine x_goto 59 d_MD_numeric_55 (by decide) ?_
      refine x_istore_n d_MD_numeric_59 rfl (Nat.le_of_ble_eq_true rfl) ?_
      refine loop (ct - 1) 1 0 0 0 _ _ _ (by omega) rfl rfl rfl rfl (fun _ => rfl) (by omega) (by omega) (by omega) ⟨⟨rfl, rfl, rfl⟩, rfl, rfl⟩ ?_
      have h0 : G 0 = 83 := by
        by_cases x : G 0 = 83
        · exact x
        · rw [if_neg x] at hsg; omega
      rw [hR, if_pos h0]
  have hG0 := hG 0 (by omega)
  refine x_aload_n d_MD_numeric_0 rfl rfl (by first | rfl | assumption) ?_
  refine x_aload_n d_MD_numeric_1 rfl rfl (by first | rfl | assumption) ?_
  refine x_get 5 3 d_MD_numeric_2 gf_MD_16 (by repeat (first | assumption | exact hs_self (by assumption) | exact hs_self (hs_ne (by omega) (by assumption)) | exact hs_self (hs_ne (by omega) (hs_ne (by omega) (by assumption))) | refine hs_ne (by omega) ?_)) (by rfl) ?_
  refine j_iconst d_MD_numeric_5 ?_
  refine j_iald d_MD_numeric_6 (by repeat (first | assumption | exact hs_self (by assumption) | exact hs_self (hs_ne (by omega) (by assumption)) | exact hs_self (hs_ne (by omega) (hs_ne (by omega) (by assumption))) | refine hs_ne (by omega) ?_)) (by omega) (by omega) (by decide) ?_
  refine x_top (w := vI (G 0)) rfl ?_
  refine j_bipush d_MD_numeric_7 (by decide) ?_
  refine j_icmp_ne 16 d_MD_numeric_9 (by decide) (by unfold iR; omega) (by unfold iR; omega) (fun c9 => ?_) (fun c9 => ?_)
  · refine j_iconst d_MD_numeric_16 ?_
    exact fin _ (by rw [if_neg c9]) (Or.inl rfl)
  · refine j_iconst d_MD_numeric_12 ?_
    refine x_goto 17 d_MD_numeric_13 (by decide) ?_
    exact fin _ (by rw [if_pos c9]) (Or.inr rfl)
set_option maxHeartbeats 1000000 in
theorem c_howMany {ct : Nat} {G : Nat → Int} (a b : Int) (hm : h[mo]? = some (oM mo v so tg us)) (hv4 : v 4 = ct) (hct : ct ≤ 18) (hsy : h[mo + 3]? = some (aI 18 G)) (hG : ∀ j, j < ct → 0 ≤ G j ∧ G j ≤ 126) (ha : 0 ≤ a ∧ a ≤ 126) (hb : 0 ≤ b ∧ b ≤ 126) : xCt E 0 0 0 M_MD_howMany [.ref mo, vI a, vI b] h (rV (vI (nd (fun j => decide (G j = a ∨ G j = b)) ct 0)) h) := by
  refine x_met rfl rfl (Nat.le_of_ble_eq_true rfl) ?_
  have loop : ∀ (r i s : Nat) (z y : Int), i + r = ct → z = i → y = s → s ≤ i → s + nd (fun j => decide (G j = a ∨ G j = b)) r i = nd (fun j => decide (G j = a ∨ G j = b)) ct 0 → X E M_MD_howMany 0 0 0 (xZ E 0 0 (rV (vI (nd (fun j => decide (G j = a ∨ G j = b)) ct 0)) h)) 5 [some (.ref mo), some (vI a), some (vI b), some (vI y), some (vI z)] [] h 0 0 := by
    intro r
    induction r with
    | zero =>
      intro i s z y hi hz hy hs hn
      have hn : s + 0 = nd (fun j => decide (G j = a ∨ G j = b)) ct 0 := hn
      refine x_iload d_MD_howMany_5 rfl ?_
      refine x_aload_n d_MD_howMany_7 rfl rfl (by first | rfl | assumption) ?_
      refine x_get 5 4 d_MD_howMany_8 gf_MD_71 (by repeat (first | assumption | exact hs_self (by assumption) | exact hs_self (hs_ne (by omega) (by assumption)) | exact hs_self (hs_ne (by omega) (hs_ne (by omega) (by assumption))) | refine hs_ne (by omega) ?_)) (by rfl) ?_
      refine j_icmp_ge 50 d_MD_howMany_11 (by decide) (by unfold iR; omega) (by unfold iR; omega) (fun c11 => ?_) (fun c11 => ?_)
      · refine x_iload_n d_MD_howMany_50 rfl rfl ?_
        refine x_ireturn d_MD_howMany_51 rfl ?_
        exact rV_i (by omega) rfl
      · exfalso; omega
    | succ r ih =>
      intro i s z y hi hz hy hs hn
      subst hz
      have hGi := hG i (by omega)
      rw [nd_s] at hn
      have one : G i = a ∨ G i = b → X E M_MD_howMany 0 0 0 (xZ E 0 0 (rV (vI (nd (fun j => decide (G j = a ∨ G j = b)) ct 0)) h)) 36 [some (.ref mo), some (vI a), some (vI b), some (vI y), some (vI (i : Int))] [] h 0 0 := by
        intro hx
        rw [if_pos (decide_eq_true hx)] at hn
        refine x_iload_n d_MD_howMany_36 rfl rfl ?_
        refine j_iconst d_MD_howMany_37 ?_
        refine j_iadd d_MD_howMany_38 ?_
        refine x_goto 43 d_MD_howMany_39 (by decide) ?_
        refine x_istore_n d_MD_howMany_43 rfl (Nat.le_of_ble_eq_true rfl) ?_
        refine j_iinc d_MD_howMany_44 rfl ?_
        refine x_goto 5 d_MD_howMany_47 (by decide) ?_
        exact ih (i + 1) (s + 1) _ _ (by omega) (by omega) (by omega) (by omega) (by omega)
      refine x_iload d_MD_howMany_5 rfl ?_
      refine x_aload_n d_MD_howMany_7 rfl rfl (by first | rfl | assumption) ?_
      refine x_get 5 4 d_MD_howMany_8 gf_MD_71 (by repeat (first | assumption | exact hs_self (by assumption) | exact hs_self (hs_ne (by omega) (by assumption)) | exact hs_self (hs_ne (by omega) (hs_ne (by omega) (by assumption))) | refine hs_ne (by omega) ?_)) (by rfl) ?_
      refine j_icmp_ge 50 d_MD_howMany_11 (by decide) (by unfold iR; omega) (by unfold iR; omega) (fun c11 => ?_) (fun c11 => ?_)
      · exfalso; omega
      refine x_aload_n d_MD_howMany_14 rfl rfl (by first | rfl | assumption) ?_
      refine x_get 5 3 d_MD_howMany_15 gf_MD_16 (by repeat (first | assumption | exact hs_self (by assumption) | exact hs_self (hs_ne (by omega) (by assumption)) | exact hs_self (hs_ne (by omega) (hs_ne (by omega) (by assumption))) | refine hs_ne (by omega) ?_)) (by rfl) ?_
      refine x_iload d_MD_howMany_18 rfl ?_
      refine j_iald d_MD_howMany_20 (by repeat (first | assumption | exact hs_self (by assumption) | exact hs_self (hs_ne (by omega) (by assumption)) | exact hs_self (hs_ne (by omega) (hs_ne (by omega) (by assumption))) | refine hs_ne (by omega) ?_)) (by omega) (by omega) (by decide) ?_
      refine x_top (w := vI (G i)) rfl ?_
      refine x_iload_n d_MD_howMany_21 rfl rfl ?_
      refine j_icmp_eq 36 d_MD_howMany_22 (by decide) (by unfold iR; omega) (by unfold iR; omega) (fun c22 => ?_) (fun c22 => ?_)
      · exact one (Or.inl c22)
      refine x_aload_n d_MD_howMany_25 rfl rfl (by first | rfl | assumption) ?_
      refine x_get 5 3 d_MD_howMany_26 gf_MD_16 (by repeat (first | assumption | exact hs_self (by assumption) | exact hs_self (hs_ne (by omega) (by assumption)) | exact hs_self (hs_ne (by omega) (hs_ne (by omega) (by assumption))) | refine hs_ne (by omega) ?_)) (by rfl) ?_
      refine x_iload d_MD_howMany_29 rfl ?_
      refine j_iald d_MD_howMany_31 (by repeat (first | assumption | exact hs_self (by assumption) | exact hs_self (hs_ne (by omega) (by assumption)) | exact hs_self (hs_ne (by omega) (hs_ne (by omega) (by assumption))) | refine hs_ne (by omega) ?_)) (by omega) (by omega) (by decide) ?_
      refine x_top (w := vI (G i)) rfl ?_
      refine x_iload_n d_MD_howMany_32 rfl rfl ?_
      refine j_icmp_ne 42 d_MD_howMany_33 (by decide) (by unfold iR; omega) (by unfold iR; omega) (fun c33 => ?_) (fun c33 => ?_)
      · rw [if_neg (by simp only [decide_eq_true_eq]; rintro (x | x); exact c22 x; exact c33 x)] at hn
        refine x_iload_n d_MD_howMany_42 rfl rfl ?_
        refine x_istore_n d_MD_howMany_43 rfl (Nat.le_of_ble_eq_true rfl) ?_
        refine j_iinc d_MD_howMany_44 rfl ?_
        refine x_goto 5 d_MD_howMany_47 (by decide) ?_
        exact ih (i + 1) s _ _ (by omega) (by omega) (by omega) (by omega) (by omega)
      · exact one (Or.inr c33)
  refine j_iconst d_MD_howMany_0 ?_
  refine x_istore_n d_MD_howMany_1 rfl (Nat.le_of_ble_eq_true rfl) ?_
  refine j_iconst d_MD_howMany_2 ?_
  refine x_istore d_MD_howMany_3 (Nat.le_of_ble_eq_true rfl) ?_
  exact loop ct 0 0 0 0 (by omega) rfl rfl (by omega) (by omega)
end MPC
