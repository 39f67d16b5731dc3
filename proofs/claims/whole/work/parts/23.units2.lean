theorem gw_ac : Cond.native arraycopyName ∈ GW ∧ Cond.static arraycopyName ∈ GW ∧ Cond.initialized "java/lang/System" ∈ GW := ⟨gwT3 1 rfl rfl, gwT3 0 rfl rfl, gwT1 14 rfl rfl⟩
set_option maxHeartbeats 2000000 in
theorem c_storeEdited (E : xEnv) (h : xH) (s b e t f p q : Nat) (D : FD) (B T : Nat → Int) (u : Int) (hs : h[s]? = some (oS b e)) (hb : h[b]? = some (aI 64 B)) (he : h[e]? = some (oE t)) (ht : h[t]? = some (aI 18 T)) (hf : fAt h f p q D) (hD : fOk D) (h4 : fM D = 4) (hts : t ≠ s) (htb : t ≠ b) (hte : t ≠ e) (htf : t ≠ f) (htp : t ≠ p) (htq : t ≠ q) (hu : u.natAbs < 1000000000000) (hT : ∀ j, j < 18 → iR (T j)) : xCt E 3 0 0 M_SG_storeEdited [.ref s, .ref f, vL u] h (rP (fun h' => ∃ T' : Nat → Int, h' = (h.set t (aI 18 T')).set b (aI 64 (cpyI (eV D u) B 0 (fO D) (fC D))) ∧ ∀ j, j < 18 → iR (T' j))) := by
  refine x_met rfl rfl (Nat.le_of_ble_eq_true rfl) ?_
  obtain ⟨hf1, hf2⟩ := hf
  obtain ⟨⟨dg, sc, sg, ed, hp⟩, hq⟩ := hf2 h4
  obtain ⟨-, hn, hsc, hg, ho, hw⟩ := hD
  obtain ⟨hsy, hhb, hbc, hc18, hfi, hfl, hnd⟩ := hw h4
  have hfw : fW D = fC D := by unfold fW; rw [if_pos h4]
  rw [hfw] at ho hf1
  refine x_aload_n d_SG_storeEdited_0 rfl rfl rfl ?_
  refine x_get 3 1 d_SG_storeEdited_1 gf_SG_18 (by first | assumption | exact hs_self (by assumption) | exact hs_ne (by first | assumption | omega) (by assumption) | exact hs_ne (by first | assumption | omega) (hs_self (by assumption)) | exact hs_ne (by first | assumption | omega) (hs_ne (by first | assumption | omega) (by assumption))) (by rfl) ?_
  refine x_aload_n d_SG_storeEdited_4 rfl rfl rfl ?_
  refine x_get 1 0 d_SG_storeEdited_5 gf_SG_108 (by first | assumption | exact hs_self (by assumption) | exact hs_ne (by first | assumption | omega) (by assumption) | exact hs_ne (by first | assumption | omega) (hs_self (by assumption)) | exact hs_ne (by first | assumption | omega) (hs_ne (by first | assumption | omega) (by assumption))) (by rfl) ?_
  refine x_lload_n d_SG_storeEdited_8 rfl rfl ?_
  refine x_callVp (M' := M_ED_edit) d_SG_storeEdited_9 lk_SG_123 (c_edit E h e t p q (fH D) (fB D) (fC D) dg sc sg ed (fI D) (fL D) u (fY D) T he ht hp hq hte htp htq hsy hhb hbc hc18.2 hfi hfl hu hT) mt_ED_edit im_ED_edit se_ED_edit (by first | assumption | exact hs_self (by assumption) | exact hs_ne (by first | assumption | omega) (by assumption) | exact hs_ne (by first | assumption | omega) (hs_self (by assumption)) | exact hs_ne (by first | assumption | omega) (hs_ne (by first | assumption | omega) (by assumption))) rfl (by decide) rfl (Nat.le_of_ble_eq_true rfl) (by decide) (by decide) ?_
  rintro h' ⟨T1, rfl, hA, hR⟩
  have ht1 := hs_self (e := aI 18 T1) ht
  refine x_aload_n d_SG_storeEdited_12 rfl rfl rfl ?_
  refine x_get 3 1 d_SG_storeEdited_13 gf_SG_18 (by first | assumption | exact hs_self (by assumption) | exact hs_ne (by first | assumption | omega) (by assumption) | exact hs_ne (by first | assumption | omega) (hs_self (by assumption)) | exact hs_ne (by first | assumption | omega) (hs_ne (by first | assumption | omega) (by assumption))) (by rfl) ?_
  refine x_get 0 0 d_SG_storeEdited_16 gf_SG_131 (by first | assumption | exact hs_self (by assumption) | exact hs_ne (by first | assumption | omega) (by assumption) | exact hs_ne (by first | assumption | omega) (hs_self (by assumption)) | exact hs_ne (by first | assumption | omega) (hs_ne (by first | assumption | omega) (by assumption))) (by rfl) ?_
  refine j_iconst d_SG_storeEdited_19 ?_
  refine x_aload_n d_SG_storeEdited_20 rfl rfl rfl ?_
  refine x_get 3 0 d_SG_storeEdited_21 gf_SG_9 (by first | assumption | exact hs_self (by assumption) | exact hs_ne (by first | assumption | omega) (by assumption) | exact hs_ne (by first | assumption | omega) (hs_self (by assumption)) | exact hs_ne (by first | assumption | omega) (hs_ne (by first | assumption | omega) (by assumption))) (by rfl) ?_
  refine x_aload_n d_SG_storeEdited_24 rfl rfl rfl ?_
  refine x_get 1 2 d_SG_storeEdited_25 gf_SG_61 (by first | assumption | exact hs_self (by assumption) | exact hs_ne (by first | assumption | omega) (by assumption) | exact hs_ne (by first | assumption | omega) (hs_self (by assumption)) | exact hs_ne (by first | assumption | omega) (hs_ne (by first | assumption | omega) (by assumption))) (by rfl) ?_
  refine x_aload_n d_SG_storeEdited_28 rfl rfl rfl ?_
  refine x_get 1 3 d_SG_storeEdited_29 gf_SG_89 (by first | assumption | exact hs_self (by assumption) | exact hs_ne (by first | assumption | omega) (by assumption) | exact hs_ne (by first | assumption | omega) (hs_self (by assumption)) | exact hs_ne (by first | assumption | omega) (hs_ne (by first | assumption | omega) (by assumption))) (by rfl) ?_
  refine x_copyi d_SG_storeEdited_32 lk_SG_134w gw_ac.1 gw_ac.2.1 gw_ac.2.2 ht1 (hs_ne htb hb) (by decide) (by omega) (by omega) (by omega) (by omega) (by decide) (by decide) (by decide) (by decide) ?_
  refine x_return d_SG_storeEdited_35 rfl ?_
  have hcp : cpyI T1 B (0 : Int).toNat (fO D : Int).toNat (fC D : Int).toNat = cpyI (eV D u) B 0 (fO D) (fC D) := by
    rw [Int.toNat_natCast, Int.toNat_natCast]
    funext j
    unfold cpyI
    by_cases hj : fO D ≤ j ∧ j < fO D + fC D
    · rw [if_pos hj, if_pos hj]
      exact hA _ (by show 0 + _ < _; omega)
    · rw [if_neg hj, if_neg hj]
  exact ⟨rfl, T1, by rw [hcp], hR⟩
set_option maxHeartbeats 2000000 in
theorem c_unitsOf (E : xEnv) (h : xH) (s b e t f p q : Nat) (D : FD) (B T : Nat → Int) (hs : h[s]? = some (oS b e)) (hb : h[b]? = some (aI 64 B)) (he : h[e]? = some (oE t)) (ht : h[t]? = some (aI 18 T)) (hf : fAt h f p q D) (hD : fOk D) (hts : t ≠ s) (htb : t ≠ b) (hte : t ≠ e) (htf : t ≠ f) (htp : t ≠ p) (htq : t ≠ q) (hB : bOk B) (hT : ∀ j, j < 18 → iR (T j)) : xCt E 4 0 0 M_SG_unitsOf [.ref s, .ref f] h (rQ (fun v h' => v = vL ((uA D B).getD nonI) ∧ ∃ T' : Nat → Int, h' = h.set t (aI 18 T') ∧ ∀ j, j < 18 → iR (T' j))) := by
  refine x_met rfl rfl (Nat.le_of_ble_eq_true rfl) ?_
  have hf0 := hf
  have hD0 := hD
  obtain ⟨hf1, -⟩ := hf
  obtain ⟨hm, hn, hsc, hg, ho, -⟩ := hD
  have e0 := hset_id ht
  have hc : fM D = 1 ∨ fM D = 2 ∨ fM D = 3 ∨ fM D = 4 ∨ fM D = 0 := by omega
  refine x_aload_n d_SG_unitsOf_0 rfl rfl rfl ?_
  refine x_get 1 1 d_SG_unitsOf_1 gf_SG_22 (by first | assumption | exact hs_self (by assumption) | exact hs_ne (by first | assumption | omega) (by assumption) | exact hs_ne (by first | assumption | omega) (hs_self (by assumption)) | exact hs_ne (by first | assumption | omega) (hs_ne (by first | assumption | omega) (by assumption))) (by rfl) ?_
  rcases hc with hc | hc | hc | hc | hc
  · have hw : fW D = fN D / 2 + 1 := by unfold fW; rw [if_neg (by omega), if_pos hc]
    rw [hc, hw] at hf1
    rw [hw] at ho
    rw [hc]
    refine j_table_in 36 d_SG_unitsOf_4 (by unfold iR; omega) (by omega) (by omega) rfl (by decide) ?_
    refine x_aload_n d_SG_unitsOf_36 rfl rfl rfl ?_
    refine x_aload_n d_SG_unitsOf_37 rfl rfl rfl ?_
    refine x_callV1 (M' := M_SG_packedUnits) d_SG_unitsOf_38 lk_SG_28 (c_packedUnits E h s b e f p (fO D) (fN D) _ _ (fG D) B hs hb hf1 hB ho hn hg) mt_SG_packedUnits im_SG_packedUnits se_SG_packedUnits (by first | assumption | exact hs_self (by assumption) | exact hs_ne (by first | assumption | omega) (by assumption) | exact hs_ne (by first | assumption | omega) (hs_self (by assumption)) | exact hs_ne (by first | assumption | omega) (hs_ne (by first | assumption | omega) (by assumption))) rfl (by decide) rfl (Nat.le_of_ble_eq_true rfl) (by decide) (by decide) ?_
    refine x_lreturn d_SG_unitsOf_41 rfl ?_
    exact ⟨_, rfl, by unfold uA; rw [if_neg (by omega), if_pos hc], T, e0.symm, hT⟩
  · have hw : fW D = fN D + 1 := by unfold fW; rw [if_neg (by omega), if_neg (by omega), if_pos hc]
    rw [hc, hw] at hf1
    rw [hw] at ho
    rw [hc]
    refine j_table_in 42 d_SG_unitsOf_4 (by unfold iR; omega) (by omega) (by omega) rfl (by decide) ?_
    refine x_aload_n d_SG_unitsOf_42 rfl rfl rfl ?_
    refine x_aload_n d_SG_unitsOf_43 rfl rfl rfl ?_
    refine x_callV1 (M' := M_SG_separateUnits) d_SG_unitsOf_44 lk_SG_32 (c_separateUnits E h s b e f p (fO D) (fN D) _ _ _ _ B hs hb hf1 hB (by omega) hn) mt_SG_separateUnits im_SG_separateUnits se_SG_separateUnits (by first | assumption | exact hs_self (by assumption) | exact hs_ne (by first | assumption | omega) (by assumption) | exact hs_ne (by first | assumption | omega) (hs_self (by assumption)) | exact hs_ne (by first | assumption | omega) (hs_ne (by first | assumption | omega) (by assumption))) rfl (by decide) rfl (Nat.le_of_ble_eq_true rfl) (by decide) (by decide) ?_
    refine x_lreturn d_SG_unitsOf_47 rfl ?_
    exact ⟨_, rfl, by unfold uA; rw [if_neg (by omega), if_neg (by omega), if_pos hc], T, e0.symm, hT⟩
  · have hw : fW D = wB (fN D) := by unfold fW; rw [if_neg (by omega), if_neg (by omega), if_neg (by omega), if_pos hc]
    rw [hc, hw] at hf1
    rw [hw] at ho
    rw [hc]
    refine j_table_in 48 d_SG_unitsOf_4 (by unfold iR; omega) (by omega) (by omega) rfl (by decide) ?_
    refine x_aload_n d_SG_unitsOf_48 rfl rfl rfl ?_
    refine x_aload_n d_SG_unitsOf_49 rfl rfl rfl ?_
    refine x_callV1 (M' := M_SG_binaryUnits) d_SG_unitsOf_50 lk_SG_35 (c_binaryUnits E h s b e f p (fO D) (fN D) _ _ (fG D) B hs hb hf1 hB ho hn hg) mt_SG_binaryUnits im_SG_binaryUnits se_SG_binaryUnits (by first | assumption | exact hs_self (by assumption) | exact hs_ne (by first | assumption | omega) (by assumption) | exact hs_ne (by first | assumption | omega) (hs_self (by assumption)) | exact hs_ne (by first | assumption | omega) (hs_ne (by first | assumption | omega) (by assumption))) rfl (by decide) rfl (Nat.le_of_ble_eq_true rfl) (by decide) (by decide) ?_
    refine x_lreturn d_SG_unitsOf_53 rfl ?_
    exact ⟨_, rfl, by unfold uA; rw [if_neg (by omega), if_neg (by omega), if_neg (by omega), if_pos hc], T, e0.symm, hT⟩
  · rw [hc] at hf1
    rw [hc]
    refine j_table_in 54 d_SG_unitsOf_4 (by unfold iR; omega) (by omega) (by omega) rfl (by decide) ?_
    refine x_aload_n d_SG_unitsOf_54 rfl rfl rfl ?_
    refine x_aload_n d_SG_unitsOf_55 rfl rfl rfl ?_
    refine x_callVq (M' := M_SG_editedUnits) d_SG_unitsOf_56 lk_SG_38 (c_editedUnits E h s b e t f p q D B T hs hb he ht hf0 hD0 hc hts htb hte htf htp htq hB hT) mt_SG_editedUnits im_SG_editedUnits se_SG_editedUnits (by first | assumption | exact hs_self (by assumption) | exact hs_ne (by first | assumption | omega) (by assumption) | exact hs_ne (by first | assumption | omega) (hs_self (by assumption)) | exact hs_ne (by first | assumption | omega) (hs_ne (by first | assumption | omega) (by assumption))) rfl (by decide) rfl (Nat.le_of_ble_eq_true rfl) (by decide) (by decide) ?_
    rintro v h' ⟨rfl, hh⟩
    refine x_lreturn d_SG_unitsOf_59 rfl ?_
    exact ⟨_, rfl, by unfold uA; rw [if_pos hc], hh⟩
  · have hw : fW D = fN D := by unfold fW; rw [if_neg (by omega), if_neg (by omega), if_neg (by omega), if_neg (by omega)]
    rw [hc, hw] at hf1
    rw [hw] at ho
    rw [hc]
    refine j_table_out 60 d_SG_unitsOf_4 (by unfold iR; omega) (by omega) (by decide) ?_
    refine x_aload_n d_SG_unitsOf_60 rfl rfl rfl ?_
    refine x_aload_n d_SG_unitsOf_61 rfl rfl rfl ?_
    refine x_callV1 (M' := M_SG_zonedUnits) d_SG_unitsOf_62 lk_SG_41 (c_zonedUnits E h s b e f p (fO D) (fN D) _ _ _ (fG D) B hs hb hf1 hB ho hn hg) mt_SG_zonedUnits im_SG_zonedUnits se_SG_zonedUnits (by first | assumption | exact hs_self (by assumption) | exact hs_ne (by first | assumption | omega) (by assumption) | exact hs_ne (by first | assumption | omega) (hs_self (by assumption)) | exact hs_ne (by first | assumption | omega) (hs_ne (by first | assumption | omega) (by assumption))) rfl (by decide) rfl (Nat.le_of_ble_eq_true rfl) (by decide) (by decide) ?_
    refine x_lreturn d_SG_unitsOf_65 rfl ?_
    exact ⟨_, rfl, by unfold uA; rw [if_neg (by omega), if_neg (by omega), if_neg (by omega), if_neg (by omega)], T, e0.symm, hT⟩
/-- the bytes behind a store; u has the field's own sign already -/
def stA (D : FD) (B : Nat → Int) (u : Int) : Nat → Int :=
  if fM D = 4 then cpyI (eV D u) B 0 (fO D) (fC D)
  else if fM D = 1 then stP B (fO D) (fN D / 2 + 1) u.natAbs (if fG D = 1 then (if u < 0 then 13 else 12) else 15)
  else if fM D = 2 then gU (stD B (fO D) (fN D) u.natAbs) (fO D + fN D) (if u < 0 then 45 else 43)
  else if fM D = 3 then stB B (fO D) (wB (fN D)) u
  else gU (stD B (fO D) (fN D) u.natAbs) (fO D + fN D - 1) (stD B (fO D) (fN D) u.natAbs (fO D + fN D - 1) + (if u < 0 then 64 else 0))
theorem stA_1 {D : FD} {B : Nat → Int} {u : Int} (hc : fM D = 1) : stA D B u = stP B (fO D) (fN D / 2 + 1) u.natAbs (if fG D = 1 then (if u < 0 then 13 else 12) else 15) := by
  unfold stA; rw [if_neg (show ¬ fM D = 4 by omega), if_pos hc]
theorem stA_2 {D : FD} {B : Nat → Int} {u : Int} (hc : fM D = 2) : stA D B u = gU (stD B (fO D) (fN D) u.natAbs) (fO D + fN D) (if u < 0 then 45 else 43) := by
  unfold stA; rw [if_neg (show ¬ fM D = 4 by omega), if_neg (show ¬ fM D = 1 by omega), if_pos hc]
theorem stA_3 {D : FD} {B : Nat → Int} {u : Int} (hc : fM D = 3) : stA D B u = stB B (fO D) (wB (fN D)) u := by
  unfold stA; rw [if_neg (show ¬ fM D = 4 by omega), if_neg (show ¬ fM D = 1 by omega), if_neg (show ¬ fM D = 2 by omega), if_pos hc]
theorem stA_4 {D : FD} {B : Nat → Int} {u : Int} (hc : fM D = 4) : stA D B u = cpyI (eV D u) B 0 (fO D) (fC D) := by
  unfold stA; rw [if_pos hc]
theorem stA_0 {D : FD} {B : Nat → Int} {u : Int} (hc : fM D = 0) : stA D B u = gU (stD B (fO D) (fN D) u.natAbs) (fO D + fN D - 1) (stD B (fO D) (fN D) u.natAbs (fO D + fN D - 1) + (if u < 0 then 64 else 0)) := by
  unfold stA; rw [if_neg (show ¬ fM D = 4 by omega), if_neg (show ¬ fM D = 1 by omega), if_neg (show ¬ fM D = 2 by omega), if_neg (show ¬ fM D = 3 by omega)]
set_option maxHeartbeats 2000000 in
theorem c_store (E : xEnv) (h : xH) (s b e t f p q : Nat) (D : FD) (B T : Nat → Int) (u : Int) (hs : h[s]? = some (oS b e)) (hb : h[b]? = some (aI 64 B)) (he : h[e]? = some (oE t)) (ht : h[t]? = some (aI 18 T)) (hf : fAt h f p q D) (hD : fOk D) (hts : t ≠ s) (htb : t ≠ b) (hte : t ≠ e) (htf : t ≠ f) (htp : t ≠ p) (htq : t ≠ q) (hbs : b ≠ s) (hbf : b ≠ f) (hu : u.natAbs < 1000000000000) (hT : ∀ j, j < 18 → iR (T j)) : xCt E 4 0 0 M_SG_store [.ref s, .ref f, vL u] h (rP (fun h' => ∃ T' : Nat → Int, h' = (h.set t (aI 18 T')).set b (aI 64 (stA D B (if fG D = 1 then u else u.natAbs))) ∧ ∀ j, j < 18 → iR (T' j))) := by
  refine x_met rfl rfl (Nat.le_of_ble_eq_true rfl) ?_
  have hf0 := hf
  have hD0 := hD
  obtain ⟨hf1, -⟩ := hf
  obtain ⟨hm, hn, hsc, hg, ho, -⟩ := hD
  have e0 := hset_id ht
  have hc : fM D = 1 ∨ fM D = 2 ∨ fM D = 3 ∨ fM D = 4 ∨ fM D = 0 := by omega
  obtain ⟨w, hw0⟩ : ∃ w : Int, w = if fG D = 1 then u else u.natAbs := ⟨_, rfl⟩
  have hwb : w.natAbs < 1000000000000 := by subst hw0; split <;> omega
  rw [← hw0]
  have main : X E M_SG_store 4 0 0 (xZ E 0 0 (rP (fun h' => ∃ T' : Nat → Int, h' = (h.set t (aI 18 T')).set b (aI 64 (stA D B w)) ∧ ∀ j, j < 18 → iR (T' j)))) 17 [some (.ref s), some (.ref f), some (vL u), none, some (vL w), none] [] h 0 0 := by
    refine x_aload_n d_SG_store_17 rfl rfl rfl ?_
    refine x_get 1 1 d_SG_store_18 gf_SG_22 (by first | assumption | exact hs_self (by assumption) | exact hs_ne (by first | assumption | omega) (by assumption) | exact hs_ne (by first | assumption | omega) (hs_self (by assumption)) | exact hs_ne (by first | assumption | omega) (hs_ne (by first | assumption | omega) (by assumption))) (by rfl) ?_
    rcases hc with hc | hc | hc | hc | hc
    · have hw : fW D = fN D / 2 + 1 := by unfold fW; rw [if_neg (by omega), if_pos hc]
      rw [hc, hw] at hf1
      rw [hw] at ho
      rw [hc]
      refine j_table_in 52 d_SG_store_21 (by unfold iR; omega) (by omega) (by omega) rfl (by decide) ?_
      refine x_aload_n d_SG_store_52 rfl rfl rfl ?_
      refine x_aload_n d_SG_store_53 rfl rfl rfl ?_
      refine x_lload d_SG_store_54 rfl ?_
      refine x_callV0 (M' := M_SG_storePacked) d_SG_store_56 lk_SG_54 (c_storePacked E h s b e f p (fO D) (fN D / 2 + 1) _ _ _ (fG D) w B hs hb hf1 hbs hbf ho (by omega) (by omega) hg) mt_SG_storePacked im_SG_storePacked se_SG_storePacked (by first | assumption | exact hs_self (by assumption) | exact hs_ne (by first | assumption | omega) (by assumption) | exact hs_ne (by first | assumption | omega) (hs_self (by assumption)) | exact hs_ne (by first | assumption | omega) (hs_ne (by first | assumption | omega) (by assumption))) rfl (by decide) rfl (Nat.le_of_ble_eq_true rfl) (by decide) (by decide) ?_
      refine x_goto 165 d_SG_store_59 (by decide) ?_
      refine x_return d_SG_store_165 rfl ?_
      exact ⟨rfl, T, by rw [e0, stA_1 hc], hT⟩
    · have hw : fW D = fN D + 1 := by unfold fW; rw [if_neg (by omega), if_neg (by omega), if_pos hc]
      rw [hc, hw] at hf1
      rw [hw] at ho
      rw [hc]
      refine j_table_in 62 d_SG_store_21 (by unfold iR; omega) (by omega) (by omega) rfl (by decide) ?_
      refine x_aload_n d_SG_store_62 rfl rfl rfl ?_
      refine x_aload_n d_SG_store_63 rfl rfl rfl ?_
      refine x_lload d_SG_store_64 rfl ?_
      refine j_labs d_SG_store_66 lk_SG_48w (by unfold lR; omega) (by decide) (Nat.le_of_ble_eq_true rfl) ?_
      refine x_callV0 (M' := M_SG_storeDigits) d_SG_store_69 lk_SG_58 (c_storeDigits E h s b e f p (fO D) (fN D) _ _ _ _ w.natAbs B hs hb hf1 hbs hbf (by omega) hn (by omega)) mt_SG_storeDigits im_SG_storeDigits se_SG_storeDigits (by first | assumption | exact hs_self (by assumption) | exact hs_ne (by first | assumption | omega) (by assumption) | exact hs_ne (by first | assumption | omega) (hs_self (by assumption)) | exact hs_ne (by first | assumption | omega) (hs_ne (by first | assumption | omega) (by assumption))) rfl (by decide) rfl (Nat.le_of_ble_eq_true rfl) (by decide) (by decide) ?_
      have fin : ∀ v : Int, v = (if w < 0 then 45 else 43) → X E M_SG_store 4 0 0 (xZ E 0 0 (rP (fun h' => ∃ T' : Nat → Int, h' = (h.set t (aI 18 T')).set b (aI 64 (stA D B w)) ∧ ∀ j, j < 18 → iR (T' j)))) 99 [some (.ref s), some (.ref f), some (vL u), none, some (vL w), none] [vI v, vI ((fO D : Int) + fN D), .ref b] (h.set b (aI 64 (stD B (fO D) (fN D) w.natAbs))) 0 0 := by
        intro v hv
        refine j_iast d_SG_store_99 (by first | assumption | exact hs_self (by assumption) | exact hs_ne (by first | assumption | omega) (by assumption) | exact hs_ne (by first | assumption | omega) (hs_self (by assumption)) | exact hs_ne (by first | assumption | omega) (hs_ne (by first | assumption | omega) (by assumption))) (by omega) (by omega) (by decide) ?_
        rw [List.set_set, show ((fO D : Int) + fN D).toNat = fO D + fN D by omega]
        refine x_goto 165 d_SG_store_100 (by decide) ?_
        refine x_return d_SG_store_165 rfl ?_
        exact ⟨rfl, T, by rw [e0, hv, stA_2 hc], hT⟩
      refine x_aload_n d_SG_store_72 rfl rfl rfl ?_
      refine x_get 3 0 d_SG_store_73 gf_SG_9 (by first | assumption | exact hs_self (by assumption) | exact hs_ne (by first | assumption | omega) (by assumption) | exact hs_ne (by first | assumption | omega) (hs_self (by assumption)) | exact hs_ne (by first | assumption | omega) (hs_ne (by first | assumption | omega) (by assumption))) (by rfl) ?_
      refine x_aload_n d_SG_store_76 rfl rfl rfl ?_
      refine x_get 1 2 d_SG_store_77 gf_SG_61 (by first | assumption | exact hs_self (by assumption) | exact hs_ne (by first | assumption | omega) (by assumption) | exact hs_ne (by first | assumption | omega) (hs_self (by assumption)) | exact hs_ne (by first | assumption | omega) (hs_ne (by first | assumption | omega) (by assumption))) (by rfl) ?_
      refine x_aload_n d_SG_store_80 rfl rfl rfl ?_
      refine x_get 1 4 d_SG_store_81 gf_SG_64 (by first | assumption | exact hs_self (by assumption) | exact hs_ne (by first | assumption | omega) (by assumption) | exact hs_ne (by first | assumption | omega) (hs_self (by assumption)) | exact hs_ne (by first | assumption | omega) (hs_ne (by first | assumption | omega) (by assumption))) (by rfl) ?_
      refine j_iadd d_SG_store_84 ?_
      refine x_lload d_SG_store_85 rfl ?_
      refine j_lconst 0 d_SG_store_87 (by decide) ?_
      refine j_lcmp_ge 97 d_SG_store_88 d_SG_store_89 (by decide) (by unfold lR; omega) (by unfold lR; omega) (fun c88 => ?_) (fun c88 => ?_)
      · refine j_bipush d_SG_store_97 (by decide) ?_
        exact fin _ (by rw [if_neg (by omega)])
      · refine j_bipush d_SG_store_92 (by decide) ?_
        refine x_goto 99 d_SG_store_94 (by decide) ?_
        exact fin _ (by rw [if_pos (by omega)])
    · have hw : fW D = wB (fN D) := by unfold fW; rw [if_neg (by omega), if_neg (by omega), if_neg (by omega), if_pos hc]
      rw [hc, hw] at hf1
      rw [hw] at ho
      rw [hc]
      have hw4 : wB (fN D) = 2 ∨ wB (fN D) = 4 := by unfold wB; split <;> omega
      refine j_table_in 103 d_SG_store_21 (by unfold iR; omega) (by omega) (by omega) rfl (by decide) ?_
      refine x_aload_n d_SG_store_103 rfl rfl rfl ?_
      refine x_aload_n d_SG_store_104 rfl rfl rfl ?_
      refine x_lload d_SG_store_105 rfl ?_
      refine x_callV0 (M' := M_SG_storeBinary) d_SG_store_107 lk_SG_67 (c_storeBinary E h s b e f p (fO D) (wB (fN D)) _ _ _ (fG D) w B hs hb hf1 hbs hbf ho (by omega) (by omega)) mt_SG_storeBinary im_SG_storeBinary se_SG_storeBinary (by first | assumption | exact hs_self (by assumption) | exact hs_ne (by first | assumption | omega) (by assumption) | exact hs_ne (by first | assumption | omega) (hs_self (by assumption)) | exact hs_ne (by first | assumption | omega) (hs_ne (by first | assumption | omega) (by assumption))) rfl (by decide) rfl (Nat.le_of_ble_eq_true rfl) (by decide) (by decide) ?_
      refine x_goto 165 d_SG_store_110 (by decide) ?_
      refine x_return d_SG_store_165 rfl ?_
      exact ⟨rfl, T, by rw [e0, stA_3 hc], hT⟩
    · rw [hc] at hf1
      rw [hc]
      refine j_table_in 113 d_SG_store_21 (by unfold iR; omega) (by omega) (by omega) rfl (by decide) ?_
      refine x_aload_n d_SG_store_113 rfl rfl rfl ?_
      refine x_aload_n d_SG_store_114 rfl rfl rfl ?_
      refine x_lload d_SG_store_115 rfl ?_
      refine x_callVp (M' := M_SG_storeEdited) d_SG_store_117 lk_SG_70 (c_storeEdited E h s b e t f p q D B T w hs hb he ht hf0 hD0 hc hts htb hte htf htp htq hwb hT) mt_SG_storeEdited im_SG_storeEdited se_SG_storeEdited (by first | assumption | exact hs_self (by assumption) | exact hs_ne (by first | assumption | omega) (by assumption) | exact hs_ne (by first | assumption | omega) (hs_self (by assumption)) | exact hs_ne (by first | assumption | omega) (hs_ne (by first | assumption | omega) (by assumption))) rfl (by decide) rfl (Nat.le_of_ble_eq_true rfl) (by decide) (by decide) ?_
      rintro h' ⟨T1, rfl, hR⟩
      refine x_goto 165 d_SG_store_120 (by decide) ?_
      refine x_return d_SG_store_165 rfl ?_
      exact ⟨rfl, T1, by rw [stA_4 hc], hR⟩
    · have hw : fW D = fN D := by unfold fW; rw [if_neg (by omega), if_neg (by omega), if_neg (by omega), if_neg (by omega)]
      rw [hc, hw] at hf1
      rw [hw] at ho
      rw [hc]
      refine j_table_out 123 d_SG_store_21 (by unfold iR; omega) (by omega) (by decide) ?_
      refine x_aload_n d_SG_store_123 rfl rfl rfl ?_
      refine x_aload_n d_SG_store_124 rfl rfl rfl ?_
      refine x_lload d_SG_store_125 rfl ?_
      refine j_labs d_SG_store_127 lk_SG_48w (by unfold lR; omega) (by decide) (Nat.le_of_ble_eq_true rfl) ?_
      refine x_callV0 (M' := M_SG_storeDigits) d_SG_store_130 lk_SG_58 (c_storeDigits E h s b e f p (fO D) (fN D) _ _ _ _ w.natAbs B hs hb hf1 hbs hbf (by omega) hn (by omega)) mt_SG_storeDigits im_SG_storeDigits se_SG_storeDigits (by first | assumption | exact hs_self (by assumption) | exact hs_ne (by first | assumption | omega) (by assumption) | exact hs_ne (by first | assumption | omega) (hs_self (by assumption)) | exact hs_ne (by first | assumption | omega) (hs_ne (by first | assumption | omega) (by assumption))) rfl (by decide) rfl (Nat.le_of_ble_eq_true rfl) (by decide) (by decide) ?_
      have fin : ∀ v : Int, v = (if w < 0 then 64 else 0) → X E M_SG_store 4 0 0 (xZ E 0 0 (rP (fun h' => ∃ T' : Nat → Int, h' = (h.set t (aI 18 T')).set b (aI 64 (stA D B w)) ∧ ∀ j, j < 18 → iR (T' j)))) 163 [some (.ref s), some (.ref f), some (vL u), none, some (vL w), none] [vI v, vI (stD B (fO D) (fN D) w.natAbs (fO D + fN D - 1)), vI ((fO D : Int) + fN D - 1), .ref b] (h.set b (aI 64 (stD B (fO D) (fN D) w.natAbs))) 0 0 := by
        intro v hv
        refine j_iadd d_SG_store_163 ?_
        refine j_iast d_SG_store_164 (by first | assumption | exact hs_self (by assumption) | exact hs_ne (by first | assumption | omega) (by assumption) | exact hs_ne (by first | assumption | omega) (hs_self (by assumption)) | exact hs_ne (by first | assumption | omega) (hs_ne (by first | assumption | omega) (by assumption))) (by omega) (by omega) (by decide) ?_
        rw [List.set_set, show ((fO D : Int) + fN D - 1).toNat = fO D + fN D - 1 by omega]
        refine x_return d_SG_store_165 rfl ?_
        exact ⟨rfl, T, by rw [e0, hv, stA_0 hc], hT⟩
      refine x_aload_n d_SG_store_133 rfl rfl rfl ?_
      refine x_get 3 0 d_SG_store_134 gf_SG_9 (by first | assumption | exact hs_self (by assumption) | exact hs_ne (by first | assumption | omega) (by assumption) | exact hs_ne (by first | assumption | omega) (hs_self (by assumption)) | exact hs_ne (by first | assumption | omega) (hs_ne (by first | assumption | omega) (by assumption))) (by rfl) ?_
      refine x_aload_n d_SG_store_137 rfl rfl rfl ?_
      refine x_get 1 2 d_SG_store_138 gf_SG_61 (by first | assumption | exact hs_self (by assumption) | exact hs_ne (by first | assumption | omega) (by assumption) | exact hs_ne (by first | assumption | omega) (hs_self (by assumption)) | exact hs_ne (by first | assumption | omega) (hs_ne (by first | assumption | omega) (by assumption))) (by rfl) ?_
      refine x_aload_n d_SG_store_141 rfl rfl rfl ?_
      refine x_get 1 4 d_SG_store_142 gf_SG_64 (by first | assumption | exact hs_self (by assumption) | exact hs_ne (by first | assumption | omega) (by assumption) | exact hs_ne (by first | assumption | omega) (hs_self (by assumption)) | exact hs_ne (by first | assumption | omega) (hs_ne (by first | assumption | omega) (by assumption))) (by rfl) ?_
      refine j_iadd d_SG_store_145 ?_
      refine j_iconst d_SG_store_146 ?_
      refine j_isub d_SG_store_147 ?_
      refine x_dup2 d_SG_store_148 rfl rfl ?_
      refine j_iald d_SG_store_149 (by first | assumption | exact hs_self (by assumption) | exact hs_ne (by first | assumption | omega) (by assumption) | exact hs_ne (by first | assumption | omega) (hs_self (by assumption)) | exact hs_ne (by first | assumption | omega) (hs_ne (by first | assumption | omega) (by assumption))) (by omega) (by omega) (by decide) ?_
      refine x_top (w := vI (stD B (fO D) (fN D) w.natAbs (fO D + fN D - 1))) (by rw [show ((fO D : Int) + fN D - 1).toNat = fO D + fN D - 1 by omega]) ?_
      refine x_lload d_SG_store_150 rfl ?_
      refine j_lconst 0 d_SG_store_152 (by decide) ?_
      refine j_lcmp_ge 162 d_SG_store_153 d_SG_store_154 (by decide) (by unfold lR; omega) (by unfold lR; omega) (fun c153 => ?_) (fun c153 => ?_)
      · refine j_iconst d_SG_store_162 ?_
        exact fin _ (by rw [if_neg (by omega)])
      · refine j_bipush d_SG_store_157 (by decide) ?_
        refine x_goto 163 d_SG_store_159 (by decide) ?_
        exact fin _ (by rw [if_pos (by omega)])
  refine x_aload_n d_SG_store_0 rfl rfl rfl ?_
  refine x_get 1 6 d_SG_store_1 gf_SG_44 (by first | assumption | exact hs_self (by assumption) | exact hs_ne (by first | assumption | omega) (by assumption) | exact hs_ne (by first | assumption | omega) (hs_self (by assumption)) | exact hs_ne (by first | assumption | omega) (hs_ne (by first | assumption | omega) (by assumption))) (by rfl) ?_
  refine j_if_eq 11 d_SG_store_4 (by decide) (by unfold iR; omega) (fun c4 => ?_) (fun c4 => ?_)
  · refine x_lload_n d_SG_store_11 rfl rfl ?_
    refine j_labs d_SG_store_12 lk_SG_48w (by unfold lR; omega) (by decide) (Nat.le_of_ble_eq_true rfl) ?_
    refine x_lstore d_SG_store_15 (Nat.le_of_ble_eq_true rfl) ?_
    rw [show (u.natAbs : Int) = w by rw [hw0, if_neg (by omega)]]
    exact main
  · refine x_lload_n d_SG_store_7 rfl rfl ?_
    refine x_goto 15 d_SG_store_8 (by decide) ?_
    refine x_lstore d_SG_store_15 (Nat.le_of_ble_eq_true rfl) ?_
    have hwu : w = u := by rw [hw0, if_pos (by omega)]
    rw [hwu] at main
    rw [hwu]
    exact main
