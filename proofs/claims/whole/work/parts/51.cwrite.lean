/-! the class reads a draft -/
abbrev sG (i : Nat) : Nat → Int := fun j => (sTx.getD i []).getD j 0
theorem sG_rpt (c : Int) : (∃ j, j < 10 ∧ sG 0 j = c) ↔ rpt c := by
  constructor
  · rintro ⟨j, hj, e⟩
    have : j = 0 ∨ j = 1 ∨ j = 2 ∨ j = 3 ∨ j = 4 ∨ j = 5 ∨ j = 6 ∨ j = 7 ∨ j = 8 ∨ j = 9 := by omega
    rcases this with rfl | rfl | rfl | rfl | rfl | rfl | rfl | rfl | rfl | rfl <;> (simp [sTx] at e; omega)
  · intro h
    rcases h with rfl | rfl | rfl | rfl | rfl | rfl | rfl | rfl | rfl | rfl
    · exact ⟨0, by decide, rfl⟩
    · exact ⟨1, by decide, rfl⟩
    · exact ⟨2, by decide, rfl⟩
    · exact ⟨3, by decide, rfl⟩
    · exact ⟨4, by decide, rfl⟩
    · exact ⟨5, by decide, rfl⟩
    · exact ⟨6, by decide, rfl⟩
    · exact ⟨7, by decide, rfl⟩
    · exact ⟨8, by decide, rfl⟩
    · exact ⟨9, by decide, rfl⟩
theorem sG_pmn (c : Int) : (∃ j, j < 2 ∧ sG 1 j = c) ↔ pmn c := by
  constructor
  · rintro ⟨j, hj, e⟩
    have : j = 0 ∨ j = 1 := by omega
    rcases this with rfl | rfl <;> (simp [sTx] at e; omega)
  · intro h
    rcases h with rfl | rfl
    · exact ⟨0, by decide, rfl⟩
    · exact ⟨1, by decide, rfl⟩
theorem sG_ins (c : Int) : (∃ j, j < 4 ∧ sG 2 j = c) ↔ ins c := by
  constructor
  · rintro ⟨j, hj, e⟩
    have : j = 0 ∨ j = 1 ∨ j = 2 ∨ j = 3 := by omega
    rcases this with rfl | rfl | rfl | rfl <;> (simp [sTx] at e; omega)
  · intro h
    rcases h with rfl | rfl | rfl | rfl
    · exact ⟨0, by decide, rfl⟩
    · exact ⟨1, by decide, rfl⟩
    · exact ⟨2, by decide, rfl⟩
    · exact ⟨3, by decide, rfl⟩
theorem sG_fil (c : Int) : (∃ j, j < 5 ∧ sG 3 j = c) ↔ fil c := by
  constructor
  · rintro ⟨j, hj, e⟩
    have : j = 0 ∨ j = 1 ∨ j = 2 ∨ j = 3 ∨ j = 4 := by omega
    rcases this with rfl | rfl | rfl | rfl | rfl <;> (simp [sTx] at e; omega)
  · intro h
    rcases h with rfl | rfl | rfl | rfl | rfl
    · exact ⟨0, by decide, rfl⟩
    · exact ⟨1, by decide, rfl⟩
    · exact ⟨2, by decide, rfl⟩
    · exact ⟨3, by decide, rfl⟩
    · exact ⟨4, by decide, rfl⟩
theorem sG_flo (c : Int) : (∃ j, j < 3 ∧ sG 4 j = c) ↔ flo c := by
  constructor
  · rintro ⟨j, hj, e⟩
    have : j = 0 ∨ j = 1 ∨ j = 2 := by omega
    rcases this with rfl | rfl | rfl <;> (simp [sTx] at e; omega)
  · intro h
    rcases h with rfl | rfl | rfl
    · exact ⟨0, by decide, rfl⟩
    · exact ⟨1, by decide, rfl⟩
    · exact ⟨2, by decide, rfl⟩
theorem sG_r0 : ∀ j, j < 10 → 0 ≤ sG 0 j ∧ sG 0 j ≤ 127 := by decide
theorem sG_r1 : ∀ j, j < 2 → 0 ≤ sG 1 j ∧ sG 1 j ≤ 127 := by decide
theorem sG_r2 : ∀ j, j < 4 → 0 ≤ sG 2 j ∧ sG 2 j ≤ 127 := by decide
theorem sG_r3 : ∀ j, j < 5 → 0 ≤ sG 3 j ∧ sG 3 j ≤ 127 := by decide
theorem sG_r4 : ∀ j, j < 3 → 0 ≤ sG 4 j ∧ sG 4 j ≤ 127 := by decide
section RL
variable {d : Nat → Int} {n a : Nat}
theorem rl_no (h : ¬ ((a + 3 < n ∧ rpt (d a) ∧ d (a + 1) = 40) ∧ dig (d (a + 2)))) : (0 : Int) = (rl d n a : Int) := by
  unfold rl; rw [if_neg h]; rfl
theorem rl_y4 (h : (a + 3 < n ∧ rpt (d a) ∧ d (a + 1) = 40) ∧ dig (d (a + 2))) (h3 : d (a + 3) = 41) : (4 : Int) = (rl d n a : Int) := by
  unfold rl; rw [if_pos h, if_pos h3]; rfl
theorem rl_y5 (h : (a + 3 < n ∧ rpt (d a) ∧ d (a + 1) = 40) ∧ dig (d (a + 2))) (h3 : ¬ d (a + 3) = 41) (h4 : a + 4 < n ∧ dig (d (a + 3)) ∧ d (a + 4) = 41) : (5 : Int) = (rl d n a : Int) := by
  unfold rl; rw [if_pos h, if_neg h3, if_pos h4]; rfl
theorem rl_y0 (h3 : ¬ d (a + 3) = 41) (h4 : ¬ (a + 4 < n ∧ dig (d (a + 3)) ∧ d (a + 4) = 41)) : (0 : Int) = (rl d n a : Int) := by
  unfold rl; rw [if_neg h3, if_neg h4]; split <;> rfl
end RL
theorem apS_0 (G : Nat → Int) (ct : Nat) (c : Int) : apS G ct c 0 = G := by
  funext j; unfold apS; rw [if_neg (by omega)]
theorem apS_s (G : Nat → Int) (ct k : Nat) (c : Int) : gU (apS G ct c k) (ct + k) c = apS G ct c (k + 1) := by
  funext j; unfold apS gU; show (if j = ct + k then c else (if ct ≤ j ∧ j < ct + k then c else G j)) = _
  by_cases h : j = ct + k
  · rw [if_pos h, if_pos (by omega)]
  · rw [if_neg h]
    by_cases h2 : ct ≤ j ∧ j < ct + k
    · rw [if_pos h2, if_pos (by omega)]
    · rw [if_neg h2, if_neg (by omega)]
theorem apS_ag {G G' : Nat → Int} {ct k j : Nat} {c : Int} (h : ∀ j, j < ct → G j = G' j) (hj : j < ct + k) : apS G ct c k j = apS G' ct c k j := by
  unfold apS
  by_cases h2 : ct ≤ j ∧ j < ct + k
  · rw [if_pos h2, if_pos h2]
  · rw [if_neg h2, if_neg h2]; exact h j (by omega)
theorem apS_r {G : Nat → Int} {ct k : Nat} {c : Int} (h : ∀ j, j < 18 → 0 ≤ G j ∧ G j ≤ 126) (hc : 0 ≤ c ∧ c ≤ 126) : ∀ j, j < 18 → 0 ≤ apS G ct c k j ∧ apS G ct c k j ≤ 126 := by
  intro j hj; unfold apS; split
  · exact hc
  · exact h j hj
theorem sgn_2 (G : Nat → Int) : ∀ (r i : Nat), nd (fun j => decide (pmn (G j))) r i = nd (fun j => decide (G j = 43)) r i + nd (fun j => decide (G j = 45)) r i
  | 0, _ => rfl
  | r + 1, i => by
    rw [nd_s, nd_s, nd_s, sgn_2 G r (i + 1)]
    by_cases h1 : G i = 43
    · rw [if_pos (by simp [h1]), if_pos (by simp [h1]), if_neg (by simp [h1])]; omega
    · by_cases h2 : G i = 45
      · rw [if_pos (by simp [h2]), if_neg (by simp [h2]), if_pos (by simp [h2])]; omega
      · rw [if_neg (by simp [h1, h2]), if_neg (by simp [h1]), if_neg (by simp [h2])]; omega
theorem nd_le_r (d : Nat → Bool) : ∀ (r i : Nat), nd d r i ≤ r
  | 0, _ => Nat.le_refl _
  | r + 1, i => by
    have := nd_le_r d r (i + 1)
    rw [nd_s]; split <;> omega
/-- a sign at the first and at the last place are two -/
theorem sgn_ge2 {G : Nat → Int} {ct : Nat} (h : 2 ≤ ct) (h0 : pmn (G 0)) (h1 : pmn (G (ct - 1))) : 2 ≤ sgn G ct := by
  have e : sgn G ct = nd (fun j => decide (pmn (G j))) (1 + (ct - 2) + 1) 0 := by unfold sgn; rw [show 1 + (ct - 2) + 1 = ct by omega]
  rw [e, nd_split, nd_split, show 0 + (1 + (ct - 2)) = ct - 1 by omega]
  rw [show nd (fun j => decide (pmn (G j))) 1 0 = 1 by rw [nd_s, if_pos (decide_eq_true h0)]; rfl, show nd (fun j => decide (pmn (G j))) 1 (ct - 1) = 1 by rw [nd_s, if_pos (decide_eq_true h1)]; rfl]
  omega
section XPC
variable {E : xEnv} {M : xM} {d K N : Nat} {Z : xEnd} {pc : Nat} {L : List (Option Value)} {st : List Value} {h : xH} {k n : Nat} {index p q : Nat} {ct dg sc sg ed bs be fi fl x : Int}
theorem xp_PC_1 (hd : decode M.2.1 pc = .ok (.putfield index, 3)) (hp : xPut M.1 index 2 1 .int) (ho : h[p]? = some (oP q ct dg sc sg ed bs be fi fl)) (kk : X E M d K N Z (pc + 3) L st (h.set p (oP q x dg sc sg ed bs be fi fl)) k n) : X E M d K N Z pc L (vI x :: .ref p :: st) h k n := x_put 2 1 hd hp ho (Nat.le_of_ble_eq_true rfl) rfl rfl kk
theorem xp_PC_2 (hd : decode M.2.1 pc = .ok (.putfield index, 3)) (hp : xPut M.1 index 2 2 .int) (ho : h[p]? = some (oP q ct dg sc sg ed bs be fi fl)) (kk : X E M d K N Z (pc + 3) L st (h.set p (oP q ct x sc sg ed bs be fi fl)) k n) : X E M d K N Z pc L (vI x :: .ref p :: st) h k n := x_put 2 2 hd hp ho (Nat.le_of_ble_eq_true rfl) rfl rfl kk
theorem xp_PC_3 (hd : decode M.2.1 pc = .ok (.putfield index, 3)) (hp : xPut M.1 index 2 3 .int) (ho : h[p]? = some (oP q ct dg sc sg ed bs be fi fl)) (kk : X E M d K N Z (pc + 3) L st (h.set p (oP q ct dg x sg ed bs be fi fl)) k n) : X E M d K N Z pc L (vI x :: .ref p :: st) h k n := x_put 2 3 hd hp ho (Nat.le_of_ble_eq_true rfl) rfl rfl kk
theorem xp_PC_4 (hd : decode M.2.1 pc = .ok (.putfield index, 3)) (hp : xPut M.1 index 2 4 .boolean) (ho : h[p]? = some (oP q ct dg sc sg ed bs be fi fl)) (hx : x = 0 ∨ x = 1) (kk : X E M d K N Z (pc + 3) L st (h.set p (oP q ct dg sc x ed bs be fi fl)) k n) : X E M d K N Z pc L (vI x :: .ref p :: st) h k n := x_put 2 4 hd hp ho (Nat.le_of_ble_eq_true rfl) (nar_z hx).1 (nar_z hx).2.1 kk
theorem xp_PC_5 (hd : decode M.2.1 pc = .ok (.putfield index, 3)) (hp : xPut M.1 index 2 5 .boolean) (ho : h[p]? = some (oP q ct dg sc sg ed bs be fi fl)) (hx : x = 0 ∨ x = 1) (kk : X E M d K N Z (pc + 3) L st (h.set p (oP q ct dg sc sg x bs be fi fl)) k n) : X E M d K N Z pc L (vI x :: .ref p :: st) h k n := x_put 2 5 hd hp ho (Nat.le_of_ble_eq_true rfl) (nar_z hx).1 (nar_z hx).2.1 kk
theorem xp_PC_6 (hd : decode M.2.1 pc = .ok (.putfield index, 3)) (hp : xPut M.1 index 2 6 .int) (ho : h[p]? = some (oP q ct dg sc sg ed bs be fi fl)) (kk : X E M d K N Z (pc + 3) L st (h.set p (oP q ct dg sc sg ed x be fi fl)) k n) : X E M d K N Z pc L (vI x :: .ref p :: st) h k n := x_put 2 6 hd hp ho (Nat.le_of_ble_eq_true rfl) rfl rfl kk
theorem xp_PC_7 (hd : decode M.2.1 pc = .ok (.putfield index, 3)) (hp : xPut M.1 index 2 7 .int) (ho : h[p]? = some (oP q ct dg sc sg ed bs be fi fl)) (kk : X E M d K N Z (pc + 3) L st (h.set p (oP q ct dg sc sg ed bs x fi fl)) k n) : X E M d K N Z pc L (vI x :: .ref p :: st) h k n := x_put 2 7 hd hp ho (Nat.le_of_ble_eq_true rfl) rfl rfl kk
theorem xp_PC_8 (hd : decode M.2.1 pc = .ok (.putfield index, 3)) (hp : xPut M.1 index 2 8 .char) (ho : h[p]? = some (oP q ct dg sc sg ed bs be fi fl)) (hx : 0 ≤ x ∧ x < 65536) (kk : X E M d K N Z (pc + 3) L st (h.set p (oP q ct dg sc sg ed bs be x fl)) k n) : X E M d K N Z pc L (vI x :: .ref p :: st) h k n := x_put 2 8 hd hp ho (Nat.le_of_ble_eq_true rfl) (nar_c hx.1 hx.2).1 (nar_c hx.1 hx.2).2.1 kk
theorem xp_PC_9 (hd : decode M.2.1 pc = .ok (.putfield index, 3)) (hp : xPut M.1 index 2 9 .boolean) (ho : h[p]? = some (oP q ct dg sc sg ed bs be fi fl)) (hx : x = 0 ∨ x = 1) (kk : X E M d K N Z (pc + 3) L st (h.set p (oP q ct dg sc sg ed bs be fi x)) k n) : X E M d K N Z pc L (vI x :: .ref p :: st) h k n := x_put 2 9 hd hp ho (Nat.le_of_ble_eq_true rfl) (nar_z hx).1 (nar_z hx).2.1 kk
end XPC
theorem ite11 {P : Prop} [Decidable P] : (¬ (if P then (1 : Int) else 0) = 0) ↔ P := by split <;> simp_all
theorem ite01' {P : Prop} [Decidable P] : (if P then (1 : Int) else 0) = 0 ∨ (if P then (1 : Int) else 0) = 1 := by split <;> simp
theorem iteR {P : Prop} [Decidable P] : iR (if P then (1 : Int) else 0) := by unfold iR; split <;> omega
theorem c_oneP {E : xEnv} {h : xH} {av : List Value} {M : xM} {d mc ms : Nat} {Q P : Prop} [Decidable P] (hC : xCt E d mc ms M av h (rQ (fun w h' => h' = h ∧ ∃ x : Int, w = vI x ∧ (x = 0 ∨ x = 1) ∧ (x = 1 ↔ Q)))) (e : Q ↔ P) : xCt E d mc ms M av h (rV (vI (if P then 1 else 0)) h) := by
  refine xCt_mono hC ?_
  rintro r h' ⟨v, rfl, rfl, x, rfl, hx, hq⟩
  refine ⟨?_, rfl⟩
  by_cases hP : P
  · rw [if_pos hP, hq.2 (e.2 hP)]
  · rw [if_neg hP]
    rcases hx with rfl | rfl
    · rfl
    · exact absurd (e.1 (hq.1 rfl)) hP
set_option maxHeartbeats 1000000 in
theorem c_isOneOf (E : xEnv) (h : xH) (s b n : Nat) (g : Nat → Int) (c : Int) (hs : (s, "java/lang/String") ∈ xOs) (hq : (s, "java/lang/String", "coder", "B", Value.int (iI 0)) ∈ xOf) (hv : (s, "java/lang/String", "value", "[B", Value.retAddr b) ∈ xOf) (ht : (b, FieldType.byte, n, fun j => Value.int (iI (g j))) ∈ xTb E) (hn0 : 0 < n) (hn : n ≤ 10) (hg : ∀ j, j < n → 0 ≤ g j ∧ g j ≤ 127) (hc : 0 ≤ c ∧ c ≤ 126) : xCt E 4 0 0 M_PC_isOneOf [.retAddr s, vI c] h (rQ (fun w h' => h' = h ∧ ∃ x : Int, w = vI x ∧ (x = 0 ∨ x = 1) ∧ (x = 1 ↔ ∃ j, j < n ∧ g j = c))) := by
  refine x_met rfl rfl (Nat.le_of_ble_eq_true rfl) ?_
  refine x_aload_n d_PC_isOneOf_0 rfl rfl (by first | rfl | assumption) ?_
  refine x_iload_n d_PC_isOneOf_1 rfl rfl ?_
  refine x_callFq (M' := M_ST_indexOf_I) d_PC_isOneOf_2 lk_PC_108w (c_indexOfI E h s b n g c hs hq hv ht hn0 hn hg (by omega)) mt_ST_indexOf_I im_ST_indexOf_I se_ST_indexOf_I hs (by decide) rfl (Nat.le_of_ble_eq_true rfl) (by decide) (by decide) ?_
  rintro v h' ⟨rfl, z, rfl, hz, hzz⟩
  refine j_if_lt 12 d_PC_isOneOf_5 (by decide) hz (fun c5 => ?_) (fun c5 => ?_)
  · refine j_iconst d_PC_isOneOf_12 ?_
    refine j_zreturn d_PC_isOneOf_13 rfl (by omega) ?_
    exact ⟨_, rfl, rfl, 0, rfl, Or.inl rfl, ⟨fun x => by omega, fun x => absurd (hzz.2 x) (by omega)⟩⟩
  · refine j_iconst d_PC_isOneOf_8 ?_
    refine x_goto 13 d_PC_isOneOf_9 (by decide) ?_
    refine j_zreturn d_PC_isOneOf_13 rfl (by omega) ?_
    exact ⟨_, rfl, rfl, 1, rfl, Or.inr rfl, ⟨fun _ => hzz.1 (by omega), fun _ => rfl⟩⟩
theorem c_rpt (E : xEnv) (h : xH) (c : Int) (hc : 0 ≤ c ∧ c ≤ 126) : xCt E 4 0 0 M_PC_isOneOf [.retAddr 10, vI c] h (rV (vI (if rpt c then 1 else 0)) h) := c_oneP (c_isOneOf E h 10 20 10 (sG 0) c (List.mem_of_getElem? (i := 0) rfl) (List.mem_of_getElem? (i := 0) rfl) (List.mem_of_getElem? (i := 1) rfl) (List.mem_of_getElem? (i := 2) rfl) (by decide) (by decide) sG_r0 hc) (sG_rpt c)
theorem c_pmn (E : xEnv) (h : xH) (c : Int) (hc : 0 ≤ c ∧ c ≤ 126) : xCt E 4 0 0 M_PC_isOneOf [.retAddr 11, vI c] h (rV (vI (if pmn c then 1 else 0)) h) := c_oneP (c_isOneOf E h 11 21 2 (sG 1) c (List.mem_of_getElem? (i := 1) rfl) (List.mem_of_getElem? (i := 2) rfl) (List.mem_of_getElem? (i := 3) rfl) (List.mem_of_getElem? (i := 3) rfl) (by decide) (by decide) sG_r1 hc) (sG_pmn c)
theorem c_ins (E : xEnv) (h : xH) (c : Int) (hc : 0 ≤ c ∧ c ≤ 126) : xCt E 4 0 0 M_PC_isOneOf [.retAddr 12, vI c] h (rV (vI (if ins c then 1 else 0)) h) := c_oneP (c_isOneOf E h 12 22 4 (sG 2) c (List.mem_of_getElem? (i := 2) rfl) (List.mem_of_getElem? (i := 4) rfl) (List.mem_of_getElem? (i := 5) rfl) (List.mem_of_getElem? (i := 4) rfl) (by decide) (by decide) sG_r2 hc) (sG_ins c)
theorem c_fil (E : xEnv) (h : xH) (c : Int) (hc : 0 ≤ c ∧ c ≤ 126) : xCt E 4 0 0 M_PC_isOneOf [.retAddr 13, vI c] h (rV (vI (if fil c then 1 else 0)) h) := c_oneP (c_isOneOf E h 13 23 5 (sG 3) c (List.mem_of_getElem? (i := 3) rfl) (List.mem_of_getElem? (i := 6) rfl) (List.mem_of_getElem? (i := 7) rfl) (List.mem_of_getElem? (i := 5) rfl) (by decide) (by decide) sG_r3 hc) (sG_fil c)
theorem c_flo (E : xEnv) (h : xH) (c : Int) (hc : 0 ≤ c ∧ c ≤ 126) : xCt E 4 0 0 M_PC_isOneOf [.retAddr 14, vI c] h (rV (vI (if flo c then 1 else 0)) h) := c_oneP (c_isOneOf E h 14 24 3 (sG 4) c (List.mem_of_getElem? (i := 4) rfl) (List.mem_of_getElem? (i := 8) rfl) (List.mem_of_getElem? (i := 9) rfl) (List.mem_of_getElem? (i := 6) rfl) (by decide) (by decide) sG_r4 hc) (sG_flo c)
set_option maxHeartbeats 1000000 in
theorem c_isDigitC (E : xEnv) (h : xH) (c : Int) (hc : 0 ≤ c ∧ c ≤ 126) : xCt E 0 0 0 M_PC_isDigit [vI c] h (rV (vI (if dig c then 1 else 0)) h) := by
  refine x_met rfl rfl (Nat.le_of_ble_eq_true rfl) ?_
  refine x_iload_n d_PC_isDigit_0 rfl rfl ?_
  refine j_bipush d_PC_isDigit_1 (by decide) ?_
  refine j_icmp_lt 16 d_PC_isDigit_3 (by decide) (by unfold iR; omega) (by unfold iR; omega) (fun c3 => ?_) (fun c3 => ?_)
  · refine j_iconst d_PC_isDigit_16 ?_
    refine j_zreturn d_PC_isDigit_17 rfl (by omega) ?_
    exact rV_i (by split <;> omega) rfl
  · refine x_iload_n d_PC_isDigit_6 rfl rfl ?_
    refine j_bipush d_PC_isDigit_7 (by decide) ?_
    refine j_icmp_gt 16 d_PC_isDigit_9 (by decide) (by unfold iR; omega) (by unfold iR; omega) (fun c9 => ?_) (fun c9 => ?_)
    · refine j_iconst d_PC_isDigit_16 ?_
      refine j_zreturn d_PC_isDigit_17 rfl (by omega) ?_
      exact rV_i (by split <;> omega) rfl
    · refine j_iconst d_PC_isDigit_12 ?_
      refine x_goto 17 d_PC_isDigit_13 (by decide) ?_
      refine j_zreturn d_PC_isDigit_17 rfl (by omega) ?_
      exact rV_i (by split <;> omega) rfl
set_option maxHeartbeats 1000000 in
theorem c_repLen (E : xEnv) (h : xH) (q n a : Nat) (d : Nat → Int) (hq : h[q]? = some (aC 24 d)) (hd : ∀ i, i < 24 → 0 ≤ d i ∧ d i ≤ 126) (hn : n ≤ 24) (ha : a < n) : xCt E 5 0 0 M_PC_repetitionLength [.ref q, vI n, vI a] h (rV (vI (rl d n a)) h) := by
  refine x_met rfl rfl (Nat.le_of_ble_eq_true rfl) ?_
  have no : ∀ L : Option Value, ¬ (a + 3 < n ∧ rpt (d a) ∧ d (a + 1) = 40) → X E M_PC_repetitionLength 5 0 0 (xZ E 0 0 (rV (vI (rl d n a)) h)) 32 [some (.ref q), some (vI n), some (vI a), L] [] h 0 0 := by
    intro L hb
    refine j_iconst d_PC_repetitionLength_32 ?_
    refine x_istore_n d_PC_repetitionLength_33 rfl (Nat.le_of_ble_eq_true rfl) ?_
    refine x_iload_n d_PC_repetitionLength_34 rfl rfl ?_
    refine j_if_eq 49 d_PC_repetitionLength_35 (by decide) (by unfold iR; omega) (fun c35 => ?_) (fun c35 => ?_)
    · refine j_iconst d_PC_repetitionLength_49 ?_
      refine x_ireturn d_PC_repetitionLength_50 rfl ?_
      exact rV_i (rl_no (fun x => hb x.1)) rfl
    · exact absurd rfl c35
  have d0 := hd a (by omega)
  refine x_iload_n d_PC_repetitionLength_0 rfl rfl ?_
  refine j_iconst d_PC_repetitionLength_1 ?_
  refine j_iadd d_PC_repetitionLength_2 ?_
  refine x_iload_n d_PC_repetitionLength_3 rfl rfl ?_
  refine j_icmp_ge 32 d_PC_repetitionLength_4 (by decide) (by unfold iR; omega) (by unfold iR; omega) (fun c4 => ?_) (fun c4 => ?_)
  · exact no _ (fun x => by have := x.1; omega)
  have d1 := hd (a + 1) (by omega)
  have d2 := hd (a + 2) (by omega)
  have d3 := hd (a + 3) (by omega)
  refine x_ldcS d_PC_repetitionLength_7 (List.mem_of_getElem? (i := 0) rfl) ?_
  refine x_aload_n d_PC_repetitionLength_9 rfl rfl (by first | rfl | assumption) ?_
  refine x_iload_n d_PC_repetitionLength_10 rfl rfl ?_
  refine j_cald d_PC_repetitionLength_11 (by repeat (first | assumption | exact hs_self (by assumption) | exact hs_self (hs_ne (by omega) (by assumption)) | exact hs_self (hs_ne (by omega) (hs_ne (by omega) (by assumption))) | refine hs_ne (by omega) ?_)) (by omega) (by omega) (by decide) ?_
  refine x_top (w := vI (d a)) rfl ?_
  refine x_callS1 (M' := M_PC_isOneOf) d_PC_repetitionLength_12 lk_PC_63 (c_rpt E h (d a) (by omega)) mt_PC_isOneOf st_PC_isOneOf (by decide) rfl (Nat.le_of_ble_eq_true rfl) (by decide) (by decide) ?_
  refine j_if_eq 32 d_PC_repetitionLength_15 (by decide) iteR (fun c15 => ?_) (fun c15 => ?_)
  · rw [ite10] at c15
    exact no _ (fun x => c15 x.2.1)
  rw [ite11] at c15
  refine x_aload_n d_PC_repetitionLength_18 rfl rfl (by first | rfl | assumption) ?_
  refine x_iload_n d_PC_repetitionLength_19 rfl rfl ?_
  refine j_iconst d_PC_repetitionLength_20 ?_
  refine j_iadd d_PC_repetitionLength_21 ?_
  refine j_cald d_PC_repetitionLength_22 (by repeat (first | assumption | exact hs_self (by assumption) | exact hs_self (hs_ne (by omega) (by assumption)) | exact hs_self (hs_ne (by omega) (hs_ne (by omega) (by assumption))) | refine hs_ne (by omega) ?_)) (by omega) (by omega) (by decide) ?_
  refine x_top (w := vI (d (a + 1))) rfl ?_
  refine j_bipush d_PC_repetitionLength_23 (by decide) ?_
  refine j_icmp_ne 32 d_PC_repetitionLength_25 (by decide) (by unfold iR; omega) (by unfold iR; omega) (fun c25 => ?_) (fun c25 => ?_)
  · exact no _ (fun x => c25 x.2.2)
  refine j_iconst d_PC_repetitionLength_28 ?_
  refine x_goto 33 d_PC_repetitionLength_29 (by decide) ?_
  refine x_istore_n d_PC_repetitionLength_33 rfl (Nat.le_of_ble_eq_true rfl) ?_
  refine x_iload_n d_PC_repetitionLength_34 rfl rfl ?_
  refine j_if_eq 49 d_PC_repetitionLength_35 (by decide) (by unfold iR; omega) (fun c35 => ?_) (fun c35 => ?_)
  · exact absurd c35 (by decide)
  refine x_aload_n d_PC_repetitionLength_38 rfl rfl (by first | rfl | assumption) ?_
  refine x_iload_n d_PC_repetitionLength_39 rfl rfl ?_
  refine j_iconst d_PC_repetitionLength_40 ?_
  refine j_iadd d_PC_repetitionLength_41 ?_
  refine j_cald d_PC_repetitionLength_42 (by repeat (first | assumption | exact hs_self (by assumption) | exact hs_self (hs_ne (by omega) (by assumption)) | exact hs_self (hs_ne (by omega) (hs_ne (by omega) (by assumption))) | refine hs_ne (by omega) ?_)) (by omega) (by omega) (by decide) ?_
  refine x_top (w := vI (d (a + 2))) rfl ?_
  refine x_callS1 (M' := M_PC_isDigit) d_PC_repetitionLength_43 lk_PC_67 (c_isDigitC E h (d (a + 2)) (by omega)) mt_PC_isDigit st_PC_isDigit (by decide) rfl (Nat.le_of_ble_eq_true rfl) (by decide) (by decide) ?_
  refine j_if_ne 51 d_PC_repetitionLength_46 (by decide) iteR (fun c46 => ?_) (fun c46 => ?_)
  · rw [ite11] at c46
    have hb : (a + 3 < n ∧ rpt (d a) ∧ d (a + 1) = 40) ∧ dig (d (a + 2)) := ⟨⟨by omega, c15, c25⟩, c46⟩
    clear c15
    refine x_aload_n d_PC_repetitionLength_51 rfl rfl (by first | rfl | assumption) ?_
    refine x_iload_n d_PC_repetitionLength_52 rfl rfl ?_
    refine j_iconst d_PC_repetitionLength_53 ?_
    refine j_iadd d_PC_repetitionLength_54 ?_
    refine j_cald d_PC_repetitionLength_55 (by repeat (first | assumption | exact hs_self (by assumption) | exact hs_self (hs_ne (by omega) (by assumption)) | exact hs_self (hs_ne (by omega) (hs_ne (by omega) (by assumption))) | refine hs_ne (by omega) ?_)) (by omega) (by omega) (by decide) ?_
    refine x_top (w := vI (d (a + 3))) rfl ?_
    refine j_bipush d_PC_repetitionLength_56 (by decide) ?_
    refine j_icmp_ne 63 d_PC_repetitionLength_58 (by decide) (by unfold iR; omega) (by unfold iR; omega) (fun c58 => ?_) (fun c58 => ?_)
    · refine x_iload_n d_PC_repetitionLength_63 rfl rfl ?_
      refine j_iconst d_PC_repetitionLength_64 ?_
      refine j_iadd d_PC_repetitionLength_65 ?_
      refine x_iload_n d_PC_repetitionLength_66 rfl rfl ?_
      refine j_icmp_ge 95 d_PC_repetitionLength_67 (by decide) (by unfold iR; omega) (by unfold iR; omega) (fun c67 => ?_) (fun c67 => ?_)
      · refine j_iconst d_PC_repetitionLength_95 ?_
        refine x_ireturn d_PC_repetitionLength_96 rfl ?_
        exact rV_i (rl_y0 c58 (fun x => by have := x.1; omega)) rfl
      have d4 := hd (a + 4) (by omega)
      refine x_aload_n d_PC_repetitionLength_70 rfl rfl (by first | rfl | assumption) ?_
      refine x_iload_n d_PC_repetitionLength_71 rfl rfl ?_
      refine j_iconst d_PC_repetitionLength_72 ?_
      refine j_iadd d_PC_repetitionLength_73 ?_
      refine j_cald d_PC_repetitionLength_74 (by repeat (first | assumption | exact hs_self (by assumption) | exact hs_self (hs_ne (by omega) (by assumption)) | exact hs_self (hs_ne (by omega) (hs_ne (by omega) (by assumption))) | refine hs_ne (by omega) ?_)) (by omega) (by omega) (by decide) ?_
      refine x_top (w := vI (d (a + 3))) rfl ?_
      refine x_callS1 (M' := M_PC_isDigit) d_PC_repetitionLength_75 lk_PC_67 (c_isDigitC E h (d (a + 3)) (by omega)) mt_PC_isDigit st_PC_isDigit (by decide) rfl (Nat.le_of_ble_eq_true rfl) (by decide) (by decide) ?_
      refine j_if_eq 95 d_PC_repetitionLength_78 (by decide) iteR (fun c78 => ?_) (fun c78 => ?_)
      · rw [ite10] at c78
        refine j_iconst d_PC_repetitionLength_95 ?_
        refine x_ireturn d_PC_repetitionLength_96 rfl ?_
        exact rV_i (rl_y0 c58 (fun x => c78 x.2.1)) rfl
      rw [ite11] at c78
      refine x_aload_n d_PC_repetitionLength_81 rfl rfl (by first | rfl | assumption) ?_
      refine x_iload_n d_PC_repetitionLength_82 rfl rfl ?_
      refine j_iconst d_PC_repetitionLength_83 ?_
      refine j_iadd d_PC_repetitionLength_84 ?_
      refine j_cald d_PC_repetitionLength_85 (by repeat (first | assumption | exact hs_self (by assumption) | exact hs_self (hs_ne (by omega) (by assumption)) | exact hs_self (hs_ne (by omega) (hs_ne (by omega) (by assumption))) | refine hs_ne (by omega) ?_)) (by omega) (by omega) (by decide) ?_
      refine x_top (w := vI (d (a + 4))) rfl ?_
      refine j_bipush d_PC_repetitionLength_86 (by decide) ?_
      refine j_icmp_ne 95 d_PC_repetitionLength_88 (by decide) (by unfold iR; omega) (by unfold iR; omega) (fun c88 => ?_) (fun c88 => ?_)
      · refine j_iconst d_PC_repetitionLength_95 ?_
        refine x_ireturn d_PC_repetitionLength_96 rfl ?_
        exact rV_i (rl_y0 c58 (fun x => c88 x.2.2)) rfl
      · refine j_iconst d_PC_repetitionLength_91 ?_
        refine x_goto 96 d_PC_repetitionLength_92 (by decide) ?_
        refine x_ireturn d_PC_repetitionLength_96 rfl ?_
        exact rV_i (rl_y5 hb c58 ⟨by omega, c78, c88⟩) rfl
    · refine j_iconst d_PC_repetitionLength_61 ?_
      refine x_ireturn d_PC_repetitionLength_62 rfl ?_
      exact rV_i (rl_y4 hb c58) rfl
  · rw [ite10] at c46
    refine j_iconst d_PC_repetitionLength_49 ?_
    refine x_ireturn d_PC_repetitionLength_50 rfl ?_
    exact rV_i (rl_no (fun x => c46 x.2)) rfl
set_option maxHeartbeats 1000000 in
theorem c_reps (E : xEnv) (h : xH) (q a t : Nat) (d : Nat → Int) (hq : h[q]? = some (aC 24 d)) (hd : ∀ i, i < 24 → 0 ≤ d i ∧ d i ≤ 126) (ha : a + 3 < 24) (ht : t ≤ 5) : xCt E 0 0 0 M_PC_repetitions [.ref q, vI a, vI t] h (rV (vI (rt d a t)) h) := by
  refine x_met rfl rfl (Nat.le_of_ble_eq_true rfl) ?_
  have d2 := hd (a + 2) (by omega)
  have d3 := hd (a + 3) (by omega)
  refine x_aload_n d_PC_repetitions_0 rfl rfl (by first | rfl | assumption) ?_
  refine x_iload_n d_PC_repetitions_1 rfl rfl ?_
  refine j_iconst d_PC_repetitions_2 ?_
  refine j_iadd d_PC_repetitions_3 ?_
  refine j_cald d_PC_repetitions_4 (by repeat (first | assumption | exact hs_self (by assumption) | exact hs_self (hs_ne (by omega) (by assumption)) | exact hs_self (hs_ne (by omega) (hs_ne (by omega) (by assumption))) | refine hs_ne (by omega) ?_)) (by omega) (by omega) (by decide) ?_
  refine x_top (w := vI (d (a + 2))) rfl ?_
  refine j_bipush d_PC_repetitions_5 (by decide) ?_
  refine j_isub d_PC_repetitions_7 ?_
  refine x_istore_n d_PC_repetitions_8 rfl (Nat.le_of_ble_eq_true rfl) ?_
  refine x_iload_n d_PC_repetitions_9 rfl rfl ?_
  refine j_iconst d_PC_repetitions_10 ?_
  refine j_icmp_ne 18 d_PC_repetitions_11 (by decide) (by unfold iR; omega) (by unfold iR; omega) (fun c11 => ?_) (fun c11 => ?_)
  · refine j_bipush d_PC_repetitions_18 (by decide) ?_
    refine x_iload_n d_PC_repetitions_20 rfl rfl ?_
    refine j_imul d_PC_repetitions_21 ?_
    refine x_aload_n d_PC_repetitions_22 rfl rfl (by first | rfl | assumption) ?_
    refine x_iload_n d_PC_repetitions_23 rfl rfl ?_
    refine j_iconst d_PC_repetitions_24 ?_
    refine j_iadd d_PC_repetitions_25 ?_
    refine j_cald d_PC_repetitions_26 (by repeat (first | assumption | exact hs_self (by assumption) | exact hs_self (hs_ne (by omega) (by assumption)) | exact hs_self (hs_ne (by omega) (hs_ne (by omega) (by assumption))) | refine hs_ne (by omega) ?_)) (by omega) (by omega) (by decide) ?_
    refine x_top (w := vI (d (a + 3))) rfl ?_
    refine j_iadd d_PC_repetitions_27 ?_
    refine j_bipush d_PC_repetitions_28 (by decide) ?_
    refine j_isub d_PC_repetitions_30 ?_
    refine x_ireturn d_PC_repetitions_31 rfl ?_
    exact rV_i (by unfold rt; rw [if_neg (by omega)]) rfl
  · refine x_iload_n d_PC_repetitions_14 rfl rfl ?_
    refine x_goto 31 d_PC_repetitions_15 (by decide) ?_
    refine x_ireturn d_PC_repetitions_31 rfl ?_
    exact rV_i (by unfold rt; rw [if_pos (by omega)]) rfl
theorem hs_sw {h : xH} {p q : Nat} {A O A' : va_E} (e : p ≠ q) : ((h.set q A).set p O).set q A' = (h.set q A').set p O := by
  rw [List.set_comm _ _ e, List.set_set]
section PCA
variable {E : xEnv} {h : xH} {p q : Nat} {dg sc sg ed bs be fi fl : Int} {G : Nat → Int}
set_option maxHeartbeats 1000000 in
theorem c_appendN {ct c k : Int} (hp : h[p]? = some (oP q ct dg sc sg ed bs be fi fl)) (hct : 0 ≤ ct ∧ ct ≤ 18) (hc : 0 ≤ c ∧ c ≤ 126) (hk : 0 ≤ k ∧ k ≤ 99) (hb : c = 40 ∨ c = 41 ∨ k = 0 ∨ 18 < ct + k) : xCt E 0 0 0 M_PC_append [.ref p, vI c, vI k] h (rV (vI 0) h) := by
  refine x_met rfl rfl (Nat.le_of_ble_eq_true rfl) ?_
  refine x_iload_n d_PC_append_0 rfl rfl ?_
  refine j_bipush d_PC_append_1 (by decide) ?_
  refine j_icmp_eq 27 d_PC_append_3 (by decide) (by unfold iR; omega) (by unfold iR; omega) (fun c3 => ?_) (fun c3 => ?_)
  · refine j_iconst d_PC_append_27 ?_
    refine j_zreturn d_PC_append_28 rfl (by omega) ?_
    exact rV_i rfl rfl
  · refine x_iload_n d_PC_append_6 rfl rfl ?_
    refine j_bipush d_PC_append_7 (by decide) ?_
    refine j_icmp_eq 27 d_PC_append_9 (by decide) (by unfold iR; omega) (by unfold iR; omega) (fun c9 => ?_) (fun c9 => ?_)
    · refine j_iconst d_PC_append_27 ?_
      refine j_zreturn d_PC_append_28 rfl (by omega) ?_
      exact rV_i rfl rfl
    · refine x_iload_n d_PC_append_12 rfl rfl ?_
      refine j_if_eq 27 d_PC_append_13 (by decide) (by unfold iR; omega) (fun c13 => ?_) (fun c13 => ?_)
      · refine j_iconst d_PC_append_27 ?_
        refine j_zreturn d_PC_append_28 rfl (by omega) ?_
        exact rV_i rfl rfl
      · refine x_aload_n d_PC_append_16 rfl rfl (by first | rfl | assumption) ?_
        refine x_get 2 1 d_PC_append_17 gf_PC_37 (by repeat (first | assumption | exact hs_self (by assumption) | exact hs_self (hs_ne (by omega) (by assumption)) | exact hs_self (hs_ne (by omega) (hs_ne (by omega) (by assumption))) | refine hs_ne (by omega) ?_)) (by rfl) ?_
        refine x_iload_n d_PC_append_20 rfl rfl ?_
        refine j_iadd d_PC_append_21 ?_
        refine j_bipush d_PC_append_22 (by decide) ?_
        refine j_icmp_le 29 d_PC_append_24 (by decide) (by unfold iR; omega) (by unfold iR; omega) (fun c24 => ?_) (fun c24 => ?_)
        · exfalso; omega
        · refine j_iconst d_PC_append_27 ?_
          refine j_zreturn d_PC_append_28 rfl (by omega) ?_
          exact rV_i rfl rfl
set_option maxHeartbeats 1000000 in
theorem c_appendY {ct k : Nat} {c : Int} (hp : h[p]? = some (oP q ct dg sc sg ed bs be fi fl)) (hq : h[q]? = some (aC 18 G)) (hpq : p ≠ q) (hc : 0 ≤ c ∧ c ≤ 126) (hb : ¬ (c = 40 ∨ c = 41 ∨ k = 0 ∨ 18 < ct + k)) : xCt E 0 0 0 M_PC_append [.ref p, vI c, vI k] h (rV (vI 1) ((h.set q (aC 18 (apS G ct c k))).set p (oP q ((ct + k : Nat) : Int) dg sc sg ed bs be fi fl))) := by
  refine x_met rfl rfl (Nat.le_of_ble_eq_true rfl) ?_
  have loop : ∀ (r i : Nat) (z y : Int), i + r = k → z = i → y = (ct + i : Nat) → X E M_PC_append 0 0 0 (xZ E 0 0 (rV (vI 1) ((h.set q (aC 18 (apS G ct c k))).set p (oP q ((ct + k : Nat) : Int) dg sc sg ed bs be fi fl)))) 31 [some (.ref p), some (vI c), some (vI k), some (vI z)] [] ((h.set q (aC 18 (apS G ct c i))).set p (oP q y dg sc sg ed bs be fi fl)) 0 0 := by
    intro r
    induction r with
    | zero =>
      intro i z y hi hz hy
      refine x_iload_n d_PC_append_31 rfl rfl ?_
      refine x_iload_n d_PC_append_32 rfl rfl ?_
      refine j_icmp_ge 62 d_PC_append_33 (by decide) (by unfold iR; omega) (by unfold iR; omega) (fun c33 => ?_) (fun c33 => ?_)
      · refine j_iconst d_PC_append_62 ?_
        refine j_zreturn d_PC_append_63 rfl (by omega) ?_
        exact ⟨rfl, by rw [hy, show i = k by omega]⟩
      · exfalso; omega
    | succ r ih =>
      intro i z y hi hz hy
      refine x_iload_n d_PC_append_31 rfl rfl ?_
      refine x_iload_n d_PC_append_32 rfl rfl ?_
      refine j_icmp_ge 62 d_PC_append_33 (by decide) (by unfold iR; omega) (by unfold iR; omega) (fun c33 => ?_) (fun c33 => ?_)
      · exfalso; omega
      refine x_aload_n d_PC_append_36 rfl rfl (by first | rfl | assumption) ?_
      refine x_get 2 0 d_PC_append_37 gf_PC_9 (by repeat (first | assumption | exact hs_self (by assumption) | exact hs_self (hs_ne (by omega) (by assumption)) | exact hs_self (hs_ne (by omega) (hs_ne (by omega) (by assumption))) | refine hs_ne (by omega) ?_)) (by rfl) ?_
      refine x_aload_n d_PC_append_40 rfl rfl (by first | rfl | assumption) ?_
      refine x_get 2 1 d_PC_append_41 gf_PC_37 (by repeat (first | assumption | exact hs_self (by assumption) | exact hs_self (hs_ne (by omega) (by assumption)) | exact hs_self (hs_ne (by omega) (hs_ne (by omega) (by assumption))) | refine hs_ne (by omega) ?_)) (by rfl) ?_
      refine x_iload_n d_PC_append_44 rfl rfl ?_
      refine j_cast d_PC_append_45 (by repeat (first | assumption | exact hs_self (by assumption) | exact hs_self (hs_ne (by omega) (by assumption)) | exact hs_self (hs_ne (by omega) (hs_ne (by omega) (by assumption))) | refine hs_ne (by omega) ?_)) (by omega) (by omega) (by decide) (by omega) (by omega) ?_
      rw [hs_sw hpq, show y.toNat = ct + i by omega, apS_s]
      refine x_aload_n d_PC_append_46 rfl rfl (by first | rfl | assumption) ?_
      refine x_dup d_PC_append_47 rfl ?_
      refine x_get 2 1 d_PC_append_48 gf_PC_37 (by repeat (first | assumption | exact hs_self (by assumption) | exact hs_self (hs_ne (by omega) (by assumption)) | exact hs_self (hs_ne (by omega) (hs_ne (by omega) (by assumption))) | refine hs_ne (by omega) ?_)) (by rfl) ?_
      refine j_iconst d_PC_append_51 ?_
      refine j_iadd d_PC_append_52 ?_
      refine xp_PC_1 d_PC_append_53 pf_PC_append_37 (by repeat (first | assumption | exact hs_self (by assumption) | exact hs_self (hs_ne (by omega) (by assumption)) | exact hs_self (hs_ne (by omega) (hs_ne (by omega) (by assumption))) | refine hs_ne (by omega) ?_)) ?_
      refine j_iinc d_PC_append_56 rfl ?_
      refine x_goto 31 d_PC_append_59 (by decide) ?_
      rw [List.set_set]
      exact ih (i + 1) _ _ (by omega) (by omega) (by omega)
  refine x_iload_n d_PC_append_0 rfl rfl ?_
  refine j_bipush d_PC_append_1 (by decide) ?_
  refine j_icmp_eq 27 d_PC_append_3 (by decide) (by unfold iR; omega) (by unfold iR; omega) (fun c3 => ?_) (fun c3 => ?_)
  · exfalso; omega
  refine x_iload_n d_PC_append_6 rfl rfl ?_
  refine j_bipush d_PC_append_7 (by decide) ?_
  refine j_icmp_eq 27 d_PC_append_9 (by decide) (by unfold iR; omega) (by unfold iR; omega) (fun c9 => ?_) (fun c9 => ?_)
  · exfalso; omega
  refine x_iload_n d_PC_append_12 rfl rfl ?_
  refine j_if_eq 27 d_PC_append_13 (by decide) (by unfold iR; omega) (fun c13 => ?_) (fun c13 => ?_)
  · exfalso; omega
  refine x_aload_n d_PC_append_16 rfl rfl (by first | rfl | assumption) ?_
  refine x_get 2 1 d_PC_append_17 gf_PC_37 (by repeat (first | assumption | exact hs_self (by assumption) | exact hs_self (hs_ne (by omega) (by assumption)) | exact hs_self (hs_ne (by omega) (hs_ne (by omega) (by assumption))) | refine hs_ne (by omega) ?_)) (by rfl) ?_
  refine x_iload_n d_PC_append_20 rfl rfl ?_
  refine j_iadd d_PC_append_21 ?_
  refine j_bipush d_PC_append_22 (by decide) ?_
  refine j_icmp_le 29 d_PC_append_24 (by decide) (by unfold iR; omega) (by unfold iR; omega) (fun c24 => ?_) (fun c24 => ?_)
  · refine j_iconst d_PC_append_29 ?_
    refine x_istore_n d_PC_append_30 rfl (Nat.le_of_ble_eq_true rfl) ?_
    have := loop k 0 0 ct (by omega) rfl (by omega)
    rw [apS_0, hset_id hq, hset_id hp] at this
    exact this
  · exfalso; omega
end PCA
set_option maxHeartbeats 1000000 in
theorem c_writeOut (E : xEnv) (h : xH) (p q u n : Nat) (ct0 dg sc sg ed bs be fi fl : Int) (G0 d : Nat → Int) (hp : h[p]? = some (oP q ct0 dg sc sg ed bs be fi fl)) (hq : h[q]? = some (aC 18 G0)) (hu : h[u]? = some (aC 24 d)) (hpq : p ≠ q) (hpu : p ≠ u) (hqu : q ≠ u) (hG0 : ∀ j, j < 18 → 0 ≤ G0 j ∧ G0 j ≤ 126) (hd : ∀ i, i < 24 → 0 ≤ d i ∧ d i ≤ 126) (hn : n ≤ 24) : xCt E 6 0 0 M_PC_writeOut [.ref p, .ref u, vI n] h (rQ (fun w h' => ∃ (G : Nat → Int) (ct : Nat), h' = (h.set q (aC 18 G)).set p (oP q ct dg sc sg ed bs be fi fl) ∧ (∀ j, j < 18 → 0 ≤ G j ∧ G j ≤ 126) ∧ ct ≤ 18 ∧ ((w = vI 0 ∧ dRd d n = none) ∨ (w = vI 1 ∧ ∃ G1, dRd d n = some (G1, ct) ∧ ∀ j, j < ct → G j = G1 j)))) := by
  refine x_met rfl rfl (Nat.le_of_ble_eq_true rfl) ?_
  obtain ⟨Z, hZ⟩ : ∃ Z, Z = (xZ E 0 0 (rQ (fun w h' => ∃ (G : Nat → Int) (ct : Nat), h' = (h.set q (aC 18 G)).set p (oP q ct dg sc sg ed bs be fi fl) ∧ (∀ j, j < 18 → 0 ≤ G j ∧ G j ≤ 126) ∧ ct ≤ 18 ∧ ((w = vI 0 ∧ dRd d n = none) ∨ (w = vI 1 ∧ ∃ G1, dRd d n = some (G1, ct) ∧ ∀ j, j < ct → G j = G1 j))))) := ⟨_, rfl⟩
  have loop : ∀ (f a : Nat) (z y : Int) (x4 x5 : Option Value) (ct : Nat) (G G1 : Nat → Int), n < a + f → a ≤ n → z = a → y = ct → ct ≤ 18 → (∀ j, j < 18 → 0 ≤ G j ∧ G j ≤ 126) → (∀ j, j < ct → G j = G1 j) → wO d n f a G1 ct = wO d n 25 0 (fun _ => 0) 0 → X E M_PC_writeOut 6 0 0 Z 7 [some (.ref p), some (.ref u), some (vI n), some (vI z), x4, x5] [] ((h.set q (aC 18 G)).set p (oP q y dg sc sg ed bs be fi fl)) 0 0 := by
    intro f
    induction f with
    | zero => intro a z y x4 x5 ct G G1 h1 h2; exfalso; omega
    | succ f ih =>
      intro a z y x4 x5 ct G G1 h1 h2 hz hy hct hG hGG hw
      subst hz; subst hy
      refine x_iload_n d_PC_writeOut_7 rfl rfl ?_
      refine x_iload_n d_PC_writeOut_8 rfl rfl ?_
      refine j_icmp_ge 64 d_PC_writeOut_9 (by decide) (by unfold iR; omega) (by unfold iR; omega) (fun c9 => ?_) (fun c9 => ?_)
      · rw [wO_end (by omega)] at hw
        rw [hZ]
        refine x_aload_n d_PC_writeOut_64 rfl rfl (by first | rfl | assumption) ?_
        refine x_get 2 1 d_PC_writeOut_65 gf_PC_37 (by repeat (first | assumption | exact hs_self (by assumption) | exact hs_self (hs_ne (by omega) (by assumption)) | exact hs_self (hs_ne (by omega) (hs_ne (by omega) (by assumption))) | refine hs_ne (by omega) ?_)) (by rfl) ?_
        refine j_if_le 75 d_PC_writeOut_68 (by decide) (by unfold iR; omega) (fun c68 => ?_) (fun c68 => ?_)
        · refine j_iconst d_PC_writeOut_75 ?_
          refine j_zreturn d_PC_writeOut_76 rfl (by omega) ?_
          refine ⟨_, rfl, G, ct, rfl, hG, hct, Or.inl ⟨rfl, ?_⟩⟩
          unfold dRd; rw [← hw]; exact if_neg (by omega)
        · refine j_iconst d_PC_writeOut_71 ?_
          refine x_goto 76 d_PC_writeOut_72 (by decide) ?_
          refine j_zreturn d_PC_writeOut_76 rfl (by omega) ?_
          refine ⟨_, rfl, G, ct, rfl, hG, hct, Or.inr ⟨rfl, G1, ?_, hGG⟩⟩
          unfold dRd; rw [← hw]; exact if_pos (by omega)
      have ha : a < n := by omega
      have hrl := rl_c d n a
      have htm := tm_r d n a
      have hda := hd a (by omega)
      have hrn : rl d n a = 4 → a + 3 < n := fun x => (rl_4 (n := n) (a := a) (d := d) (by omega)).1.1
      have hr5 : ¬ rl d n a = 0 → a + max 1 (rl d n a) ≤ n := by
        intro x
        obtain ⟨⟨y1, -, -⟩, -, y2⟩ := rl_4 x
        rcases y2 with y2 | ⟨-, y2⟩ <;> omega
      have fin : ∀ (t : Int), t = tm d n a → X E M_PC_writeOut 6 0 0 Z 36 [some (.ref p), some (.ref u), some (vI n), some (vI (a : Int)), some (vI (rl d n a : Int)), x5] [vI t] ((h.set q (aC 18 G)).set p (oP q ct dg sc sg ed bs be fi fl)) 0 0 := by
        intro t ht
        refine x_istore d_PC_writeOut_36 (Nat.le_of_ble_eq_true rfl) ?_
        refine x_aload_n d_PC_writeOut_38 rfl rfl (by first | rfl | assumption) ?_
        refine x_aload_n d_PC_writeOut_39 rfl rfl (by first | rfl | assumption) ?_
        refine x_iload_n d_PC_writeOut_40 rfl rfl ?_
        refine j_cald d_PC_writeOut_41 (by repeat (first | assumption | exact hs_self (by assumption) | exact hs_self (hs_ne (by omega) (by assumption)) | exact hs_self (hs_ne (by omega) (hs_ne (by omega) (by assumption))) | refine hs_ne (by omega) ?_)) (by omega) (by omega) (by decide) ?_
        refine x_top (w := vI (d a)) rfl ?_
        by_cases hb : wbad d n a ct
        · rw [wO_bad ha hb] at hw
          refine x_iload d_PC_writeOut_42 rfl ?_
          refine x_callV1 (M' := M_PC_append) d_PC_writeOut_44 lk_PC_51 (c_appendN (hs_self (hs_ne (Ne.symm hpq) hp)) (by omega) hda (by omega) (by rw [ht]; exact hb)) mt_PC_append im_PC_append se_PC_append (by repeat (first | assumption | exact hs_self (by assumption) | exact hs_self (hs_ne (by omega) (by assumption)) | exact hs_self (hs_ne (by omega) (hs_ne (by omega) (by assumption))) | refine hs_ne (by omega) ?_)) rfl (by decide) rfl (Nat.le_of_ble_eq_true rfl) (by decide) (by decide) ?_
          refine j_if_ne 52 d_PC_writeOut_47 (by decide) (by unfold iR; omega) (fun c47 => ?_) (fun c47 => ?_)
          · exact absurd rfl c47
          · rw [hZ]
            refine j_iconst d_PC_writeOut_50 ?_
            refine j_zreturn d_PC_writeOut_51 rfl (by omega) ?_
            refine ⟨_, rfl, G, ct, rfl, hG, hct, Or.inl ⟨rfl, ?_⟩⟩
            unfold dRd; rw [← hw]
        · rw [wO_go ha hb] at hw
          refine x_iload d_PC_writeOut_42 rfl ?_
          refine x_top (w := vI ((tm d n a).toNat : Int)) (by rw [ht, Int.toNat_of_nonneg htm.1]) ?_
          refine x_callV1 (M' := M_PC_append) d_PC_writeOut_44 lk_PC_51 (c_appendY (hs_self (hs_ne (Ne.symm hpq) hp)) (hs_ne hpq (hs_self hq)) hpq hda (by omega)) mt_PC_append im_PC_append se_PC_append (by repeat (first | assumption | exact hs_self (by assumption) | exact hs_self (hs_ne (by omega) (by assumption)) | exact hs_self (hs_ne (by omega) (hs_ne (by omega) (by assumption))) | refine hs_ne (by omega) ?_)) rfl (by decide) rfl (Nat.le_of_ble_eq_true rfl) (by decide) (by decide) ?_
          refine j_if_ne 52 d_PC_writeOut_47 (by decide) (by unfold iR; omega) (fun c47 => ?_) (fun c47 => ?_)
          · rw [hs_sw hpq, List.set_set]
            refine x_iload_n d_PC_writeOut_52 rfl rfl ?_
            refine j_iconst d_PC_writeOut_53 ?_
            refine x_iload d_PC_writeOut_54 rfl ?_
            refine j_imax d_PC_writeOut_56 lk_PC_55w (by unfold iR; omega) (by unfold iR; omega) (by decide) (Nat.le_of_ble_eq_true rfl) ?_
            refine j_iadd d_PC_writeOut_59 ?_
            refine x_istore_n d_PC_writeOut_60 rfl (Nat.le_of_ble_eq_true rfl) ?_
            refine x_goto 7 d_PC_writeOut_61 (by decide) ?_
            refine ih (a + max 1 (rl d n a)) _ _ _ _ (ct + (tm d n a).toNat) _ (apS G1 ct (d a) (tm d n a).toNat) (by omega) ?_ (by omega) rfl (by omega) (apS_r hG hda) (fun j hj => apS_ag hGG hj) hw
            by_cases hr0 : rl d n a = 0
            · omega
            · exact hr5 hr0
          · exact absurd c47 (by decide)
      refine x_aload_n d_PC_writeOut_12 rfl rfl (by first | rfl | assumption) ?_
      refine x_iload_n d_PC_writeOut_13 rfl rfl ?_
      refine x_iload_n d_PC_writeOut_14 rfl rfl ?_
      refine x_callS1 (M' := M_PC_repetitionLength) d_PC_writeOut_15 lk_PC_44 (c_repLen E _ u n a d (hs_ne hpu (hs_ne hqu hu)) hd hn ha) mt_PC_repetitionLength st_PC_repetitionLength (by decide) rfl (Nat.le_of_ble_eq_true rfl) (by decide) (by decide) ?_
      refine x_istore d_PC_writeOut_18 (Nat.le_of_ble_eq_true rfl) ?_
      refine x_iload d_PC_writeOut_20 rfl ?_
      refine j_if_ne 29 d_PC_writeOut_22 (by decide) (by unfold iR; omega) (fun c22 => ?_) (fun c22 => ?_)
      · refine x_aload_n d_PC_writeOut_29 rfl rfl (by first | rfl | assumption) ?_
        refine x_iload_n d_PC_writeOut_30 rfl rfl ?_
        refine x_iload d_PC_writeOut_31 rfl ?_
        refine x_callS1 (M' := M_PC_repetitions) d_PC_writeOut_33 lk_PC_48 (c_reps E _ u a (rl d n a) d (hs_ne hpu (hs_ne hqu hu)) hd (by omega) (by omega)) mt_PC_repetitions st_PC_repetitions (by decide) rfl (Nat.le_of_ble_eq_true rfl) (by decide) (by decide) ?_
        exact fin _ (by unfold tm; rw [if_neg (by omega)])
      · refine j_iconst d_PC_writeOut_25 ?_
        refine x_goto 36 d_PC_writeOut_26 (by decide) ?_
        exact fin _ (by unfold tm; rw [if_pos (by omega)])
  rw [← hZ]
  have e := loop 25 0 0 0 none none 0 G0 (fun _ => 0) (by omega) (by omega) rfl rfl (by omega) hG0 (fun j hj => by omega) rfl
  rw [hset_id hq] at e
  refine x_aload_n d_PC_writeOut_0 rfl rfl (by first | rfl | assumption) ?_
  refine j_iconst d_PC_writeOut_1 ?_
  refine xp_PC_1 d_PC_writeOut_2 pf_PC_writeOut_37 (by repeat (first | assumption | exact hs_self (by assumption) | exact hs_self (hs_ne (by omega) (by assumption)) | exact hs_self (hs_ne (by omega) (hs_ne (by omega) (by assumption))) | refine hs_ne (by omega) ?_)) ?_
  refine j_iconst d_PC_writeOut_5 ?_
  refine x_istore_n d_PC_writeOut_6 rfl (Nat.le_of_ble_eq_true rfl) ?_
  exact e
