/-! new things -/
theorem iI_nn {nn : Nat} (h : nn ≤ 1000) : ¬ iI (nn : Int) < 0 := fun x => iI_in (z := nn) (n := nn + 1) (by omega) (by omega) (by omega) (Or.inl x)
theorem iI_cl {nn : Nat} (h : nn ≤ 1000) : (iI (nn : Int)).toNatClampNeg = nn := by rw [iI_clamp (by omega) (by omega)]; rfl
section XNA
variable {E : xEnv} {M : xM} {d K N : Nat} {Z : xEnd} {pc : Nat} {L : List (Option Value)} {st : List Value} {h : xH} {k n nn : Nat} {z : Int}
theorem n_char (hd : decode M.2.1 pc = .ok (.newarray .char, 2)) (hz : z = nn) (hb : nn ≤ 1000) (hk1 : k + 1 ≤ K) (hn1 : n + nn ≤ N) (kk : X E M d K N Z (pc + 2) L (.ref h.length :: st) (h ++ [aC nn (fun _ => 0)]) (k + 1) (n + nn)) : X E M d K N Z pc L (vI z :: st) h k n :=
  x_newa (ty := .char) (t := 2) (a0 := .inl (iF (fun _ => 0))) hd ac_char rfl rfl (fun _ _ x => va_nm_char x) (fun _ => rfl) (fun _ => rfl) (by rw [hz]; exact iI_nn hb) (by rw [hz]; exact iI_cl hb) (by show nn * 2 ≤ 536870912; omega) hk1 hn1 kk
theorem n_int (hd : decode M.2.1 pc = .ok (.newarray .int, 2)) (hz : z = nn) (hb : nn ≤ 1000) (hk1 : k + 1 ≤ K) (hn1 : n + nn ≤ N) (kk : X E M d K N Z (pc + 2) L (.ref h.length :: st) (h ++ [aI nn (fun _ => 0)]) (k + 1) (n + nn)) : X E M d K N Z pc L (vI z :: st) h k n :=
  x_newa (ty := .int) (t := 0) (a0 := .inl (iF (fun _ => 0))) hd ac_int rfl rfl (fun _ _ x => va_nm_int x) (fun _ => rfl) (fun _ => rfl) (by rw [hz]; exact iI_nn hb) (by rw [hz]; exact iI_cl hb) (by show nn * 4 ≤ 536870912; omega) hk1 hn1 kk
theorem n_long (hd : decode M.2.1 pc = .ok (.newarray .long, 2)) (hz : z = nn) (hb : nn ≤ 1000) (hk1 : k + 1 ≤ K) (hn1 : n + nn ≤ N) (kk : X E M d K N Z (pc + 2) L (.ref h.length :: st) (h ++ [aL nn (fun _ => 0)]) (k + 1) (n + nn)) : X E M d K N Z pc L (vI z :: st) h k n :=
  x_newa (ty := .long) (t := 1) (a0 := .inr (.inl (lF (fun _ => 0)))) hd ac_long rfl rfl (fun _ _ x => va_nm_long x) (fun _ => rfl) (fun _ => rfl) (by rw [hz]; exact iI_nn hb) (by rw [hz]; exact iI_cl hb) (by show nn * 8 ≤ 536870912; omega) hk1 hn1 kk
theorem n_bool (hd : decode M.2.1 pc = .ok (.newarray .boolean, 2)) (hz : z = nn) (hb : nn ≤ 1000) (hk1 : k + 1 ≤ K) (hn1 : n + nn ≤ N) (kk : X E M d K N Z (pc + 2) L (.ref h.length :: st) (h ++ [aZ nn (fun _ => 0)]) (k + 1) (n + nn)) : X E M d K N Z pc L (vI z :: st) h k n :=
  x_newa (ty := .boolean) (t := 3) (a0 := .inl (iF (fun _ => 0))) hd ac_boolean rfl rfl (fun _ _ x => va_nm_boolean x) (fun _ => rfl) (fun _ => rfl) (by rw [hz]; exact iI_nn hb) (by rw [hz]; exact iI_cl hb) (by show nn * 1 ≤ 536870912; omega) hk1 hn1 kk
theorem n_ref (hd : decode M.2.1 pc = .ok (.anewarray 20, 3)) (hcl : Cond.classLink M.1.cls 20 "PicturedRecord$Field" ∈ GW) (hz : z = nn) (hb : nn ≤ 1000) (hk1 : k + 1 ≤ K) (hn1 : n + nn ≤ N) (kk : X E M d K N Z (pc + 3) L (.ref h.length :: st) (h ++ [aR nn (fun _ => none)]) (k + 1) (n + nn)) : X E M d K N Z pc L (vI z :: st) h k n :=
  x_anew (Cn := "PicturedRecord$Field") hd hcl (fun s hF => hF.2.2.2.2.2.2 _ (List.mem_of_getElem? (i := 0) rfl)) rfl (by rw [hz]; exact iI_nn hb) (by rw [hz]; exact iI_cl hb) (by omega) hk1 hn1 kk
end XNA
theorem ha_nw {h : xH} {e : va_E} : (h ++ [e])[h.length]? = some e := ha_new rfl
set_option maxHeartbeats 1000000 in
theorem c_initPC {E : xEnv} {h : xH} {p : Nat} (hp : h[p]? = some (ob 2 [.null, vI 0, vI 0, vI 0, vI 0, vI 0, vI 0, vI 0, vI 0, vI 0])) : xCt E 1 1 18 M_PC_init [.ref p] h (rN ((h ++ [aC 18 (fun _ => 0)]).set p (oP h.length 0 0 0 0 0 0 0 32 0))) := by
  refine x_met rfl rfl (Nat.le_of_ble_eq_true rfl) ?_
  refine x_aload_n d_PC_init_0 rfl rfl (by first | rfl | assumption) ?_
  refine x_objInit d_PC_init_1 lk_PC_3w oi_i oi_c (by decide) (by decide) ?_
  refine x_aload_n d_PC_init_4 rfl rfl (by first | rfl | assumption) ?_
  refine j_bipush d_PC_init_5 (by decide) ?_
  refine n_char d_PC_init_7 rfl (by decide) (by decide) (by decide) ?_
  refine x_put 2 0 d_PC_init_9 pf_PC_init_9 (ha_old hp) (Nat.le_of_ble_eq_true rfl) rfl rfl ?_
  refine x_aload_n d_PC_init_12 rfl rfl (by first | rfl | assumption) ?_
  refine j_bipush d_PC_init_13 (by decide) ?_
  refine x_put 2 8 d_PC_init_15 pf_PC_init_15 (hs_self (ha_old hp)) (Nat.le_of_ble_eq_true rfl) (nar_c (by decide) (by decide)).1 (nar_c (by decide) (by decide)).2.1 ?_
  rw [List.set_set]
  refine x_return d_PC_init_18 rfl ?_
  exact ⟨rfl, rfl⟩
set_option maxHeartbeats 1000000 in
theorem c_initFD {E : xEnv} {h : xH} {f p q : Nat} {us at' ln ct dg sc sg ed bs be fi fl : Int} (hf : h[f]? = some (ob 1 [.null, vI 0, vI 0, vI 0, vI 0, vI 0, vI 0])) (hp : h[p]? = some (oP q ct dg sc sg ed bs be fi fl)) (hfp : f ≠ p) (hsg : sg = 0 ∨ sg = 1) (hed : ed = 0 ∨ ed = 1) : xCt E 1 0 0 M_FD_init [.ref f, .ref p, vI us, vI at', vI ln] h (rN (h.set f (oF p (if ed = 1 then 4 else us) at' ln dg sc sg))) := by
  refine x_met rfl rfl (Nat.le_of_ble_eq_true rfl) ?_
  refine x_aload_n d_FD_init_0 rfl rfl (by first | rfl | assumption) ?_
  refine x_objInit d_FD_init_1 lk_FD_3w oi_i oi_c (by decide) (by decide) ?_
  refine x_aload_n d_FD_init_4 rfl rfl (by first | rfl | assumption) ?_
  refine x_aload_n d_FD_init_5 rfl rfl (by first | rfl | assumption) ?_
  refine x_put 1 0 d_FD_init_6 pf_FD_init_9 hf (Nat.le_of_ble_eq_true rfl) rfl rfl ?_
  have fin : ∀ v : Int, v = (if ed = 1 then 4 else us) → X E M_FD_init 1 0 0 (xZ E 0 0 (rN (h.set f (oF p (if ed = 1 then 4 else us) at' ln dg sc sg)))) 22 [some (.ref f), some (.ref p), some (vI us), some (vI at'), some (vI ln)] [vI v, .ref f] (h.set f (ob 1 [.ref p, vI 0, vI 0, vI 0, vI 0, vI 0, vI 0])) 0 0 := by
    intro v hv
    refine x_put 1 1 d_FD_init_22 pf_FD_init_21 (hs_self hf) (Nat.le_of_ble_eq_true rfl) rfl rfl ?_
    rw [List.set_set]
    refine x_aload_n d_FD_init_25 rfl rfl (by first | rfl | assumption) ?_
    refine x_iload_n d_FD_init_26 rfl rfl ?_
    refine x_put 1 2 d_FD_init_27 pf_FD_init_25 (hs_self hf) (Nat.le_of_ble_eq_true rfl) rfl rfl ?_
    rw [List.set_set]
    refine x_aload_n d_FD_init_30 rfl rfl (by first | rfl | assumption) ?_
    refine x_iload d_FD_init_31 rfl ?_
    refine x_put 1 3 d_FD_init_33 pf_FD_init_28 (hs_self hf) (Nat.le_of_ble_eq_true rfl) rfl rfl ?_
    rw [List.set_set]
    refine x_aload_n d_FD_init_36 rfl rfl (by first | rfl | assumption) ?_
    refine x_aload_n d_FD_init_37 rfl rfl (by first | rfl | assumption) ?_
    refine x_get 2 2 d_FD_init_38 gf_FD_31 (by exact hs_ne hfp hp) (by rfl) ?_
    refine x_put 1 4 d_FD_init_41 pf_FD_init_34 (hs_self hf) (Nat.le_of_ble_eq_true rfl) rfl rfl ?_
    rw [List.set_set]
    refine x_aload_n d_FD_init_44 rfl rfl (by first | rfl | assumption) ?_
    refine x_aload_n d_FD_init_45 rfl rfl (by first | rfl | assumption) ?_
    refine x_get 2 3 d_FD_init_46 gf_FD_35 (by exact hs_ne hfp hp) (by rfl) ?_
    refine x_put 1 5 d_FD_init_49 pf_FD_init_38 (hs_self hf) (Nat.le_of_ble_eq_true rfl) rfl rfl ?_
    rw [List.set_set]
    refine x_aload_n d_FD_init_52 rfl rfl (by first | rfl | assumption) ?_
    refine x_aload_n d_FD_init_53 rfl rfl (by first | rfl | assumption) ?_
    refine x_get 2 4 d_FD_init_54 gf_FD_39 (by exact hs_ne hfp hp) (by rfl) ?_
    refine x_put 1 6 d_FD_init_57 pf_FD_init_42 (hs_self hf) (Nat.le_of_ble_eq_true rfl) (nar_z hsg).1 (nar_z hsg).2.1 ?_
    rw [List.set_set]
    refine x_return d_FD_init_60 rfl ?_
    exact ⟨rfl, by rw [hv]; rfl⟩
  refine x_aload_n d_FD_init_9 rfl rfl (by first | rfl | assumption) ?_
  refine x_aload_n d_FD_init_10 rfl rfl (by first | rfl | assumption) ?_
  refine x_get 2 5 d_FD_init_11 gf_FD_15 (by exact hs_ne hfp hp) (by rfl) ?_
  refine j_if_eq 21 d_FD_init_14 (by decide) (by unfold iR; omega) (fun c14 => ?_) (fun c14 => ?_)
  · refine x_iload_n d_FD_init_21 rfl rfl ?_
    exact fin _ (by rw [if_neg (by omega)])
  · refine j_iconst d_FD_init_17 ?_
    refine x_goto 22 d_FD_init_18 (by decide) ?_
    exact fin _ (by rw [if_pos (by omega)])
/-- the spare picture may say what it will -/
theorem CW_spare {h : xH} {po : Nat} {Y : LY} {S : ST} {G : Nat → Int} {ct dg sc sg ed bs be fi fl : Int} (hW : CW h po Y S) (hG : ∀ j, j < 18 → 0 ≤ G j ∧ G j ≤ 126) : CW ((h.set (lT Y) (aC 18 G)).set (lS Y) (oP (lT Y) ct dg sc sg ed bs be fi fl)) po Y S := by
  obtain ⟨w0, w1, ⟨mk, w2, w3⟩, ⟨T, s1, s2, s3, s4, s5, s6⟩, ⟨U, w4⟩, ⟨p1, p2, p0, ⟨ct0, dg0, sc0, sg0, ed0, bs0, be0, fi0, fl0, p3⟩, G0, p4, p5⟩, w5⟩ := hW
  refine ⟨hs_ne (by omega) (hs_ne (by omega) w0), hs_ne (by omega) (hs_ne (by omega) w1), ⟨mk, hs_ne (by omega) (hs_ne (by omega) w2), w3⟩, ⟨T, hs_ne (by omega) (hs_ne (by omega) s1), hs_ne (by omega) (hs_ne (by omega) s2), hs_ne (by omega) (hs_ne (by omega) s3), hs_ne (by omega) (hs_ne (by omega) s4), s5, s6⟩, ⟨U, hs_ne (by omega) (hs_ne (by omega) w4)⟩, ⟨p1, p2, p0, ⟨ct, dg, sc, sg, ed, bs, be, fi, fl, hs_self (hs_ne (Ne.symm p0) p3)⟩, G, hs_ne p0 (hs_self p4), hG⟩, fun i hi => ?_⟩
  obtain ⟨a, b⟩ := w5 i hi
  have := b
  obtain ⟨-, ⟨b1, b2, b3⟩, b4, b5, b6⟩ := this
  exact ⟨fAt_set (fAt_set a b4 b5 b6) b1 b2 b3, b⟩
/-- a field more -/
theorem CW_add {h hF : xH} {po : Nat} {Y : LY} {S : ST} {D : FD} {f sp st : Nat} {mk : Nat → Option Nat} (hW : CW h po Y S) (hf : f = h.length) (hsp : sp = h.length + 1) (hst : st = h.length + 2) (hlen : po + 26 ≤ h.length)
    (e0 : hF[po]? = some (oR po sp 0 ((zN S : Int) + 1) (zE S) (zF S))) (e4 : hF[po + 4]? = some (aR 12 mk)) (hmk : ∀ i, i < zN S + 1 → mk i = some (if i = zN S then f else lF' Y i)) (ef : hF[f]? = some (oF (lS Y) (fM D) (fO D) (fW D) (fN D) (fS D) (fG D))) (es : ∃ ct dg sc sg ed bs be fi fl : Int, hF[sp]? = some (oP st ct dg sc sg ed bs be fi fl)) (et : hF[st]? = some (aC 18 (fun _ => 0)))
    (fr : ∀ i, i < h.length → i ≠ po → i ≠ po + 4 → hF[i]? = h[i]?) (hD : fM D = 4 → (∃ dg sc sg ed : Int, h[lS Y]? = some (oP (lT Y) (fC D) dg sc sg ed (fH D) (fB D) (fI D) (fL D))) ∧ h[lT Y]? = some (aC 18 (fY D))) :
    CW hF po (sp, st, fun i => if i = zN S then f else lF' Y i, fun i => if i = zN S then lS Y else lP Y i, fun i => if i = zN S then lT Y else lQ Y i) (sAdd S D) := by
  obtain ⟨w0, w1, ⟨mk0, w2, w3⟩, ⟨T, s1, s2, s3, s4, s5, s6⟩, ⟨U, w4⟩, ⟨p1, p2, p0, ⟨ct0, dg0, sc0, sg0, ed0, bs0, be0, fi0, fl0, p3⟩, G0, p4, p5⟩, w5⟩ := hW
  have lt : ∀ {i : Nat} {e : va_E}, h[i]? = some e → i < h.length := fun x => (List.getElem?_eq_some_iff.mp x).1
  have l1 := lt p3
  have l2 := lt p4
  refine ⟨e0, by rw [fr _ (by omega) (by omega) (by omega)]; exact w1, ⟨mk, e4, hmk⟩, ⟨T, by rw [fr _ (by omega) (by omega) (by omega)]; exact s1, by rw [fr _ (by omega) (by omega) (by omega)]; exact s2, by rw [fr _ (by omega) (by omega) (by omega)]; exact s3, by rw [fr _ (by omega) (by omega) (by omega)]; exact s4, s5, s6⟩, ⟨U, by rw [fr _ (by omega) (by omega) (by omega)]; exact w4⟩, ⟨Or.inr (by show po + 26 ≤ sp; omega), Or.inr (by show po + 26 ≤ st; omega), by show sp ≠ st; omega, es, fun _ => 0, et, fun j _ => ⟨Int.le_refl 0, (by decide : (0 : Int) ≤ 126)⟩⟩, fun i hi => ?_⟩
  have hi : i < zN S + 1 := hi
  by_cases e : i = zN S
  · subst e
    show fAt hF (if zN S = zN S then f else lF' Y (zN S)) (if zN S = zN S then lS Y else lP Y (zN S)) (if zN S = zN S then lT Y else lQ Y (zN S)) (if zN S = zN S then D else zD S (zN S)) ∧ _
    rw [if_pos rfl, if_pos rfl, if_pos rfl, if_pos rfl]
    refine ⟨⟨ef, fun h4 => ?_⟩, ?_⟩
    · obtain ⟨⟨a, b, c, d, g⟩, k⟩ := hD h4
      exact ⟨⟨a, b, c, d, by rw [fr _ l1 (by omega) (by omega)]; exact g⟩, by rw [fr _ l2 (by omega) (by omega)]; exact k⟩
    · unfold far
      show ((po + 26 ≤ (if zN S = zN S then f else lF' Y (zN S)) ∧ ((if zN S = zN S then lS Y else lP Y (zN S)) = po + 2 ∨ po + 26 ≤ (if zN S = zN S then lS Y else lP Y (zN S))) ∧ ((if zN S = zN S then lT Y else lQ Y (zN S)) = po + 3 ∨ po + 26 ≤ (if zN S = zN S then lT Y else lQ Y (zN S))) ∧ (if zN S = zN S then lS Y else lP Y (zN S)) < (if zN S = zN S then f else lF' Y (zN S)) ∧ (if zN S = zN S then lT Y else lQ Y (zN S)) < (if zN S = zN S then f else lF' Y (zN S))) ∧ (sp ≠ (if zN S = zN S then f else lF' Y (zN S)) ∧ sp ≠ (if zN S = zN S then lS Y else lP Y (zN S)) ∧ sp ≠ (if zN S = zN S then lT Y else lQ Y (zN S))) ∧ (st ≠ (if zN S = zN S then f else lF' Y (zN S)) ∧ st ≠ (if zN S = zN S then lS Y else lP Y (zN S)) ∧ st ≠ (if zN S = zN S then lT Y else lQ Y (zN S))))
      rw [if_pos rfl, if_pos rfl, if_pos rfl]
      exact ⟨⟨by omega, p1, p2, by omega, by omega⟩, ⟨by omega, by omega, by omega⟩, by omega, by omega, by omega⟩
  · obtain ⟨⟨a, c⟩, b⟩ := w5 i (by omega)
    have lf := lt a
    show fAt hF (if i = zN S then f else lF' Y i) (if i = zN S then lS Y else lP Y i) (if i = zN S then lT Y else lQ Y i) (if i = zN S then D else zD S i) ∧ _
    rw [if_neg e, if_neg e, if_neg e, if_neg e]
    have b' := b
    obtain ⟨⟨b1, b2, b3, b4, b5⟩, -, -⟩ := b'
    refine ⟨⟨by rw [fr _ lf (by omega) (by omega)]; exact a, fun h4 => ?_⟩, ?_⟩
    · obtain ⟨⟨x1, x2, x3, x4, g⟩, k⟩ := c h4
      exact ⟨⟨x1, x2, x3, x4, by rw [fr _ (lt g) (by omega) (by omega)]; exact g⟩, by rw [fr _ (lt k) (by omega) (by omega)]; exact k⟩
    · unfold far
      show ((po + 26 ≤ (if i = zN S then f else lF' Y i) ∧ ((if i = zN S then lS Y else lP Y i) = po + 2 ∨ po + 26 ≤ (if i = zN S then lS Y else lP Y i)) ∧ ((if i = zN S then lT Y else lQ Y i) = po + 3 ∨ po + 26 ≤ (if i = zN S then lT Y else lQ Y i)) ∧ (if i = zN S then lS Y else lP Y i) < (if i = zN S then f else lF' Y i) ∧ (if i = zN S then lT Y else lQ Y i) < (if i = zN S then f else lF' Y i)) ∧ (sp ≠ (if i = zN S then f else lF' Y i) ∧ sp ≠ (if i = zN S then lS Y else lP Y i) ∧ sp ≠ (if i = zN S then lT Y else lQ Y i)) ∧ (st ≠ (if i = zN S then f else lF' Y i) ∧ st ≠ (if i = zN S then lS Y else lP Y i) ∧ st ≠ (if i = zN S then lT Y else lQ Y i)))
      rw [if_neg e, if_neg e, if_neg e]
      exact ⟨⟨b1, b2, b3, b4, b5⟩, ⟨by omega, by omega, by omega⟩, by omega, by omega, by omega⟩
theorem x_heap {E : xEnv} {M : xM} {d K N : Nat} {Z : xEnd} {pc : Nat} {L : List (Option Value)} {st : List Value} {h h' : xH} {k n : Nat} (e : h = h') (kk : X E M d K N Z pc L st h' k n) : X E M d K N Z pc L st h k n := by rw [e]; exact kk
section XP2
variable {E : xEnv} {M : xM} {d K N : Nat} {Z : xEnd} {pc : Nat} {L : List (Option Value)} {st : List Value} {h : xH} {k n : Nat} {index po sp : Nat} {dl mc se de : Int}
theorem xp_PR_2 {x : Nat} (hd : decode M.2.1 pc = .ok (.putfield index, 3)) (hp : xPut M.1 index 4 2 (.object "PicturedRecord$Picture")) (ho : h[po]? = some (oR po sp dl mc se de)) (kk : X E M d K N Z (pc + 3) L st (h.set po (oR po x dl mc se de)) k n) : X E M d K N Z pc L (.ref x :: .ref po :: st) h k n := x_put 4 2 hd hp ho (Nat.le_of_ble_eq_true rfl) rfl rfl kk
end XP2
theorem fW_mk {us at' ct dg : Nat} {sc sg ed bs be fi fl : Int} {G : Nat → Int} {x : PS} {us' : Int} (hx : pcIs x ct dg sc sg ed bs be fi fl) (hu : us' = (us : Int)) (hed : ed = 0 ∨ ed = 1) (hus : ed = 1 ∨ us ≤ 3) : (if ed = 1 then (ct : Int) else if us' = 1 then ((dg / 2 + 1 : Nat) : Int) else if us' = 2 then (dg : Int) + 1 else if us' = 3 then (if dg ≤ 4 then 2 else 4) else (dg : Int)) = (fW (mkD us at' G x) : Int) := by
  obtain ⟨e1, e2, e3, e4, e5, -⟩ := hx
  have e2 : dg = x.2.1 := by omega
  subst hu
  unfold fW wB
  show _ = ((if (if x.2.2.2.2.1 = 1 then 4 else us) = 4 then x.1 else if (if x.2.2.2.2.1 = 1 then 4 else us) = 1 then x.2.1 / 2 + 1 else if (if x.2.2.2.2.1 = 1 then 4 else us) = 2 then x.2.1 + 1 else if (if x.2.2.2.2.1 = 1 then 4 else us) = 3 then (if x.2.1 ≤ 4 then 2 else 4) else x.2.1 : Nat) : Int)
  rw [← show ed = x.2.2.2.2.1 from e5, ← e2, e1]
  by_cases h1 : ed = 1
  · simp [h1]
  · rw [if_neg h1, if_neg h1]
    (repeat' split) <;> omega
section WF
variable {E : xEnv} {h : xH} {po : Nat} {Y : LY} {S : ST}
set_option maxHeartbeats 2000000 in
theorem w_field (us at' : Int) (hO : SO S) (hW : CW h po Y S) (hlen : po + 26 ≤ h.length) (hus : iR us) (hat : iR at') : xCt E 9 3 35 M_PR_field [.ref po, vI us, vI at'] h (rQ (fun w h' => ∃ (Y' : LY) (G' : Nat → Int), agr S G' ∧ w = vI (fField S us at' G').1 ∧ CW h' po Y' (fField S us at' G').2 ∧ frC po h h')) := by
  have hW0 := hW
  obtain ⟨w0, w1, ⟨mk, w2, w3⟩, ⟨T, s1, s2, s3, s4, s5, s6⟩, ⟨U, w4⟩, ⟨p1, p2, p0, ⟨ct0, dg0, sc0, sg0, ed0, bs0, be0, fi0, fl0, p3⟩, G0, p4, p5⟩, w5⟩ := hW
  refine x_met rfl rfl (Nat.le_of_ble_eq_true rfl) ?_
  unfold iR at hus hat
  refine x_aload_n d_PR_field_0 rfl rfl (by first | rfl | assumption) ?_
  refine x_get 4 2 d_PR_field_1 gf_PR_16 (by repeat (first | assumption | exact hs_self (by assumption) | exact hs_self (hs_ne (by omega) (by assumption)) | exact hs_self (hs_ne (by omega) (hs_ne (by omega) (by assumption))) | refine hs_ne (by omega) ?_)) (by rfl) ?_
  refine x_aload_n d_PR_field_4 rfl rfl (by first | rfl | assumption) ?_
  refine x_get 4 0 d_PR_field_5 gf_PR_9 (by repeat (first | assumption | exact hs_self (by assumption) | exact hs_self (hs_ne (by omega) (by assumption)) | exact hs_self (hs_ne (by omega) (hs_ne (by omega) (by assumption))) | refine hs_ne (by omega) ?_)) (by rfl) ?_
  refine x_aload_n d_PR_field_8 rfl rfl (by first | rfl | assumption) ?_
  refine x_get 4 1 d_PR_field_9 gf_PR_37 (by repeat (first | assumption | exact hs_self (by assumption) | exact hs_self (hs_ne (by omega) (by assumption)) | exact hs_self (hs_ne (by omega) (hs_ne (by omega) (by assumption))) | refine hs_ne (by omega) ?_)) (by rfl) ?_
  refine x_callVq (M' := M_PC_readDraft) d_PR_field_12 lk_PR_41 (c_readDraft p3 p4 w1 p0 (by omega) (by omega) p5 hO.2.2.1 hO.2.1) mt_PC_readDraft im_PC_readDraft se_PC_readDraft (by repeat (first | assumption | exact hs_self (by assumption) | exact hs_self (hs_ne (by omega) (by assumption)) | exact hs_self (hs_ne (by omega) (hs_ne (by omega) (by assumption))) | refine hs_ne (by omega) ?_)) rfl (by decide) rfl (Nat.le_of_ble_eq_true rfl) (by decide) (by decide) ?_
  rintro v h' ⟨G, ct, dg, sc, sg, ed, bs, be, fi, fl, rfl, hG, hc⟩
  have hW1 := CW_spare (ct := ct) (dg := dg) (sc := sc) (sg := sg) (ed := ed) (bs := bs) (be := be) (fi := fi) (fl := fl) hW0 hG
  have q0 : ((h.set (lT Y) (aC 18 G)).set (lS Y) (oP (lT Y) ct dg sc sg ed bs be fi fl))[po]? = some (oR po (lS Y) (zL S) (zN S) (zE S) (zF S)) := hW1.1
  have q4 : ((h.set (lT Y) (aC 18 G)).set (lS Y) (oP (lT Y) ct dg sc sg ed bs be fi fl))[po + 4]? = some (aR 12 mk) := hs_ne (by omega) (hs_ne (by omega) w2)
  have qS : ((h.set (lT Y) (aC 18 G)).set (lS Y) (oP (lT Y) ct dg sc sg ed bs be fi fl))[lS Y]? = some (oP (lT Y) ct dg sc sg ed bs be fi fl) := hs_self (hs_ne (Ne.symm p0) p3)
  have qT : ((h.set (lT Y) (aC 18 G)).set (lS Y) (oP (lT Y) ct dg sc sg ed bs be fi fl))[lT Y]? = some (aC 18 G) := hs_ne p0 (hs_self p4)
  have hfr : frC po h ((h.set (lT Y) (aC 18 G)).set (lS Y) (oP (lT Y) ct dg sc sg ed bs be fi fl)) := frC_set (frC_set (frC_refl _ _) (by omega)) (by omega)
  have hl1 : ((h.set (lT Y) (aC 18 G)).set (lS Y) (oP (lT Y) ct dg sc sg ed bs be fi fl)).length = h.length := by rw [List.length_set, List.length_set]
  revert hW1 q0 q4 qS qT hfr hl1
  generalize ((h.set (lT Y) (aC 18 G)).set (lS Y) (oP (lT Y) ct dg sc sg ed bs be fi fl)) = g
  intro hW1 q0 q4 qS qT hfr hl1
  rcases hc with ⟨rfl, hno⟩ | ⟨rfl, G1, x, hr, hag, hx⟩
  · have hag : agr S G := ⟨hG, fun G1 c1 p1 e => by rw [show rdS S = none from hno] at e; cases e⟩
    have hf : fField S us at' G = (-1, S) := by unfold fField; rw [show rdS S = none from hno]
    refine j_if_ne 20 d_PR_field_15 (by decide) (by unfold iR; omega) (fun c15 => ?_) (fun c15 => ?_)
    · exact absurd rfl c15
    · refine j_iconst d_PR_field_18 ?_
      refine x_ireturn d_PR_field_19 rfl ?_
      exact ⟨_, rfl, Y, G, hag, by rw [hf], by rw [hf]; exact hW1, hfr⟩
  have hag' : agr S G := ⟨hG, fun G2 c2 p2 e => by rw [show rdS S = _ from hr] at e; cases e; exact hag⟩
  have hf : fField S us at' G = fFld2 S us at' G x := by unfold fField; rw [show rdS S = _ from hr]
  obtain ⟨hd1, hd2⟩ := rdS_ok (S := S) hr
  obtain ⟨-, hc0, hc18⟩ := dRd_ok hd1
  have hx' := hx
  obtain ⟨x1, x2, x3, x4, x5, x6⟩ := hx'
  obtain ⟨hsg, hed, hdg, -⟩ := pRes_r hd2
  subst x2; subst x3; subst x4; subst x5
  refine j_if_ne 20 d_PR_field_15 (by decide) (by unfold iR; omega) (fun c15 => ?_) (fun c15 => ?_)
  rotate_left
  · exact absurd c15 (by decide)
  refine x_aload_n d_PR_field_20 rfl rfl (by first | rfl | assumption) ?_
  refine x_get 4 2 d_PR_field_21 gf_PR_16 (by repeat (first | assumption | exact hs_self (by assumption) | exact hs_self (hs_ne (by omega) (by assumption)) | exact hs_self (hs_ne (by omega) (hs_ne (by omega) (by assumption))) | refine hs_ne (by omega) ?_)) (by rfl) ?_
  refine x_iload_n d_PR_field_24 rfl rfl ?_
  refine x_callV1 (M' := M_PC_goesWith) d_PR_field_25 lk_PR_45 (c_goesWith qS hsg hed hus) mt_PC_goesWith im_PC_goesWith se_PC_goesWith (by repeat (first | assumption | exact hs_self (by assumption) | exact hs_self (hs_ne (by omega) (by assumption)) | exact hs_self (hs_ne (by omega) (hs_ne (by omega) (by assumption))) | refine hs_ne (by omega) ?_)) rfl (by decide) rfl (Nat.le_of_ble_eq_true rfl) (by decide) (by decide) ?_
  refine j_if_ne 34 d_PR_field_28 (by decide) (by unfold iR; split <;> omega) (fun c28 => ?_) (fun c28 => ?_)
  rotate_left
  · rw [ite01] at c28
    have hf2 : fField S us at' G = (-2, S) := by rw [hf]; unfold fFld2; rw [if_pos c28]
    refine j_bipush d_PR_field_31 (by decide) ?_
    refine x_ireturn d_PR_field_33 rfl ?_
    exact ⟨_, rfl, Y, G, hag', by rw [hf2], by rw [hf2]; exact hW1, hfr⟩
  rw [ite01] at c28
  have hub : ¬ uBad us x := c28
  have hus3 : 0 ≤ us ∧ us ≤ 3 := by omega
  have hw := fW_mk (us := us.toNat) (at' := 0) (G := G) (us' := us) hx (by omega) hed (by omega)
  refine x_aload_n d_PR_field_34 rfl rfl (by first | rfl | assumption) ?_
  refine x_get 4 2 d_PR_field_35 gf_PR_16 (by repeat (first | assumption | exact hs_self (by assumption) | exact hs_self (hs_ne (by omega) (by assumption)) | exact hs_self (hs_ne (by omega) (hs_ne (by omega) (by assumption))) | refine hs_ne (by omega) ?_)) (by rfl) ?_
  refine x_iload_n d_PR_field_38 rfl rfl ?_
  refine x_callV1 (M' := M_PC_lengthAs) d_PR_field_39 lk_PR_49 (c_lengthAs qS hed hus3 (by omega)) mt_PC_lengthAs im_PC_lengthAs se_PC_lengthAs (by repeat (first | assumption | exact hs_self (by assumption) | exact hs_self (hs_ne (by omega) (by assumption)) | exact hs_self (hs_ne (by omega) (hs_ne (by omega) (by assumption))) | refine hs_ne (by omega) ?_)) rfl (by decide) rfl (Nat.le_of_ble_eq_true rfl) (by decide) (by decide) ?_
  refine x_top (w := vI (fW (mkD us.toNat 0 G x) : Int)) (by rw [hw]) ?_
  obtain ⟨W, hWd⟩ : ∃ W, W = fW (mkD us.toNat 0 G x) := ⟨_, rfl⟩
  have hW18 : W ≤ 18 := by
    have : (W : Int) ≤ 18 := by rw [hWd, ← hw]; (repeat' split) <;> omega
    omega
  rw [← hWd]
  have bad3 : ∀ L : List (Option Value), (at' < 0 ∨ 64 - (W : Int) < at') → X E M_PR_field 9 3 35 (xZ E 3 35 (rQ (fun w h' => ∃ (Y' : LY) (G' : Nat → Int), agr S G' ∧ w = vI (fField S us at' G').1 ∧ CW h' po Y' (fField S us at' G').2 ∧ frC po h h'))) 55 L [] g 0 0 := by
    intro L hb
    have hf2 : fField S us at' G = (-3, S) := by rw [hf]; unfold fFld2; rw [if_neg hub, ← hWd, if_pos hb]
    refine j_bipush d_PR_field_55 (by decide) ?_
    refine x_ireturn d_PR_field_57 rfl ?_
    exact ⟨_, rfl, Y, G, hag', by rw [hf2], by rw [hf2]; exact hW1, hfr⟩
  refine x_istore_n d_PR_field_42 rfl (Nat.le_of_ble_eq_true rfl) ?_
  refine x_iload_n d_PR_field_43 rfl rfl ?_
  refine j_if_lt 55 d_PR_field_44 (by decide) (by unfold iR; omega) (fun c44 => ?_) (fun c44 => ?_)
  · exact bad3 _ (Or.inl c44)
  refine x_iload_n d_PR_field_47 rfl rfl ?_
  refine j_bipush d_PR_field_48 (by decide) ?_
  refine x_iload_n d_PR_field_50 rfl rfl ?_
  refine j_isub d_PR_field_51 ?_
  refine j_icmp_le 58 d_PR_field_52 (by decide) (by unfold iR; omega) (by unfold iR; omega) (fun c52 => ?_) (fun c52 => ?_)
  rotate_left
  · exact bad3 _ (Or.inr (by omega))
  have hN := hO.1
  refine x_aload_n d_PR_field_58 rfl rfl (by first | rfl | assumption) ?_
  refine x_get 4 4 d_PR_field_59 gf_PR_53 (by repeat (first | assumption | exact hs_self (by assumption) | exact hs_self (hs_ne (by omega) (by assumption)) | exact hs_self (hs_ne (by omega) (hs_ne (by omega) (by assumption))) | refine hs_ne (by omega) ?_)) (by rfl) ?_
  refine j_bipush d_PR_field_62 (by decide) ?_
  refine j_icmp_lt 70 d_PR_field_64 (by decide) (by unfold iR; omega) (by unfold iR; omega) (fun c64 => ?_) (fun c64 => ?_)
  rotate_left
  · have hf2 : fField S us at' G = (-4, S) := by rw [hf]; unfold fFld2; rw [if_neg hub, ← hWd, if_neg (by omega), if_pos (by omega)]
    refine j_bipush d_PR_field_67 (by decide) ?_
    refine x_ireturn d_PR_field_69 rfl ?_
    exact ⟨_, rfl, Y, G, hag', by rw [hf2], by rw [hf2]; exact hW1, hfr⟩
  have hf2 : fField S us at' G = ((zN S : Int), sAdd S (mkD us.toNat at'.toNat G x)) := by rw [hf]; unfold fFld2; rw [if_neg hub, ← hWd, if_neg (by omega), if_neg (by omega)]
  have lS_lt : lS Y < g.length := (List.getElem?_eq_some_iff.mp qS).1
  refine x_aload_n d_PR_field_70 rfl rfl (by first | rfl | assumption) ?_
  refine x_get 4 3 d_PR_field_71 gf_PR_22 (by repeat (first | assumption | exact hs_self (by assumption) | exact hs_self (hs_ne (by omega) (by assumption)) | exact hs_self (hs_ne (by omega) (hs_ne (by omega) (by assumption))) | refine hs_ne (by omega) ?_)) (by rfl) ?_
  refine x_aload_n d_PR_field_74 rfl rfl (by first | rfl | assumption) ?_
  refine x_get 4 4 d_PR_field_75 gf_PR_53 (by repeat (first | assumption | exact hs_self (by assumption) | exact hs_self (hs_ne (by omega) (by assumption)) | exact hs_self (hs_ne (by omega) (hs_ne (by omega) (by assumption))) | refine hs_ne (by omega) ?_)) (by rfl) ?_
  refine x_new d_PR_field_78 nw_PR_20 (by decide) (by decide) ?_
  refine x_dup d_PR_field_81 rfl ?_
  refine x_aload_n d_PR_field_82 rfl rfl (by first | rfl | assumption) ?_
  refine x_get 4 2 d_PR_field_83 gf_PR_16 (by exact ha_old q0) (by rfl) ?_
  refine x_iload_n d_PR_field_86 rfl rfl ?_
  refine x_iload_n d_PR_field_87 rfl rfl ?_
  refine x_iload_n d_PR_field_88 rfl rfl ?_
  refine x_callI0 (M' := M_FD_init) d_PR_field_89 lk_PR_56 (c_initFD ha_nw (ha_old qS) (by omega) hsg hed) mt_FD_init rfl rfl im_FD_init (by decide) rfl (Nat.le_of_ble_eq_true rfl) (by decide) (by decide) ?_
  refine x_aast (ci := 1) d_PR_field_92 (hs_ne (by omega) (ha_old q4)) (hs_self ha_nw) rfl rfl (iI_in (by omega) (by omega) (by omega)) ?_
  rw [iI_clamp (by omega) (by omega), Int.toNat_natCast]
  obtain ⟨g3, hg3⟩ : ∃ g3 : xH, g3 = ((g ++ [ob 1 [.null, vI 0, vI 0, vI 0, vI 0, vI 0, vI 0]]).set g.length (oF (lS Y) (if qE x = 1 then 4 else us) at' W (x.2.1 : Int) (x.2.2.1 : Int) (qG x))).set (po + 4) (aR 12 (va_up mk (zN S) (some g.length))) := ⟨_, rfl⟩
  have r0 : g3[po]? = some (oR po (lS Y) (zL S) (zN S) (zE S) (zF S)) := by rw [hg3]; exact hs_ne (by omega) (hs_ne (by omega) (ha_old q0))
  have r4 : g3[po + 4]? = some (aR 12 (va_up mk (zN S) (some g.length))) := by rw [hg3]; exact hs_self (hs_ne (by omega) (ha_old q4))
  have rf : g3[g.length]? = some (oF (lS Y) (if qE x = 1 then 4 else us) at' W (x.2.1 : Int) (x.2.2.1 : Int) (qG x)) := by rw [hg3]; exact hs_ne (by omega) (hs_self ha_nw)
  have rl' : g3.length = g.length + 1 := by rw [hg3, List.length_set, List.length_set, List.length_append]; rfl
  have rfr : ∀ i, i < g.length → i ≠ po + 4 → g3[i]? = g[i]? := by
    intro i h1 h2
    rw [hg3, List.getElem?_set_ne (by omega), List.getElem?_set_ne (by omega), List.getElem?_append_left h1]
  refine x_heap (h' := g3) (by rw [hg3]) ?_
  clear hg3
  refine x_aload_n d_PR_field_93 rfl rfl (by first | rfl | assumption) ?_
  refine x_dup d_PR_field_94 rfl ?_
  refine x_get 4 4 d_PR_field_95 gf_PR_53 (by repeat (first | assumption | exact hs_self (by assumption) | exact hs_self (hs_ne (by omega) (by assumption)) | exact hs_self (hs_ne (by omega) (hs_ne (by omega) (by assumption))) | refine hs_ne (by omega) ?_)) (by rfl) ?_
  refine j_iconst d_PR_field_98 ?_
  refine j_iadd d_PR_field_99 ?_
  refine xp_PR_4 d_PR_field_100 pf_PR_field_53 (by repeat (first | assumption | exact hs_self (by assumption) | exact hs_self (hs_ne (by omega) (by assumption)) | exact hs_self (hs_ne (by omega) (hs_ne (by omega) (by assumption))) | refine hs_ne (by omega) ?_)) ?_
  refine x_aload_n d_PR_field_103 rfl rfl (by first | rfl | assumption) ?_
  obtain ⟨g4, hg4⟩ : ∃ g4 : xH, g4 = g3.set po (oR po (lS Y) (zL S) ((zN S : Int) + 1) (zE S) (zF S)) := ⟨_, rfl⟩
  rw [← hg4]
  have t0 : g4[po]? = some (oR po (lS Y) (zL S) ((zN S : Int) + 1) (zE S) (zF S)) := by rw [hg4]; exact hs_self r0
  have t4 : g4[po + 4]? = some (aR 12 (va_up mk (zN S) (some g.length))) := by rw [hg4]; exact hs_ne (by omega) r4
  have tf : g4[g.length]? = some (oF (lS Y) (if qE x = 1 then 4 else us) at' W (x.2.1 : Int) (x.2.2.1 : Int) (qG x)) := by rw [hg4]; exact hs_ne (by omega) rf
  have tl' : g4.length = g.length + 1 := by rw [hg4, List.length_set, rl']
  have tfr : ∀ i, i < g.length → i ≠ po → i ≠ po + 4 → g4[i]? = g[i]? := by
    intro i h1 h2 h3
    rw [hg4, List.getElem?_set_ne (by omega), rfr i h1 h3]
  clear hg4 r0 r4 rf rfr
  refine x_new d_PR_field_104 nw_PR_13 (by decide) (by decide) ?_
  refine x_dup d_PR_field_107 rfl ?_
  refine x_callI0 (M' := M_PC_init) d_PR_field_108 lk_PR_15 (c_initPC ha_nw) mt_PC_init rfl rfl im_PC_init (by decide) rfl (Nat.le_of_ble_eq_true rfl) (by decide) (by decide) ?_
  obtain ⟨g6, hg6⟩ : ∃ g6 : xH, g6 = ((g4 ++ [ob 2 [.null, vI 0, vI 0, vI 0, vI 0, vI 0, vI 0, vI 0, vI 0, vI 0]]) ++ [aC 18 (fun _ => 0)]).set g4.length (oP (g4 ++ [ob 2 [.null, vI 0, vI 0, vI 0, vI 0, vI 0, vI 0, vI 0, vI 0, vI 0]]).length 0 0 0 0 0 0 0 32 0) := ⟨_, rfl⟩
  refine x_heap (h' := g6) (by rw [hg6]) ?_
  have l5 : (g4 ++ [ob 2 [.null, vI 0, vI 0, vI 0, vI 0, vI 0, vI 0, vI 0, vI 0, vI 0]]).length = g.length + 2 := by rw [List.length_append, tl']; rfl
  have u0 : g6[po]? = some (oR po (lS Y) (zL S) ((zN S : Int) + 1) (zE S) (zF S)) := by rw [hg6]; exact hs_ne (by omega) (ha_old (ha_old t0))
  have u4 : g6[po + 4]? = some (aR 12 (va_up mk (zN S) (some g.length))) := by rw [hg6]; exact hs_ne (by omega) (ha_old (ha_old t4))
  have uf : g6[g.length]? = some (oF (lS Y) (if qE x = 1 then 4 else us) at' W (x.2.1 : Int) (x.2.2.1 : Int) (qG x)) := by rw [hg6]; exact hs_ne (by omega) (ha_old (ha_old tf))
  have us' : g6[g.length + 1]? = some (oP (g.length + 2) 0 0 0 0 0 0 0 32 0) := by
    rw [hg6, l5, ← tl']; exact hs_self (ha_old ha_nw)
  have ut : g6[g.length + 2]? = some (aC 18 (fun _ => 0)) := by
    rw [hg6, ← l5]; exact hs_ne (by rw [l5, tl']; omega) ha_nw
  have ufr : ∀ i, i < g.length → i ≠ po → i ≠ po + 4 → g6[i]? = g[i]? := by
    intro i h1 h2 h3
    rw [hg6, List.getElem?_set_ne (by omega), List.getElem?_append_left (by omega), List.getElem?_append_left (by omega), tfr i h1 h2 h3]
  rw [tl']
  clear hg6 t0 t4 tf tfr
  refine xp_PR_2 d_PR_field_111 pf_PR_field_16 u0 ?_
  refine x_aload_n d_PR_field_114 rfl rfl (by first | rfl | assumption) ?_
  refine j_iconst d_PR_field_115 ?_
  refine xp_PR_1 d_PR_field_116 pf_PR_field_37 (by repeat (first | assumption | exact hs_self (by assumption) | exact hs_self (hs_ne (by omega) (by assumption)) | exact hs_self (hs_ne (by omega) (hs_ne (by omega) (by assumption))) | refine hs_ne (by omega) ?_)) ?_
  rw [List.set_set]
  refine x_aload_n d_PR_field_119 rfl rfl (by first | rfl | assumption) ?_
  refine x_get 4 4 d_PR_field_120 gf_PR_53 (by repeat (first | assumption | exact hs_self (by assumption) | exact hs_self (hs_ne (by omega) (by assumption)) | exact hs_self (hs_ne (by omega) (hs_ne (by omega) (by assumption))) | refine hs_ne (by omega) ?_)) (by rfl) ?_
  refine j_iconst d_PR_field_123 ?_
  refine j_isub d_PR_field_124 ?_
  refine x_ireturn d_PR_field_125 rfl ?_
  have hp25 : po + 25 < g.length := by omega
  refine ⟨_, rfl, (g.length + 1, g.length + 2, fun i => if i = zN S then g.length else lF' Y i, fun i => if i = zN S then lS Y else lP Y i, fun i => if i = zN S then lT Y else lQ Y i), G, hag', ?_, ?_, frC_trans hfr (frC_set (fun i h1 h2 => ufr i (by omega) (by omega) (by omega)) (Or.inl (by omega)))⟩
  · rw [hf2]; exact congrArg vI (by show (zN S : Int) + 1 - 1 = (zN S : Int); omega)
  · rw [hf2]
    refine CW_add (f := g.length) (sp := g.length + 1) (st := g.length + 2) (mk := va_up mk (zN S) (some g.length)) hW1 rfl rfl rfl (by omega) (hs_self u0) (hs_ne (by omega) u4) ?_ ?_ ⟨_, _, _, _, _, _, _, _, _, hs_ne (by omega) us'⟩ (hs_ne (by omega) ut) ?_ ?_
    · intro i hi
      by_cases e : i = zN S
      · rw [e, va_up_self, if_pos rfl]
      · rw [va_up_ne _ _ e, if_neg e]; exact w3 i (by omega)
    · refine hs_ne (by omega) ?_
      rw [uf]
      show some (oF (lS Y) (if qE x = 1 then 4 else us) at' W (x.2.1 : Int) (x.2.2.1 : Int) (qG x)) = some (oF (lS Y) ((if qE x = 1 then 4 else us.toNat : Nat) : Int) (at'.toNat : Int) (fW (mkD us.toNat 0 G x) : Int) (x.2.1 : Int) (x.2.2.1 : Int) (qG x))
      rw [← hWd, show ((if qE x = 1 then 4 else us.toNat : Nat) : Int) = (if qE x = 1 then 4 else us) by split <;> omega, show (at'.toNat : Int) = at' by omega]
    · intro i h1 h2 h3
      rw [List.getElem?_set_ne (by omega)]
      exact ufr i h1 h2 h3
    · intro h4
      have h4 : (if qE x = 1 then 4 else us.toNat) = 4 := h4
      have hE : qE x = 1 := by
        by_cases z : qE x = 1
        · exact z
        · rw [if_neg z] at h4; omega
      obtain ⟨y1, y2, y3, y4⟩ := x6 hE
      refine ⟨⟨(x.2.1 : Int), (x.2.2.1 : Int), qG x, qE x, ?_⟩, qT⟩
      rw [qS, y1, y2, y3, y4, ← x1]
      try rfl
end WF
