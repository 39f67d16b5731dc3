def cpyI (f g : Nat → Int) (sp dp n : Nat) : Nat → Int := fun k => if dp ≤ k ∧ k < dp + n then f (sp + (k - dp)) else g k
theorem cpyI_F (f g : Nat → Int) (sp dp n : Nat) : va_cpy (iF f) (iF g) sp dp n = iF (cpyI f g sp dp n) := by
  funext k
  unfold va_cpy iF cpyI
  split <;> rfl
set_option maxHeartbeats 1000000 in
theorem x_copyi {E : xEnv} {M : xM} {d K N : Nat} {Z : xEnd} {pc : Nat} {L : List (Option Value)} {st : List Value} {h : xH} {k n : Nat} {index o1 o2 n1 n2 : Nat} {f g : Nat → Int} {sp dp nn : Int} (hd : decode M.2.1 pc = .ok (.invokestatic index, 3)) (hlk : Cond.methodLink M.1.cls index arraycopyName ∈ GW) (hnat : Cond.native arraycopyName ∈ GW) (hstt : Cond.static arraycopyName ∈ GW) (hini : Cond.initialized "java/lang/System" ∈ GW) (ho1 : h[o1]? = some (aI n1 f)) (ho2 : h[o2]? = some (aI n2 g)) (h1 : 0 ≤ sp) (h2 : 0 ≤ dp) (h3 : 0 ≤ nn) (h4 : sp + nn ≤ n1) (h5 : dp + nn ≤ n2) (hn1 : n1 < 2147483648) (hn2 : n2 < 2147483648) (hdd : 1 ≤ d) (hw : (st.map fun v => v.category).sum + (nativeFrameWords "java/lang/System" "arraycopy" 5 + 11) ≤ 40 * d) (kk : X E M d K N Z (pc + 3) L st (h.set o2 (aI n2 (cpyI f g sp.toNat dp.toNat nn.toNat))) k n) : X E M d K N Z pc L (vI nn :: vI dp :: .ref o2 :: vI sp :: .ref o1 :: st) h k n := by
  intro p e R s m args below meth c H locs ls C hP hL hS hk hn
  have hr := C.room
  have c1 : (iI sp).toNatClampNeg = sp.toNat := iI_clamp h1 (by omega)
  have c2 : (iI dp).toNatClampNeg = dp.toNat := iI_clamp h2 (by omega)
  have c3 : (iI nn).toNatClampNeg = nn.toNat := iI_clamp h3 (by omega)
  have t1 : (iI sp).toInt = sp := iI_toInt (by omega) (by omega)
  have t2 : (iI dp).toInt = dp := iI_toInt (by omega) (by omega)
  have t3 : (iI nn).toInt = nn := iI_toInt (by omega) (by omega)
  have z1 : ¬ iI sp < 0 := by rw [Int32.lt_iff_toInt_lt, t1]; show ¬ sp < 0; omega
  have z2 : ¬ iI dp < 0 := by rw [Int32.lt_iff_toInt_lt, t2]; show ¬ dp < 0; omega
  have z3 : ¬ iI nn < 0 := by rw [Int32.lt_iff_toInt_lt, t3]; show ¬ nn < 0; omega
  have hsum : ((st.map (xv E)).map fun v => v.category).sum = (st.map fun v => v.category).sum := by
    have : (st.map (xv E)).map (fun v => v.category) = st.map (fun v => v.category) := by simp [xv_cat]
    rw [this]
  obtain ⟨cI, hcI⟩ : ∃ cI, cI = ((eT E).getD 0 (0, .int)).1 := ⟨_, rfl⟩
  have hc0 : H[eS E + o1]? = some (vp_cell cI (n1, .inl (iF f))) := by rw [hcI]; exact hP.1 o1 _ (xw_get ho1)
  have hc1 : H[eS E + o2]? = some (vp_cell cI (n2, .inl (iF g))) := by rw [hcI]; exact hP.1 o2 _ (xw_get ho2)
  intro T hT X
  obtain ⟨-, k0, hk0, cm0, hkk0⟩ := (C.kn.2 0 _ (xT_at C.tys rfl)).1 n1 (fun j => .int (iF f j))
  obtain ⟨-, k1, hk1, cm1, hkk1⟩ := (C.kn.2 0 _ (xT_at C.tys rfl)).1 n2 (fun j => .int (iF g j))
  rw [← hcI] at hk0 hk1
  obtain ⟨vm', X', step⟩ := X.arraycopy C.1 C.own (C.words _ hlk) (C.words _ hnat) (C.words _ hstt) (C.words _ hini) (src := eS E + o1) (dst := eS E + o2) (cs := vp_cell cI (n1, .inl (iF f))) (cd := vp_cell cI (n2, .inl (iF g))) (srcPos := iI sp) (destPos := iI dp) (n := iI nn) (by rw [hT]; exact hc0) (by rw [hT]; exact hc1)
    (fun _ h => by cases h) (fun _ h => by cases h) (fun h => by cases h) (fun h => by cases h) hk0 hk1 hkk0 hkk1 rfl z1 z2 z3
    (by rw [t1, t3]; show ¬ _ > ((arrV cI n1 (fun j => .int (iF f j))).slots.size : Int); rw [arrV_size]; omega)
    (by rw [t2, t3]; show ¬ _ > ((arrV cI n2 (fun j => .int (iF g j))).slots.size : Int); rw [arrV_size]; omega)
    (fun vm₁ _ i hi => by
      have e : (vp_cell cI (n1, .inl (iF f))).slots.getD ((iI sp).toNatClampNeg + i) .null = .int (iF f ((iI sp).toNatClampNeg + i)) := by
        show (arrV cI n1 (fun j => .int (iF f j))).slots.getD _ _ = _
        rw [Array.getD_eq_getD_getElem?, arrV_read _ _ (by rw [c3] at hi; rw [c1]; omega)]
        rfl
      refine ⟨?_, ?_⟩
      · rw [e]; rfl
      · rw [e]; exact trivial)
    (g := F0 m pc ls ((vI nn :: vI dp :: .ref o2 :: vI sp :: .ref o1 :: st).map (xv E))) rfl (by show ls.size = _; rw [C.max]; exact hL.1.1) (rest := st.map (xv E)) rfl (by rw [C.2.1]; exact hd) (by omega) (by show 2 * 0 + _ + _ ≤ _; rw [hsum]; omega)
  have e1 : copied (vp_cell cI (n1, .inl (iF f))) (vp_cell cI (n2, .inl (iF g))) (iI sp) (iI dp) (iI nn) = vp_cell cI (n2, .inl (iF (cpyI f g sp.toNat dp.toNat nn.toNat))) := by
    rw [← cpyI_F, ← c1, ← c2, ← c3]
    exact va_copied (fun z => .int z) cI cI (iF f) (iF g) (by rw [c1, c3]; omega)
  rw [e1] at X' step
  have hl : eS E + o2 < H.size := (Array.getElem?_eq_some_iff.mp hc1).1
  obtain ⟨Cn, hCn⟩ : ∃ Cn, Cn = vp_cell cI (n2, .inl (iF (cpyI f g sp.toNat dp.toNat nn.toNat))) := ⟨_, rfl⟩
  rw [← hCn] at X' step
  have hheap : ((T.setVm vm').setCell (eS E + o2) Cn).heap = H.setIfInBounds (eS E + o2) Cn := by rw [← hT]; rfl
  have oq : ∀ q : Nat, q ≠ eS E + o2 → (H.setIfInBounds (eS E + o2) Cn)[q]? = H[q]? := fun q hq => by simp [Array.getElem?_setIfInBounds, Ne.symm hq]
  obtain ⟨t, a1, b1⟩ := kk p e R s m args below meth c (H.setIfInBounds (eS E + o2) Cn) _ ls C (xP_set hP ho2 (by show (H.setIfInBounds (eS E + o2) Cn)[eS E + o2]? = some (vp_cell _ _); rw [← hcI, ← hCn]; simp [Array.getElem?_setIfInBounds, hl]) (by simp) oq) hL ⟨by simp; exact hS.1, fun q g1 g2 => by
      rw [oq q (fun e => g2 (by rw [e]; exact Nat.le_add_right _ _))]
      exact hS.2.1 q g1 g2, fun q hq => by
      rcases List.mem_append.mp hq with h | h
      · exact hS.2.2 q h
      · obtain ⟨z, -, hz⟩ := List.mem_map.mp h
        rw [← hz]
        exact Nat.le_add_right _ _⟩ hk hn _ hheap X'
  exact ⟨t, step t a1, b1⟩
set_option maxHeartbeats 1000000 in
theorem c_suppress (E : xEnv) (h : xH) (e t p q hd be sh : Nat) (ct dg sc sg ed fi fl ng : Int) (T : Nat → Int) (he : h[e]? = some (oE t)) (ht : h[t]? = some (aI 18 T)) (hp : h[p]? = some (oP q ct dg sc sg ed hd be fi fl)) (hte : t ≠ e) (htp : t ≠ p) (hhb : hd ≤ sh) (hsb : sh ≤ be) (hbe : be ≤ 18) (hfi : 0 ≤ fi ∧ fi < 65536) (hfl : fl = 0 ∨ fl = 1) (hng : ng = 0 ∨ ng = 1) : xCt E 1 0 0 M_ED_suppress [.ref e, .ref p, vI sh, vI ng] h (fun r h' => r = none ∧ ∃ T' : Nat → Int, h' = h.set t (aI 18 T') ∧ ∀ j, T' j = if fl = 1 ∧ hd < sh ∧ sh < be ∧ j + 1 = sh then sgC fi ng else if hd ≤ j ∧ j < sh then (if fi = 42 then 42 else 32) else T j) := by
  refine x_met rfl rfl (Nat.le_of_ble_eq_true rfl) ?_
  obtain ⟨Z, hZ⟩ : ∃ Z, Z = (xZ E 0 0 (fun r h' => r = none ∧ ∃ T' : Nat → Int, h' = h.set t (aI 18 T') ∧ ∀ j, T' j = if fl = 1 ∧ hd < sh ∧ sh < be ∧ j + 1 = sh then sgC fi ng else if hd ≤ j ∧ j < sh then (if fi = 42 then 42 else 32) else T j)) := ⟨_, rfl⟩
  have loop : ∀ (r k : Nat) (G : Nat → Int) (i : Int), k + r = sh → hd ≤ k → i = (k : Int) → (∀ j, G j = if hd ≤ j ∧ j < k then (if fi = 42 then 42 else 32) else T j) → X E M_ED_suppress 1 0 0 Z 6 [some (.ref e), some (.ref p), some (vI sh), some (vI ng), some (vI i)] [] (h.set t (aI 18 G)) 0 0 := by
    intro r
    induction r with
    | zero =>
      intro k G i hk hhk hi hG
      have hk2 : k = sh := by omega
      subst hk2
      have fin : ¬ (fl = 1 ∧ hd < k ∧ k < be) → X E M_ED_suppress 1 0 0 Z 80 [some (.ref e), some (.ref p), some (vI k), some (vI ng), some (vI i)] [] (h.set t (aI 18 G)) 0 0 := by
        intro hno
        rw [hZ]
        refine x_return d_ED_suppress_80 rfl ?_
        exact ⟨rfl, G, rfl, fun j => by rw [if_neg (fun z => hno ⟨z.1, z.2.1, z.2.2.1⟩)]; exact hG j⟩
      refine x_iload d_ED_suppress_6 rfl ?_
      refine x_iload_n d_ED_suppress_8 rfl rfl ?_
      refine j_icmp_ge 41 d_ED_suppress_9 (by decide) (by unfold iR; omega) (by unfold iR; omega) (fun c9 => ?_) (fun c9 => ?_)
      · refine x_aload_n d_ED_suppress_41 rfl rfl rfl ?_
        refine x_get 2 9 d_ED_suppress_42 gf_ED_63 (by first | assumption | exact hs_self (by assumption) | exact hs_ne (by first | assumption | omega) (by assumption) | exact hs_ne (by first | assumption | omega) (hs_self (by assumption)) | exact hs_ne (by first | assumption | omega) (hs_ne (by first | assumption | omega) (by assumption))) (by rfl) ?_
        refine j_if_eq 80 d_ED_suppress_45 (by decide) (by unfold iR; omega) (fun c45 => ?_) (fun c45 => ?_)
        · exact fin (by omega)
        · refine x_iload_n d_ED_suppress_48 rfl rfl ?_
          refine x_aload_n d_ED_suppress_49 rfl rfl rfl ?_
          refine x_get 2 6 d_ED_suppress_50 gf_ED_15 (by first | assumption | exact hs_self (by assumption) | exact hs_ne (by first | assumption | omega) (by assumption) | exact hs_ne (by first | assumption | omega) (hs_self (by assumption)) | exact hs_ne (by first | assumption | omega) (hs_ne (by first | assumption | omega) (by assumption))) (by rfl) ?_
          refine j_icmp_le 80 d_ED_suppress_53 (by decide) (by unfold iR; omega) (by unfold iR; omega) (fun c53 => ?_) (fun c53 => ?_)
          · exact fin (by omega)
          · refine x_iload_n d_ED_suppress_56 rfl rfl ?_
            refine x_aload_n d_ED_suppress_57 rfl rfl rfl ?_
            refine x_get 2 7 d_ED_suppress_58 gf_ED_47 (by first | assumption | exact hs_self (by assumption) | exact hs_ne (by first | assumption | omega) (by assumption) | exact hs_ne (by first | assumption | omega) (hs_self (by assumption)) | exact hs_ne (by first | assumption | omega) (hs_ne (by first | assumption | omega) (by assumption))) (by rfl) ?_
            refine j_icmp_ge 80 d_ED_suppress_61 (by decide) (by unfold iR; omega) (by unfold iR; omega) (fun c61 => ?_) (fun c61 => ?_)
            · exact fin (by omega)
            · refine x_aload_n d_ED_suppress_64 rfl rfl rfl ?_
              refine x_get 0 0 d_ED_suppress_65 gf_ED_9 (by first | assumption | exact hs_self (by assumption) | exact hs_ne (by first | assumption | omega) (by assumption) | exact hs_ne (by first | assumption | omega) (hs_self (by assumption)) | exact hs_ne (by first | assumption | omega) (hs_ne (by first | assumption | omega) (by assumption))) (by rfl) ?_
              refine x_iload_n d_ED_suppress_68 rfl rfl ?_
              refine j_iconst d_ED_suppress_69 ?_
              refine j_isub d_ED_suppress_70 ?_
              refine x_aload_n d_ED_suppress_71 rfl rfl rfl ?_
              refine x_get 2 8 d_ED_suppress_72 gf_ED_59 (by first | assumption | exact hs_self (by assumption) | exact hs_ne (by first | assumption | omega) (by assumption) | exact hs_ne (by first | assumption | omega) (hs_self (by assumption)) | exact hs_ne (by first | assumption | omega) (hs_ne (by first | assumption | omega) (by assumption))) (by rfl) ?_
              refine x_iload_n d_ED_suppress_75 rfl rfl ?_
              refine x_callS1 (M' := M_ED_signCharacter) d_ED_suppress_76 lk_ED_25 (c_signChar E _ fi ng hfi hng) mt_ED_signCharacter st_ED_signCharacter (by decide) rfl (Nat.le_of_ble_eq_true rfl) (by decide) (by decide) ?_
              refine j_iast d_ED_suppress_79 (by first | assumption | exact hs_self (by assumption) | exact hs_ne (by first | assumption | omega) (by assumption) | exact hs_ne (by first | assumption | omega) (hs_self (by assumption)) | exact hs_ne (by first | assumption | omega) (hs_ne (by first | assumption | omega) (by assumption))) (by omega) (by omega) (by decide) ?_
              rw [List.set_set, hZ]
              refine x_return d_ED_suppress_80 rfl ?_
              refine ⟨rfl, _, rfl, fun j => ?_⟩
              by_cases hj : j + 1 = k
              · rw [if_pos ⟨by omega, by omega, by omega, hj⟩, show ((k : Int) - 1).toNat = j by omega, gU_self]
              · rw [if_neg (fun z => hj z.2.2.2), gU_ne _ _ (by omega)]
                exact hG j
      · exfalso; omega
    | succ r ih =>
      intro k G i hk hhk hi hG
      have fin : ∀ v : Int, v = (if fi = 42 then 42 else 32) → X E M_ED_suppress 1 0 0 Z 34 [some (.ref e), some (.ref p), some (vI sh), some (vI ng), some (vI i)] [vI v, vI i, .ref t] (h.set t (aI 18 G)) 0 0 := by
        intro v hv
        refine j_iast d_ED_suppress_34 (by first | assumption | exact hs_self (by assumption) | exact hs_ne (by first | assumption | omega) (by assumption) | exact hs_ne (by first | assumption | omega) (hs_self (by assumption)) | exact hs_ne (by first | assumption | omega) (hs_ne (by first | assumption | omega) (by assumption))) (by omega) (by omega) (by decide) ?_
        rw [List.set_set]
        refine j_iinc d_ED_suppress_35 rfl ?_
        refine x_goto 6 d_ED_suppress_38 (by decide) ?_
        refine ih (k + 1) _ _ (by omega) (by omega) (by omega) (fun j => ?_)
        by_cases hj : j = k
        · subst hj
          rw [show i.toNat = j by omega, gU_self, if_pos (show hd ≤ j ∧ j < j + 1 by omega)]
          exact hv
        · rw [gU_ne _ _ (by omega), hG j]
          by_cases hj2 : hd ≤ j ∧ j < k
          · rw [if_pos hj2, if_pos (show hd ≤ j ∧ j < k + 1 by omega)]
          · rw [if_neg hj2, if_neg (show ¬ (hd ≤ j ∧ j < k + 1) by omega)]
      refine x_iload d_ED_suppress_6 rfl ?_
      refine x_iload_n d_ED_suppress_8 rfl rfl ?_
      refine j_icmp_ge 41 d_ED_suppress_9 (by decide) (by unfold iR; omega) (by unfold iR; omega) (fun c9 => ?_) (fun c9 => ?_)
      · exfalso; omega
      refine x_aload_n d_ED_suppress_12 rfl rfl rfl ?_
      refine x_get 0 0 d_ED_suppress_13 gf_ED_9 (by first | assumption | exact hs_self (by assumption) | exact hs_ne (by first | assumption | omega) (by assumption) | exact hs_ne (by first | assumption | omega) (hs_self (by assumption)) | exact hs_ne (by first | assumption | omega) (hs_ne (by first | assumption | omega) (by assumption))) (by rfl) ?_
      refine x_iload d_ED_suppress_16 rfl ?_
      refine x_aload_n d_ED_suppress_18 rfl rfl rfl ?_
      refine x_get 2 8 d_ED_suppress_19 gf_ED_59 (by first | assumption | exact hs_self (by assumption) | exact hs_ne (by first | assumption | omega) (by assumption) | exact hs_ne (by first | assumption | omega) (hs_self (by assumption)) | exact hs_ne (by first | assumption | omega) (hs_ne (by first | assumption | omega) (by assumption))) (by rfl) ?_
      refine j_bipush d_ED_suppress_22 (by decide) ?_
      refine j_icmp_ne 32 d_ED_suppress_24 (by decide) (by unfold iR; omega) (by unfold iR; omega) (fun c24 => ?_) (fun c24 => ?_)
      · refine j_bipush d_ED_suppress_32 (by decide) ?_
        exact fin _ (by rw [if_neg c24])
      · refine j_bipush d_ED_suppress_27 (by decide) ?_
        refine x_goto 34 d_ED_suppress_29 (by decide) ?_
        exact fin _ (by rw [if_pos c24])
  have e0 := hset_id ht
  rw [← hZ]
  refine x_aload_n d_ED_suppress_0 rfl rfl rfl ?_
  refine x_get 2 6 d_ED_suppress_1 gf_ED_15 (by first | assumption | exact hs_self (by assumption) | exact hs_ne (by first | assumption | omega) (by assumption) | exact hs_ne (by first | assumption | omega) (hs_self (by assumption)) | exact hs_ne (by first | assumption | omega) (hs_ne (by first | assumption | omega) (by assumption))) (by rfl) ?_
  refine x_istore d_ED_suppress_4 (Nat.le_of_ble_eq_true rfl) ?_
  have := loop (sh - hd) hd T hd (by omega) (Nat.le_refl _) rfl (fun j => by rw [if_neg (show ¬ (hd ≤ j ∧ j < hd) by omega)])
  rw [e0] at this
  exact this
