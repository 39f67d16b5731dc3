abbrev rP (P : xH → Prop) : Option Value → xH → Prop := fun r h' => r = none ∧ P h'
abbrev rQ (P : Value → xH → Prop) : Option Value → xH → Prop := fun r h' => ∃ v, r = some v ∧ P v h'
section XC2
variable {E : xEnv} {M M' : xM} {d K N dd mc ms : Nat} {Z : xEnd} {pc : Nat} {L : List (Option Value)} {st st' : List Value} {h : xH} {k n : Nat} {av : List Value}
theorem x_callVp {index o ci : Nat} {fs : List Value} {T : u_T} {Nf : Nat} {P : xH → Prop} (hd : decode M.2.1 pc = .ok (.invokevirtual index, 3)) (hlk : xLk M.1.cls index M'.1) (hC : xCt E dd mc ms M' (.ref o :: av) h (rP P)) (hm : xMt M' av.length) (hin : Cond.instanceMethod M'.1 ∈ GW) (hsel : Cond.selects M'.1.cls M'.1 M'.1 ∈ GW) (ho : h[o]? = some (.inr (ci, fs))) (hci : vwCl[ci]? = some (M'.1.cls, T, Nf)) (hdd : dd + 1 ≤ d) (hs : av.reverse ++ .ref o :: st' = st) (hw : (st'.map fun v => v.category).sum ≤ 8) (hk1 : k + mc ≤ K) (hn1 : n + ms ≤ N)
    (kk : ∀ h', P h' → X E M d K N Z (pc + 3) L st' h' (k + mc) (n + ms)) : X E M d K N Z pc L st h k n :=
  x_callV hd hlk hm hin hsel ho hci hC hdd hs hw hk1 hn1 (fun _ h' hp => by obtain ⟨rfl, hp⟩ := hp; exact kk h' hp)
theorem x_callVq {index o ci : Nat} {fs : List Value} {T : u_T} {Nf : Nat} {P : Value → xH → Prop} (hd : decode M.2.1 pc = .ok (.invokevirtual index, 3)) (hlk : xLk M.1.cls index M'.1) (hC : xCt E dd mc ms M' (.ref o :: av) h (rQ P)) (hm : xMt M' av.length) (hin : Cond.instanceMethod M'.1 ∈ GW) (hsel : Cond.selects M'.1.cls M'.1 M'.1 ∈ GW) (ho : h[o]? = some (.inr (ci, fs))) (hci : vwCl[ci]? = some (M'.1.cls, T, Nf)) (hdd : dd + 1 ≤ d) (hs : av.reverse ++ .ref o :: st' = st) (hw : (st'.map fun v => v.category).sum ≤ 8) (hk1 : k + mc ≤ K) (hn1 : n + ms ≤ N)
    (kk : ∀ v h', P v h' → X E M d K N Z (pc + 3) L (v :: st') h' (k + mc) (n + ms)) : X E M d K N Z pc L st h k n :=
  x_callV hd hlk hm hin hsel ho hci hC hdd hs hw hk1 hn1 (fun _ h' hp => by obtain ⟨v, rfl, hp⟩ := hp; exact kk v h' hp)
end XC2
def eTx (sy : Nat → Int) (fi fl : Int) (hd be : Nat) (ng : Int) (m j : Nat) : Int :=
  if j < hd ∨ be ≤ j then sgC (sy j) ng
  else if fl = 1 ∧ hd < fs (stn sy (dp sy fi fl hd) be m) (be - hd) hd ∧ fs (stn sy (dp sy fi fl hd) be m) (be - hd) hd < be ∧ j + 1 = fs (stn sy (dp sy fi fl hd) be m) (be - hd) hd then sgC fi ng
  else if j < fs (stn sy (dp sy fi fl hd) be m) (be - hd) hd then (if fi = 42 then 42 else 32)
  else wbt sy (dp sy fi fl hd) be m j
theorem eTx_r {sy : Nat → Int} {fi fl : Int} {hd be : Nat} {ng : Int} {m j : Nat} (hs : 0 ≤ sy j ∧ sy j < 65536) (hfi : 0 ≤ fi ∧ fi < 65536) : 0 ≤ eTx sy fi fl hd be ng m j ∧ eTx sy fi fl hd be ng m j < 65536 := by
  have h1 := sgC_r (ng := ng) hs
  have h2 := sgC_r (ng := ng) hfi
  have h3 := wbt_r (d := dp sy fi fl hd) (be := be) (m := m) hs
  unfold eTx
  (repeat' split) <;> omega
set_option maxHeartbeats 2000000 in
theorem c_edit (E : xEnv) (h : xH) (e t p q hd be ct : Nat) (dg sc sg ed fi fl u : Int) (sy T : Nat → Int) (he : h[e]? = some (oE t)) (ht : h[t]? = some (aI 18 T)) (hp : h[p]? = some (oP q ct dg sc sg ed hd be fi fl)) (hq : h[q]? = some (aC 18 sy)) (hte : t ≠ e) (htp : t ≠ p) (htq : t ≠ q) (hs : sOk sy) (hhb : hd ≤ be) (hbe : be ≤ ct) (hct : ct ≤ 18) (hfi : 0 ≤ fi ∧ fi < 65536) (hfl : fl = 0 ∨ fl = 1) (hu : u.natAbs < 1000000000000) (hT : ∀ j, j < 18 → iR (T j)) : xCt E 2 0 0 M_ED_edit [.ref e, .ref p, vL u] h (rP (fun h' => ∃ T' : Nat → Int, h' = h.set t (aI 18 T') ∧ (∀ j, j < ct → T' j = eTx sy fi fl hd be (if u < 0 then 1 else 0) u.natAbs j) ∧ ∀ j, j < 18 → iR (T' j))) := by
  refine x_met rfl rfl (Nat.le_of_ble_eq_true rfl) ?_
  obtain ⟨Z, hZ⟩ : ∃ Z, Z = (xZ E 0 0 (rP (fun h' => ∃ T' : Nat → Int, h' = h.set t (aI 18 T') ∧ (∀ j, j < ct → T' j = eTx sy fi fl hd be (if u < 0 then 1 else 0) u.natAbs j) ∧ ∀ j, j < 18 → iR (T' j)))) := ⟨_, rfl⟩
  obtain ⟨ng, hng⟩ : ∃ ng : Int, ng = if u < 0 then 1 else 0 := ⟨_, rfl⟩
  have hng1 : ng = 0 ∨ ng = 1 := by subst hng; split <;> omega
  obtain ⟨sh, hsh⟩ : ∃ sh, sh = fs (stn sy (dp sy fi fl hd) be u.natAbs) (be - hd) hd := ⟨_, rfl⟩
  have hshl := fs_le (stn sy (dp sy fi fl hd) be u.natAbs) (be - hd) hd
  rw [← hsh] at hshl
  rw [← hng] at hZ
  have tail : ∀ (r k : Nat) (G : Nat → Int) (i : Int), k + r = ct → be ≤ k → i = (k : Int) → (∀ j, j < k → G j = eTx sy fi fl hd be ng u.natAbs j) → (∀ j, j < 18 → iR (G j)) → X E M_ED_edit 2 0 0 Z 77 [some (.ref e), some (.ref p), some (vL u), none, some (vI ng), some (vI i)] [] (h.set t (aI 18 G)) 0 0 := by
    intro r
    induction r with
    | zero =>
      intro k G i hk hbk hi hG hGr
      refine x_iload d_ED_edit_77 rfl ?_
      refine x_aload_n d_ED_edit_79 rfl rfl rfl ?_
      refine x_get 2 1 d_ED_edit_80 gf_ED_50 (by first | assumption | exact hs_self (by assumption) | exact hs_ne (by first | assumption | omega) (by assumption) | exact hs_ne (by first | assumption | omega) (hs_self (by assumption)) | exact hs_ne (by first | assumption | omega) (hs_ne (by first | assumption | omega) (by assumption))) (by rfl) ?_
      refine j_icmp_ge 111 d_ED_edit_83 (by decide) (by unfold iR; omega) (by unfold iR; omega) (fun c83 => ?_) (fun c83 => ?_)
      · rw [hZ]
        refine x_return d_ED_edit_111 rfl ?_
        exact ⟨rfl, G, rfl, fun j hj => hG j (by omega), hGr⟩
      · exfalso; omega
    | succ r ih =>
      intro k G i hk hbk hi hG hGr
      have hs1 := hs k (by omega)
      have hsg := sgC_r (ng := ng) hs1
      refine x_iload d_ED_edit_77 rfl ?_
      refine x_aload_n d_ED_edit_79 rfl rfl rfl ?_
      refine x_get 2 1 d_ED_edit_80 gf_ED_50 (by first | assumption | exact hs_self (by assumption) | exact hs_ne (by first | assumption | omega) (by assumption) | exact hs_ne (by first | assumption | omega) (hs_self (by assumption)) | exact hs_ne (by first | assumption | omega) (hs_ne (by first | assumption | omega) (by assumption))) (by rfl) ?_
      refine j_icmp_ge 111 d_ED_edit_83 (by decide) (by unfold iR; omega) (by unfold iR; omega) (fun c83 => ?_) (fun c83 => ?_)
      · exfalso; omega
      refine x_aload_n d_ED_edit_86 rfl rfl rfl ?_
      refine x_get 0 0 d_ED_edit_87 gf_ED_9 (by first | assumption | exact hs_self (by assumption) | exact hs_ne (by first | assumption | omega) (by assumption) | exact hs_ne (by first | assumption | omega) (hs_self (by assumption)) | exact hs_ne (by first | assumption | omega) (hs_ne (by first | assumption | omega) (by assumption))) (by rfl) ?_
      refine x_iload d_ED_edit_90 rfl ?_
      refine x_aload_n d_ED_edit_92 rfl rfl rfl ?_
      refine x_get 2 0 d_ED_edit_93 gf_ED_21 (by first | assumption | exact hs_self (by assumption) | exact hs_ne (by first | assumption | omega) (by assumption) | exact hs_ne (by first | assumption | omega) (hs_self (by assumption)) | exact hs_ne (by first | assumption | omega) (hs_ne (by first | assumption | omega) (by assumption))) (by rfl) ?_
      refine x_iload d_ED_edit_96 rfl ?_
      refine j_cald d_ED_edit_98 (by first | assumption | exact hs_self (by assumption) | exact hs_ne (by first | assumption | omega) (by assumption) | exact hs_ne (by first | assumption | omega) (hs_self (by assumption)) | exact hs_ne (by first | assumption | omega) (hs_ne (by first | assumption | omega) (by assumption))) (by omega) (by omega) (by decide) ?_
      refine x_top (w := vI (sy k)) (by rw [show i.toNat = k by omega]) ?_
      refine x_iload d_ED_edit_99 rfl ?_
      refine x_callS1 (M' := M_ED_signCharacter) d_ED_edit_101 lk_ED_25 (c_signChar E _ (sy k) ng hs1 hng1) mt_ED_signCharacter st_ED_signCharacter (by decide) rfl (Nat.le_of_ble_eq_true rfl) (by decide) (by decide) ?_
      refine j_iast d_ED_edit_104 (by first | assumption | exact hs_self (by assumption) | exact hs_ne (by first | assumption | omega) (by assumption) | exact hs_ne (by first | assumption | omega) (hs_self (by assumption)) | exact hs_ne (by first | assumption | omega) (hs_ne (by first | assumption | omega) (by assumption))) (by omega) (by omega) (by decide) ?_
      rw [List.set_set]
      refine j_iinc d_ED_edit_105 rfl ?_
      refine x_goto 77 d_ED_edit_108 (by decide) ?_
      refine ih (k + 1) _ _ (by omega) (by omega) (by omega) (fun j hj => ?_) (fun j hj => ?_)
      · by_cases hjk : j = k
        · subst hjk
          rw [show i.toNat = j by omega, gU_self]
          unfold eTx
          rw [if_pos (Or.inr hbk)]
        · rw [gU_ne _ _ (by omega)]
          exact hG j (by omega)
      · by_cases hjk : j = k
        · subst hjk
          rw [show i.toNat = j by omega, gU_self]
          unfold iR; omega
        · rw [gU_ne _ _ (by omega)]
          exact hGr j hj
  have mid : ∀ (G : Nat → Int) (x : Option Value), (∀ j, j < hd → G j = sgC (sy j) ng) → (∀ j, j < 18 → iR (G j)) → X E M_ED_edit 2 0 0 Z 50 [some (.ref e), some (.ref p), some (vL u), none, some (vI ng), x] [] (h.set t (aI 18 G)) 0 0 := by
    intro G x hG hGr
    have ht1 := hs_self (e := aI 18 G) ht
    refine x_aload_n d_ED_edit_50 rfl rfl rfl ?_
    refine x_aload_n d_ED_edit_51 rfl rfl rfl ?_
    refine x_lload_n d_ED_edit_52 rfl rfl ?_
    refine j_labs d_ED_edit_53 lk_ED_29w (by unfold lR; omega) (by decide) (Nat.le_of_ble_eq_true rfl) ?_
    refine x_callVp (M' := M_ED_writeBody) d_ED_edit_56 lk_ED_35 (c_writeBody E _ e t p q hd be u.natAbs ct dg sc sg ed fi fl sy G (hs_ne hte he) ht1 (hs_ne htp hp) (hs_ne htq hq) hte htp htq hs hhb (by omega) hfi hfl hu) mt_ED_writeBody im_ED_writeBody se_ED_writeBody (by first | assumption | exact hs_self (by assumption) | exact hs_ne (by first | assumption | omega) (by assumption) | exact hs_ne (by first | assumption | omega) (hs_self (by assumption)) | exact hs_ne (by first | assumption | omega) (hs_ne (by first | assumption | omega) (by assumption))) rfl (by decide) rfl (Nat.le_of_ble_eq_true rfl) (by decide) (by decide) ?_
    rintro h' ⟨T1, rfl, hA, hB⟩
    rw [List.set_set]
    have ht2 := hs_self (e := aI 18 T1) ht
    refine x_aload_n d_ED_edit_59 rfl rfl rfl ?_
    refine x_aload_n d_ED_edit_60 rfl rfl rfl ?_
    refine x_aload_n d_ED_edit_61 rfl rfl rfl ?_
    refine x_aload_n d_ED_edit_62 rfl rfl rfl ?_
    refine x_callV1 (M' := M_ED_firstShown) d_ED_edit_63 lk_ED_39 (c_firstShown E _ e t p q hd be u.natAbs ct dg sc sg ed fi fl sy T1 (hs_ne hte he) ht2 (hs_ne htp hp) (hs_ne htq hq) hs hhb (by omega) hfi hfl hA) mt_ED_firstShown im_ED_firstShown se_ED_firstShown (by first | assumption | exact hs_self (by assumption) | exact hs_ne (by first | assumption | omega) (by assumption) | exact hs_ne (by first | assumption | omega) (hs_self (by assumption)) | exact hs_ne (by first | assumption | omega) (hs_ne (by first | assumption | omega) (by assumption))) rfl (by decide) rfl (Nat.le_of_ble_eq_true rfl) (by decide) (by decide) ?_
    rw [← hsh]
    refine x_iload d_ED_edit_66 rfl ?_
    refine x_callVp (M' := M_ED_suppress) d_ED_edit_68 lk_ED_43 (c_suppress E _ e t p q hd be sh ct dg sc sg ed fi fl ng T1 (hs_ne hte he) ht2 (hs_ne htp hp) hte htp (by omega) (by omega) (by omega) hfi hfl hng1) mt_ED_suppress im_ED_suppress se_ED_suppress (by first | assumption | exact hs_self (by assumption) | exact hs_ne (by first | assumption | omega) (by assumption) | exact hs_ne (by first | assumption | omega) (hs_self (by assumption)) | exact hs_ne (by first | assumption | omega) (hs_ne (by first | assumption | omega) (by assumption))) rfl (by decide) rfl (Nat.le_of_ble_eq_true rfl) (by decide) (by decide) ?_
    rintro h' ⟨T2, rfl, hC⟩
    rw [List.set_set]
    have hval : ∀ j, j < be → T2 j = eTx sy fi fl hd be ng u.natAbs j := by
      intro j hj
      rw [hC j]
      unfold eTx
      rw [← hsh]
      by_cases hjh : j < hd
      · rw [if_neg (show ¬ (fl = 1 ∧ hd < sh ∧ sh < be ∧ j + 1 = sh) by omega), if_neg (show ¬ (hd ≤ j ∧ j < sh) by omega), if_pos (show j < hd ∨ be ≤ j by omega), hB j (Or.inl hjh)]
        exact hG j hjh
      · rw [if_neg (show ¬ (j < hd ∨ be ≤ j) by omega)]
        by_cases hf : fl = 1 ∧ hd < sh ∧ sh < be ∧ j + 1 = sh
        · rw [if_pos hf, if_pos hf]
        · rw [if_neg hf, if_neg hf]
          by_cases hjs : j < sh
          · rw [if_pos (show hd ≤ j ∧ j < sh by omega), if_pos hjs]
          · rw [if_neg (show ¬ (hd ≤ j ∧ j < sh) by omega), if_neg hjs]
            exact hA j (by omega) hj
    have hrng : ∀ j, j < 18 → iR (T2 j) := by
      intro j hj
      by_cases hjb : j < be
      · rw [hval j hjb]
        have := eTx_r (fl := fl) (hd := hd) (be := be) (ng := ng) (m := u.natAbs) (hs j hj) hfi
        unfold iR; omega
      · rw [hC j, if_neg (show ¬ (fl = 1 ∧ hd < sh ∧ sh < be ∧ j + 1 = sh) by omega), if_neg (show ¬ (hd ≤ j ∧ j < sh) by omega), hB j (by omega)]
        exact hGr j hj
    refine x_aload_n d_ED_edit_71 rfl rfl rfl ?_
    refine x_get 2 7 d_ED_edit_72 gf_ED_47 (by first | assumption | exact hs_self (by assumption) | exact hs_ne (by first | assumption | omega) (by assumption) | exact hs_ne (by first | assumption | omega) (hs_self (by assumption)) | exact hs_ne (by first | assumption | omega) (hs_ne (by first | assumption | omega) (by assumption))) (by rfl) ?_
    refine x_istore d_ED_edit_75 (Nat.le_of_ble_eq_true rfl) ?_
    exact tail (ct - be) be T2 _ (by omega) (Nat.le_refl _) rfl hval hrng
  have head : ∀ (r k : Nat) (G : Nat → Int) (i : Int), k + r = hd → i = (k : Int) → (∀ j, j < k → G j = sgC (sy j) ng) → (∀ j, j < 18 → iR (G j)) → X E M_ED_edit 2 0 0 Z 16 [some (.ref e), some (.ref p), some (vL u), none, some (vI ng), some (vI i)] [] (h.set t (aI 18 G)) 0 0 := by
    intro r
    induction r with
    | zero =>
      intro k G i hk hi hG hGr
      refine x_iload d_ED_edit_16 rfl ?_
      refine x_aload_n d_ED_edit_18 rfl rfl rfl ?_
      refine x_get 2 6 d_ED_edit_19 gf_ED_15 (by first | assumption | exact hs_self (by assumption) | exact hs_ne (by first | assumption | omega) (by assumption) | exact hs_ne (by first | assumption | omega) (hs_self (by assumption)) | exact hs_ne (by first | assumption | omega) (hs_ne (by first | assumption | omega) (by assumption))) (by rfl) ?_
      refine j_icmp_ge 50 d_ED_edit_22 (by decide) (by unfold iR; omega) (by unfold iR; omega) (fun c22 => ?_) (fun c22 => ?_)
      · exact mid G _ (fun j hj => hG j (by omega)) hGr
      · exfalso; omega
    | succ r ih =>
      intro k G i hk hi hG hGr
      have hs1 := hs k (by omega)
      have hsg := sgC_r (ng := ng) hs1
      refine x_iload d_ED_edit_16 rfl ?_
      refine x_aload_n d_ED_edit_18 rfl rfl rfl ?_
      refine x_get 2 6 d_ED_edit_19 gf_ED_15 (by first | assumption | exact hs_self (by assumption) | exact hs_ne (by first | assumption | omega) (by assumption) | exact hs_ne (by first | assumption | omega) (hs_self (by assumption)) | exact hs_ne (by first | assumption | omega) (hs_ne (by first | assumption | omega) (by assumption))) (by rfl) ?_
      refine j_icmp_ge 50 d_ED_edit_22 (by decide) (by unfold iR; omega) (by unfold iR; omega) (fun c22 => ?_) (fun c22 => ?_)
      · exfalso; omega
      refine x_aload_n d_ED_edit_25 rfl rfl rfl ?_
      refine x_get 0 0 d_ED_edit_26 gf_ED_9 (by first | assumption | exact hs_self (by assumption) | exact hs_ne (by first | assumption | omega) (by assumption) | exact hs_ne (by first | assumption | omega) (hs_self (by assumption)) | exact hs_ne (by first | assumption | omega) (hs_ne (by first | assumption | omega) (by assumption))) (by rfl) ?_
      refine x_iload d_ED_edit_29 rfl ?_
      refine x_aload_n d_ED_edit_31 rfl rfl rfl ?_
      refine x_get 2 0 d_ED_edit_32 gf_ED_21 (by first | assumption | exact hs_self (by assumption) | exact hs_ne (by first | assumption | omega) (by assumption) | exact hs_ne (by first | assumption | omega) (hs_self (by assumption)) | exact hs_ne (by first | assumption | omega) (hs_ne (by first | assumption | omega) (by assumption))) (by rfl) ?_
      refine x_iload d_ED_edit_35 rfl ?_
      refine j_cald d_ED_edit_37 (by first | assumption | exact hs_self (by assumption) | exact hs_ne (by first | assumption | omega) (by assumption) | exact hs_ne (by first | assumption | omega) (hs_self (by assumption)) | exact hs_ne (by first | assumption | omega) (hs_ne (by first | assumption | omega) (by assumption))) (by omega) (by omega) (by decide) ?_
      refine x_top (w := vI (sy k)) (by rw [show i.toNat = k by omega]) ?_
      refine x_iload d_ED_edit_38 rfl ?_
      refine x_callS1 (M' := M_ED_signCharacter) d_ED_edit_40 lk_ED_25 (c_signChar E _ (sy k) ng hs1 hng1) mt_ED_signCharacter st_ED_signCharacter (by decide) rfl (Nat.le_of_ble_eq_true rfl) (by decide) (by decide) ?_
      refine j_iast d_ED_edit_43 (by first | assumption | exact hs_self (by assumption) | exact hs_ne (by first | assumption | omega) (by assumption) | exact hs_ne (by first | assumption | omega) (hs_self (by assumption)) | exact hs_ne (by first | assumption | omega) (hs_ne (by first | assumption | omega) (by assumption))) (by omega) (by omega) (by decide) ?_
      rw [List.set_set]
      refine j_iinc d_ED_edit_44 rfl ?_
      refine x_goto 16 d_ED_edit_47 (by decide) ?_
      refine ih (k + 1) _ _ (by omega) (by omega) (fun j hj => ?_) (fun j hj => ?_)
      · by_cases hjk : j = k
        · subst hjk
          rw [show i.toNat = j by omega, gU_self]
        · rw [gU_ne _ _ (by omega)]
          exact hG j (by omega)
      · by_cases hjk : j = k
        · subst hjk
          rw [show i.toNat = j by omega, gU_self]
          unfold iR; omega
        · rw [gU_ne _ _ (by omega)]
          exact hGr j hj
  have e0 := hset_id ht
  rw [← hng, ← hZ]
  have start : X E M_ED_edit 2 0 0 Z 11 [some (.ref e), some (.ref p), some (vL u), none, none, none] [vI ng] h 0 0 := by
    refine x_istore d_ED_edit_11 (Nat.le_of_ble_eq_true rfl) ?_
    refine j_iconst d_ED_edit_13 ?_
    refine x_istore d_ED_edit_14 (Nat.le_of_ble_eq_true rfl) ?_
    have := head hd 0 T 0 (by omega) rfl (fun j hj => by omega) hT
    rw [e0] at this
    exact this
  refine x_lload_n d_ED_edit_0 rfl rfl ?_
  refine j_lconst 0 d_ED_edit_1 (by decide) ?_
  refine j_lcmp_ge 10 d_ED_edit_2 d_ED_edit_3 (by decide) (by unfold lR; omega) (by unfold lR; omega) (fun c2 => ?_) (fun c2 => ?_)
  · refine j_iconst d_ED_edit_10 ?_
    rw [show (0 : Int) = ng by rw [hng, if_neg (by omega)]]
    exact start
  · refine j_iconst d_ED_edit_6 ?_
    refine x_goto 11 d_ED_edit_7 (by decide) ?_
    rw [show (1 : Int) = ng by rw [hng, if_pos (by omega)]]
    exact start
