/-! the class's own helpers, over its world -/
abbrev th (S : ST) (z : Int) : Prop := 0 ≤ z ∧ z < zN S
abbrev opd (S : ST) (z : Int) : Prop := th S z ∧ ¬ fM (zD S z.toNat) = 4
def gF (S : ST) (Y : LY) (z : Int) : Value := if th S z then .ref (lF' Y z.toNat) else .null
theorem gF_rf (S : ST) (Y : LY) (z : Int) : xrf (gF S Y z) = true := by unfold gF; split <;> rfl
theorem gF_null {S : ST} {Y : LY} {z : Int} : gF S Y z = .null ↔ ¬ th S z := by
  unfold gF
  by_cases h : th S z
  · rw [if_pos h]; simp [h]
  · rw [if_neg h]; simp [h]
theorem gF_pos {S : ST} {Y : LY} {z : Int} (h : th S z) : gF S Y z = .ref (lF' Y z.toNat) := if_pos h
theorem w_fieldAt {E : xEnv} {h : xH} {po : Nat} {Y : LY} {S : ST} (z : Int) (hO : SO S) (hW : CW h po Y S) (hz : iR z) : xCt E 0 0 0 M_PR_fieldAt [.ref po, vI z] h (rV (gF S Y z) h) := by
  obtain ⟨w0, w1, ⟨mk, w2, w3⟩, -⟩ := hW
  refine xCt_rV (c_fieldAt E h po (lS Y) (zN S) (zL S) (zE S) (zF S) z mk w0 w2 hO.1 hz) ?_ rfl
  unfold gF
  by_cases hc : th S z
  · rw [if_pos hc, if_pos hc, w3 _ (by have := hc.2; omega)]; rfl
  · rw [if_neg hc, if_neg hc]
def op01 (S : ST) (z : Int) : Int := if opd S z then 1 else 0
theorem op01_r (S : ST) (z : Int) : op01 S z = 0 ∨ op01 S z = 1 := by unfold op01; split <;> omega
theorem op01_0 {S : ST} {z : Int} : op01 S z = 0 ↔ ¬ opd S z := by unfold op01; exact ite10
theorem w_isOperand {E : xEnv} {h : xH} {po : Nat} {Y : LY} {S : ST} (z : Int) (hO : SO S) (hW : CW h po Y S) : xCt E 1 0 0 M_PR_isOperand [gF S Y z] h (rV (vI (op01 S z)) h) := by
  by_cases hc : th S z
  · rw [gF_pos hc]
    have hi : z.toNat < zN S := by have := hc.2; have := hc.1; omega
    refine xCt_rV (c_isOperand E h _ _ _ _ (hW.2.2.2.2.2.2 _ hi).1 (hO.2.2.2.2 _ hi).1) ?_ rfl
    unfold op01
    by_cases h4 : fM (zD S z.toNat) = 4
    · rw [if_pos h4, if_neg (fun x => x.2 h4)]
    · rw [if_neg h4, if_pos ⟨hc, h4⟩]
  · rw [gF_null.mpr hc]
    refine xCt_rV (c_isOperandN E h) ?_ rfl
    unfold op01
    rw [if_neg (fun x => hc x.1)]
theorem w_unitsOf {E : xEnv} {h : xH} {po : Nat} {Y : LY} {S : ST} (i : Nat) (hO : SO S) (hW : CW h po Y S) (hi : i < zN S) : xCt E 4 0 0 M_SG_unitsOf [.ref (po + 5), .ref (lF' Y i)] h (rQ (fun v h' => v = vL ((uA (zD S i) (zB S)).getD nonI) ∧ CW h' po Y S ∧ frC po h h' ∧ h'[po + 9]? = h[po + 9]?)) := by
  have hW0 := hW
  obtain ⟨-, -, -, ⟨T, s1, s2, s3, s4, s5, s6⟩, -, -, w5⟩ := hW
  obtain ⟨a, b⟩ := w5 i hi
  obtain ⟨b1, b2, b3⟩ := far_fd b
  refine xCt_q (c_unitsOf E h (po + 5) (po + 6) (po + 7) (po + 8) _ _ _ _ _ T s1 s2 s3 s4 a (hO.2.2.2.2 i hi).1 (by omega) (by omega) (by omega) (by omega) (by omega) (by omega) s6 s5) ?_
  rintro v h' ⟨rfl, T', rfl, hT'⟩
  exact ⟨rfl, CW_text hW0 hT', frC_set (frC_refl _ _) (by omega), List.getElem?_set_ne (by omega)⟩
def sRs (S : ST) (j : Nat) (o : Option Int) : ST := (nB (zD S j) (zB S) o, zR S, zL S, zN S, zD S, zE S + e01 o, zF S)
theorem SO_sRs {S : ST} {j : Nat} (o : Option Int) (hO : SO S) (hj : j < zN S) : SO (sRs S j o) := by
  obtain ⟨a, b, c, d, e⟩ := hO
  exact ⟨a, b, c, bOk_nB d (e j hj).1 (e j hj).2.2, e⟩
theorem w_storeResult {E : xEnv} {h : xH} {po : Nat} {Y : LY} {S : ST} (i : Nat) (z sc dv mode : Int) (o : Option Int) (hO : SO S) (hW : CW h po Y S) (hi : i < zN S) (hz : z.natAbs < 4000000000000000000) (hs : -8 ≤ (fS (zD S i) : Int) - sc ∧ (fS (zD S i) : Int) - sc ≤ 8) (hdv : dv.natAbs < 1000000000) (hmd : 0 ≤ mode ∧ mode ≤ 7) (ho : cRes z sc dv (fS (zD S i)) (fN (zD S i)) mode = o) : xCt E 5 0 0 M_PR_storeResult [.ref po, .ref (lF' Y i), vL z, vI sc, vL dv, vI mode] h (rQ (fun w h' => w = vI (1 - e01 o) ∧ CW h' po Y (sRs S i o) ∧ frC po h h' ∧ h'[po + 9]? = h[po + 9]?)) := by
  have hW0 := hW
  obtain ⟨w0, -, -, ⟨T, s⟩, -, -, w5⟩ := hW
  obtain ⟨a, b⟩ := w5 i hi
  refine xCt_q (c_storeResult E h po (lS Y) _ _ _ (zL S) (zN S) (zE S) (zF S) z sc dv mode _ _ T w0 s a (hO.2.2.2.2 i hi).1 (far_fd b) hz hs hdv hmd) ?_
  rintro v h' ⟨rfl, T', rfl, hT'⟩
  rw [ho]
  have e := hO.2.2.2.2 i hi
  refine ⟨rfl, CW_step hW0 hT' (bOk_nB hO.2.2.2.1 e.1 e.2.2), frC_set (frC_set (frC_set (frC_refl _ _) (by omega)) (by omega)) (by omega), ?_⟩
  rw [List.getElem?_set_ne (by omega), List.getElem?_set_ne (by omega), List.getElem?_set_ne (by omega)]
def sUn (S : ST) : ST := (zB S, zR S, zL S, zN S, zD S, zE S, zF S + 1)
theorem w_dataError {E : xEnv} {h : xH} {po : Nat} {Y : LY} {S : ST} (hW : CW h po Y S) : xCt E 0 0 0 M_PR_dataError [.ref po] h (rQ (fun w h' => w = vI (-2) ∧ CW h' po Y (sUn S) ∧ frC po h h')) := by
  refine xCt_mono (c_dataError E h po (lS Y) (zL S) (zN S) (zE S) (zF S) hW.1) ?_
  rintro r h' ⟨rfl, rfl⟩
  exact ⟨_, rfl, rfl, CW_obj hW, frC_set (frC_refl _ _) (by omega)⟩
def mvU (D : FD) (p q : Int) : Int := if fG D = 1 then ((p * 10 ^ fS D).tdiv q).tmod (10 ^ fN D) else ((((p * 10 ^ fS D).tdiv q).tmod (10 ^ fN D)).natAbs : Int)
def sB (S : ST) (B : Nat → Int) : ST := (B, zR S, zL S, zN S, zD S, zE S, zF S)
set_option maxHeartbeats 4000000 in
theorem w_storeByMove {E : xEnv} {h : xH} {po : Nat} {Y : LY} {S : ST} (i sc : Nat) (z : Int) (hO : SO S) (hW : CW h po Y S) (hi : i < zN S) (hz : z.natAbs < 100000000000) (hs : sc ≤ 9) : xCt E 5 0 0 M_PR_storeByMove [.ref po, .ref (lF' Y i), vL z, vI sc] h (rP (fun h' => CW h' po Y (sB S (stA (zD S i) (zB S) (mvU (zD S i) z (10 ^ sc)))) ∧ frC po h h')) := by
  refine x_met rfl rfl (Nat.le_of_ble_eq_true rfl) ?_
  have hW0 := hW
  obtain ⟨w0, -, -, ⟨T, s1, s2, s3, s4, s5, s6⟩, -, -, w5⟩ := hW
  obtain ⟨a, b⟩ := w5 i hi
  have e := hO.2.2.2.2 i hi
  obtain ⟨b1, b2, b3⟩ := far_fd b
  have a1 := a.1
  obtain ⟨hm4, hn, hsc, hg, ho, -⟩ := e.1
  generalize hDe : zD S i = D at *
  have hps := pow10_le (n := fS D) (m := 4) hsc
  have hps0 := pow10_pos (fS D)
  have hpc := pow10_le (n := sc) (m := 9) hs
  have hpc0 := pow10_pos sc
  have hpl := pow10_le (n := fN D) (m := 9) (by omega)
  have hpl0 := pow10_pos (fN D)
  have hm := mul_abs_lt (a := z) (b := 10 ^ fS D) (x := 100000000000) (y := 10000) hz (by omega) (by decide)
  have hd := Int.natAbs_tdiv_le_natAbs (z * 10 ^ fS D) (10 ^ sc)
  have hr := tmod_abs (p := (z * 10 ^ fS D).tdiv (10 ^ sc)) (q := 10 ^ fN D) hpl0
  refine x_lload_n d_PR_storeByMove_0 rfl rfl ?_
  refine x_aload_n d_PR_storeByMove_1 rfl rfl (by first | rfl | assumption) ?_
  refine x_get 1 5 d_PR_storeByMove_2 gf_PR_69 (by repeat (first | assumption | exact hs_self (by assumption) | exact hs_self (hs_ne (by omega) (by assumption)) | exact hs_self (hs_ne (by omega) (hs_ne (by omega) (by assumption))) | refine hs_ne (by omega) ?_)) (by rfl) ?_
  refine x_callS1 (M' := M_DC_tenTo) d_PR_storeByMove_5 lk_PR_148 (c_tenTo E h (fS D) (by omega)) mt_DC_tenTo st_DC_tenTo (by decide) rfl (Nat.le_of_ble_eq_true rfl) (by decide) (by decide) ?_
  refine j_lmul d_PR_storeByMove_8 ?_
  refine x_iload d_PR_storeByMove_9 rfl ?_
  refine x_callS1 (M' := M_DC_tenTo) d_PR_storeByMove_11 lk_PR_148 (c_tenTo E h sc (by omega)) mt_DC_tenTo st_DC_tenTo (by decide) rfl (Nat.le_of_ble_eq_true rfl) (by decide) (by decide) ?_
  refine j_ldiv d_PR_storeByMove_14 (by unfold lR; omega) (by unfold lR; omega) (by first | decide | omega) ?_
  refine x_lstore d_PR_storeByMove_15 (Nat.le_of_ble_eq_true rfl) ?_
  refine x_aload_n d_PR_storeByMove_17 rfl rfl (by first | rfl | assumption) ?_
  refine x_get 4 5 d_PR_storeByMove_18 gf_PR_29 (by repeat (first | assumption | exact hs_self (by assumption) | exact hs_self (hs_ne (by omega) (by assumption)) | exact hs_self (hs_ne (by omega) (hs_ne (by omega) (by assumption))) | refine hs_ne (by omega) ?_)) (by rfl) ?_
  refine x_aload_n d_PR_storeByMove_21 rfl rfl (by first | rfl | assumption) ?_
  refine x_lload d_PR_storeByMove_22 rfl ?_
  refine x_aload_n d_PR_storeByMove_24 rfl rfl (by first | rfl | assumption) ?_
  refine x_get 1 4 d_PR_storeByMove_25 gf_PR_66 (by repeat (first | assumption | exact hs_self (by assumption) | exact hs_self (hs_ne (by omega) (by assumption)) | exact hs_self (hs_ne (by omega) (hs_ne (by omega) (by assumption))) | refine hs_ne (by omega) ?_)) (by rfl) ?_
  refine x_callS1 (M' := M_DC_tenTo) d_PR_storeByMove_28 lk_PR_148 (c_tenTo E h (fN D) (by omega)) mt_DC_tenTo st_DC_tenTo (by decide) rfl (Nat.le_of_ble_eq_true rfl) (by decide) (by decide) ?_
  refine j_lrem d_PR_storeByMove_31 (by unfold lR; omega) (by unfold lR; omega) (by first | decide | omega) ?_
  refine x_callVp (M' := M_SG_store) d_PR_storeByMove_32 lk_PR_156 (c_store E h (po + 5) (po + 6) (po + 7) (po + 8) _ _ _ D _ T _ s1 s2 s3 s4 a e.1 (by omega) (by omega) (by omega) (by omega) (by omega) (by omega) (by omega) (by omega) (by omega) s5) mt_SG_store im_SG_store se_SG_store (by repeat (first | assumption | exact hs_self (by assumption) | exact hs_self (hs_ne (by omega) (by assumption)) | exact hs_self (hs_ne (by omega) (hs_ne (by omega) (by assumption))) | refine hs_ne (by omega) ?_)) rfl (by decide) rfl (Nat.le_of_ble_eq_true rfl) (by decide) (by decide) ?_
  rintro h' ⟨T', rfl, hT'⟩
  refine x_return d_PR_storeByMove_35 rfl ?_
  refine ⟨rfl, ?_, frC_set (frC_set (frC_refl _ _) (by omega)) (by omega)⟩
  exact CW_byte (CW_text hW0 hT') (bOk_stA s6 e.1 e.2.2)
