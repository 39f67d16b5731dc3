def seI : Int := 9000000000000000000
theorem gA_rGo {mode tw q : Int} {neg : Bool} {od : Bool} (hm : ¬ mode = 7) : (gA mode (if neg = true then 1 else 0) (if tw < q then -1 else if tw = q then 0 else 1) (if od = true then 1 else 0) = 0 ↔ ¬ rGo mode neg tw q od = true) := by
  unfold gA rGo
  cases neg <;> cases od <;> simp <;> (repeat' split) <;> (try simp) <;> (try omega)
theorem rnd_case {mode p q : Int} (h0 : ¬ p.tmod q = 0) (hm : ¬ mode = 7) : rnd mode p q = if gA mode (if p < 0 then 1 else 0) (if 2 * ((p.tmod q).natAbs : Int) < q then -1 else if 2 * ((p.tmod q).natAbs : Int) = q then 0 else 1) (if (p.tdiv q).tmod 2 = 0 then 0 else 1) = 0 then some (p.tdiv q) else some (if p < 0 then p.tdiv q - 1 else p.tdiv q + 1) := by
  unfold rnd
  rw [if_neg h0, if_neg hm]
  have hg := gA_rGo (mode := mode) (tw := 2 * ((p.tmod q).natAbs : Int)) (q := q) (neg := decide (p < 0)) (od := decide (¬ (p.tdiv q).tmod 2 = 0)) hm
  have e2 : (if decide (¬ (p.tdiv q).tmod 2 = 0) = true then (1 : Int) else 0) = if (p.tdiv q).tmod 2 = 0 then 0 else 1 := by
    by_cases hh : (p.tdiv q).tmod 2 = 0 <;> simp [hh]
  have e1 : (if decide (p < 0) = true then (1 : Int) else 0) = if p < 0 then 1 else 0 := by
    by_cases hh : p < 0 <;> simp [hh]
  rw [e1, e2] at hg
  by_cases hr : rGo mode (decide (p < 0)) (2 * ((p.tmod q).natAbs : Int)) q (decide (¬ (p.tdiv q).tmod 2 = 0)) = true
  · rw [if_pos hr, if_neg (fun z => (hg.mp z) hr)]
  · rw [if_neg hr, if_pos (hg.mpr hr)]
set_option maxHeartbeats 1000000 in
theorem c_rounded (E : xEnv) (h : xH) (p q mode : Int) (hp : p.natAbs < 4000000000000000000) (hq : 0 < q) (hq2 : q < 4000000000000000000) (hm : 0 ≤ mode ∧ mode ≤ 7) : xCt E 1 0 0 M_DC_rounded [vL p, vL q, vI mode] h (rV (vL ((rnd mode p q).getD seI)) h) := by
  have hr := tmod_abs (p := p) hq
  have hd : (p.tdiv q).natAbs ≤ p.natAbs := Int.natAbs_tdiv_le_natAbs p q
  refine x_met rfl rfl (Nat.le_of_ble_eq_true rfl) ?_
  refine x_lload_n d_DC_rounded_0 rfl rfl ?_
  refine j_lconst 0 d_DC_rounded_1 (by decide) ?_
  refine j_lcmp_gt 10 d_DC_rounded_2 d_DC_rounded_3 (by decide) (by unfold lR; omega) (by unfold lR; omega) (fun c2 => ?_) (fun c2 => ?_)
  rotate_left
  · exfalso; omega
  refine x_lload_n d_DC_rounded_10 rfl rfl ?_
  refine x_lload_n d_DC_rounded_11 rfl rfl ?_
  refine j_ldiv d_DC_rounded_12 (by unfold lR; omega) (by unfold lR; omega) (by omega) ?_
  refine x_lstore d_DC_rounded_13 (Nat.le_of_ble_eq_true rfl) ?_
  refine x_lload_n d_DC_rounded_15 rfl rfl ?_
  refine x_lload_n d_DC_rounded_16 rfl rfl ?_
  refine j_lrem d_DC_rounded_17 (by unfold lR; omega) (by unfold lR; omega) (by omega) ?_
  refine j_labs d_DC_rounded_18 lk_DC_21w (by unfold lR; omega) (by decide) (Nat.le_of_ble_eq_true rfl) ?_
  refine x_lstore d_DC_rounded_21 (Nat.le_of_ble_eq_true rfl) ?_
  refine x_lload d_DC_rounded_23 rfl ?_
  refine j_lconst 0 d_DC_rounded_25 (by decide) ?_
  refine j_lcmp_ne 33 d_DC_rounded_26 d_DC_rounded_27 (by decide) (by unfold lR; omega) (by unfold lR; omega) (fun c26 => ?_) (fun c26 => ?_)
  rotate_left
  · refine x_lload d_DC_rounded_30 rfl ?_
    refine x_lreturn d_DC_rounded_32 rfl ?_
    exact rV_l (by unfold rnd; rw [if_pos (by omega)]; rfl) rfl
  refine x_iload d_DC_rounded_33 rfl ?_
  refine j_bipush d_DC_rounded_35 (by decide) ?_
  refine j_icmp_ne 44 d_DC_rounded_37 (by decide) (by unfold iR; omega) (by unfold iR; omega) (fun c37 => ?_) (fun c37 => ?_)
  rotate_left
  · refine x_ldc2 d_DC_rounded_40 kl_DC_19 ?_
    refine x_lreturn d_DC_rounded_43 rfl ?_
    exact rV_l (by unfold rnd; rw [if_neg (by omega), if_pos (by omega)]; rfl) rfl
  refine x_ldc2 d_DC_rounded_44 kl_DC_31 ?_
  refine x_lload d_DC_rounded_47 rfl ?_
  refine j_lmul d_DC_rounded_49 ?_
  refine x_lload_n d_DC_rounded_50 rfl rfl ?_
  refine x_callS1 (M' := M_LO_compare) d_DC_rounded_51 lk_DC_33 (c_lcompare E h (2 * (p.tmod q).natAbs) q (by unfold lR; omega) (by unfold lR; omega)) mt_LO_compare st_LO_compare (by decide) rfl (Nat.le_of_ble_eq_true rfl) (by decide) (by decide) ?_
  refine x_istore d_DC_rounded_54 (Nat.le_of_ble_eq_true rfl) ?_
  refine x_iload d_DC_rounded_56 rfl ?_
  refine x_lload_n d_DC_rounded_58 rfl rfl ?_
  refine j_lconst 0 d_DC_rounded_59 (by decide) ?_
  have fin : ∀ (ng od : Int) (L : List (Option Value)), L = [some (vL p), none, some (vL q), none, some (vI mode), some (vL (p.tdiv q)), none, some (vL (p.tmod q).natAbs), none, some (vI (if 2 * ((p.tmod q).natAbs : Int) < q then -1 else if 2 * ((p.tmod q).natAbs : Int) = q then 0 else 1))] → ng = (if p < 0 then 1 else 0) → od = (if (p.tdiv q).tmod 2 = 0 then 0 else 1) → X E M_DC_rounded 1 0 0 (xZ E 0 0 (rV (vL ((rnd mode p q).getD seI)) h)) 87 L [vI od, vI (if 2 * ((p.tmod q).natAbs : Int) < q then -1 else if 2 * ((p.tmod q).natAbs : Int) = q then 0 else 1), vI ng, vI mode] h 0 0 := by
    intro ng od L hL hng hod
    subst hL
    refine x_callS1 (M' := M_DC_goesAway) d_DC_rounded_87 lk_DC_39 (c_goesAway E h mode ng _ od (by unfold iR; omega) (by subst hng; split <;> omega) (by unfold iR; (repeat' split) <;> omega) (by subst hod; split <;> omega)) mt_DC_goesAway st_DC_goesAway (by decide) rfl (Nat.le_of_ble_eq_true rfl) (by decide) (by decide) ?_
    subst hng; subst hod
    have hgr : ∀ z, gA mode (if p < 0 then 1 else 0) (if 2 * ((p.tmod q).natAbs : Int) < q then -1 else if 2 * ((p.tmod q).natAbs : Int) = q then 0 else 1) (if (p.tdiv q).tmod 2 = 0 then 0 else 1) = z → z = 0 ∨ z = 1 := by
      intro z hz
      subst hz
      unfold gA
      (repeat' split) <;> omega
    generalize hga : gA mode (if p < 0 then 1 else 0) (if 2 * ((p.tmod q).natAbs : Int) < q then -1 else if 2 * ((p.tmod q).natAbs : Int) = q then 0 else 1) (if (p.tdiv q).tmod 2 = 0 then 0 else 1) = g at *
    have hgr := hgr g rfl
    have hrc := rnd_case (mode := mode) (p := p) (q := q) (by omega) (by omega)
    rw [hga] at hrc
    refine j_if_ne 96 d_DC_rounded_90 (by decide) (by unfold iR; omega) (fun c90 => ?_) (fun c90 => ?_)
    · refine x_lload_n d_DC_rounded_96 rfl rfl ?_
      refine j_lconst 0 d_DC_rounded_97 (by decide) ?_
      refine j_lcmp_ge 109 d_DC_rounded_98 d_DC_rounded_99 (by decide) (by unfold lR; omega) (by unfold lR; omega) (fun c98 => ?_) (fun c98 => ?_)
      · refine x_lload d_DC_rounded_109 rfl ?_
        refine j_lconst 1 d_DC_rounded_111 (by decide) ?_
        refine j_ladd d_DC_rounded_112 ?_
        refine x_lreturn d_DC_rounded_113 rfl ?_
        exact rV_l (by rw [hrc, if_neg c90, if_neg (by omega)]; rfl) rfl
      · refine x_lload d_DC_rounded_102 rfl ?_
        refine j_lconst 1 d_DC_rounded_104 (by decide) ?_
        refine j_lsub d_DC_rounded_105 ?_
        refine x_goto 113 d_DC_rounded_106 (by decide) ?_
        refine x_lreturn d_DC_rounded_113 rfl ?_
        exact rV_l (by rw [hrc, if_neg c90, if_pos (by omega)]; rfl) rfl
    · refine x_lload d_DC_rounded_93 rfl ?_
      refine x_lreturn d_DC_rounded_95 rfl ?_
      exact rV_l (by rw [hrc, if_pos c90]; rfl) rfl
  have h2 : ((p.tdiv q).tmod 2).natAbs < 2 := by have := tmod_abs (p := p.tdiv q) (q := 2) (by decide); omega
  refine j_lcmp_ge 68 d_DC_rounded_60 d_DC_rounded_61 (by decide) (by unfold lR; omega) (by unfold lR; omega) (fun c60 => ?_) (fun c60 => ?_)
  · refine j_iconst d_DC_rounded_68 ?_
    refine x_iload d_DC_rounded_69 rfl ?_
    refine x_lload d_DC_rounded_71 rfl ?_
    refine x_ldc2 d_DC_rounded_73 kl_DC_31 ?_
    refine j_lrem d_DC_rounded_76 (by unfold lR; omega) (by unfold lR; omega) (by decide) ?_
    refine j_lconst 0 d_DC_rounded_77 (by decide) ?_
    refine j_lcmp_eq 86 d_DC_rounded_78 d_DC_rounded_79 (by decide) (by unfold lR; omega) (by unfold lR; omega) (fun c78 => ?_) (fun c78 => ?_)
    · refine j_iconst d_DC_rounded_86 ?_
      exact fin 0 0 _ rfl (by rw [if_neg (by omega)]) (by rw [if_pos c78])
    · refine j_iconst d_DC_rounded_82 ?_
      refine x_goto 87 d_DC_rounded_83 (by decide) ?_
      exact fin 0 1 _ rfl (by rw [if_neg (by omega)]) (by rw [if_neg c78])
  · refine j_iconst d_DC_rounded_64 ?_
    refine x_goto 69 d_DC_rounded_65 (by decide) ?_
    refine x_iload d_DC_rounded_69 rfl ?_
    refine x_lload d_DC_rounded_71 rfl ?_
    refine x_ldc2 d_DC_rounded_73 kl_DC_31 ?_
    refine j_lrem d_DC_rounded_76 (by unfold lR; omega) (by unfold lR; omega) (by decide) ?_
    refine j_lconst 0 d_DC_rounded_77 (by decide) ?_
    refine j_lcmp_eq 86 d_DC_rounded_78 d_DC_rounded_79 (by decide) (by unfold lR; omega) (by unfold lR; omega) (fun c78 => ?_) (fun c78 => ?_)
    · refine j_iconst d_DC_rounded_86 ?_
      exact fin 1 0 _ rfl (by rw [if_pos (by omega)]) (by rw [if_pos c78])
    · refine j_iconst d_DC_rounded_82 ?_
      refine x_goto 87 d_DC_rounded_83 (by decide) ?_
      exact fin 1 1 _ rfl (by rw [if_pos (by omega)]) (by rw [if_neg c78])
/-- p / q for q of any sign -/
def rndS (mode p q : Int) : Option Int := if q < 0 then rnd mode (-p) (-q) else rnd mode p q
def dRes (z sf dv mode : Int) : Int := if dv = 0 then seI else if sf < 0 then (rndS mode z (dv * 10 ^ (-sf).toNat)).getD seI else if z.natAbs < 1000000000 then (rndS mode (z * 10 ^ sf.toNat) dv).getD seI else seI
theorem pow10_le {n m : Nat} (h : n ≤ m) : (10 : Int) ^ n ≤ 10 ^ m := by
  have := Nat.pow_le_pow_right (n := 10) (by decide) h
  exact_mod_cast this
theorem pow10_pos (n : Nat) : (0 : Int) < 10 ^ n := Int.pow_pos (by decide)
theorem mul_abs_lt {a b : Int} {x y : Nat} (ha : a.natAbs < x) (hb : b.natAbs ≤ y) (hy : 0 < y) : (a * b).natAbs < x * y := by
  rw [Int.natAbs_mul]
  exact Nat.lt_of_le_of_lt (Nat.mul_le_mul_left _ hb) (Nat.mul_lt_mul_of_pos_right ha hy)
set_option maxHeartbeats 1000000 in
theorem c_result (E : xEnv) (h : xH) (z sf dv mode : Int) (hz : z.natAbs < 4000000000000000000) (hs : -8 ≤ sf ∧ sf ≤ 8) (hdv : dv.natAbs < 1000000000) (hm : 0 ≤ mode ∧ mode ≤ 7) : xCt E 2 0 0 M_DC_result [vL z, vI sf, vL dv, vI mode] h (rV (vL (dRes z sf dv mode)) h) := by
  refine x_met rfl rfl (Nat.le_of_ble_eq_true rfl) ?_
  have fin : ∀ (p q : Int) (L : List (Option Value)), L = [some (vL z), none, some (vI sf), some (vL dv), none, some (vI mode), some (vL p), none, some (vL q), none] → ¬ q = 0 → p.natAbs < 4000000000000000000 → q.natAbs < 4000000000000000000 → (rndS mode p q).getD seI = dRes z sf dv mode → X E M_DC_result 2 0 0 (xZ E 0 0 (rV (vL (dRes z sf dv mode)) h)) 62 L [] h 0 0 := by
    intro p q L hL hq0 hp hq hres
    subst hL
    refine x_lload d_DC_result_62 rfl ?_
    refine j_lconst 0 d_DC_result_64 (by decide) ?_
    refine j_lcmp_ge 83 d_DC_result_65 d_DC_result_66 (by decide) (by unfold lR; omega) (by unfold lR; omega) (fun c65 => ?_) (fun c65 => ?_)
    · refine x_lload d_DC_result_83 rfl ?_
      refine x_lload d_DC_result_85 rfl ?_
      refine x_iload d_DC_result_87 rfl ?_
      refine x_callS1 (M' := M_DC_rounded) d_DC_result_89 lk_DC_27 (c_rounded E h p q mode hp (by omega) (by omega) hm) mt_DC_rounded st_DC_rounded (by decide) rfl (Nat.le_of_ble_eq_true rfl) (by decide) (by decide) ?_
      refine x_lreturn d_DC_result_92 rfl ?_
      exact rV_l (by rw [← hres]; unfold rndS; rw [if_neg (by omega)]) rfl
    · refine x_lload d_DC_result_69 rfl ?_
      refine j_lneg d_DC_result_71 ?_
      refine x_lload d_DC_result_72 rfl ?_
      refine j_lneg d_DC_result_74 ?_
      refine x_iload d_DC_result_75 rfl ?_
      refine x_callS1 (M' := M_DC_rounded) d_DC_result_77 lk_DC_27 (c_rounded E h (-p) (-q) mode (by omega) (by omega) (by omega) hm) mt_DC_rounded st_DC_rounded (by decide) rfl (Nat.le_of_ble_eq_true rfl) (by decide) (by decide) ?_
      refine x_goto 92 d_DC_result_80 (by decide) ?_
      refine x_lreturn d_DC_result_92 rfl ?_
      exact rV_l (by rw [← hres]; unfold rndS; rw [if_pos (by omega)]) rfl
  refine x_lload_n d_DC_result_0 rfl rfl ?_
  refine j_lconst 0 d_DC_result_1 (by decide) ?_
  refine j_lcmp_ne 10 d_DC_result_2 d_DC_result_3 (by decide) (by unfold lR; omega) (by unfold lR; omega) (fun c2 => ?_) (fun c2 => ?_)
  · refine x_lload_n d_DC_result_10 rfl rfl ?_
    refine x_lstore d_DC_result_11 (Nat.le_of_ble_eq_true rfl) ?_
    refine x_lload_n d_DC_result_13 rfl rfl ?_
    refine x_lstore d_DC_result_14 (Nat.le_of_ble_eq_true rfl) ?_
    refine x_iload_n d_DC_result_16 rfl rfl ?_
    refine j_if_ge 33 d_DC_result_17 (by decide) (by unfold iR; omega) (fun c17 => ?_) (fun c17 => ?_)
    · refine x_lload_n d_DC_result_33 rfl rfl ?_
      refine j_labs d_DC_result_34 lk_DC_21w (by unfold lR; omega) (by decide) (Nat.le_of_ble_eq_true rfl) ?_
      refine j_bipush d_DC_result_37 (by decide) ?_
      refine x_callS1 (M' := M_DC_tenTo) d_DC_result_39 lk_DC_15 (c_tenTo E h 9 (by decide)) mt_DC_tenTo st_DC_tenTo (by decide) rfl (Nat.le_of_ble_eq_true rfl) (by decide) (by decide) ?_
      refine j_lcmp_ge 58 d_DC_result_42 d_DC_result_43 (by decide) (by unfold lR; omega) (by unfold lR; omega) (fun c42 => ?_) (fun c42 => ?_)
      · refine x_ldc2 d_DC_result_58 kl_DC_19 ?_
        refine x_lreturn d_DC_result_61 rfl ?_
        exact rV_l (by unfold dRes; rw [if_neg c2, if_neg (by omega), if_neg (by omega)]; rfl) rfl
      · refine x_lload d_DC_result_46 rfl ?_
        refine x_iload_n d_DC_result_48 rfl rfl ?_
        refine x_top (w := vI (sf.toNat : Int)) (by rw [show (sf.toNat : Int) = sf by omega]) ?_
        refine x_callS1 (M' := M_DC_tenTo) d_DC_result_49 lk_DC_15 (c_tenTo E h sf.toNat (by omega)) mt_DC_tenTo st_DC_tenTo (by decide) rfl (Nat.le_of_ble_eq_true rfl) (by decide) (by decide) ?_
        refine j_lmul d_DC_result_52 ?_
        refine x_lstore d_DC_result_53 (Nat.le_of_ble_eq_true rfl) ?_
        refine x_goto 62 d_DC_result_55 (by decide) ?_
        have hp := pow10_le (n := sf.toNat) (m := 8) (by omega)
        have hp0 := pow10_pos sf.toNat
        have hb := mul_abs_lt (a := z) (b := 10 ^ sf.toNat) (x := 1000000000) (y := 100000000) (by omega) (by omega) (by decide)
        exact fin _ _ _ rfl c2 (by omega) (by omega) (by unfold dRes; rw [if_neg c2, if_neg (by omega), if_pos (by omega)])
    · refine x_lload d_DC_result_20 rfl ?_
      refine x_iload_n d_DC_result_22 rfl rfl ?_
      refine j_ineg d_DC_result_23 ?_
      refine x_top (w := vI ((-sf).toNat : Int)) (by rw [show ((-sf).toNat : Int) = -sf by omega]) ?_
      refine x_callS1 (M' := M_DC_tenTo) d_DC_result_24 lk_DC_15 (c_tenTo E h (-sf).toNat (by omega)) mt_DC_tenTo st_DC_tenTo (by decide) rfl (Nat.le_of_ble_eq_true rfl) (by decide) (by decide) ?_
      refine j_lmul d_DC_result_27 ?_
      refine x_lstore d_DC_result_28 (Nat.le_of_ble_eq_true rfl) ?_
      refine x_goto 62 d_DC_result_30 (by decide) ?_
      have hp := pow10_le (n := (-sf).toNat) (m := 8) (by omega)
      have hp0 := pow10_pos (-sf).toNat
      have hb := mul_abs_lt (a := dv) (b := 10 ^ (-sf).toNat) (x := 1000000000) (y := 100000000) (by omega) (by omega) (by decide)
      refine fin _ _ _ rfl (fun q => ?_) (by omega) (by omega) (by unfold dRes; rw [if_neg c2, if_pos (by omega)])
      rcases Int.mul_eq_zero.mp q with q | q <;> omega
  · refine x_ldc2 d_DC_result_6 kl_DC_19 ?_
    refine x_lreturn d_DC_result_9 rfl ?_
    exact rV_l (by unfold dRes; rw [if_pos c2]; rfl) rfl
